/-- the model's reader -/
def MU (M : Mm) (D : Nat → Nat) (n : Nat) (c : CC) : Prop := MA M D n ∧ MTK M (tkN D n c.1) (poN D n (c.1 + 1)) ∧ M.1 132 12 = nI c.2.1 ∧ (c.2.1 ≠ 0 → M.1 132 13 = nI c.2.2) ∧ c.2.1 ≤ 7
def muP (k j : Nat) : Prop := k = 132 ∧ 12 ≤ j ∧ j ≤ 19
theorem av_mu {k j : Nat} (h : avP k j) : muP k j := by unfold avP at h; unfold muP; omega
theorem MTK_fr {M M' : Mm} {t : TK} {x : Nat} {P : Nat → Nat → Prop} (h : MTK M t x) (hf : fr P M M') (hp : ∀ j, 14 ≤ j → j ≤ 19 → ¬ P 132 j) : MTK M' t x := by
  obtain ⟨h1, h2, h3, h4, h5, h6, h7⟩ := h
  have e : ∀ j, 14 ≤ j → j ≤ 19 → M'.1 132 j = M.1 132 j := fun j a b => (hf 132 j (hp j a b)).1
  have e2 := (hf 132 19 (hp 19 (by omega) (by omega))).2
  refine ⟨(e 14 (by omega) (by omega)).trans h1, (e 15 (by omega) (by omega)).trans h2, (e 16 (by omega) (by omega)).trans h3, fun q => (e 17 (by omega) (by omega)).trans (h4 q), fun q => ⟨e2.trans (h5 q).1, ?_⟩, fun q => ⟨e2.trans (h6 q).1, ?_⟩, fun q => ⟨e2.trans (h7 q).1, ?_⟩⟩
  · obtain ⟨l, a, b⟩ := (h5 q).2; exact ⟨l, a, (e 18 (by omega) (by omega)).trans b⟩
  · obtain ⟨l, a, b⟩ := (h6 q).2; exact ⟨l, a, (e 18 (by omega) (by omega)).trans b⟩
  · obtain ⟨l, a, b, z⟩ := (h7 q).2; exact ⟨l, a, b, (e 18 (by omega) (by omega)).trans z⟩
theorem mkd_i {k : Nat} (hk : k ≤ 6) : (mkd k = 0 ↔ k = 0) ∧ (mkd k = 1 ↔ 1 ≤ k ∧ k ≤ 3) ∧ (mkd k = 2 ↔ k = 4) ∧ (mkd k = 3 ↔ k = 5) ∧ (mkd k = 4 ↔ k = 6) ∧ mkd k ≤ 4 := by
  rcases (show k = 0 ∨ k = 1 ∨ k = 2 ∨ k = 3 ∨ k = 4 ∨ k = 5 ∨ k = 6 by omega) with e | e | e | e | e | e | e <;> subst e <;> decide
theorem tk_stay {D : Nat → Nat} {n i : Nat} (h : (tkN D n i).1 = 0) : tkN D n (i + 1) = tkN D n i ∧ poN D n (i + 1 + 1) = poN D n (i + 1) := by
  have h2 := tk_end2 h
  have e1 := tk_end h
  have e2 := tk_end h2
  exact ⟨by unfold tkN; rw [e1.1, e2.1], e2.2.trans e1.2.symm⟩
theorem MU_fl {M : Mm} {D : Nat → Nat} {n w x p : Nat} {c : CC} (h : MU M D n c) (h0 : c.2.1 = 0) (hw : 1 ≤ w ∧ w ≤ 7) (hx : x = if kd (tkN D n) c = 6 then 1 else w) (hp : p = (tkN D n c.1).2.1) : MU (siM (siM M 132 12 (nI x)) 132 13 (nI p)) D n (flC (tkN D n) w c) := by
  unfold flC
  rw [if_pos h0]
  have hf : fr (fun k j => k = 132 ∧ (j = 12 ∨ j = 13)) M (siM (siM M 132 12 (nI x)) 132 13 (nI p)) := (fr.r.si (by omega)).si (by omega)
  have hz : x ≤ 7 := by rw [hx]; split <;> omega
  exact ⟨MA_fr h.1 hf (fun k j z => by omega), MTK_fr h.2.1 hf (fun j a b => by omega), by rw [hx]; exact siN siS (by omega), fun _ => by rw [hp]; exact siS, by rw [← hx]; exact hz⟩
theorem MU_av {M M' : Mm} {D : Nat → Nat} {n : Nat} {c : CC} (h : MU M D n c) (h0 : c.2.1 = 0) (hk : MTK M' (tkN D n (c.1 + 1)) (poN D n (c.1 + 1 + 1))) (hf : fr avP M M') : MU M' D n (spC (tkN D n) c) := by
  have hb : M'.1 132 12 = nI c.2.1 := (hf 132 12 (by unfold avP; omega)).1.trans h.2.2.1
  unfold spC
  by_cases e : kd (tkN D n) c = 0
  · rw [if_neg (fun q => q.2 e)]
    have := tk_stay e
    rw [this.1, this.2] at hk
    exact ⟨MA_av h.1 hf, hk, hb, fun q => absurd h0 q, h.2.2.2.2⟩
  · rw [if_pos ⟨h0, e⟩]
    exact ⟨MA_av h.1 hf, hk, hb, fun q => absurd h0 q, h.2.2.2.2⟩
def spA (w : Int64) (r : Nat) : Int64 := if r = 0 then w else w * 32 + (nI r).toInt64 - 96
def spB (p q : Nat) : Int64 := ((nI p).toInt64 - 96) * 32 + (nI q).toInt64 - 96
def spV (p q r s t u : Nat) : Int64 := spA (spA (spA (spA (spB p q) r) s) t) u

set_option maxRecDepth 100000 in
set_option maxHeartbeats 800000 in
theorem c_X12_fail {M : Mm} {D : Nat → Nat} {n : Nat} (hDl : ∀ j, D j < 256) (hn : n ≤ 900) {c : CC} (hU : MU M D n c) {w p : Nat} (hw : 1 ≤ w ∧ w ≤ 7) (hk6 : c.2.1 = 0 → kd (tkN D n) c ≠ 6) (hp : p = (tkN D n c.1).2.1) {Q : Option Value → Mm → Prop} (hQ : ∀ M', MU M' D n (flC (tkN D n) w c) → fr muP M M' → Q none M') (d : Nat) : AMt miX12_fail (d) [.ref 132, .int (nI w), .int (nI p)] M Q := by
  refine AMt.of (by decide) (Nat.le_of_ble_eq_true rfl) ?_
  show AW miX12_fail (d) (mxA Q) 0 [(0, some (.ref 132)), (1, some (.int (nI w))), (2, some (.int (nI p)))] [] M
  have hf7 := hU.2.2.2.2
  have hKG := tkN_G (D := D) hn c.1
  have hkd : kd (tkN D n) c ≤ 6 := hKG.1
  have hst := hKG.2.1
  obtain ⟨mk0, mk1, mk2, mk3, mk4, mk5⟩ := mkd_i hkd
  refine a_aload_n rfl dX12_fail_0 ?_
  refine g_i hU.2.2.1 (by decide) rfl fX12_212 rfl dX12_fail_1 ?_
  refine n_if_le 8 (by omega) dX12_fail_4 (by decide) (fun h_4 => ?_) (fun h_4 => ?_)
  · refine a_aload_n rfl dX12_fail_8 ?_
    refine a_iload_n rfl dX12_fail_9 ?_
    refine a_puti dX12_fail_10 pX12_212 (by decide) rfl rfl ?_
    refine a_aload_n rfl dX12_fail_13 ?_
    refine a_iload_n rfl dX12_fail_14 ?_
    refine a_puti dX12_fail_15 pX12_215 (by decide) rfl rfl ?_
    refine a_vret dX12_fail_18 rfl ?_
    have h0 : c.2.1 = 0 := by omega
    exact hQ _ (MU_fl hU h0 hw (if_neg (hk6 h0)).symm hp) ((fr.r.si (by unfold muP; omega)).si (by unfold muP; omega))
  · refine a_vret dX12_fail_7 rfl ?_
    rw [fl_n (by omega)] at hQ
    exact hQ _ hU fr.r

set_option maxRecDepth 100000 in
set_option maxHeartbeats 800000 in
theorem c_failA {M : Mm} {D : Nat → Nat} {n : Nat} (hDl : ∀ j, D j < 256) (hn : n ≤ 900) {c : CC} (hU : MU M D n c) {x p : Nat} (hx : x = if kd (tkN D n) c = 6 then 1 else 2) (hp : p = (tkN D n c.1).2.1) {Q : Option Value → Mm → Prop} (hQ : ∀ M', MU M' D n (flC (tkN D n) 2 c) → fr muP M M' → Q none M') (d : Nat) : AMt miX12_fail (d) [.ref 132, .int (nI x), .int (nI p)] M Q := by
  refine AMt.of (by decide) (Nat.le_of_ble_eq_true rfl) ?_
  show AW miX12_fail (d) (mxA Q) 0 [(0, some (.ref 132)), (1, some (.int (nI x))), (2, some (.int (nI p)))] [] M
  have hf7 := hU.2.2.2.2
  have hKG := tkN_G (D := D) hn c.1
  have hkd : kd (tkN D n) c ≤ 6 := hKG.1
  have hst := hKG.2.1
  obtain ⟨mk0, mk1, mk2, mk3, mk4, mk5⟩ := mkd_i hkd
  refine a_aload_n rfl dX12_fail_0 ?_
  refine g_i hU.2.2.1 (by decide) rfl fX12_212 rfl dX12_fail_1 ?_
  refine n_if_le 8 (by omega) dX12_fail_4 (by decide) (fun h_4 => ?_) (fun h_4 => ?_)
  · refine a_aload_n rfl dX12_fail_8 ?_
    refine a_iload_n rfl dX12_fail_9 ?_
    refine a_puti dX12_fail_10 pX12_212 (by decide) rfl rfl ?_
    refine a_aload_n rfl dX12_fail_13 ?_
    refine a_iload_n rfl dX12_fail_14 ?_
    refine a_puti dX12_fail_15 pX12_215 (by decide) rfl rfl ?_
    refine a_vret dX12_fail_18 rfl ?_
    have h0 : c.2.1 = 0 := by omega
    exact hQ _ (MU_fl hU h0 (by omega) hx hp) ((fr.r.si (by unfold muP; omega)).si (by unfold muP; omega))
  · refine a_vret dX12_fail_7 rfl ?_
    rw [fl_n (by omega)] at hQ
    exact hQ _ hU fr.r

set_option maxRecDepth 100000 in
set_option maxHeartbeats 800000 in
theorem c_X12_amiss {M : Mm} {D : Nat → Nat} {n : Nat} (hDl : ∀ j, D j < 256) (hn : n ≤ 900) {c : CC} (hU : MU M D n c) {Q : Option Value → Mm → Prop} (hQ : ∀ M', MU M' D n (flC (tkN D n) 2 c) → fr muP M M' → Q none M') (d : Nat) : AMt miX12_amiss (d + 1) [.ref 132] M Q := by
  refine AMt.of (by decide) (Nat.le_of_ble_eq_true rfl) ?_
  show AW miX12_amiss (d + 1) (mxA Q) 0 [(0, some (.ref 132))] [] M
  have hf7 := hU.2.2.2.2
  have hKG := tkN_G (D := D) hn c.1
  have hkd : kd (tkN D n) c ≤ 6 := hKG.1
  have hst := hKG.2.1
  obtain ⟨mk0, mk1, mk2, mk3, mk4, mk5⟩ := mkd_i hkd
  refine a_aload_n rfl dX12_amiss_0 ?_
  refine a_aload_n rfl dX12_amiss_1 ?_
  refine g_i (show M.1 132 14 = nI (mkd (kd (tkN D n) c)) from hU.2.1.1) (by decide) rfl fX12_124 rfl dX12_amiss_2 ?_
  refine n_iconst 4 rfl dX12_amiss_5 ?_
  refine n_icmp_ne 13 (by omega) (by omega) dX12_amiss_6 (by decide) (fun h_6 => ?_) (fun h_6 => ?_)
  · refine n_iconst 2 rfl dX12_amiss_13 ?_
    refine a_aload_n rfl dX12_amiss_14 ?_
    refine g_i hU.2.1.2.1 (by decide) rfl fX12_118 rfl dX12_amiss_15 ?_
    refine n_callV (mi' := miX12_fail) dX12_amiss_18 lX12_218 mX12_fail (by decide) rfl rfl rfl (c_failA hDl hn hU (x := 2) (if_neg (by omega)).symm rfl (fun M_18 hc_18 hf_18 => ?_) d) rfl rfl (by omega) (by decide) (Nat.le_of_ble_eq_true rfl)
    show AW _ _ _ _ _ _ _
    refine a_vret dX12_amiss_21 rfl ?_
    exact hQ _ hc_18 hf_18
  · refine n_iconst 1 rfl dX12_amiss_9 ?_
    refine a_goto 14 dX12_amiss_10 (by decide) ?_
    refine a_aload_n rfl dX12_amiss_14 ?_
    refine g_i hU.2.1.2.1 (by decide) rfl fX12_118 rfl dX12_amiss_15 ?_
    refine n_callV (mi' := miX12_fail) dX12_amiss_18 lX12_218 mX12_fail (by decide) rfl rfl rfl (c_failA hDl hn hU (x := 1) (if_pos (by omega)).symm rfl (fun M_18 hc_18 hf_18 => ?_) d) rfl rfl (by omega) (by decide) (Nat.le_of_ble_eq_true rfl)
    show AW _ _ _ _ _ _ _
    refine a_vret dX12_amiss_21 rfl ?_
    exact hQ _ hc_18 hf_18

set_option maxRecDepth 100000 in
set_option maxHeartbeats 800000 in
theorem c_X12_must {M : Mm} {D : Nat → Nat} {n : Nat} (hDl : ∀ j, D j < 256) (hn : n ≤ 900) {c : CC} (hU : MU M D n c) {b : Bool} {x : Nat} (hx : x = if b = true then 1 else 0) {Q : Option Value → Mm → Prop} (hQ : ∀ M', MU M' D n (spC (tkN D n) (if b = true then c else flC (tkN D n) 2 c)) → fr muP M M' → Q none M') (d : Nat) : AMt miX12_must (d + 4) [.ref 132, .int (nI x)] M Q := by
  refine AMt.of (by decide) (Nat.le_of_ble_eq_true rfl) ?_
  show AW miX12_must (d + 4) (mxA Q) 0 [(0, some (.ref 132)), (1, some (.int (nI x)))] [] M
  have hf7 := hU.2.2.2.2
  have hKG := tkN_G (D := D) hn c.1
  have hkd : kd (tkN D n) c ≤ 6 := hKG.1
  have hst := hKG.2.1
  obtain ⟨mk0, mk1, mk2, mk3, mk4, mk5⟩ := mkd_i hkd
  have hx2 : x ≤ 1 := by rw [hx]; split <;> omega
  refine a_aload_n rfl dX12_must_0 ?_
  refine g_i hU.2.2.1 (by decide) rfl fX12_212 rfl dX12_must_1 ?_
  refine n_if_le 8 (by omega) dX12_must_4 (by decide) (fun h_4 => ?_) (fun h_4 => ?_)
  · refine a_iload_n rfl dX12_must_8 ?_
    refine n_if_eq 19 (by omega) dX12_must_9 (by decide) (fun h_9 => ?_) (fun h_9 => ?_)
    · refine a_aload_n rfl dX12_must_19 ?_
      refine n_callV (mi' := miX12_amiss) dX12_must_20 lX12_225 mX12_amiss (by decide) rfl rfl rfl (c_X12_amiss hDl hn hU (fun M_20 hc_20 hf_20 => ?_) d) rfl rfl (by omega) (by decide) (Nat.le_of_ble_eq_true rfl)
      show AW _ _ _ _ _ _ _
      refine a_vret dX12_must_23 rfl ?_
      have hb : b = false := by
        cases b with
        | false => rfl
        | true => exact absurd (hx.trans (if_pos rfl)) (by omega)
      subst hb
      exact hQ _ (by rw [show spC (tkN D n) (if false = true then c else flC (tkN D n) 2 c) = flC (tkN D n) 2 c from sp_fl (by decide)]; exact hc_20) hf_20
    · refine a_aload_n rfl dX12_must_12 ?_
      refine n_callV (mi' := miX12_advance) dX12_must_13 lX12_222 mX12_advance (by decide) rfl rfl rfl (c_X12_advance (k := c.1 + 1) hU.1 hDl hn hU.2.1.2.2.1 (fun M_13 hk_13 hf_13 => ?_) d) rfl rfl (by omega) (by decide) (Nat.le_of_ble_eq_true rfl)
      show AW _ _ _ _ _ _ _
      refine a_goto 23 dX12_must_16 (by decide) ?_
      refine a_vret dX12_must_23 rfl ?_
      have hb : b = true := by
        cases b with
        | true => rfl
        | false => exact absurd (hx.trans (if_neg (by decide))) (by omega)
      subst hb
      rw [if_pos rfl] at hQ
      exact hQ _ (MU_av hU (by omega) hk_13 hf_13) (hf_13.mo (fun _ _ h => av_mu h))
  · refine a_vret dX12_must_7 rfl ?_
    have hz : ¬ c.2.1 = 0 := by omega
    rw [show spC (tkN D n) (if b = true then c else flC (tkN D n) 2 c) = c from by cases b with
      | true => exact sp_n hz
      | false => exact (congrArg (spC (tkN D n)) (fl_n hz)).trans (sp_n hz)] at hQ
    exact hQ _ hU fr.r

set_option maxRecDepth 100000 in
set_option maxHeartbeats 800000 in
theorem c_X12_perhaps {M : Mm} {D : Nat → Nat} {n : Nat} (hDl : ∀ j, D j < 256) (hn : n ≤ 900) {c : CC} (hU : MU M D n c) {b : Bool} {x : Nat} (hx : x = if b = true then 1 else 0) {Q : Option Value → Mm → Prop} (h1 : c.2.1 = 0 → b = true → ∀ M', MU M' D n (spC (tkN D n) c) → fr muP M M' → Q (some (.int (nI 1))) M') (h0 : ¬ (c.2.1 = 0 ∧ b = true) → Q (some (.int (nI 0))) M) (d : Nat) : AMt miX12_perhaps (d + 4) [.ref 132, .int (nI x)] M Q := by
  refine AMt.of (by decide) (Nat.le_of_ble_eq_true rfl) ?_
  show AW miX12_perhaps (d + 4) (mxA Q) 0 [(0, some (.ref 132)), (1, some (.int (nI x)))] [] M
  have hf7 := hU.2.2.2.2
  have hKG := tkN_G (D := D) hn c.1
  have hkd : kd (tkN D n) c ≤ 6 := hKG.1
  have hst := hKG.2.1
  obtain ⟨mk0, mk1, mk2, mk3, mk4, mk5⟩ := mkd_i hkd
  have hx2 : x ≤ 1 := by rw [hx]; split <;> omega
  refine a_aload_n rfl dX12_perhaps_0 ?_
  refine g_i hU.2.2.1 (by decide) rfl fX12_212 rfl dX12_perhaps_1 ?_
  refine n_if_gt 11 (by omega) dX12_perhaps_4 (by decide) (fun h_4 => ?_) (fun h_4 => ?_)
  · refine n_iconst 0 rfl dX12_perhaps_11 ?_
    refine a_zret dX12_perhaps_12 rfl (Or.inl rfl) ?_
    exact h0 (fun q => by omega)
  · refine a_iload_n rfl dX12_perhaps_7 ?_
    refine n_if_ne 13 (by omega) dX12_perhaps_8 (by decide) (fun h_8 => ?_) (fun h_8 => ?_)
    · refine a_aload_n rfl dX12_perhaps_13 ?_
      refine n_callV (mi' := miX12_advance) dX12_perhaps_14 lX12_222 mX12_advance (by decide) rfl rfl rfl (c_X12_advance (k := c.1 + 1) hU.1 hDl hn hU.2.1.2.2.1 (fun M_14 hk_14 hf_14 => ?_) d) rfl rfl (by omega) (by decide) (Nat.le_of_ble_eq_true rfl)
      show AW _ _ _ _ _ _ _
      refine n_iconst 1 rfl dX12_perhaps_17 ?_
      refine a_zret dX12_perhaps_18 rfl (Or.inr rfl) ?_
      have hb : b = true := by
        cases b with
        | true => rfl
        | false => exact absurd (hx.trans (if_neg (by decide))) (by omega)
      exact h1 (by omega) hb _ (MU_av hU (by omega) hk_14 hf_14) (hf_14.mo (fun _ _ h => av_mu h))
    · refine n_iconst 0 rfl dX12_perhaps_11 ?_
      refine a_zret dX12_perhaps_12 rfl (Or.inl rfl) ?_
      exact h0 (fun q => by rw [q.2] at hx; exact absurd (hx.trans (if_pos rfl)) (by omega))

set_option maxRecDepth 100000 in
set_option maxHeartbeats 800000 in
theorem c_X12_isSign {M : Mm} {D : Nat → Nat} {n : Nat} (hDl : ∀ j, D j < 256) (hn : n ≤ 900) {c : CC} (hU : MU M D n c) {v : Nat} (hv : v < 256) {Q : Option Value → Mm → Prop} (h1 : kd (tkN D n) c = 5 ∧ cd (tkN D n) c = v → Q (some (.int (nI 1))) M) (h0 : ¬ (kd (tkN D n) c = 5 ∧ cd (tkN D n) c = v) → Q (some (.int (nI 0))) M) (d : Nat) : AMt miX12_isSign (d) [.ref 132, .int (nI v)] M Q := by
  refine AMt.of (by decide) (Nat.le_of_ble_eq_true rfl) ?_
  show AW miX12_isSign (d) (mxA Q) 0 [(0, some (.ref 132)), (1, some (.int (nI v)))] [] M
  have hf7 := hU.2.2.2.2
  have hKG := tkN_G (D := D) hn c.1
  have hkd : kd (tkN D n) c ≤ 6 := hKG.1
  have hst := hKG.2.1
  obtain ⟨mk0, mk1, mk2, mk3, mk4, mk5⟩ := mkd_i hkd
  refine a_aload_n rfl dX12_isSign_0 ?_
  refine g_i (show M.1 132 14 = nI (mkd (kd (tkN D n) c)) from hU.2.1.1) (by decide) rfl fX12_124 rfl dX12_isSign_1 ?_
  refine n_iconst 3 rfl dX12_isSign_4 ?_
  refine n_icmp_ne 20 (by omega) (by omega) dX12_isSign_5 (by decide) (fun h_5 => ?_) (fun h_5 => ?_)
  · refine n_iconst 0 rfl dX12_isSign_20 ?_
    refine a_zret dX12_isSign_21 rfl (Or.inl rfl) ?_
    exact h0 (fun q => by omega)
  · have hk5 : kd (tkN D n) c = 5 := by omega
    have hcd : cd (tkN D n) c ≤ 62 := (hKG.2.2.2.2.2 hk5).2
    refine a_aload_n rfl dX12_isSign_8 ?_
    refine g_i (show M.1 132 17 = nI (cd (tkN D n) c) from hU.2.1.2.2.2.1 (Or.inr hk5)) (by decide) rfl fX12_143 rfl dX12_isSign_9 ?_
    refine a_iload_n rfl dX12_isSign_12 ?_
    refine n_icmp_ne 20 (by omega) (by omega) dX12_isSign_13 (by decide) (fun h_13 => ?_) (fun h_13 => ?_)
    · refine n_iconst 0 rfl dX12_isSign_20 ?_
      refine a_zret dX12_isSign_21 rfl (Or.inl rfl) ?_
      exact h0 (fun q => h_13 q.2)
    · refine n_iconst 1 rfl dX12_isSign_16 ?_
      refine a_goto 21 dX12_isSign_17 (by decide) ?_
      refine a_zret dX12_isSign_21 rfl (Or.inr rfl) ?_
      exact h1 ⟨hk5, h_13⟩

set_option maxRecDepth 100000 in
set_option maxHeartbeats 800000 in
theorem c_X12_spelled {M : Mm} {p q r s t u : Nat} (hp : p < 128) (hq : q < 128) (hr : r < 128) (hs : s < 128) (ht : t < 128) (hu : u < 128) {Q : Option Value → Mm → Prop} (hQ : Q (some (.long (spV p q r s t u))) M) (d : Nat) : AMt miX12_spelled (d) [.int (nI p), .int (nI q), .int (nI r), .int (nI s), .int (nI t), .int (nI u)] M Q := by
  refine AMt.of (by decide) (Nat.le_of_ble_eq_true rfl) ?_
  show AW miX12_spelled (d) (mxA Q) 0 [(0, some (.int (nI p))), (1, some (.int (nI q))), (2, some (.int (nI r))), (3, some (.int (nI s))), (4, some (.int (nI t))), (5, some (.int (nI u)))] [] M
  refine a_iload_n rfl dX12_spelled_0 ?_
  refine a_i2l dX12_spelled_1 ?_
  refine a_ldc2 kX12_135 dX12_spelled_2 ?_
  refine a_lsub dX12_spelled_5 ?_
  refine a_ldc2 kX12_133 dX12_spelled_6 ?_
  refine a_lmul dX12_spelled_9 ?_
  refine a_iload_n rfl dX12_spelled_10 ?_
  refine a_i2l dX12_spelled_11 ?_
  refine a_ladd dX12_spelled_12 ?_
  refine a_ldc2 kX12_135 dX12_spelled_13 ?_
  refine a_lsub dX12_spelled_16 ?_
  refine a_eql (y := spB p q) rfl ?_
  refine a_lstore (by decide) rfl dX12_spelled_17 ?_
  refine a_iload_n rfl dX12_spelled_19 ?_
  refine n_if_le 39 (by omega) dX12_spelled_20 (by decide) (fun h_20 => ?_) (fun h_20 => ?_)
  · refine a_lload rfl dX12_spelled_39 ?_
    refine a_eql (y := spA (spB p q) r) (if_pos h_20).symm ?_
    refine a_lstore (by decide) rfl dX12_spelled_41 ?_
    refine a_iload_n rfl dX12_spelled_43 ?_
    refine n_if_le 63 (by omega) dX12_spelled_44 (by decide) (fun h_44 => ?_) (fun h_44 => ?_)
    · refine a_lload rfl dX12_spelled_63 ?_
      refine a_eql (y := spA (spA (spB p q) r) s) (if_pos h_44).symm ?_
      refine a_lstore (by decide) rfl dX12_spelled_65 ?_
      refine a_iload rfl dX12_spelled_67 ?_
      refine n_if_le 89 (by omega) dX12_spelled_69 (by decide) (fun h_69 => ?_) (fun h_69 => ?_)
      · refine a_lload rfl dX12_spelled_89 ?_
        refine a_eql (y := spA (spA (spA (spB p q) r) s) t) (if_pos h_69).symm ?_
        refine a_lstore (by decide) rfl dX12_spelled_91 ?_
        refine a_iload rfl dX12_spelled_93 ?_
        refine n_if_le 115 (by omega) dX12_spelled_95 (by decide) (fun h_95 => ?_) (fun h_95 => ?_)
        · refine a_lload rfl dX12_spelled_115 ?_
          refine a_eql (y := spA (spA (spA (spA (spB p q) r) s) t) u) (if_pos h_95).symm ?_
          refine a_lret dX12_spelled_117 rfl ?_
          exact hQ
        · refine a_lload rfl dX12_spelled_98 ?_
          refine a_ldc2 kX12_133 dX12_spelled_100 ?_
          refine a_lmul dX12_spelled_103 ?_
          refine a_iload rfl dX12_spelled_104 ?_
          refine a_i2l dX12_spelled_106 ?_
          refine a_ladd dX12_spelled_107 ?_
          refine a_ldc2 kX12_135 dX12_spelled_108 ?_
          refine a_lsub dX12_spelled_111 ?_
          refine a_goto 117 dX12_spelled_112 (by decide) ?_
          refine a_eql (y := spA (spA (spA (spA (spB p q) r) s) t) u) (if_neg h_95).symm ?_
          refine a_lret dX12_spelled_117 rfl ?_
          exact hQ
      · refine a_lload rfl dX12_spelled_72 ?_
        refine a_ldc2 kX12_133 dX12_spelled_74 ?_
        refine a_lmul dX12_spelled_77 ?_
        refine a_iload rfl dX12_spelled_78 ?_
        refine a_i2l dX12_spelled_80 ?_
        refine a_ladd dX12_spelled_81 ?_
        refine a_ldc2 kX12_135 dX12_spelled_82 ?_
        refine a_lsub dX12_spelled_85 ?_
        refine a_goto 91 dX12_spelled_86 (by decide) ?_
        refine a_eql (y := spA (spA (spA (spB p q) r) s) t) (if_neg h_69).symm ?_
        refine a_lstore (by decide) rfl dX12_spelled_91 ?_
        refine a_iload rfl dX12_spelled_93 ?_
        refine n_if_le 115 (by omega) dX12_spelled_95 (by decide) (fun h_95 => ?_) (fun h_95 => ?_)
        · refine a_lload rfl dX12_spelled_115 ?_
          refine a_eql (y := spA (spA (spA (spA (spB p q) r) s) t) u) (if_pos h_95).symm ?_
          refine a_lret dX12_spelled_117 rfl ?_
          exact hQ
        · refine a_lload rfl dX12_spelled_98 ?_
          refine a_ldc2 kX12_133 dX12_spelled_100 ?_
          refine a_lmul dX12_spelled_103 ?_
          refine a_iload rfl dX12_spelled_104 ?_
          refine a_i2l dX12_spelled_106 ?_
          refine a_ladd dX12_spelled_107 ?_
          refine a_ldc2 kX12_135 dX12_spelled_108 ?_
          refine a_lsub dX12_spelled_111 ?_
          refine a_goto 117 dX12_spelled_112 (by decide) ?_
          refine a_eql (y := spA (spA (spA (spA (spB p q) r) s) t) u) (if_neg h_95).symm ?_
          refine a_lret dX12_spelled_117 rfl ?_
          exact hQ
    · refine a_lload rfl dX12_spelled_47 ?_
      refine a_ldc2 kX12_133 dX12_spelled_49 ?_
      refine a_lmul dX12_spelled_52 ?_
      refine a_iload_n rfl dX12_spelled_53 ?_
      refine a_i2l dX12_spelled_54 ?_
      refine a_ladd dX12_spelled_55 ?_
      refine a_ldc2 kX12_135 dX12_spelled_56 ?_
      refine a_lsub dX12_spelled_59 ?_
      refine a_goto 65 dX12_spelled_60 (by decide) ?_
      refine a_eql (y := spA (spA (spB p q) r) s) (if_neg h_44).symm ?_
      refine a_lstore (by decide) rfl dX12_spelled_65 ?_
      refine a_iload rfl dX12_spelled_67 ?_
      refine n_if_le 89 (by omega) dX12_spelled_69 (by decide) (fun h_69 => ?_) (fun h_69 => ?_)
      · refine a_lload rfl dX12_spelled_89 ?_
        refine a_eql (y := spA (spA (spA (spB p q) r) s) t) (if_pos h_69).symm ?_
        refine a_lstore (by decide) rfl dX12_spelled_91 ?_
        refine a_iload rfl dX12_spelled_93 ?_
        refine n_if_le 115 (by omega) dX12_spelled_95 (by decide) (fun h_95 => ?_) (fun h_95 => ?_)
        · refine a_lload rfl dX12_spelled_115 ?_
          refine a_eql (y := spA (spA (spA (spA (spB p q) r) s) t) u) (if_pos h_95).symm ?_
          refine a_lret dX12_spelled_117 rfl ?_
          exact hQ
        · refine a_lload rfl dX12_spelled_98 ?_
          refine a_ldc2 kX12_133 dX12_spelled_100 ?_
          refine a_lmul dX12_spelled_103 ?_
          refine a_iload rfl dX12_spelled_104 ?_
          refine a_i2l dX12_spelled_106 ?_
          refine a_ladd dX12_spelled_107 ?_
          refine a_ldc2 kX12_135 dX12_spelled_108 ?_
          refine a_lsub dX12_spelled_111 ?_
          refine a_goto 117 dX12_spelled_112 (by decide) ?_
          refine a_eql (y := spA (spA (spA (spA (spB p q) r) s) t) u) (if_neg h_95).symm ?_
          refine a_lret dX12_spelled_117 rfl ?_
          exact hQ
      · refine a_lload rfl dX12_spelled_72 ?_
        refine a_ldc2 kX12_133 dX12_spelled_74 ?_
        refine a_lmul dX12_spelled_77 ?_
        refine a_iload rfl dX12_spelled_78 ?_
        refine a_i2l dX12_spelled_80 ?_
        refine a_ladd dX12_spelled_81 ?_
        refine a_ldc2 kX12_135 dX12_spelled_82 ?_
        refine a_lsub dX12_spelled_85 ?_
        refine a_goto 91 dX12_spelled_86 (by decide) ?_
        refine a_eql (y := spA (spA (spA (spB p q) r) s) t) (if_neg h_69).symm ?_
        refine a_lstore (by decide) rfl dX12_spelled_91 ?_
        refine a_iload rfl dX12_spelled_93 ?_
        refine n_if_le 115 (by omega) dX12_spelled_95 (by decide) (fun h_95 => ?_) (fun h_95 => ?_)
        · refine a_lload rfl dX12_spelled_115 ?_
          refine a_eql (y := spA (spA (spA (spA (spB p q) r) s) t) u) (if_pos h_95).symm ?_
          refine a_lret dX12_spelled_117 rfl ?_
          exact hQ
        · refine a_lload rfl dX12_spelled_98 ?_
          refine a_ldc2 kX12_133 dX12_spelled_100 ?_
          refine a_lmul dX12_spelled_103 ?_
          refine a_iload rfl dX12_spelled_104 ?_
          refine a_i2l dX12_spelled_106 ?_
          refine a_ladd dX12_spelled_107 ?_
          refine a_ldc2 kX12_135 dX12_spelled_108 ?_
          refine a_lsub dX12_spelled_111 ?_
          refine a_goto 117 dX12_spelled_112 (by decide) ?_
          refine a_eql (y := spA (spA (spA (spA (spB p q) r) s) t) u) (if_neg h_95).symm ?_
          refine a_lret dX12_spelled_117 rfl ?_
          exact hQ
  · refine a_lload rfl dX12_spelled_23 ?_
    refine a_ldc2 kX12_133 dX12_spelled_25 ?_
    refine a_lmul dX12_spelled_28 ?_
    refine a_iload_n rfl dX12_spelled_29 ?_
    refine a_i2l dX12_spelled_30 ?_
    refine a_ladd dX12_spelled_31 ?_
    refine a_ldc2 kX12_135 dX12_spelled_32 ?_
    refine a_lsub dX12_spelled_35 ?_
    refine a_goto 41 dX12_spelled_36 (by decide) ?_
    refine a_eql (y := spA (spB p q) r) (if_neg h_20).symm ?_
    refine a_lstore (by decide) rfl dX12_spelled_41 ?_
    refine a_iload_n rfl dX12_spelled_43 ?_
    refine n_if_le 63 (by omega) dX12_spelled_44 (by decide) (fun h_44 => ?_) (fun h_44 => ?_)
    · refine a_lload rfl dX12_spelled_63 ?_
      refine a_eql (y := spA (spA (spB p q) r) s) (if_pos h_44).symm ?_
      refine a_lstore (by decide) rfl dX12_spelled_65 ?_
      refine a_iload rfl dX12_spelled_67 ?_
      refine n_if_le 89 (by omega) dX12_spelled_69 (by decide) (fun h_69 => ?_) (fun h_69 => ?_)
      · refine a_lload rfl dX12_spelled_89 ?_
        refine a_eql (y := spA (spA (spA (spB p q) r) s) t) (if_pos h_69).symm ?_
        refine a_lstore (by decide) rfl dX12_spelled_91 ?_
        refine a_iload rfl dX12_spelled_93 ?_
        refine n_if_le 115 (by omega) dX12_spelled_95 (by decide) (fun h_95 => ?_) (fun h_95 => ?_)
        · refine a_lload rfl dX12_spelled_115 ?_
          refine a_eql (y := spA (spA (spA (spA (spB p q) r) s) t) u) (if_pos h_95).symm ?_
          refine a_lret dX12_spelled_117 rfl ?_
          exact hQ
        · refine a_lload rfl dX12_spelled_98 ?_
          refine a_ldc2 kX12_133 dX12_spelled_100 ?_
          refine a_lmul dX12_spelled_103 ?_
          refine a_iload rfl dX12_spelled_104 ?_
          refine a_i2l dX12_spelled_106 ?_
          refine a_ladd dX12_spelled_107 ?_
          refine a_ldc2 kX12_135 dX12_spelled_108 ?_
          refine a_lsub dX12_spelled_111 ?_
          refine a_goto 117 dX12_spelled_112 (by decide) ?_
          refine a_eql (y := spA (spA (spA (spA (spB p q) r) s) t) u) (if_neg h_95).symm ?_
          refine a_lret dX12_spelled_117 rfl ?_
          exact hQ
      · refine a_lload rfl dX12_spelled_72 ?_
        refine a_ldc2 kX12_133 dX12_spelled_74 ?_
        refine a_lmul dX12_spelled_77 ?_
        refine a_iload rfl dX12_spelled_78 ?_
        refine a_i2l dX12_spelled_80 ?_
        refine a_ladd dX12_spelled_81 ?_
        refine a_ldc2 kX12_135 dX12_spelled_82 ?_
        refine a_lsub dX12_spelled_85 ?_
        refine a_goto 91 dX12_spelled_86 (by decide) ?_
        refine a_eql (y := spA (spA (spA (spB p q) r) s) t) (if_neg h_69).symm ?_
        refine a_lstore (by decide) rfl dX12_spelled_91 ?_
        refine a_iload rfl dX12_spelled_93 ?_
        refine n_if_le 115 (by omega) dX12_spelled_95 (by decide) (fun h_95 => ?_) (fun h_95 => ?_)
        · refine a_lload rfl dX12_spelled_115 ?_
          refine a_eql (y := spA (spA (spA (spA (spB p q) r) s) t) u) (if_pos h_95).symm ?_
          refine a_lret dX12_spelled_117 rfl ?_
          exact hQ
        · refine a_lload rfl dX12_spelled_98 ?_
          refine a_ldc2 kX12_133 dX12_spelled_100 ?_
          refine a_lmul dX12_spelled_103 ?_
          refine a_iload rfl dX12_spelled_104 ?_
          refine a_i2l dX12_spelled_106 ?_
          refine a_ladd dX12_spelled_107 ?_
          refine a_ldc2 kX12_135 dX12_spelled_108 ?_
          refine a_lsub dX12_spelled_111 ?_
          refine a_goto 117 dX12_spelled_112 (by decide) ?_
          refine a_eql (y := spA (spA (spA (spA (spB p q) r) s) t) u) (if_neg h_95).symm ?_
          refine a_lret dX12_spelled_117 rfl ?_
          exact hQ
    · refine a_lload rfl dX12_spelled_47 ?_
      refine a_ldc2 kX12_133 dX12_spelled_49 ?_
      refine a_lmul dX12_spelled_52 ?_
      refine a_iload_n rfl dX12_spelled_53 ?_
      refine a_i2l dX12_spelled_54 ?_
      refine a_ladd dX12_spelled_55 ?_
      refine a_ldc2 kX12_135 dX12_spelled_56 ?_
      refine a_lsub dX12_spelled_59 ?_
      refine a_goto 65 dX12_spelled_60 (by decide) ?_
      refine a_eql (y := spA (spA (spB p q) r) s) (if_neg h_44).symm ?_
      refine a_lstore (by decide) rfl dX12_spelled_65 ?_
      refine a_iload rfl dX12_spelled_67 ?_
      refine n_if_le 89 (by omega) dX12_spelled_69 (by decide) (fun h_69 => ?_) (fun h_69 => ?_)
      · refine a_lload rfl dX12_spelled_89 ?_
        refine a_eql (y := spA (spA (spA (spB p q) r) s) t) (if_pos h_69).symm ?_
        refine a_lstore (by decide) rfl dX12_spelled_91 ?_
        refine a_iload rfl dX12_spelled_93 ?_
        refine n_if_le 115 (by omega) dX12_spelled_95 (by decide) (fun h_95 => ?_) (fun h_95 => ?_)
        · refine a_lload rfl dX12_spelled_115 ?_
          refine a_eql (y := spA (spA (spA (spA (spB p q) r) s) t) u) (if_pos h_95).symm ?_
          refine a_lret dX12_spelled_117 rfl ?_
          exact hQ
        · refine a_lload rfl dX12_spelled_98 ?_
          refine a_ldc2 kX12_133 dX12_spelled_100 ?_
          refine a_lmul dX12_spelled_103 ?_
          refine a_iload rfl dX12_spelled_104 ?_
          refine a_i2l dX12_spelled_106 ?_
          refine a_ladd dX12_spelled_107 ?_
          refine a_ldc2 kX12_135 dX12_spelled_108 ?_
          refine a_lsub dX12_spelled_111 ?_
          refine a_goto 117 dX12_spelled_112 (by decide) ?_
          refine a_eql (y := spA (spA (spA (spA (spB p q) r) s) t) u) (if_neg h_95).symm ?_
          refine a_lret dX12_spelled_117 rfl ?_
          exact hQ
      · refine a_lload rfl dX12_spelled_72 ?_
        refine a_ldc2 kX12_133 dX12_spelled_74 ?_
        refine a_lmul dX12_spelled_77 ?_
        refine a_iload rfl dX12_spelled_78 ?_
        refine a_i2l dX12_spelled_80 ?_
        refine a_ladd dX12_spelled_81 ?_
        refine a_ldc2 kX12_135 dX12_spelled_82 ?_
        refine a_lsub dX12_spelled_85 ?_
        refine a_goto 91 dX12_spelled_86 (by decide) ?_
        refine a_eql (y := spA (spA (spA (spB p q) r) s) t) (if_neg h_69).symm ?_
        refine a_lstore (by decide) rfl dX12_spelled_91 ?_
        refine a_iload rfl dX12_spelled_93 ?_
        refine n_if_le 115 (by omega) dX12_spelled_95 (by decide) (fun h_95 => ?_) (fun h_95 => ?_)
        · refine a_lload rfl dX12_spelled_115 ?_
          refine a_eql (y := spA (spA (spA (spA (spB p q) r) s) t) u) (if_pos h_95).symm ?_
          refine a_lret dX12_spelled_117 rfl ?_
          exact hQ
        · refine a_lload rfl dX12_spelled_98 ?_
          refine a_ldc2 kX12_133 dX12_spelled_100 ?_
          refine a_lmul dX12_spelled_103 ?_
          refine a_iload rfl dX12_spelled_104 ?_
          refine a_i2l dX12_spelled_106 ?_
          refine a_ladd dX12_spelled_107 ?_
          refine a_ldc2 kX12_135 dX12_spelled_108 ?_
          refine a_lsub dX12_spelled_111 ?_
          refine a_goto 117 dX12_spelled_112 (by decide) ?_
          refine a_eql (y := spA (spA (spA (spA (spB p q) r) s) t) u) (if_neg h_95).symm ?_
          refine a_lret dX12_spelled_117 rfl ?_
          exact hQ

theorem lN_m1 {v : Nat} (h : v < 34359738368) : (-1 : Int64) ≠ lN v := by
  intro e
  have h1 : (18446744073709551615 : Nat) % 2 ^ 64 = v % 2 ^ 64 := by
    have := congrArg (fun z : Int64 => z.toBitVec.toNat) e
    have a : ((-1 : Int64).toBitVec).toNat = 18446744073709551615 := by decide
    have b : ((lN v).toBitVec).toNat = v % 2 ^ 64 := by show (BitVec.ofNat 64 v).toNat = _; exact BitVec.toNat_ofNat _ _
    rw [a, b] at this
    exact this
  omega
theorem word_is {M : Mm} {D : Nat → Nat} {n k : Nat} {c : CC} (hn : n ≤ 900) (hU : MU M D n c) (hk : k < 25) (h13 : 1 ≤ kd (tkN D n) c ∧ kd (tkN D n) c ≤ 3) : M.2 132 19 = lN (kwC k) ↔ isK (tkN D n) c k = true := by
  have hKG := tkN_G (D := D) hn c.1
  have hkl := kw_lt k hk
  rw [isK_i]
  rcases (show kd (tkN D n) c = 1 ∨ kd (tkN D n) c = 2 ∨ kd (tkN D n) c = 3 by omega) with e | e | e
  · have hc := hKG.2.2.1 e
    have hcl := kw_lt _ hc
    rw [(hU.2.1.2.2.2.2.1 e).1]
    exact ⟨fun h => ⟨e, kw_inj _ hc _ hk ((pk_lEQ (by omega) (by omega)).mp h)⟩, fun h => congrArg (fun z => lN (kwC z)) h.2⟩
  · have hc := hKG.2.2.2.1 e
    rw [(hU.2.1.2.2.2.2.2.1 e).1]
    refine ⟨fun h => ?_, fun h => absurd h.1 (by omega)⟩
    have h2 := (pk_lEQ (by omega) (by omega)).mp h
    have h3 := kwF_of hk
    rw [← h2, hc.2] at h3
    cases h3
  · rw [(hU.2.1.2.2.2.2.2.2 e).1]
    exact ⟨fun h => absurd h (lN_m1 hkl.2), fun h => absurd h.1 (by omega)⟩

set_option maxRecDepth 100000 in
set_option maxHeartbeats 800000 in
theorem c_X12_isWord {M : Mm} {D : Nat → Nat} {n : Nat} (hDl : ∀ j, D j < 256) (hn : n ≤ 900) {c : CC} (hU : MU M D n c) {k : Nat} {x : Int64} (hk : k < 25) (hx : x = lN (kwC k)) {Q : Option Value → Mm → Prop} (h1 : isK (tkN D n) c k = true → Q (some (.int (nI 1))) M) (h0 : ¬ isK (tkN D n) c k = true → Q (some (.int (nI 0))) M) (d : Nat) : AMt miX12_isWord (d) [.ref 132, .long x] M Q := by
  refine AMt.of (by decide) (Nat.le_of_ble_eq_true rfl) ?_
  show AW miX12_isWord (d) (mxA Q) 0 [(0, some (.ref 132)), (1, some (.long x))] [] M
  have hf7 := hU.2.2.2.2
  have hKG := tkN_G (D := D) hn c.1
  have hkd : kd (tkN D n) c ≤ 6 := hKG.1
  have hst := hKG.2.1
  obtain ⟨mk0, mk1, mk2, mk3, mk4, mk5⟩ := mkd_i hkd
  refine a_aload_n rfl dX12_isWord_0 ?_
  refine g_i (show M.1 132 14 = nI (mkd (kd (tkN D n) c)) from hU.2.1.1) (by decide) rfl fX12_124 rfl dX12_isWord_1 ?_
  refine n_iconst 1 rfl dX12_isWord_4 ?_
  refine n_icmp_ne 21 (by omega) (by omega) dX12_isWord_5 (by decide) (fun h_5 => ?_) (fun h_5 => ?_)
  · refine n_iconst 0 rfl dX12_isWord_21 ?_
    refine a_zret dX12_isWord_22 rfl (Or.inl rfl) ?_
    exact h0 (fun q => by have := isK_i.mp q; omega)
  · refine a_aload_n rfl dX12_isWord_8 ?_
    refine a_getl dX12_isWord_9 fX12_130 (by decide) rfl rfl ?_
    refine a_lload_n rfl dX12_isWord_12 ?_
    refine a_lcmp dX12_isWord_13 ?_
    refine l_if_ne 21 dX12_isWord_14 (by decide) (fun h_14 => ?_) (fun h_14 => ?_)
    · refine n_iconst 0 rfl dX12_isWord_21 ?_
      refine a_zret dX12_isWord_22 rfl (Or.inl rfl) ?_
      exact h0 (fun q => h_14 (((word_is hn hU hk (by omega)).mpr q).trans hx.symm))
    · refine n_iconst 1 rfl dX12_isWord_17 ?_
      refine a_goto 22 dX12_isWord_18 (by decide) ?_
      refine a_zret dX12_isWord_22 rfl (Or.inr rfl) ?_
      exact h1 ((word_is hn hU hk (by omega)).mp (h_14.trans hx))

theorem spw_0 : spV 111 100 100 115 0 0 = lN (kwC 0) := by decide +kernel
theorem spw_1 : spV 109 97 116 116 101 114 = lN (kwC 1) := by decide +kernel
theorem spw_2 : spV 112 97 99 101 0 0 = lN (kwC 2) := by decide +kernel
theorem spw_3 : spV 99 108 101 97 114 0 = lN (kwC 3) := by decide +kernel
theorem spw_4 : spV 104 111 108 100 0 0 = lN (kwC 4) := by decide +kernel
theorem spw_5 : spV 98 121 0 0 0 0 = lN (kwC 5) := by decide +kernel
theorem spw_6 : spV 115 105 116 116 101 114 = lN (kwC 6) := by decide +kernel
theorem spw_7 : spV 109 105 108 101 0 0 = lN (kwC 7) := by decide +kernel
theorem spw_8 : spV 116 97 108 108 0 0 = lN (kwC 8) := by decide +kernel
theorem spw_9 : spV 102 111 114 0 0 0 = lN (kwC 9) := by decide +kernel
theorem spw_10 : spV 119 101 105 103 104 116 = lN (kwC 10) := by decide +kernel
theorem spw_11 : spV 110 101 119 115 0 0 = lN (kwC 11) := by decide +kernel
theorem spw_12 : spV 115 105 122 101 0 0 = lN (kwC 12) := by decide +kernel
theorem spw_13 : spV 100 97 121 0 0 0 = lN (kwC 13) := by decide +kernel
theorem spw_14 : spV 98 114 105 110 103 0 = lN (kwC 14) := by decide +kernel
theorem spw_15 : spV 99 114 105 115 105 115 = lN (kwC 15) := by decide +kernel
theorem spw_16 : spV 116 117 114 110 0 0 = lN (kwC 16) := by decide +kernel
theorem spw_17 : spV 97 110 121 0 0 0 = lN (kwC 17) := by decide +kernel
theorem spw_18 : spV 119 104 101 110 0 0 = lN (kwC 18) := by decide +kernel
theorem spw_19 : spV 100 111 119 110 0 0 = lN (kwC 19) := by decide +kernel
theorem spw_20 : spV 115 101 116 116 108 101 * 32 + 100 - 96 = lN (kwC 20) := by decide +kernel
theorem spw_21 : spV 104 105 103 104 0 0 = lN (kwC 21) := by decide +kernel
theorem spw_22 : spV 108 111 111 112 0 0 = lN (kwC 22) := by decide +kernel
theorem spw_23 : spV 101 110 100 0 0 0 = lN (kwC 23) := by decide +kernel
theorem spw_24 : spV 115 116 111 112 0 0 = lN (kwC 24) := by decide +kernel
set_option maxRecDepth 100000 in
set_option maxHeartbeats 800000 in
theorem c_X12_isOdds {M : Mm} {D : Nat → Nat} {n : Nat} (hDl : ∀ j, D j < 256) (hn : n ≤ 900) {c : CC} (hU : MU M D n c) {Q : Option Value → Mm → Prop} (h1 : isK (tkN D n) c 0 = true → Q (some (.int (nI 1))) M) (h0 : ¬ isK (tkN D n) c 0 = true → Q (some (.int (nI 0))) M) (d : Nat) : AMt miX12_isOdds (d + 1) [.ref 132] M Q := by
  refine AMt.of (by decide) (Nat.le_of_ble_eq_true rfl) ?_
  show AW miX12_isOdds (d + 1) (mxA Q) 0 [(0, some (.ref 132))] [] M
  refine a_aload_n rfl dX12_isOdds_0 ?_
  refine n_bipush 111 rfl dX12_isOdds_1 ?_
  refine n_bipush 100 rfl dX12_isOdds_3 ?_
  refine n_bipush 100 rfl dX12_isOdds_5 ?_
  refine n_bipush 115 rfl dX12_isOdds_7 ?_
  refine n_iconst 0 rfl dX12_isOdds_9 ?_
  refine n_iconst 0 rfl dX12_isOdds_10 ?_
  refine n_callS (mi' := miX12_spelled) dX12_isOdds_11 lX12_149 mX12_spelled (c_X12_spelled (by decide) (by decide) (by decide) (by decide) (by decide) (by decide) ?_ d) rfl rfl (by omega) (by decide) (Nat.le_of_ble_eq_true rfl)
  show AW _ _ _ _ _ _ _
  refine n_callV (mi' := miX12_isWord) dX12_isOdds_14 lX12_153 mX12_isWord (by decide) rfl rfl rfl (c_X12_isWord hDl hn hU (k := 0) (by decide) spw_0 (fun h_14 => ?_) (fun h_14 => ?_) d) rfl rfl (by omega) (by decide) (Nat.le_of_ble_eq_true rfl)
  · show AW _ _ _ _ _ _ _
    refine a_zret dX12_isOdds_17 rfl (Or.inr rfl) ?_
    exact h1 h_14
  · show AW _ _ _ _ _ _ _
    refine a_zret dX12_isOdds_17 rfl (Or.inl rfl) ?_
    exact h0 h_14

set_option maxRecDepth 100000 in
set_option maxHeartbeats 800000 in
theorem c_X12_isMatter {M : Mm} {D : Nat → Nat} {n : Nat} (hDl : ∀ j, D j < 256) (hn : n ≤ 900) {c : CC} (hU : MU M D n c) {Q : Option Value → Mm → Prop} (h1 : isK (tkN D n) c 1 = true → Q (some (.int (nI 1))) M) (h0 : ¬ isK (tkN D n) c 1 = true → Q (some (.int (nI 0))) M) (d : Nat) : AMt miX12_isMatter (d + 1) [.ref 132] M Q := by
  refine AMt.of (by decide) (Nat.le_of_ble_eq_true rfl) ?_
  show AW miX12_isMatter (d + 1) (mxA Q) 0 [(0, some (.ref 132))] [] M
  refine a_aload_n rfl dX12_isMatter_0 ?_
  refine n_bipush 109 rfl dX12_isMatter_1 ?_
  refine n_bipush 97 rfl dX12_isMatter_3 ?_
  refine n_bipush 116 rfl dX12_isMatter_5 ?_
  refine n_bipush 116 rfl dX12_isMatter_7 ?_
  refine n_bipush 101 rfl dX12_isMatter_9 ?_
  refine n_bipush 114 rfl dX12_isMatter_11 ?_
  refine n_callS (mi' := miX12_spelled) dX12_isMatter_13 lX12_149 mX12_spelled (c_X12_spelled (by decide) (by decide) (by decide) (by decide) (by decide) (by decide) ?_ d) rfl rfl (by omega) (by decide) (Nat.le_of_ble_eq_true rfl)
  show AW _ _ _ _ _ _ _
  refine n_callV (mi' := miX12_isWord) dX12_isMatter_16 lX12_153 mX12_isWord (by decide) rfl rfl rfl (c_X12_isWord hDl hn hU (k := 1) (by decide) spw_1 (fun h_16 => ?_) (fun h_16 => ?_) d) rfl rfl (by omega) (by decide) (Nat.le_of_ble_eq_true rfl)
  · show AW _ _ _ _ _ _ _
    refine a_zret dX12_isMatter_19 rfl (Or.inr rfl) ?_
    exact h1 h_16
  · show AW _ _ _ _ _ _ _
    refine a_zret dX12_isMatter_19 rfl (Or.inl rfl) ?_
    exact h0 h_16

set_option maxRecDepth 100000 in
set_option maxHeartbeats 800000 in
theorem c_X12_isPace {M : Mm} {D : Nat → Nat} {n : Nat} (hDl : ∀ j, D j < 256) (hn : n ≤ 900) {c : CC} (hU : MU M D n c) {Q : Option Value → Mm → Prop} (h1 : isK (tkN D n) c 2 = true → Q (some (.int (nI 1))) M) (h0 : ¬ isK (tkN D n) c 2 = true → Q (some (.int (nI 0))) M) (d : Nat) : AMt miX12_isPace (d + 1) [.ref 132] M Q := by
  refine AMt.of (by decide) (Nat.le_of_ble_eq_true rfl) ?_
  show AW miX12_isPace (d + 1) (mxA Q) 0 [(0, some (.ref 132))] [] M
  refine a_aload_n rfl dX12_isPace_0 ?_
  refine n_bipush 112 rfl dX12_isPace_1 ?_
  refine n_bipush 97 rfl dX12_isPace_3 ?_
  refine n_bipush 99 rfl dX12_isPace_5 ?_
  refine n_bipush 101 rfl dX12_isPace_7 ?_
  refine n_iconst 0 rfl dX12_isPace_9 ?_
  refine n_iconst 0 rfl dX12_isPace_10 ?_
  refine n_callS (mi' := miX12_spelled) dX12_isPace_11 lX12_149 mX12_spelled (c_X12_spelled (by decide) (by decide) (by decide) (by decide) (by decide) (by decide) ?_ d) rfl rfl (by omega) (by decide) (Nat.le_of_ble_eq_true rfl)
  show AW _ _ _ _ _ _ _
  refine n_callV (mi' := miX12_isWord) dX12_isPace_14 lX12_153 mX12_isWord (by decide) rfl rfl rfl (c_X12_isWord hDl hn hU (k := 2) (by decide) spw_2 (fun h_14 => ?_) (fun h_14 => ?_) d) rfl rfl (by omega) (by decide) (Nat.le_of_ble_eq_true rfl)
  · show AW _ _ _ _ _ _ _
    refine a_zret dX12_isPace_17 rfl (Or.inr rfl) ?_
    exact h1 h_14
  · show AW _ _ _ _ _ _ _
    refine a_zret dX12_isPace_17 rfl (Or.inl rfl) ?_
    exact h0 h_14

set_option maxRecDepth 100000 in
set_option maxHeartbeats 800000 in
theorem c_X12_isClearWord {M : Mm} {D : Nat → Nat} {n : Nat} (hDl : ∀ j, D j < 256) (hn : n ≤ 900) {c : CC} (hU : MU M D n c) {Q : Option Value → Mm → Prop} (h1 : isK (tkN D n) c 3 = true → Q (some (.int (nI 1))) M) (h0 : ¬ isK (tkN D n) c 3 = true → Q (some (.int (nI 0))) M) (d : Nat) : AMt miX12_isClearWord (d + 1) [.ref 132] M Q := by
  refine AMt.of (by decide) (Nat.le_of_ble_eq_true rfl) ?_
  show AW miX12_isClearWord (d + 1) (mxA Q) 0 [(0, some (.ref 132))] [] M
  refine a_aload_n rfl dX12_isClearWord_0 ?_
  refine n_bipush 99 rfl dX12_isClearWord_1 ?_
  refine n_bipush 108 rfl dX12_isClearWord_3 ?_
  refine n_bipush 101 rfl dX12_isClearWord_5 ?_
  refine n_bipush 97 rfl dX12_isClearWord_7 ?_
  refine n_bipush 114 rfl dX12_isClearWord_9 ?_
  refine n_iconst 0 rfl dX12_isClearWord_11 ?_
  refine n_callS (mi' := miX12_spelled) dX12_isClearWord_12 lX12_149 mX12_spelled (c_X12_spelled (by decide) (by decide) (by decide) (by decide) (by decide) (by decide) ?_ d) rfl rfl (by omega) (by decide) (Nat.le_of_ble_eq_true rfl)
  show AW _ _ _ _ _ _ _
  refine n_callV (mi' := miX12_isWord) dX12_isClearWord_15 lX12_153 mX12_isWord (by decide) rfl rfl rfl (c_X12_isWord hDl hn hU (k := 3) (by decide) spw_3 (fun h_15 => ?_) (fun h_15 => ?_) d) rfl rfl (by omega) (by decide) (Nat.le_of_ble_eq_true rfl)
  · show AW _ _ _ _ _ _ _
    refine a_zret dX12_isClearWord_18 rfl (Or.inr rfl) ?_
    exact h1 h_15
  · show AW _ _ _ _ _ _ _
    refine a_zret dX12_isClearWord_18 rfl (Or.inl rfl) ?_
    exact h0 h_15

set_option maxRecDepth 100000 in
set_option maxHeartbeats 800000 in
theorem c_X12_isHold {M : Mm} {D : Nat → Nat} {n : Nat} (hDl : ∀ j, D j < 256) (hn : n ≤ 900) {c : CC} (hU : MU M D n c) {Q : Option Value → Mm → Prop} (h1 : isK (tkN D n) c 4 = true → Q (some (.int (nI 1))) M) (h0 : ¬ isK (tkN D n) c 4 = true → Q (some (.int (nI 0))) M) (d : Nat) : AMt miX12_isHold (d + 1) [.ref 132] M Q := by
  refine AMt.of (by decide) (Nat.le_of_ble_eq_true rfl) ?_
  show AW miX12_isHold (d + 1) (mxA Q) 0 [(0, some (.ref 132))] [] M
  refine a_aload_n rfl dX12_isHold_0 ?_
  refine n_bipush 104 rfl dX12_isHold_1 ?_
  refine n_bipush 111 rfl dX12_isHold_3 ?_
  refine n_bipush 108 rfl dX12_isHold_5 ?_
  refine n_bipush 100 rfl dX12_isHold_7 ?_
  refine n_iconst 0 rfl dX12_isHold_9 ?_
  refine n_iconst 0 rfl dX12_isHold_10 ?_
  refine n_callS (mi' := miX12_spelled) dX12_isHold_11 lX12_149 mX12_spelled (c_X12_spelled (by decide) (by decide) (by decide) (by decide) (by decide) (by decide) ?_ d) rfl rfl (by omega) (by decide) (Nat.le_of_ble_eq_true rfl)
  show AW _ _ _ _ _ _ _
  refine n_callV (mi' := miX12_isWord) dX12_isHold_14 lX12_153 mX12_isWord (by decide) rfl rfl rfl (c_X12_isWord hDl hn hU (k := 4) (by decide) spw_4 (fun h_14 => ?_) (fun h_14 => ?_) d) rfl rfl (by omega) (by decide) (Nat.le_of_ble_eq_true rfl)
  · show AW _ _ _ _ _ _ _
    refine a_zret dX12_isHold_17 rfl (Or.inr rfl) ?_
    exact h1 h_14
  · show AW _ _ _ _ _ _ _
    refine a_zret dX12_isHold_17 rfl (Or.inl rfl) ?_
    exact h0 h_14

set_option maxRecDepth 100000 in
set_option maxHeartbeats 800000 in
theorem c_X12_isBy {M : Mm} {D : Nat → Nat} {n : Nat} (hDl : ∀ j, D j < 256) (hn : n ≤ 900) {c : CC} (hU : MU M D n c) {Q : Option Value → Mm → Prop} (h1 : isK (tkN D n) c 5 = true → Q (some (.int (nI 1))) M) (h0 : ¬ isK (tkN D n) c 5 = true → Q (some (.int (nI 0))) M) (d : Nat) : AMt miX12_isBy (d + 1) [.ref 132] M Q := by
  refine AMt.of (by decide) (Nat.le_of_ble_eq_true rfl) ?_
  show AW miX12_isBy (d + 1) (mxA Q) 0 [(0, some (.ref 132))] [] M
  refine a_aload_n rfl dX12_isBy_0 ?_
  refine n_bipush 98 rfl dX12_isBy_1 ?_
  refine n_bipush 121 rfl dX12_isBy_3 ?_
  refine n_iconst 0 rfl dX12_isBy_5 ?_
  refine n_iconst 0 rfl dX12_isBy_6 ?_
  refine n_iconst 0 rfl dX12_isBy_7 ?_
  refine n_iconst 0 rfl dX12_isBy_8 ?_
  refine n_callS (mi' := miX12_spelled) dX12_isBy_9 lX12_149 mX12_spelled (c_X12_spelled (by decide) (by decide) (by decide) (by decide) (by decide) (by decide) ?_ d) rfl rfl (by omega) (by decide) (Nat.le_of_ble_eq_true rfl)
  show AW _ _ _ _ _ _ _
  refine n_callV (mi' := miX12_isWord) dX12_isBy_12 lX12_153 mX12_isWord (by decide) rfl rfl rfl (c_X12_isWord hDl hn hU (k := 5) (by decide) spw_5 (fun h_12 => ?_) (fun h_12 => ?_) d) rfl rfl (by omega) (by decide) (Nat.le_of_ble_eq_true rfl)
  · show AW _ _ _ _ _ _ _
    refine a_zret dX12_isBy_15 rfl (Or.inr rfl) ?_
    exact h1 h_12
  · show AW _ _ _ _ _ _ _
    refine a_zret dX12_isBy_15 rfl (Or.inl rfl) ?_
    exact h0 h_12

set_option maxRecDepth 100000 in
set_option maxHeartbeats 800000 in
theorem c_X12_isSitter {M : Mm} {D : Nat → Nat} {n : Nat} (hDl : ∀ j, D j < 256) (hn : n ≤ 900) {c : CC} (hU : MU M D n c) {Q : Option Value → Mm → Prop} (h1 : isK (tkN D n) c 6 = true → Q (some (.int (nI 1))) M) (h0 : ¬ isK (tkN D n) c 6 = true → Q (some (.int (nI 0))) M) (d : Nat) : AMt miX12_isSitter (d + 1) [.ref 132] M Q := by
  refine AMt.of (by decide) (Nat.le_of_ble_eq_true rfl) ?_
  show AW miX12_isSitter (d + 1) (mxA Q) 0 [(0, some (.ref 132))] [] M
  refine a_aload_n rfl dX12_isSitter_0 ?_
  refine n_bipush 115 rfl dX12_isSitter_1 ?_
  refine n_bipush 105 rfl dX12_isSitter_3 ?_
  refine n_bipush 116 rfl dX12_isSitter_5 ?_
  refine n_bipush 116 rfl dX12_isSitter_7 ?_
  refine n_bipush 101 rfl dX12_isSitter_9 ?_
  refine n_bipush 114 rfl dX12_isSitter_11 ?_
  refine n_callS (mi' := miX12_spelled) dX12_isSitter_13 lX12_149 mX12_spelled (c_X12_spelled (by decide) (by decide) (by decide) (by decide) (by decide) (by decide) ?_ d) rfl rfl (by omega) (by decide) (Nat.le_of_ble_eq_true rfl)
  show AW _ _ _ _ _ _ _
  refine n_callV (mi' := miX12_isWord) dX12_isSitter_16 lX12_153 mX12_isWord (by decide) rfl rfl rfl (c_X12_isWord hDl hn hU (k := 6) (by decide) spw_6 (fun h_16 => ?_) (fun h_16 => ?_) d) rfl rfl (by omega) (by decide) (Nat.le_of_ble_eq_true rfl)
  · show AW _ _ _ _ _ _ _
    refine a_zret dX12_isSitter_19 rfl (Or.inr rfl) ?_
    exact h1 h_16
  · show AW _ _ _ _ _ _ _
    refine a_zret dX12_isSitter_19 rfl (Or.inl rfl) ?_
    exact h0 h_16

set_option maxRecDepth 100000 in
set_option maxHeartbeats 800000 in
theorem c_X12_isMile {M : Mm} {D : Nat → Nat} {n : Nat} (hDl : ∀ j, D j < 256) (hn : n ≤ 900) {c : CC} (hU : MU M D n c) {Q : Option Value → Mm → Prop} (h1 : isK (tkN D n) c 7 = true → Q (some (.int (nI 1))) M) (h0 : ¬ isK (tkN D n) c 7 = true → Q (some (.int (nI 0))) M) (d : Nat) : AMt miX12_isMile (d + 1) [.ref 132] M Q := by
  refine AMt.of (by decide) (Nat.le_of_ble_eq_true rfl) ?_
  show AW miX12_isMile (d + 1) (mxA Q) 0 [(0, some (.ref 132))] [] M
  refine a_aload_n rfl dX12_isMile_0 ?_
  refine n_bipush 109 rfl dX12_isMile_1 ?_
  refine n_bipush 105 rfl dX12_isMile_3 ?_
  refine n_bipush 108 rfl dX12_isMile_5 ?_
  refine n_bipush 101 rfl dX12_isMile_7 ?_
  refine n_iconst 0 rfl dX12_isMile_9 ?_
  refine n_iconst 0 rfl dX12_isMile_10 ?_
  refine n_callS (mi' := miX12_spelled) dX12_isMile_11 lX12_149 mX12_spelled (c_X12_spelled (by decide) (by decide) (by decide) (by decide) (by decide) (by decide) ?_ d) rfl rfl (by omega) (by decide) (Nat.le_of_ble_eq_true rfl)
  show AW _ _ _ _ _ _ _
  refine n_callV (mi' := miX12_isWord) dX12_isMile_14 lX12_153 mX12_isWord (by decide) rfl rfl rfl (c_X12_isWord hDl hn hU (k := 7) (by decide) spw_7 (fun h_14 => ?_) (fun h_14 => ?_) d) rfl rfl (by omega) (by decide) (Nat.le_of_ble_eq_true rfl)
  · show AW _ _ _ _ _ _ _
    refine a_zret dX12_isMile_17 rfl (Or.inr rfl) ?_
    exact h1 h_14
  · show AW _ _ _ _ _ _ _
    refine a_zret dX12_isMile_17 rfl (Or.inl rfl) ?_
    exact h0 h_14

set_option maxRecDepth 100000 in
set_option maxHeartbeats 800000 in
theorem c_X12_isTall {M : Mm} {D : Nat → Nat} {n : Nat} (hDl : ∀ j, D j < 256) (hn : n ≤ 900) {c : CC} (hU : MU M D n c) {Q : Option Value → Mm → Prop} (h1 : isK (tkN D n) c 8 = true → Q (some (.int (nI 1))) M) (h0 : ¬ isK (tkN D n) c 8 = true → Q (some (.int (nI 0))) M) (d : Nat) : AMt miX12_isTall (d + 1) [.ref 132] M Q := by
  refine AMt.of (by decide) (Nat.le_of_ble_eq_true rfl) ?_
  show AW miX12_isTall (d + 1) (mxA Q) 0 [(0, some (.ref 132))] [] M
  refine a_aload_n rfl dX12_isTall_0 ?_
  refine n_bipush 116 rfl dX12_isTall_1 ?_
  refine n_bipush 97 rfl dX12_isTall_3 ?_
  refine n_bipush 108 rfl dX12_isTall_5 ?_
  refine n_bipush 108 rfl dX12_isTall_7 ?_
  refine n_iconst 0 rfl dX12_isTall_9 ?_
  refine n_iconst 0 rfl dX12_isTall_10 ?_
  refine n_callS (mi' := miX12_spelled) dX12_isTall_11 lX12_149 mX12_spelled (c_X12_spelled (by decide) (by decide) (by decide) (by decide) (by decide) (by decide) ?_ d) rfl rfl (by omega) (by decide) (Nat.le_of_ble_eq_true rfl)
  show AW _ _ _ _ _ _ _
  refine n_callV (mi' := miX12_isWord) dX12_isTall_14 lX12_153 mX12_isWord (by decide) rfl rfl rfl (c_X12_isWord hDl hn hU (k := 8) (by decide) spw_8 (fun h_14 => ?_) (fun h_14 => ?_) d) rfl rfl (by omega) (by decide) (Nat.le_of_ble_eq_true rfl)
  · show AW _ _ _ _ _ _ _
    refine a_zret dX12_isTall_17 rfl (Or.inr rfl) ?_
    exact h1 h_14
  · show AW _ _ _ _ _ _ _
    refine a_zret dX12_isTall_17 rfl (Or.inl rfl) ?_
    exact h0 h_14

set_option maxRecDepth 100000 in
set_option maxHeartbeats 800000 in
theorem c_X12_isFor {M : Mm} {D : Nat → Nat} {n : Nat} (hDl : ∀ j, D j < 256) (hn : n ≤ 900) {c : CC} (hU : MU M D n c) {Q : Option Value → Mm → Prop} (h1 : isK (tkN D n) c 9 = true → Q (some (.int (nI 1))) M) (h0 : ¬ isK (tkN D n) c 9 = true → Q (some (.int (nI 0))) M) (d : Nat) : AMt miX12_isFor (d + 1) [.ref 132] M Q := by
  refine AMt.of (by decide) (Nat.le_of_ble_eq_true rfl) ?_
  show AW miX12_isFor (d + 1) (mxA Q) 0 [(0, some (.ref 132))] [] M
  refine a_aload_n rfl dX12_isFor_0 ?_
  refine n_bipush 102 rfl dX12_isFor_1 ?_
  refine n_bipush 111 rfl dX12_isFor_3 ?_
  refine n_bipush 114 rfl dX12_isFor_5 ?_
  refine n_iconst 0 rfl dX12_isFor_7 ?_
  refine n_iconst 0 rfl dX12_isFor_8 ?_
  refine n_iconst 0 rfl dX12_isFor_9 ?_
  refine n_callS (mi' := miX12_spelled) dX12_isFor_10 lX12_149 mX12_spelled (c_X12_spelled (by decide) (by decide) (by decide) (by decide) (by decide) (by decide) ?_ d) rfl rfl (by omega) (by decide) (Nat.le_of_ble_eq_true rfl)
  show AW _ _ _ _ _ _ _
  refine n_callV (mi' := miX12_isWord) dX12_isFor_13 lX12_153 mX12_isWord (by decide) rfl rfl rfl (c_X12_isWord hDl hn hU (k := 9) (by decide) spw_9 (fun h_13 => ?_) (fun h_13 => ?_) d) rfl rfl (by omega) (by decide) (Nat.le_of_ble_eq_true rfl)
  · show AW _ _ _ _ _ _ _
    refine a_zret dX12_isFor_16 rfl (Or.inr rfl) ?_
    exact h1 h_13
  · show AW _ _ _ _ _ _ _
    refine a_zret dX12_isFor_16 rfl (Or.inl rfl) ?_
    exact h0 h_13

set_option maxRecDepth 100000 in
set_option maxHeartbeats 800000 in
theorem c_X12_isWeight {M : Mm} {D : Nat → Nat} {n : Nat} (hDl : ∀ j, D j < 256) (hn : n ≤ 900) {c : CC} (hU : MU M D n c) {Q : Option Value → Mm → Prop} (h1 : isK (tkN D n) c 10 = true → Q (some (.int (nI 1))) M) (h0 : ¬ isK (tkN D n) c 10 = true → Q (some (.int (nI 0))) M) (d : Nat) : AMt miX12_isWeight (d + 1) [.ref 132] M Q := by
  refine AMt.of (by decide) (Nat.le_of_ble_eq_true rfl) ?_
  show AW miX12_isWeight (d + 1) (mxA Q) 0 [(0, some (.ref 132))] [] M
  refine a_aload_n rfl dX12_isWeight_0 ?_
  refine n_bipush 119 rfl dX12_isWeight_1 ?_
  refine n_bipush 101 rfl dX12_isWeight_3 ?_
  refine n_bipush 105 rfl dX12_isWeight_5 ?_
  refine n_bipush 103 rfl dX12_isWeight_7 ?_
  refine n_bipush 104 rfl dX12_isWeight_9 ?_
  refine n_bipush 116 rfl dX12_isWeight_11 ?_
  refine n_callS (mi' := miX12_spelled) dX12_isWeight_13 lX12_149 mX12_spelled (c_X12_spelled (by decide) (by decide) (by decide) (by decide) (by decide) (by decide) ?_ d) rfl rfl (by omega) (by decide) (Nat.le_of_ble_eq_true rfl)
  show AW _ _ _ _ _ _ _
  refine n_callV (mi' := miX12_isWord) dX12_isWeight_16 lX12_153 mX12_isWord (by decide) rfl rfl rfl (c_X12_isWord hDl hn hU (k := 10) (by decide) spw_10 (fun h_16 => ?_) (fun h_16 => ?_) d) rfl rfl (by omega) (by decide) (Nat.le_of_ble_eq_true rfl)
  · show AW _ _ _ _ _ _ _
    refine a_zret dX12_isWeight_19 rfl (Or.inr rfl) ?_
    exact h1 h_16
  · show AW _ _ _ _ _ _ _
    refine a_zret dX12_isWeight_19 rfl (Or.inl rfl) ?_
    exact h0 h_16

set_option maxRecDepth 100000 in
set_option maxHeartbeats 800000 in
theorem c_X12_isNews {M : Mm} {D : Nat → Nat} {n : Nat} (hDl : ∀ j, D j < 256) (hn : n ≤ 900) {c : CC} (hU : MU M D n c) {Q : Option Value → Mm → Prop} (h1 : isK (tkN D n) c 11 = true → Q (some (.int (nI 1))) M) (h0 : ¬ isK (tkN D n) c 11 = true → Q (some (.int (nI 0))) M) (d : Nat) : AMt miX12_isNews (d + 1) [.ref 132] M Q := by
  refine AMt.of (by decide) (Nat.le_of_ble_eq_true rfl) ?_
  show AW miX12_isNews (d + 1) (mxA Q) 0 [(0, some (.ref 132))] [] M
  refine a_aload_n rfl dX12_isNews_0 ?_
  refine n_bipush 110 rfl dX12_isNews_1 ?_
  refine n_bipush 101 rfl dX12_isNews_3 ?_
  refine n_bipush 119 rfl dX12_isNews_5 ?_
  refine n_bipush 115 rfl dX12_isNews_7 ?_
  refine n_iconst 0 rfl dX12_isNews_9 ?_
  refine n_iconst 0 rfl dX12_isNews_10 ?_
  refine n_callS (mi' := miX12_spelled) dX12_isNews_11 lX12_149 mX12_spelled (c_X12_spelled (by decide) (by decide) (by decide) (by decide) (by decide) (by decide) ?_ d) rfl rfl (by omega) (by decide) (Nat.le_of_ble_eq_true rfl)
  show AW _ _ _ _ _ _ _
  refine n_callV (mi' := miX12_isWord) dX12_isNews_14 lX12_153 mX12_isWord (by decide) rfl rfl rfl (c_X12_isWord hDl hn hU (k := 11) (by decide) spw_11 (fun h_14 => ?_) (fun h_14 => ?_) d) rfl rfl (by omega) (by decide) (Nat.le_of_ble_eq_true rfl)
  · show AW _ _ _ _ _ _ _
    refine a_zret dX12_isNews_17 rfl (Or.inr rfl) ?_
    exact h1 h_14
  · show AW _ _ _ _ _ _ _
    refine a_zret dX12_isNews_17 rfl (Or.inl rfl) ?_
    exact h0 h_14

set_option maxRecDepth 100000 in
set_option maxHeartbeats 800000 in
theorem c_X12_isSize {M : Mm} {D : Nat → Nat} {n : Nat} (hDl : ∀ j, D j < 256) (hn : n ≤ 900) {c : CC} (hU : MU M D n c) {Q : Option Value → Mm → Prop} (h1 : isK (tkN D n) c 12 = true → Q (some (.int (nI 1))) M) (h0 : ¬ isK (tkN D n) c 12 = true → Q (some (.int (nI 0))) M) (d : Nat) : AMt miX12_isSize (d + 1) [.ref 132] M Q := by
  refine AMt.of (by decide) (Nat.le_of_ble_eq_true rfl) ?_
  show AW miX12_isSize (d + 1) (mxA Q) 0 [(0, some (.ref 132))] [] M
  refine a_aload_n rfl dX12_isSize_0 ?_
  refine n_bipush 115 rfl dX12_isSize_1 ?_
  refine n_bipush 105 rfl dX12_isSize_3 ?_
  refine n_bipush 122 rfl dX12_isSize_5 ?_
  refine n_bipush 101 rfl dX12_isSize_7 ?_
  refine n_iconst 0 rfl dX12_isSize_9 ?_
  refine n_iconst 0 rfl dX12_isSize_10 ?_
  refine n_callS (mi' := miX12_spelled) dX12_isSize_11 lX12_149 mX12_spelled (c_X12_spelled (by decide) (by decide) (by decide) (by decide) (by decide) (by decide) ?_ d) rfl rfl (by omega) (by decide) (Nat.le_of_ble_eq_true rfl)
  show AW _ _ _ _ _ _ _
  refine n_callV (mi' := miX12_isWord) dX12_isSize_14 lX12_153 mX12_isWord (by decide) rfl rfl rfl (c_X12_isWord hDl hn hU (k := 12) (by decide) spw_12 (fun h_14 => ?_) (fun h_14 => ?_) d) rfl rfl (by omega) (by decide) (Nat.le_of_ble_eq_true rfl)
  · show AW _ _ _ _ _ _ _
    refine a_zret dX12_isSize_17 rfl (Or.inr rfl) ?_
    exact h1 h_14
  · show AW _ _ _ _ _ _ _
    refine a_zret dX12_isSize_17 rfl (Or.inl rfl) ?_
    exact h0 h_14

set_option maxRecDepth 100000 in
set_option maxHeartbeats 800000 in
theorem c_X12_isEnd {M : Mm} {D : Nat → Nat} {n : Nat} (hDl : ∀ j, D j < 256) (hn : n ≤ 900) {c : CC} (hU : MU M D n c) {Q : Option Value → Mm → Prop} (h1 : isK (tkN D n) c 23 = true → Q (some (.int (nI 1))) M) (h0 : ¬ isK (tkN D n) c 23 = true → Q (some (.int (nI 0))) M) (d : Nat) : AMt miX12_isEnd (d + 1) [.ref 132] M Q := by
  refine AMt.of (by decide) (Nat.le_of_ble_eq_true rfl) ?_
  show AW miX12_isEnd (d + 1) (mxA Q) 0 [(0, some (.ref 132))] [] M
  refine a_aload_n rfl dX12_isEnd_0 ?_
  refine n_bipush 101 rfl dX12_isEnd_1 ?_
  refine n_bipush 110 rfl dX12_isEnd_3 ?_
  refine n_bipush 100 rfl dX12_isEnd_5 ?_
  refine n_iconst 0 rfl dX12_isEnd_7 ?_
  refine n_iconst 0 rfl dX12_isEnd_8 ?_
  refine n_iconst 0 rfl dX12_isEnd_9 ?_
  refine n_callS (mi' := miX12_spelled) dX12_isEnd_10 lX12_149 mX12_spelled (c_X12_spelled (by decide) (by decide) (by decide) (by decide) (by decide) (by decide) ?_ d) rfl rfl (by omega) (by decide) (Nat.le_of_ble_eq_true rfl)
  show AW _ _ _ _ _ _ _
  refine n_callV (mi' := miX12_isWord) dX12_isEnd_13 lX12_153 mX12_isWord (by decide) rfl rfl rfl (c_X12_isWord hDl hn hU (k := 23) (by decide) spw_23 (fun h_13 => ?_) (fun h_13 => ?_) d) rfl rfl (by omega) (by decide) (Nat.le_of_ble_eq_true rfl)
  · show AW _ _ _ _ _ _ _
    refine a_zret dX12_isEnd_16 rfl (Or.inr rfl) ?_
    exact h1 h_13
  · show AW _ _ _ _ _ _ _
    refine a_zret dX12_isEnd_16 rfl (Or.inl rfl) ?_
    exact h0 h_13

/-- the keyword of the model's step v, of its test v -/
def vkw (v : Nat) : Nat := if v ≤ 5 then 13 + v else if v = 6 then 22 else 24

set_option maxRecDepth 100000 in
set_option maxHeartbeats 800000 in
theorem c_X12_stepWord {M : Mm} {D : Nat → Nat} {n : Nat} (hDl : ∀ j, D j < 256) (hn : n ≤ 900) {c : CC} (hU : MU M D n c) {Q : Option Value → Mm → Prop} (h1 : ∀ v, v ≤ 7 → isK (tkN D n) c (vkw v) = true → Q (some (.int (nI v))) M) (h0 : (∀ v, v ≤ 7 → ¬ isK (tkN D n) c (vkw v) = true) → Q (some (.int (-1))) M) (d : Nat) : AMt miX12_stepWord (d + 1) [.ref 132] M Q := by
  refine AMt.of (by decide) (Nat.le_of_ble_eq_true rfl) ?_
  show AW miX12_stepWord (d + 1) (mxA Q) 0 [(0, some (.ref 132))] [] M
  refine a_aload_n rfl dX12_stepWord_0 ?_
  refine n_bipush 100 rfl dX12_stepWord_1 ?_
  refine n_bipush 97 rfl dX12_stepWord_3 ?_
  refine n_bipush 121 rfl dX12_stepWord_5 ?_
  refine n_iconst 0 rfl dX12_stepWord_7 ?_
  refine n_iconst 0 rfl dX12_stepWord_8 ?_
  refine n_iconst 0 rfl dX12_stepWord_9 ?_
  refine n_callS (mi' := miX12_spelled) dX12_stepWord_10 lX12_149 mX12_spelled (c_X12_spelled (by decide) (by decide) (by decide) (by decide) (by decide) (by decide) ?_ d) rfl rfl (by omega) (by decide) (Nat.le_of_ble_eq_true rfl)
  show AW _ _ _ _ _ _ _
  refine n_callV (mi' := miX12_isWord) dX12_stepWord_13 lX12_153 mX12_isWord (by decide) rfl rfl rfl (c_X12_isWord hDl hn hU (k := 13) (by decide) spw_13 (fun h_13 => ?_) (fun h_13 => ?_) d) rfl rfl (by omega) (by decide) (Nat.le_of_ble_eq_true rfl)
  · show AW _ _ _ _ _ _ _
    refine n_if_eq 21 (by decide) dX12_stepWord_16 (by decide) (fun h => absurd h (by decide)) (fun _ => ?_)
    refine n_iconst 0 rfl dX12_stepWord_19 ?_
    refine a_iret dX12_stepWord_20 rfl ?_
    exact h1 0 (by decide) h_13
  · show AW _ _ _ _ _ _ _
    refine n_if_eq 21 (by decide) dX12_stepWord_16 (by decide) (fun _ => ?_) (fun h => absurd h (by decide))
    refine a_aload_n rfl dX12_stepWord_21 ?_
    refine n_bipush 98 rfl dX12_stepWord_22 ?_
    refine n_bipush 114 rfl dX12_stepWord_24 ?_
    refine n_bipush 105 rfl dX12_stepWord_26 ?_
    refine n_bipush 110 rfl dX12_stepWord_28 ?_
    refine n_bipush 103 rfl dX12_stepWord_30 ?_
    refine n_iconst 0 rfl dX12_stepWord_32 ?_
    refine n_callS (mi' := miX12_spelled) dX12_stepWord_33 lX12_149 mX12_spelled (c_X12_spelled (by decide) (by decide) (by decide) (by decide) (by decide) (by decide) ?_ d) rfl rfl (by omega) (by decide) (Nat.le_of_ble_eq_true rfl)
    show AW _ _ _ _ _ _ _
    refine n_callV (mi' := miX12_isWord) dX12_stepWord_36 lX12_153 mX12_isWord (by decide) rfl rfl rfl (c_X12_isWord hDl hn hU (k := 14) (by decide) spw_14 (fun h_36 => ?_) (fun h_36 => ?_) d) rfl rfl (by omega) (by decide) (Nat.le_of_ble_eq_true rfl)
    · show AW _ _ _ _ _ _ _
      refine n_if_eq 44 (by decide) dX12_stepWord_39 (by decide) (fun h => absurd h (by decide)) (fun _ => ?_)
      refine n_iconst 1 rfl dX12_stepWord_42 ?_
      refine a_iret dX12_stepWord_43 rfl ?_
      exact h1 1 (by decide) h_36
    · show AW _ _ _ _ _ _ _
      refine n_if_eq 44 (by decide) dX12_stepWord_39 (by decide) (fun _ => ?_) (fun h => absurd h (by decide))
      refine a_aload_n rfl dX12_stepWord_44 ?_
      refine n_bipush 99 rfl dX12_stepWord_45 ?_
      refine n_bipush 114 rfl dX12_stepWord_47 ?_
      refine n_bipush 105 rfl dX12_stepWord_49 ?_
      refine n_bipush 115 rfl dX12_stepWord_51 ?_
      refine n_bipush 105 rfl dX12_stepWord_53 ?_
      refine n_bipush 115 rfl dX12_stepWord_55 ?_
      refine n_callS (mi' := miX12_spelled) dX12_stepWord_57 lX12_149 mX12_spelled (c_X12_spelled (by decide) (by decide) (by decide) (by decide) (by decide) (by decide) ?_ d) rfl rfl (by omega) (by decide) (Nat.le_of_ble_eq_true rfl)
      show AW _ _ _ _ _ _ _
      refine n_callV (mi' := miX12_isWord) dX12_stepWord_60 lX12_153 mX12_isWord (by decide) rfl rfl rfl (c_X12_isWord hDl hn hU (k := 15) (by decide) spw_15 (fun h_60 => ?_) (fun h_60 => ?_) d) rfl rfl (by omega) (by decide) (Nat.le_of_ble_eq_true rfl)
      · show AW _ _ _ _ _ _ _
        refine n_if_eq 68 (by decide) dX12_stepWord_63 (by decide) (fun h => absurd h (by decide)) (fun _ => ?_)
        refine n_iconst 2 rfl dX12_stepWord_66 ?_
        refine a_iret dX12_stepWord_67 rfl ?_
        exact h1 2 (by decide) h_60
      · show AW _ _ _ _ _ _ _
        refine n_if_eq 68 (by decide) dX12_stepWord_63 (by decide) (fun _ => ?_) (fun h => absurd h (by decide))
        refine a_aload_n rfl dX12_stepWord_68 ?_
        refine n_bipush 116 rfl dX12_stepWord_69 ?_
        refine n_bipush 117 rfl dX12_stepWord_71 ?_
        refine n_bipush 114 rfl dX12_stepWord_73 ?_
        refine n_bipush 110 rfl dX12_stepWord_75 ?_
        refine n_iconst 0 rfl dX12_stepWord_77 ?_
        refine n_iconst 0 rfl dX12_stepWord_78 ?_
        refine n_callS (mi' := miX12_spelled) dX12_stepWord_79 lX12_149 mX12_spelled (c_X12_spelled (by decide) (by decide) (by decide) (by decide) (by decide) (by decide) ?_ d) rfl rfl (by omega) (by decide) (Nat.le_of_ble_eq_true rfl)
        show AW _ _ _ _ _ _ _
        refine n_callV (mi' := miX12_isWord) dX12_stepWord_82 lX12_153 mX12_isWord (by decide) rfl rfl rfl (c_X12_isWord hDl hn hU (k := 16) (by decide) spw_16 (fun h_82 => ?_) (fun h_82 => ?_) d) rfl rfl (by omega) (by decide) (Nat.le_of_ble_eq_true rfl)
        · show AW _ _ _ _ _ _ _
          refine n_if_eq 90 (by decide) dX12_stepWord_85 (by decide) (fun h => absurd h (by decide)) (fun _ => ?_)
          refine n_iconst 3 rfl dX12_stepWord_88 ?_
          refine a_iret dX12_stepWord_89 rfl ?_
          exact h1 3 (by decide) h_82
        · show AW _ _ _ _ _ _ _
          refine n_if_eq 90 (by decide) dX12_stepWord_85 (by decide) (fun _ => ?_) (fun h => absurd h (by decide))
          refine a_aload_n rfl dX12_stepWord_90 ?_
          refine n_bipush 97 rfl dX12_stepWord_91 ?_
          refine n_bipush 110 rfl dX12_stepWord_93 ?_
          refine n_bipush 121 rfl dX12_stepWord_95 ?_
          refine n_iconst 0 rfl dX12_stepWord_97 ?_
          refine n_iconst 0 rfl dX12_stepWord_98 ?_
          refine n_iconst 0 rfl dX12_stepWord_99 ?_
          refine n_callS (mi' := miX12_spelled) dX12_stepWord_100 lX12_149 mX12_spelled (c_X12_spelled (by decide) (by decide) (by decide) (by decide) (by decide) (by decide) ?_ d) rfl rfl (by omega) (by decide) (Nat.le_of_ble_eq_true rfl)
          show AW _ _ _ _ _ _ _
          refine n_callV (mi' := miX12_isWord) dX12_stepWord_103 lX12_153 mX12_isWord (by decide) rfl rfl rfl (c_X12_isWord hDl hn hU (k := 17) (by decide) spw_17 (fun h_103 => ?_) (fun h_103 => ?_) d) rfl rfl (by omega) (by decide) (Nat.le_of_ble_eq_true rfl)
          · show AW _ _ _ _ _ _ _
            refine n_if_eq 111 (by decide) dX12_stepWord_106 (by decide) (fun h => absurd h (by decide)) (fun _ => ?_)
            refine n_iconst 4 rfl dX12_stepWord_109 ?_
            refine a_iret dX12_stepWord_110 rfl ?_
            exact h1 4 (by decide) h_103
          · show AW _ _ _ _ _ _ _
            refine n_if_eq 111 (by decide) dX12_stepWord_106 (by decide) (fun _ => ?_) (fun h => absurd h (by decide))
            refine a_aload_n rfl dX12_stepWord_111 ?_
            refine n_bipush 119 rfl dX12_stepWord_112 ?_
            refine n_bipush 104 rfl dX12_stepWord_114 ?_
            refine n_bipush 101 rfl dX12_stepWord_116 ?_
            refine n_bipush 110 rfl dX12_stepWord_118 ?_
            refine n_iconst 0 rfl dX12_stepWord_120 ?_
            refine n_iconst 0 rfl dX12_stepWord_121 ?_
            refine n_callS (mi' := miX12_spelled) dX12_stepWord_122 lX12_149 mX12_spelled (c_X12_spelled (by decide) (by decide) (by decide) (by decide) (by decide) (by decide) ?_ d) rfl rfl (by omega) (by decide) (Nat.le_of_ble_eq_true rfl)
            show AW _ _ _ _ _ _ _
            refine n_callV (mi' := miX12_isWord) dX12_stepWord_125 lX12_153 mX12_isWord (by decide) rfl rfl rfl (c_X12_isWord hDl hn hU (k := 18) (by decide) spw_18 (fun h_125 => ?_) (fun h_125 => ?_) d) rfl rfl (by omega) (by decide) (Nat.le_of_ble_eq_true rfl)
            · show AW _ _ _ _ _ _ _
              refine n_if_eq 133 (by decide) dX12_stepWord_128 (by decide) (fun h => absurd h (by decide)) (fun _ => ?_)
              refine n_iconst 5 rfl dX12_stepWord_131 ?_
              refine a_iret dX12_stepWord_132 rfl ?_
              exact h1 5 (by decide) h_125
            · show AW _ _ _ _ _ _ _
              refine n_if_eq 133 (by decide) dX12_stepWord_128 (by decide) (fun _ => ?_) (fun h => absurd h (by decide))
              refine a_aload_n rfl dX12_stepWord_133 ?_
              refine n_bipush 108 rfl dX12_stepWord_134 ?_
              refine n_bipush 111 rfl dX12_stepWord_136 ?_
              refine n_bipush 111 rfl dX12_stepWord_138 ?_
              refine n_bipush 112 rfl dX12_stepWord_140 ?_
              refine n_iconst 0 rfl dX12_stepWord_142 ?_
              refine n_iconst 0 rfl dX12_stepWord_143 ?_
              refine n_callS (mi' := miX12_spelled) dX12_stepWord_144 lX12_149 mX12_spelled (c_X12_spelled (by decide) (by decide) (by decide) (by decide) (by decide) (by decide) ?_ d) rfl rfl (by omega) (by decide) (Nat.le_of_ble_eq_true rfl)
              show AW _ _ _ _ _ _ _
              refine n_callV (mi' := miX12_isWord) dX12_stepWord_147 lX12_153 mX12_isWord (by decide) rfl rfl rfl (c_X12_isWord hDl hn hU (k := 22) (by decide) spw_22 (fun h_147 => ?_) (fun h_147 => ?_) d) rfl rfl (by omega) (by decide) (Nat.le_of_ble_eq_true rfl)
              · show AW _ _ _ _ _ _ _
                refine n_if_eq 156 (by decide) dX12_stepWord_150 (by decide) (fun h => absurd h (by decide)) (fun _ => ?_)
                refine n_bipush 6 rfl dX12_stepWord_153 ?_
                refine a_iret dX12_stepWord_155 rfl ?_
                exact h1 6 (by decide) h_147
              · show AW _ _ _ _ _ _ _
                refine n_if_eq 156 (by decide) dX12_stepWord_150 (by decide) (fun _ => ?_) (fun h => absurd h (by decide))
                refine a_aload_n rfl dX12_stepWord_156 ?_
                refine n_bipush 115 rfl dX12_stepWord_157 ?_
                refine n_bipush 116 rfl dX12_stepWord_159 ?_
                refine n_bipush 111 rfl dX12_stepWord_161 ?_
                refine n_bipush 112 rfl dX12_stepWord_163 ?_
                refine n_iconst 0 rfl dX12_stepWord_165 ?_
                refine n_iconst 0 rfl dX12_stepWord_166 ?_
                refine n_callS (mi' := miX12_spelled) dX12_stepWord_167 lX12_149 mX12_spelled (c_X12_spelled (by decide) (by decide) (by decide) (by decide) (by decide) (by decide) ?_ d) rfl rfl (by omega) (by decide) (Nat.le_of_ble_eq_true rfl)
                show AW _ _ _ _ _ _ _
                refine n_callV (mi' := miX12_isWord) dX12_stepWord_170 lX12_153 mX12_isWord (by decide) rfl rfl rfl (c_X12_isWord hDl hn hU (k := 24) (by decide) spw_24 (fun h_170 => ?_) (fun h_170 => ?_) d) rfl rfl (by omega) (by decide) (Nat.le_of_ble_eq_true rfl)
                · show AW _ _ _ _ _ _ _
                  refine n_if_eq 181 (by decide) dX12_stepWord_173 (by decide) (fun h => absurd h (by decide)) (fun _ => ?_)
                  refine n_bipush 7 rfl dX12_stepWord_176 ?_
                  refine a_goto 182 dX12_stepWord_178 (by decide) ?_
                  refine a_iret dX12_stepWord_182 rfl ?_
                  exact h1 7 (by decide) h_170
                · show AW _ _ _ _ _ _ _
                  refine n_if_eq 181 (by decide) dX12_stepWord_173 (by decide) (fun _ => ?_) (fun h => absurd h (by decide))
                  refine a_iconst (-1) rfl dX12_stepWord_181 ?_
                  refine a_iret dX12_stepWord_182 rfl ?_
                  refine h0 (fun v hv hk => ?_)
                  rcases (show v = 0 ∨ v = 1 ∨ v = 2 ∨ v = 3 ∨ v = 4 ∨ v = 5 ∨ v = 6 ∨ v = 7 by omega) with e | e | e | e | e | e | e | e <;> subst e
                  · exact h_13 hk
                  · exact h_36 hk
                  · exact h_60 hk
                  · exact h_82 hk
                  · exact h_103 hk
                  · exact h_125 hk
                  · exact h_147 hk
                  · exact h_170 hk

set_option maxRecDepth 100000 in
set_option maxHeartbeats 800000 in
theorem c_X12_testWord {M : Mm} {D : Nat → Nat} {n : Nat} (hDl : ∀ j, D j < 256) (hn : n ≤ 900) {c : CC} (hU : MU M D n c) {Q : Option Value → Mm → Prop} (h1 : ∀ v, v ≤ 2 → isK (tkN D n) c (19 + v) = true → Q (some (.int (nI v))) M) (h0 : (∀ v, v ≤ 2 → ¬ isK (tkN D n) c (19 + v) = true) → Q (some (.int (-1))) M) (d : Nat) : AMt miX12_testWord (d + 1) [.ref 132] M Q := by
  refine AMt.of (by decide) (Nat.le_of_ble_eq_true rfl) ?_
  show AW miX12_testWord (d + 1) (mxA Q) 0 [(0, some (.ref 132))] [] M
  refine a_aload_n rfl dX12_testWord_0 ?_
  refine n_bipush 100 rfl dX12_testWord_1 ?_
  refine n_bipush 111 rfl dX12_testWord_3 ?_
  refine n_bipush 119 rfl dX12_testWord_5 ?_
  refine n_bipush 110 rfl dX12_testWord_7 ?_
  refine n_iconst 0 rfl dX12_testWord_9 ?_
  refine n_iconst 0 rfl dX12_testWord_10 ?_
  refine n_callS (mi' := miX12_spelled) dX12_testWord_11 lX12_149 mX12_spelled (c_X12_spelled (by decide) (by decide) (by decide) (by decide) (by decide) (by decide) ?_ d) rfl rfl (by omega) (by decide) (Nat.le_of_ble_eq_true rfl)
  show AW _ _ _ _ _ _ _
  refine n_callV (mi' := miX12_isWord) dX12_testWord_14 lX12_153 mX12_isWord (by decide) rfl rfl rfl (c_X12_isWord hDl hn hU (k := 19) (by decide) spw_19 (fun h_14 => ?_) (fun h_14 => ?_) d) rfl rfl (by omega) (by decide) (Nat.le_of_ble_eq_true rfl)
  · show AW _ _ _ _ _ _ _
    refine n_if_eq 22 (by decide) dX12_testWord_17 (by decide) (fun h => absurd h (by decide)) (fun _ => ?_)
    refine n_iconst 0 rfl dX12_testWord_20 ?_
    refine a_iret dX12_testWord_21 rfl ?_
    exact h1 0 (by decide) h_14
  · show AW _ _ _ _ _ _ _
    refine n_if_eq 22 (by decide) dX12_testWord_17 (by decide) (fun _ => ?_) (fun h => absurd h (by decide))
    refine a_aload_n rfl dX12_testWord_22 ?_
    refine n_bipush 115 rfl dX12_testWord_23 ?_
    refine n_bipush 101 rfl dX12_testWord_25 ?_
    refine n_bipush 116 rfl dX12_testWord_27 ?_
    refine n_bipush 116 rfl dX12_testWord_29 ?_
    refine n_bipush 108 rfl dX12_testWord_31 ?_
    refine n_bipush 101 rfl dX12_testWord_33 ?_
    refine n_callS (mi' := miX12_spelled) dX12_testWord_35 lX12_149 mX12_spelled (c_X12_spelled (by decide) (by decide) (by decide) (by decide) (by decide) (by decide) ?_ d) rfl rfl (by omega) (by decide) (Nat.le_of_ble_eq_true rfl)
    show AW _ _ _ _ _ _ _
    refine a_ldc2 kX12_133 dX12_testWord_38 ?_
    refine a_lmul dX12_testWord_41 ?_
    refine a_ldc2 kX12_157 dX12_testWord_42 ?_
    refine a_ladd dX12_testWord_45 ?_
    refine a_ldc2 kX12_135 dX12_testWord_46 ?_
    refine a_lsub dX12_testWord_49 ?_
    refine n_callV (mi' := miX12_isWord) dX12_testWord_50 lX12_153 mX12_isWord (by decide) rfl rfl rfl (c_X12_isWord hDl hn hU (k := 20) (by decide) spw_20 (fun h_50 => ?_) (fun h_50 => ?_) d) rfl rfl (by omega) (by decide) (Nat.le_of_ble_eq_true rfl)
    · show AW _ _ _ _ _ _ _
      refine n_if_eq 58 (by decide) dX12_testWord_53 (by decide) (fun h => absurd h (by decide)) (fun _ => ?_)
      refine n_iconst 1 rfl dX12_testWord_56 ?_
      refine a_iret dX12_testWord_57 rfl ?_
      exact h1 1 (by decide) h_50
    · show AW _ _ _ _ _ _ _
      refine n_if_eq 58 (by decide) dX12_testWord_53 (by decide) (fun _ => ?_) (fun h => absurd h (by decide))
      refine a_aload_n rfl dX12_testWord_58 ?_
      refine n_bipush 104 rfl dX12_testWord_59 ?_
      refine n_bipush 105 rfl dX12_testWord_61 ?_
      refine n_bipush 103 rfl dX12_testWord_63 ?_
      refine n_bipush 104 rfl dX12_testWord_65 ?_
      refine n_iconst 0 rfl dX12_testWord_67 ?_
      refine n_iconst 0 rfl dX12_testWord_68 ?_
      refine n_callS (mi' := miX12_spelled) dX12_testWord_69 lX12_149 mX12_spelled (c_X12_spelled (by decide) (by decide) (by decide) (by decide) (by decide) (by decide) ?_ d) rfl rfl (by omega) (by decide) (Nat.le_of_ble_eq_true rfl)
      show AW _ _ _ _ _ _ _
      refine n_callV (mi' := miX12_isWord) dX12_testWord_72 lX12_153 mX12_isWord (by decide) rfl rfl rfl (c_X12_isWord hDl hn hU (k := 21) (by decide) spw_21 (fun h_72 => ?_) (fun h_72 => ?_) d) rfl rfl (by omega) (by decide) (Nat.le_of_ble_eq_true rfl)
      · show AW _ _ _ _ _ _ _
        refine n_if_eq 82 (by decide) dX12_testWord_75 (by decide) (fun h => absurd h (by decide)) (fun _ => ?_)
        refine n_iconst 2 rfl dX12_testWord_78 ?_
        refine a_goto 83 dX12_testWord_79 (by decide) ?_
        refine a_iret dX12_testWord_83 rfl ?_
        exact h1 2 (by decide) h_72
      · show AW _ _ _ _ _ _ _
        refine n_if_eq 82 (by decide) dX12_testWord_75 (by decide) (fun _ => ?_) (fun h => absurd h (by decide))
        refine a_iconst (-1) rfl dX12_testWord_82 ?_
        refine a_iret dX12_testWord_83 rfl ?_
        refine h0 (fun v hv hk => ?_)
        rcases (show v = 0 ∨ v = 1 ∨ v = 2 by omega) with e | e | e <;> subst e
        · exact h_14 hk
        · exact h_50 hk
        · exact h_72 hk

set_option maxRecDepth 100000 in
set_option maxHeartbeats 800000 in
theorem c_X12_isKept {M : Mm} {D : Nat → Nat} {n : Nat} (hDl : ∀ j, D j < 256) (hn : n ≤ 900) {c : CC} (hU : MU M D n c) {Q : Option Value → Mm → Prop} (h1 : kd (tkN D n) c = 1 → Q (some (.int (nI 1))) M) (h0 : ¬ kd (tkN D n) c = 1 → Q (some (.int (nI 0))) M) (d : Nat) : AMt miX12_isKept (d + 2) [.ref 132] M Q := by
  refine AMt.of (by decide) (Nat.le_of_ble_eq_true rfl) ?_
  show AW miX12_isKept (d + 2) (mxA Q) 0 [(0, some (.ref 132))] [] M
  have hf7 := hU.2.2.2.2
  have hKG := tkN_G (D := D) hn c.1
  have hkd : kd (tkN D n) c ≤ 6 := hKG.1
  have hst := hKG.2.1
  obtain ⟨mk0, mk1, mk2, mk3, mk4, mk5⟩ := mkd_i hkd
  refine a_aload_n rfl dX12_isKept_0 ?_
  refine n_callV (mi' := miX12_isOdds) dX12_isKept_1 lX12_159 mX12_isOdds (by decide) rfl rfl rfl (c_X12_isOdds hDl hn hU (fun h_1 => ?_) (fun h_1 => ?_) d) rfl rfl (by omega) (by decide) (Nat.le_of_ble_eq_true rfl)
  · show AW _ _ _ _ _ _ _
    refine n_if_ne 91 (by decide) dX12_isKept_4 (by decide) (fun _ => ?_) (fun h => absurd h (by decide))
    refine n_iconst 1 rfl dX12_isKept_91 ?_
    refine a_zret dX12_isKept_92 rfl (Or.inr rfl) ?_
    exact h1 (isK_i.mp h_1).1
  · show AW _ _ _ _ _ _ _
    refine n_if_ne 91 (by decide) dX12_isKept_4 (by decide) (fun h => absurd h (by decide)) (fun _ => ?_)
    refine a_aload_n rfl dX12_isKept_7 ?_
    refine n_callV (mi' := miX12_isMatter) dX12_isKept_8 lX12_163 mX12_isMatter (by decide) rfl rfl rfl (c_X12_isMatter hDl hn hU (fun h_8 => ?_) (fun h_8 => ?_) d) rfl rfl (by omega) (by decide) (Nat.le_of_ble_eq_true rfl)
    · show AW _ _ _ _ _ _ _
      refine n_if_ne 91 (by decide) dX12_isKept_11 (by decide) (fun _ => ?_) (fun h => absurd h (by decide))
      refine n_iconst 1 rfl dX12_isKept_91 ?_
      refine a_zret dX12_isKept_92 rfl (Or.inr rfl) ?_
      exact h1 (isK_i.mp h_8).1
    · show AW _ _ _ _ _ _ _
      refine n_if_ne 91 (by decide) dX12_isKept_11 (by decide) (fun h => absurd h (by decide)) (fun _ => ?_)
      refine a_aload_n rfl dX12_isKept_14 ?_
      refine n_callV (mi' := miX12_isPace) dX12_isKept_15 lX12_166 mX12_isPace (by decide) rfl rfl rfl (c_X12_isPace hDl hn hU (fun h_15 => ?_) (fun h_15 => ?_) d) rfl rfl (by omega) (by decide) (Nat.le_of_ble_eq_true rfl)
      · show AW _ _ _ _ _ _ _
        refine n_if_ne 91 (by decide) dX12_isKept_18 (by decide) (fun _ => ?_) (fun h => absurd h (by decide))
        refine n_iconst 1 rfl dX12_isKept_91 ?_
        refine a_zret dX12_isKept_92 rfl (Or.inr rfl) ?_
        exact h1 (isK_i.mp h_15).1
      · show AW _ _ _ _ _ _ _
        refine n_if_ne 91 (by decide) dX12_isKept_18 (by decide) (fun h => absurd h (by decide)) (fun _ => ?_)
        refine a_aload_n rfl dX12_isKept_21 ?_
        refine n_callV (mi' := miX12_isClearWord) dX12_isKept_22 lX12_169 mX12_isClearWord (by decide) rfl rfl rfl (c_X12_isClearWord hDl hn hU (fun h_22 => ?_) (fun h_22 => ?_) d) rfl rfl (by omega) (by decide) (Nat.le_of_ble_eq_true rfl)
        · show AW _ _ _ _ _ _ _
          refine n_if_ne 91 (by decide) dX12_isKept_25 (by decide) (fun _ => ?_) (fun h => absurd h (by decide))
          refine n_iconst 1 rfl dX12_isKept_91 ?_
          refine a_zret dX12_isKept_92 rfl (Or.inr rfl) ?_
          exact h1 (isK_i.mp h_22).1
        · show AW _ _ _ _ _ _ _
          refine n_if_ne 91 (by decide) dX12_isKept_25 (by decide) (fun h => absurd h (by decide)) (fun _ => ?_)
          refine a_aload_n rfl dX12_isKept_28 ?_
          refine n_callV (mi' := miX12_isHold) dX12_isKept_29 lX12_172 mX12_isHold (by decide) rfl rfl rfl (c_X12_isHold hDl hn hU (fun h_29 => ?_) (fun h_29 => ?_) d) rfl rfl (by omega) (by decide) (Nat.le_of_ble_eq_true rfl)
          · show AW _ _ _ _ _ _ _
            refine n_if_ne 91 (by decide) dX12_isKept_32 (by decide) (fun _ => ?_) (fun h => absurd h (by decide))
            refine n_iconst 1 rfl dX12_isKept_91 ?_
            refine a_zret dX12_isKept_92 rfl (Or.inr rfl) ?_
            exact h1 (isK_i.mp h_29).1
          · show AW _ _ _ _ _ _ _
            refine n_if_ne 91 (by decide) dX12_isKept_32 (by decide) (fun h => absurd h (by decide)) (fun _ => ?_)
            refine a_aload_n rfl dX12_isKept_35 ?_
            refine n_callV (mi' := miX12_isBy) dX12_isKept_36 lX12_175 mX12_isBy (by decide) rfl rfl rfl (c_X12_isBy hDl hn hU (fun h_36 => ?_) (fun h_36 => ?_) d) rfl rfl (by omega) (by decide) (Nat.le_of_ble_eq_true rfl)
            · show AW _ _ _ _ _ _ _
              refine n_if_ne 91 (by decide) dX12_isKept_39 (by decide) (fun _ => ?_) (fun h => absurd h (by decide))
              refine n_iconst 1 rfl dX12_isKept_91 ?_
              refine a_zret dX12_isKept_92 rfl (Or.inr rfl) ?_
              exact h1 (isK_i.mp h_36).1
            · show AW _ _ _ _ _ _ _
              refine n_if_ne 91 (by decide) dX12_isKept_39 (by decide) (fun h => absurd h (by decide)) (fun _ => ?_)
              refine a_aload_n rfl dX12_isKept_42 ?_
              refine n_callV (mi' := miX12_isSitter) dX12_isKept_43 lX12_178 mX12_isSitter (by decide) rfl rfl rfl (c_X12_isSitter hDl hn hU (fun h_43 => ?_) (fun h_43 => ?_) d) rfl rfl (by omega) (by decide) (Nat.le_of_ble_eq_true rfl)
              · show AW _ _ _ _ _ _ _
                refine n_if_ne 91 (by decide) dX12_isKept_46 (by decide) (fun _ => ?_) (fun h => absurd h (by decide))
                refine n_iconst 1 rfl dX12_isKept_91 ?_
                refine a_zret dX12_isKept_92 rfl (Or.inr rfl) ?_
                exact h1 (isK_i.mp h_43).1
              · show AW _ _ _ _ _ _ _
                refine n_if_ne 91 (by decide) dX12_isKept_46 (by decide) (fun h => absurd h (by decide)) (fun _ => ?_)
                refine a_aload_n rfl dX12_isKept_49 ?_
                refine n_callV (mi' := miX12_isMile) dX12_isKept_50 lX12_181 mX12_isMile (by decide) rfl rfl rfl (c_X12_isMile hDl hn hU (fun h_50 => ?_) (fun h_50 => ?_) d) rfl rfl (by omega) (by decide) (Nat.le_of_ble_eq_true rfl)
                · show AW _ _ _ _ _ _ _
                  refine n_if_ne 91 (by decide) dX12_isKept_53 (by decide) (fun _ => ?_) (fun h => absurd h (by decide))
                  refine n_iconst 1 rfl dX12_isKept_91 ?_
                  refine a_zret dX12_isKept_92 rfl (Or.inr rfl) ?_
                  exact h1 (isK_i.mp h_50).1
                · show AW _ _ _ _ _ _ _
                  refine n_if_ne 91 (by decide) dX12_isKept_53 (by decide) (fun h => absurd h (by decide)) (fun _ => ?_)
                  refine a_aload_n rfl dX12_isKept_56 ?_
                  refine n_callV (mi' := miX12_isTall) dX12_isKept_57 lX12_184 mX12_isTall (by decide) rfl rfl rfl (c_X12_isTall hDl hn hU (fun h_57 => ?_) (fun h_57 => ?_) d) rfl rfl (by omega) (by decide) (Nat.le_of_ble_eq_true rfl)
                  · show AW _ _ _ _ _ _ _
                    refine n_if_ne 91 (by decide) dX12_isKept_60 (by decide) (fun _ => ?_) (fun h => absurd h (by decide))
                    refine n_iconst 1 rfl dX12_isKept_91 ?_
                    refine a_zret dX12_isKept_92 rfl (Or.inr rfl) ?_
                    exact h1 (isK_i.mp h_57).1
                  · show AW _ _ _ _ _ _ _
                    refine n_if_ne 91 (by decide) dX12_isKept_60 (by decide) (fun h => absurd h (by decide)) (fun _ => ?_)
                    refine a_aload_n rfl dX12_isKept_63 ?_
                    refine n_callV (mi' := miX12_isFor) dX12_isKept_64 lX12_187 mX12_isFor (by decide) rfl rfl rfl (c_X12_isFor hDl hn hU (fun h_64 => ?_) (fun h_64 => ?_) d) rfl rfl (by omega) (by decide) (Nat.le_of_ble_eq_true rfl)
                    · show AW _ _ _ _ _ _ _
                      refine n_if_ne 91 (by decide) dX12_isKept_67 (by decide) (fun _ => ?_) (fun h => absurd h (by decide))
                      refine n_iconst 1 rfl dX12_isKept_91 ?_
                      refine a_zret dX12_isKept_92 rfl (Or.inr rfl) ?_
                      exact h1 (isK_i.mp h_64).1
                    · show AW _ _ _ _ _ _ _
                      refine n_if_ne 91 (by decide) dX12_isKept_67 (by decide) (fun h => absurd h (by decide)) (fun _ => ?_)
                      refine a_aload_n rfl dX12_isKept_70 ?_
                      refine n_callV (mi' := miX12_isWeight) dX12_isKept_71 lX12_190 mX12_isWeight (by decide) rfl rfl rfl (c_X12_isWeight hDl hn hU (fun h_71 => ?_) (fun h_71 => ?_) d) rfl rfl (by omega) (by decide) (Nat.le_of_ble_eq_true rfl)
                      · show AW _ _ _ _ _ _ _
                        refine n_if_ne 91 (by decide) dX12_isKept_74 (by decide) (fun _ => ?_) (fun h => absurd h (by decide))
                        refine n_iconst 1 rfl dX12_isKept_91 ?_
                        refine a_zret dX12_isKept_92 rfl (Or.inr rfl) ?_
                        exact h1 (isK_i.mp h_71).1
                      · show AW _ _ _ _ _ _ _
                        refine n_if_ne 91 (by decide) dX12_isKept_74 (by decide) (fun h => absurd h (by decide)) (fun _ => ?_)
                        refine a_aload_n rfl dX12_isKept_77 ?_
                        refine n_callV (mi' := miX12_isNews) dX12_isKept_78 lX12_193 mX12_isNews (by decide) rfl rfl rfl (c_X12_isNews hDl hn hU (fun h_78 => ?_) (fun h_78 => ?_) d) rfl rfl (by omega) (by decide) (Nat.le_of_ble_eq_true rfl)
                        · show AW _ _ _ _ _ _ _
                          refine n_if_ne 91 (by decide) dX12_isKept_81 (by decide) (fun _ => ?_) (fun h => absurd h (by decide))
                          refine n_iconst 1 rfl dX12_isKept_91 ?_
                          refine a_zret dX12_isKept_92 rfl (Or.inr rfl) ?_
                          exact h1 (isK_i.mp h_78).1
                        · show AW _ _ _ _ _ _ _
                          refine n_if_ne 91 (by decide) dX12_isKept_81 (by decide) (fun h => absurd h (by decide)) (fun _ => ?_)
                          refine a_aload_n rfl dX12_isKept_84 ?_
                          refine n_callV (mi' := miX12_isSize) dX12_isKept_85 lX12_196 mX12_isSize (by decide) rfl rfl rfl (c_X12_isSize hDl hn hU (fun h_85 => ?_) (fun h_85 => ?_) d) rfl rfl (by omega) (by decide) (Nat.le_of_ble_eq_true rfl)
                          · show AW _ _ _ _ _ _ _
                            refine n_if_eq 93 (by decide) dX12_isKept_88 (by decide) (fun h => absurd h (by decide)) (fun _ => ?_)
                            refine n_iconst 1 rfl dX12_isKept_91 ?_
                            refine a_zret dX12_isKept_92 rfl (Or.inr rfl) ?_
                            exact h1 (isK_i.mp h_85).1
                          · show AW _ _ _ _ _ _ _
                            refine n_if_eq 93 (by decide) dX12_isKept_88 (by decide) (fun _ => ?_) (fun h => absurd h (by decide))
                            refine a_aload_n rfl dX12_isKept_93 ?_
                            refine n_callV (mi' := miX12_stepWord) dX12_isKept_94 lX12_199 mX12_stepWord (by decide) rfl rfl rfl (c_X12_stepWord hDl hn hU (fun v_94 hv_94 hk_94 => ?_) (fun hn_94 => ?_) d) rfl rfl (by omega) (by decide) (Nat.le_of_ble_eq_true rfl)
                            · show AW _ _ _ _ _ _ _
                              refine n_if_ge 114 (by omega) dX12_isKept_97 (by decide) ?_
                              refine n_iconst 1 rfl dX12_isKept_114 ?_
                              refine a_goto 119 dX12_isKept_115 (by decide) ?_
                              refine a_zret dX12_isKept_119 rfl (Or.inr rfl) ?_
                              exact h1 (isK_i.mp hk_94).1
                            · show AW _ _ _ _ _ _ _
                              refine r_if_ge 114 dX12_isKept_97 (by decide) (fun h_97 => absurd h_97 (by rw [show (-1 : Int32).toInt = -1 from by decide]; omega)) (fun h_97 => ?_)
                              refine a_aload_n rfl dX12_isKept_100 ?_
                              refine n_callV (mi' := miX12_testWord) dX12_isKept_101 lX12_203 mX12_testWord (by decide) rfl rfl rfl (c_X12_testWord hDl hn hU (fun v_101 hv_101 hk_101 => ?_) (fun hn_101 => ?_) d) rfl rfl (by omega) (by decide) (Nat.le_of_ble_eq_true rfl)
                              · show AW _ _ _ _ _ _ _
                                refine n_if_ge 114 (by omega) dX12_isKept_104 (by decide) ?_
                                refine n_iconst 1 rfl dX12_isKept_114 ?_
                                refine a_goto 119 dX12_isKept_115 (by decide) ?_
                                refine a_zret dX12_isKept_119 rfl (Or.inr rfl) ?_
                                exact h1 (isK_i.mp hk_101).1
                              · show AW _ _ _ _ _ _ _
                                refine r_if_ge 114 dX12_isKept_104 (by decide) (fun h_104 => absurd h_104 (by rw [show (-1 : Int32).toInt = -1 from by decide]; omega)) (fun h_104 => ?_)
                                refine a_aload_n rfl dX12_isKept_107 ?_
                                refine n_callV (mi' := miX12_isEnd) dX12_isKept_108 lX12_206 mX12_isEnd (by decide) rfl rfl rfl (c_X12_isEnd hDl hn hU (fun h_108 => ?_) (fun h_108 => ?_) d) rfl rfl (by omega) (by decide) (Nat.le_of_ble_eq_true rfl)
                                · show AW _ _ _ _ _ _ _
                                  refine n_if_eq 118 (by decide) dX12_isKept_111 (by decide) (fun h => absurd h (by decide)) (fun _ => ?_)
                                  refine n_iconst 1 rfl dX12_isKept_114 ?_
                                  refine a_goto 119 dX12_isKept_115 (by decide) ?_
                                  refine a_zret dX12_isKept_119 rfl (Or.inr rfl) ?_
                                  exact h1 (isK_i.mp h_108).1
                                · show AW _ _ _ _ _ _ _
                                  refine n_if_eq 118 (by decide) dX12_isKept_111 (by decide) (fun _ => ?_) (fun h => absurd h (by decide))
                                  refine n_iconst 0 rfl dX12_isKept_118 ?_
                                  refine a_zret dX12_isKept_119 rfl (Or.inl rfl) ?_
                                  refine h0 (fun e => ?_)
                                  have hcd := hKG.2.2.1 e
                                  have no : ∀ k, isK (tkN D n) c k = true ↔ cd (tkN D n) c = k := fun k => isK_i.trans ⟨fun h => h.2, fun h => ⟨e, h⟩⟩
                                  rw [no] at h_1 h_8 h_15 h_22 h_29 h_36 h_43 h_50 h_57 h_64 h_71 h_78 h_85 h_108
                                  have s0 : ¬ cd (tkN D n) c = 13 := fun h => hn_94 0 (by decide) ((no _).mpr h)
                                  have s1 : ¬ cd (tkN D n) c = 14 := fun h => hn_94 1 (by decide) ((no _).mpr h)
                                  have s2 : ¬ cd (tkN D n) c = 15 := fun h => hn_94 2 (by decide) ((no _).mpr h)
                                  have s3 : ¬ cd (tkN D n) c = 16 := fun h => hn_94 3 (by decide) ((no _).mpr h)
                                  have s4 : ¬ cd (tkN D n) c = 17 := fun h => hn_94 4 (by decide) ((no _).mpr h)
                                  have s5 : ¬ cd (tkN D n) c = 18 := fun h => hn_94 5 (by decide) ((no _).mpr h)
                                  have s6 : ¬ cd (tkN D n) c = 22 := fun h => hn_94 6 (by decide) ((no _).mpr h)
                                  have s7 : ¬ cd (tkN D n) c = 24 := fun h => hn_94 7 (by decide) ((no _).mpr h)
                                  have t0 : ¬ cd (tkN D n) c = 19 := fun h => hn_101 0 (by decide) ((no _).mpr h)
                                  have t1 : ¬ cd (tkN D n) c = 20 := fun h => hn_101 1 (by decide) ((no _).mpr h)
                                  have t2 : ¬ cd (tkN D n) c = 21 := fun h => hn_101 2 (by decide) ((no _).mpr h)
                                  have hcd : cd (tkN D n) c < 25 := hcd
                                  omega

set_option maxRecDepth 100000 in
set_option maxHeartbeats 800000 in
theorem c_X12_isName {M : Mm} {D : Nat → Nat} {n : Nat} (hDl : ∀ j, D j < 256) (hn : n ≤ 900) {c : CC} (hU : MU M D n c) {Q : Option Value → Mm → Prop} (h1 : kd (tkN D n) c = 2 → Q (some (.int (nI 1))) M) (h0 : ¬ kd (tkN D n) c = 2 → Q (some (.int (nI 0))) M) (d : Nat) : AMt miX12_isName (d + 3) [.ref 132] M Q := by
  refine AMt.of (by decide) (Nat.le_of_ble_eq_true rfl) ?_
  show AW miX12_isName (d + 3) (mxA Q) 0 [(0, some (.ref 132))] [] M
  have hf7 := hU.2.2.2.2
  have hKG := tkN_G (D := D) hn c.1
  have hkd : kd (tkN D n) c ≤ 6 := hKG.1
  have hst := hKG.2.1
  obtain ⟨mk0, mk1, mk2, mk3, mk4, mk5⟩ := mkd_i hkd
  refine a_aload_n rfl dX12_isName_0 ?_
  refine g_i (show M.1 132 14 = nI (mkd (kd (tkN D n) c)) from hU.2.1.1) (by decide) rfl fX12_124 rfl dX12_isName_1 ?_
  refine n_iconst 1 rfl dX12_isName_4 ?_
  refine n_icmp_ne 28 (by omega) (by omega) dX12_isName_5 (by decide) (fun h_5 => ?_) (fun h_5 => ?_)
  · refine n_iconst 0 rfl dX12_isName_28 ?_
    refine a_zret dX12_isName_29 rfl (Or.inl rfl) ?_
    exact h0 (fun e => by omega)
  · have hk13 := mk1.mp h_5
    obtain ⟨l, hl, hl9, hl8⟩ : ∃ l, M.1 132 18 = nI l ∧ l ≤ 900 ∧ (l ≤ 8 ↔ kd (tkN D n) c ≠ 3) := by
      rcases (show kd (tkN D n) c = 1 ∨ kd (tkN D n) c = 2 ∨ kd (tkN D n) c = 3 by omega) with e | e | e
      · obtain ⟨l, a, b⟩ := (hU.2.1.2.2.2.2.1 e).2; exact ⟨l, b, by omega, by omega⟩
      · obtain ⟨l, a, b⟩ := (hU.2.1.2.2.2.2.2.1 e).2; exact ⟨l, b, by omega, by omega⟩
      · obtain ⟨l, a, b, z⟩ := (hU.2.1.2.2.2.2.2.2 e).2; exact ⟨l, z, by omega, by omega⟩
    refine a_aload_n rfl dX12_isName_8 ?_
    refine g_i hl (by decide) rfl fX12_137 rfl dX12_isName_9 ?_
    refine n_bipush 8 rfl dX12_isName_12 ?_
    refine n_icmp_gt 28 (by omega) (by omega) dX12_isName_14 (by decide) (fun h_14 => ?_) (fun h_14 => ?_)
    · refine n_iconst 0 rfl dX12_isName_28 ?_
      refine a_zret dX12_isName_29 rfl (Or.inl rfl) ?_
      exact h0 (fun e => by omega)
    · refine a_aload_n rfl dX12_isName_17 ?_
      refine n_callV (mi' := miX12_isKept) dX12_isName_18 lX12_209 mX12_isKept (by decide) rfl rfl rfl (c_X12_isKept hDl hn hU (fun h_18 => ?_) (fun h_18 => ?_) d) rfl rfl (by omega) (by decide) (Nat.le_of_ble_eq_true rfl)
      · show AW _ _ _ _ _ _ _
        refine n_if_ne 28 (by decide) dX12_isName_21 (by decide) (fun _ => ?_) (fun h => absurd h (by decide))
        refine n_iconst 0 rfl dX12_isName_28 ?_
        refine a_zret dX12_isName_29 rfl (Or.inl rfl) ?_
        exact h0 (fun e => by omega)
      · show AW _ _ _ _ _ _ _
        refine n_if_ne 28 (by decide) dX12_isName_21 (by decide) (fun h => absurd h (by decide)) (fun _ => ?_)
        refine n_iconst 1 rfl dX12_isName_24 ?_
        refine a_goto 29 dX12_isName_25 (by decide) ?_
        refine a_zret dX12_isName_29 rfl (Or.inr rfl) ?_
        exact h1 (by omega)

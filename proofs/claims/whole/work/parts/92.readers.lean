
def rwP (k j : Nat) : Prop := cuP k j ∨ (37 ≤ k ∧ k < 50) ∨ (k = 14 ∧ j = 0)
theorem cu_rd {k j : Nat} (h : cuP k j) : rwP k j := Or.inl h
def rvP (k j : Nat) : Prop := cuP k j ∨ (37 ≤ k ∧ k < 50)
theorem cu_rv {k j : Nat} (h : cuP k j) : rvP k j := Or.inl h
theorem rv_rw {k j : Nat} (h : rvP k j) : rwP k j := h.elim Or.inl (fun z => Or.inr (Or.inl z))
theorem CU_fr {M M' : Mm} {n : Nat} {c : CC} {P : Nat → Nat → Prop} (h : CU M n c) (hf : fr P M M') (hp : ∀ j, 4 ≤ j → j ≤ 6 → ¬ P 10 j) : CU M' n c := ⟨h.1, (hf 10 4 (hp 4 (by omega) (by omega))).1.trans h.2.1, (hf 10 5 (hp 5 (by omega) (by omega))).1.trans h.2.2.1, (hf 10 6 (hp 6 (by omega) (by omega))).1.trans h.2.2.2.1, h.2.2.2.2⟩
theorem VX_cu {M M' : Mm} {S : ST} {w : Nat} (hw : isW w) (h : VX w M S) (hf : fr cuP M M') : VX w M' S := VX_fr h (fun k j a b => (hf k j (by unfold cuP; unfold isW at hw; omega)).1)
theorem VN_cu {M M' : Mm} {S : ST} {N : NM} {w : Nat} (hw : isW w) (h : VN w M S N) (hf : fr cuP M M') : VN w M' S N := ⟨fun j hj => (hf (w + 1) j (by unfold cuP; unfold isW at hw; omega)).2.trans (h.1 j hj), fun j hj => (hf (w + 6) j (by unfold cuP; unfold isW at hw; omega)).2.trans (h.2 j hj)⟩
theorem VN_adm {M M' : Mm} {S : ST} {N : NM} {w p c : Nat} {x : Int64} (h : VN w M S N) (he : ∀ k j, (k = w + 1 ∧ j ≠ S 0 2) ∨ k = w + 6 → M'.2 k j = M.2 k j) (hx : M'.2 (w + 1) (S 0 2) = x) : VN w M' (addMN S p c) (upN N 0 (S 0 2) x) := by
  refine ⟨fun j hj => ?_, fun j hj => ?_⟩
  · have hj : j < S 0 2 + 1 := hj
    unfold upN
    by_cases e : j = S 0 2
    · rw [if_pos ⟨rfl, e⟩, e]; exact hx
    · rw [if_neg (fun q => e q.2), he _ _ (Or.inl ⟨rfl, e⟩)]; exact h.1 j (by omega)
  · have hj : j < S 0 4 := hj
    unfold upN
    rw [if_neg (fun q => absurd q.1 (by decide)), he _ _ (Or.inr rfl)]; exact h.2 j hj
theorem VN_ads {M M' : Mm} {S : ST} {N : NM} {w a b k t : Nat} {x : Int64} (h : VN w M S N) (he : ∀ k j, k = w + 1 ∨ (k = w + 6 ∧ j ≠ S 0 4) → M'.2 k j = M.2 k j) (hx : M'.2 (w + 6) (S 0 4) = x) : VN w M' (addSN S a b k t) (upN N 1 (S 0 4) x) := by
  refine ⟨fun j hj => ?_, fun j hj => ?_⟩
  · have hj : j < S 0 2 := hj
    unfold upN
    rw [if_neg (fun q => absurd q.1 (by decide)), he _ _ (Or.inl rfl)]; exact h.1 j hj
  · have hj : j < S 0 4 + 1 := hj
    unfold upN
    by_cases e : j = S 0 4
    · rw [if_pos ⟨rfl, e⟩, e]; exact hx
    · rw [if_neg (fun q => e q.2), he _ _ (Or.inr ⟨rfl, e⟩)]; exact h.2 j (by omega)

set_option maxRecDepth 100000 in
set_option maxHeartbeats 800000 in
theorem c_X7_begin {M : Mm} {tk : Nat → TK} {n : Nat} {c : CC} (hK : TKG tk) (hT : TX M tk n) (hC : CU M n c) {b : Bool} {x : Nat} (hx : x = if b = true then 1 else 0) {Q : Option Value → Mm → Prop} (hQ : ∀ M', CU M' n (bgC tk b 6 c) → fr cuP M M' → Q none M') (d : Nat) : AMt miX7_begin (d + 2) [.ref 10, .int (nI x)] M Q := by
  refine AMt.of (by decide) (Nat.le_of_ble_eq_true rfl) ?_
  show AW miX7_begin (d + 2) (mxA Q) 0 [(0, some (.ref 10)), (1, some (.int (nI x)))] [] M
  have hc1 := hC.1
  have hn1 := hT.2.1
  have hn9 := hT.2.2.1
  have hf7 := hC.2.2.2.2
  have hkd : kd tk c ≤ 6 := (hK c.1).1
  have hst := (hK c.1).2.1
  have htx := tx_kd hT hC
  have hx2 : x ≤ 1 := by rw [hx]; split <;> omega
  refine a_iload_n rfl dX7_begin_0 ?_
  refine n_if_eq 10 (by omega) dX7_begin_1 (by decide) (fun h_1 => ?_) (fun h_1 => ?_)
  · refine a_aload_n rfl dX7_begin_10 ?_
    refine n_callV (mi' := miX4_step) dX7_begin_11 lX7_56 mX4_step (by decide) rfl rfl rfl (c_X4_step hK hT hC (fun M_11 hc_11 hf_11 => ?_) d) rfl rfl (by omega) (by decide) (Nat.le_of_ble_eq_true rfl)
    show AW _ _ _ _ _ _ _
    have hT_11 := TX_fr hT hf_11 (fun k j h => by unfold cuP; omega)
    refine a_vret dX7_begin_14 rfl ?_
    have hb : b = false := by
      cases b with
      | false => rfl
      | true => exact absurd (hx.trans (if_pos rfl)) (by omega)
    subst hb
    exact hQ _ hc_11 hf_11
  · refine a_aload_n rfl dX7_begin_4 ?_
    refine n_bipush 6 rfl dX7_begin_5 ?_
    refine n_callV (mi' := miX4_fail) dX7_begin_7 lX7_52 mX4_fail (by decide) rfl rfl rfl (c_X4_fail hK hT hC (by omega) (fun M_7 hc_7 hf_7 => ?_) d) rfl rfl (by omega) (by decide) (Nat.le_of_ble_eq_true rfl)
    show AW _ _ _ _ _ _ _
    have hT_7 := TX_fr hT hf_7 (fun k j h => by unfold cuP; omega)
    refine a_aload_n rfl dX7_begin_10 ?_
    refine n_callV (mi' := miX4_step) dX7_begin_11 lX7_56 mX4_step (by decide) rfl rfl rfl (c_X4_step hK hT_7 hc_7 (fun M_11 hc_11 hf_11 => ?_) d) rfl rfl (by omega) (by decide) (Nat.le_of_ble_eq_true rfl)
    show AW _ _ _ _ _ _ _
    have hT_11 := TX_fr hT_7 hf_11 (fun k j h => by unfold cuP; omega)
    refine a_vret dX7_begin_14 rfl ?_
    have hb : b = true := by
      cases b with
      | true => rfl
      | false => exact absurd (hx.trans (if_neg (by decide))) (by omega)
    subst hb
    exact hQ _ hc_11 (hf_7.t hf_11)

theorem VX_odd {M : Mm} {S : ST} {x : Nat} (h : VX 37 M S) : VX 37 (siM (siM M 37 0 (nI x)) 14 0 (nI 1)) (upS2 S 0 0 x) := by
  obtain ⟨h0, h1, h2, h3, h4, h5, h6, h⟩ := h
  have e : ∀ k j, ¬ (k = 37 ∧ j = 0) → ¬ (k = 14 ∧ j = 0) → (siM (siM M 37 0 (nI x)) 14 0 (nI 1)).1 k j = M.1 k j := fun k j a b => siN (siN rfl (by omega)) (by omega)
  exact ⟨siN siS (by omega), (e _ _ (by omega) (by omega)).trans h1, (e _ _ (by omega) (by omega)).trans h2, (e _ _ (by omega) (by omega)).trans h3, (e _ _ (by omega) (by omega)).trans h4, (e _ _ (by omega) (by omega)).trans h5, (e _ _ (by omega) (by omega)).trans h6, (fun j hj => (e _ _ (by omega) (by omega)).trans (h.1 j hj)), (fun j hj => (e _ _ (by omega) (by omega)).trans (h.2.1 j hj)), (fun j hj => (e _ _ (by omega) (by omega)).trans (h.2.2.1 j hj)), (fun j hj => (e _ _ (by omega) (by omega)).trans (h.2.2.2.1 j hj)), (fun j hj => (e _ _ (by omega) (by omega)).trans (h.2.2.2.2.1 j hj)), (fun j hj => (e _ _ (by omega) (by omega)).trans (h.2.2.2.2.2.1 j hj)), (fun j hj => (e _ _ (by omega) (by omega)).trans (h.2.2.2.2.2.2.1 j hj)), (fun j hj => (e _ _ (by omega) (by omega)).trans (h.2.2.2.2.2.2.2.1 j hj)), (fun j hj => (e _ _ (by omega) (by omega)).trans (h.2.2.2.2.2.2.2.2.1 j hj)), (fun j hj => (e _ _ (by omega) (by omega)).trans (h.2.2.2.2.2.2.2.2.2 j hj))⟩

set_option maxRecDepth 100000 in
set_option maxHeartbeats 800000 in
theorem c_X7_readOdds {M : Mm} {tk : Nat → TK} {n : Nat} {c : CC} (hK : TKG tk) (hT : TX M tk n) (hC : CU M n c) {S : ST} {N : NM} (hV : VX 37 M S) (hF : WF S) (hN : VN 37 M S N) {t : Nat} (ht : M.1 14 0 = nI t) (ht1 : t ≤ 1) {Q : Option Value → Mm → Prop} (hQ : ∀ M', CU M' n (ptO tk t S N c).1 → ((ptO tk t S N c).1.2.1 = 0 → VX 37 M' (ptO tk t S N c).2.1 ∧ VN 37 M' (ptO tk t S N c).2.1 (ptO tk t S N c).2.2) → M'.1 14 0 = nI 1 → fr rwP M M' → Q none M') (d : Nat) : AMt miX7_readOdds (d + 5) [.ref 14, .ref 37, .ref 10] M Q := by
  refine AMt.of (by decide) (Nat.le_of_ble_eq_true rfl) ?_
  show AW miX7_readOdds (d + 5) (mxA Q) 0 [(0, some (.ref 14)), (1, some (.ref 37)), (2, some (.ref 10))] [] M
  have hc1 := hC.1
  have hn1 := hT.2.1
  have hn9 := hT.2.2.1
  have hf7 := hC.2.2.2.2
  have hkd : kd tk c ≤ 6 := (hK c.1).1
  have hst := (hK c.1).2.1
  have htx := tx_kd hT hC
  have hm := WF_m hF
  have hh := WF_h hF
  have hs := WF_s hF
  have hn := WF_n hF
  refine a_aload_n rfl dX7_readOdds_0 ?_
  refine g_i ht (by decide) rfl fX7_14 rfl dX7_readOdds_1 ?_
  refine n_if_eq 12 (by omega) dX7_readOdds_4 (by decide) (fun h_4 => ?_) (fun h_4 => ?_)
  · refine a_aload_n rfl dX7_readOdds_12 ?_
    refine n_callV (mi' := miX4_step) dX7_readOdds_13 lX7_56 mX4_step (by decide) rfl rfl rfl (c_X4_step (c := c) hK hT hC (fun M_13 hc_13 hf_13 => ?_) d) rfl rfl (by omega) (by decide) (Nat.le_of_ble_eq_true rfl)
    show AW _ _ _ _ _ _ _
    rw [show spC tk (c) = odA tk t c from congrArg (spC tk) (if_neg (fun q => absurd (of_decide_eq_true q) (by omega))).symm] at hc_13
    have hT_13 := TX_fr hT hf_13 (fun k j h => by unfold cuP; omega)
    have hV_13 := VX_cu isW37 hV hf_13
    have hN_13 := VN_cu isW37 hN hf_13
    refine a_aload_n rfl dX7_readOdds_16 ?_
    refine a_aload_n rfl dX7_readOdds_17 ?_
    refine n_iconst 0 rfl dX7_readOdds_18 ?_
    refine n_bipush 16 rfl dX7_readOdds_19 ?_
    refine n_callV (mi' := miX4_takeNumber) dX7_readOdds_21 lX7_59 mX4_takeNumber (by decide) rfl rfl rfl (c_X4_takeNumber (c := (odA tk t c)) hK hT_13 hc_13 (by omega) (by omega) (fun M_21 v_21 hc_21 hv_21 hf_21 => ?_) d) rfl rfl (by omega) (by decide) (Nat.le_of_ble_eq_true rfl)
    show AW _ _ _ _ _ _ _
    have hT_21 := TX_fr hT_13 hf_21 (fun k j h => by unfold cuP; omega)
    have hV_21 := VX_cu isW37 hV_13 hf_21
    have hN_21 := VN_cu isW37 hN_13 hf_21
    refine a_puti dX7_readOdds_24 pX7_63 (by decide) rfl rfl ?_
    refine a_aload_n rfl dX7_readOdds_27 ?_
    refine n_iconst 1 rfl dX7_readOdds_28 ?_
    refine a_putz dX7_readOdds_29 pX7_14 (by decide) rfl rfl (Or.inr rfl) ?_
    refine a_vret dX7_readOdds_32 rfl ?_
    have hf2 : fr (fun k j => (k = 37 ∧ j = 0) ∨ (k = 14 ∧ j = 0)) M_21 (siM (siM M_21 37 0 v_21) 14 0 (nI 1)) := (fr.r.si (by omega)).si (by omega)
    refine hQ _ (CU_fr hc_21 hf2 (fun j _ _ => by omega)) (fun z => ⟨?_, ⟨fun j hj => (hf2 38 j (by omega)).2.trans (hN_21.1 j hj), fun j hj => (hf2 43 j (by omega)).2.trans (hN_21.2 j hj)⟩⟩) siS ((((hf_13.t hf_21).mo (fun _ _ h => cu_rd h)).si (by unfold rwP; omega)).si (by unfold rwP; omega))
    rw [hv_21 z]
    exact VX_odd hV_21
  · refine a_aload_n rfl dX7_readOdds_7 ?_
    refine n_iconst 5 rfl dX7_readOdds_8 ?_
    refine n_callV (mi' := miX4_fail) dX7_readOdds_9 lX7_52 mX4_fail (by decide) rfl rfl rfl (c_X4_fail (c := c) hK hT hC (by omega) (fun M_9 hc_9 hf_9 => ?_) d) rfl rfl (by omega) (by decide) (Nat.le_of_ble_eq_true rfl)
    show AW _ _ _ _ _ _ _
    have hT_9 := TX_fr hT hf_9 (fun k j h => by unfold cuP; omega)
    have hV_9 := VX_cu isW37 hV hf_9
    have hN_9 := VN_cu isW37 hN hf_9
    refine a_aload_n rfl dX7_readOdds_12 ?_
    refine n_callV (mi' := miX4_step) dX7_readOdds_13 lX7_56 mX4_step (by decide) rfl rfl rfl (c_X4_step (c := flC tk 5 c) hK hT_9 hc_9 (fun M_13 hc_13 hf_13 => ?_) d) rfl rfl (by omega) (by decide) (Nat.le_of_ble_eq_true rfl)
    show AW _ _ _ _ _ _ _
    rw [show spC tk (flC tk 5 c) = odA tk t c from congrArg (spC tk) (if_pos (decide_eq_true (by omega))).symm] at hc_13
    have hT_13 := TX_fr hT_9 hf_13 (fun k j h => by unfold cuP; omega)
    have hV_13 := VX_cu isW37 hV_9 hf_13
    have hN_13 := VN_cu isW37 hN_9 hf_13
    refine a_aload_n rfl dX7_readOdds_16 ?_
    refine a_aload_n rfl dX7_readOdds_17 ?_
    refine n_iconst 0 rfl dX7_readOdds_18 ?_
    refine n_bipush 16 rfl dX7_readOdds_19 ?_
    refine n_callV (mi' := miX4_takeNumber) dX7_readOdds_21 lX7_59 mX4_takeNumber (by decide) rfl rfl rfl (c_X4_takeNumber (c := (odA tk t c)) hK hT_13 hc_13 (by omega) (by omega) (fun M_21 v_21 hc_21 hv_21 hf_21 => ?_) d) rfl rfl (by omega) (by decide) (Nat.le_of_ble_eq_true rfl)
    show AW _ _ _ _ _ _ _
    have hT_21 := TX_fr hT_13 hf_21 (fun k j h => by unfold cuP; omega)
    have hV_21 := VX_cu isW37 hV_13 hf_21
    have hN_21 := VN_cu isW37 hN_13 hf_21
    refine a_puti dX7_readOdds_24 pX7_63 (by decide) rfl rfl ?_
    refine a_aload_n rfl dX7_readOdds_27 ?_
    refine n_iconst 1 rfl dX7_readOdds_28 ?_
    refine a_putz dX7_readOdds_29 pX7_14 (by decide) rfl rfl (Or.inr rfl) ?_
    refine a_vret dX7_readOdds_32 rfl ?_
    have hf2 : fr (fun k j => (k = 37 ∧ j = 0) ∨ (k = 14 ∧ j = 0)) M_21 (siM (siM M_21 37 0 v_21) 14 0 (nI 1)) := (fr.r.si (by omega)).si (by omega)
    refine hQ _ (CU_fr hc_21 hf2 (fun j _ _ => by omega)) (fun z => ⟨?_, ⟨fun j hj => (hf2 38 j (by omega)).2.trans (hN_21.1 j hj), fun j hj => (hf2 43 j (by omega)).2.trans (hN_21.2 j hj)⟩⟩) siS (((((hf_9.t hf_13).t hf_21).mo (fun _ _ h => cu_rd h)).si (by unfold rwP; omega)).si (by unfold rwP; omega))
    rw [hv_21 z]
    exact VX_odd hV_21

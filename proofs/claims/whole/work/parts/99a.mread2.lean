theorem end_b {tk : Nat → TK} {c : CC} : endC tk c = spC tk (if decide (kd tk c = 5 ∧ cd tk c = 59) = true then c else flC tk 2 c) := by
  unfold endC
  by_cases e : kd tk c = 5 ∧ cd tk c = 59
  · rw [if_pos e, if_pos (decide_eq_true e)]
  · rw [if_neg e, if_neg (fun q => e (of_decide_eq_true q))]

set_option maxRecDepth 100000 in
set_option maxHeartbeats 800000 in
theorem c_X12_readPart {M : Mm} {D : Nat → Nat} {n : Nat} (hDl : ∀ j, D j < 256) (hn : n ≤ 900) {c : CC} (hU : MU M D n c) {S : ST} {N : NM} (hM : VM (362 * 4) M S) (hF : WF S) (hN : VNM 4 M S N) (h0 : c.2.1 = 0) {t : Nat} (ht : M.1 132 24 = nI t) (ht1 : t ≤ 1) {Q : Option Value → Mm → Prop} (hQ : ∀ M', MU M' D n (ptA (tkN D n) t S N c).1 → ((ptA (tkN D n) t S N c).1.2.1 = 0 → VM (362 * 4) M' (ptA (tkN D n) t S N c).2.1 ∧ VNM 4 M' (ptA (tkN D n) t S N c).2.1 (ptA (tkN D n) t S N c).2.2) → M'.1 132 24 = nI (if isK (tkN D n) c 0 = true then 1 else t) → fr m4P M M' → Q none M') (d : Nat) : AMt miX12_readPart (d + 9) [.ref 132] M Q := by
  refine AMt.of (by decide) (Nat.le_of_ble_eq_true rfl) ?_
  show AW miX12_readPart (d + 9) (mxA Q) 0 [(0, some (.ref 132))] [] M
  refine a_aload_n rfl dX12_readPart_0 ?_
  refine n_callV (mi' := miX12_isOdds) dX12_readPart_1 lX12_159 mX12_isOdds (by decide) rfl rfl rfl (c_X12_isOdds hDl hn hU (fun h_1 => ?_) (fun h_1 => ?_) d) rfl rfl (by omega) (by decide) (Nat.le_of_ble_eq_true rfl)
  · show AW _ _ _ _ _ _ _
    refine n_if_eq 14 (by decide) dX12_readPart_4 (by decide) (fun h => absurd h (by decide)) (fun _ => ?_)
    refine a_aload_n rfl dX12_readPart_7 ?_
    refine n_callV (mi' := miX12_readOdds) dX12_readPart_8 lX12_286 mX12_readOdds (by decide) rfl rfl rfl (c_X12_readOdds hDl hn hU hM hF hN h0 (isK_i.mp h_1).1 ht ht1 (fun M_8 hc_8 hv_8 ht_8 hf_8 => ?_) d) rfl rfl (by omega) (by decide) (Nat.le_of_ble_eq_true rfl)
    show AW _ _ _ _ _ _ _
    refine a_goto 74 dX12_readPart_11 (by decide) ?_
    refine a_vret dX12_readPart_74 rfl ?_
    have e : ptA (tkN D n) t S N c = ptO (tkN D n) t S N c := if_pos h_1
    rw [e] at hQ
    exact hQ _ hc_8 hv_8 (ht_8.trans (congrArg nI (if_pos h_1)).symm) hf_8
  · show AW _ _ _ _ _ _ _
    refine n_if_eq 14 (by decide) dX12_readPart_4 (by decide) (fun _ => ?_) (fun h => absurd h (by decide))
    refine a_aload_n rfl dX12_readPart_14 ?_
    refine n_callV (mi' := miX12_isMatter) dX12_readPart_15 lX12_163 mX12_isMatter (by decide) rfl rfl rfl (c_X12_isMatter hDl hn hU (fun h_15 => ?_) (fun h_15 => ?_) d) rfl rfl (by omega) (by decide) (Nat.le_of_ble_eq_true rfl)
    · show AW _ _ _ _ _ _ _
      refine n_if_eq 28 (by decide) dX12_readPart_18 (by decide) (fun h => absurd h (by decide)) (fun _ => ?_)
      refine a_aload_n rfl dX12_readPart_21 ?_
      refine n_callV (mi' := miX12_readMatter) dX12_readPart_22 lX12_289 mX12_readMatter (by decide) rfl rfl rfl (c_X12_readMatter hDl hn hU hM hF hN h0 (isK_i.mp h_15).1 (fun M_22 hc_22 hv_22 hf_22 => ?_) d) rfl rfl (by omega) (by decide) (Nat.le_of_ble_eq_true rfl)
      show AW _ _ _ _ _ _ _
      refine a_goto 74 dX12_readPart_25 (by decide) ?_
      refine a_vret dX12_readPart_74 rfl ?_
      have e : ptA (tkN D n) t S N c = ptM (tkN D n) S N c := (if_neg h_1).trans (if_pos h_15)
      rw [e] at hQ
      exact hQ _ hc_22 hv_22 ((hf_22.i ht (by unfold mrP muP; omega)).trans (congrArg nI (if_neg h_1)).symm) (hf_22.mo (fun _ _ h => mr_m4 h))
    · show AW _ _ _ _ _ _ _
      refine n_if_eq 28 (by decide) dX12_readPart_18 (by decide) (fun _ => ?_) (fun h => absurd h (by decide))
      refine a_aload_n rfl dX12_readPart_28 ?_
      refine n_callV (mi' := miX12_isHold) dX12_readPart_29 lX12_172 mX12_isHold (by decide) rfl rfl rfl (c_X12_isHold hDl hn hU (fun h_29 => ?_) (fun h_29 => ?_) d) rfl rfl (by omega) (by decide) (Nat.le_of_ble_eq_true rfl)
      · show AW _ _ _ _ _ _ _
        refine n_if_eq 42 (by decide) dX12_readPart_32 (by decide) (fun h => absurd h (by decide)) (fun _ => ?_)
        refine a_aload_n rfl dX12_readPart_35 ?_
        refine n_callV (mi' := miX12_readHold) dX12_readPart_36 lX12_292 mX12_readHold (by decide) rfl rfl rfl (c_X12_readHold hDl hn hU hM hF hN h0 (isK_i.mp h_29).1 (fun M_36 hc_36 hv_36 hf_36 => ?_) d) rfl rfl (by omega) (by decide) (Nat.le_of_ble_eq_true rfl)
        show AW _ _ _ _ _ _ _
        refine a_goto 74 dX12_readPart_39 (by decide) ?_
        refine a_vret dX12_readPart_74 rfl ?_
        have e : ptA (tkN D n) t S N c = ptH (tkN D n) S N c := (if_neg h_1).trans ((if_neg h_15).trans (if_pos h_29))
        rw [e] at hQ
        exact hQ _ hc_36 hv_36 ((hf_36.i ht (by unfold mrP muP; omega)).trans (congrArg nI (if_neg h_1)).symm) (hf_36.mo (fun _ _ h => mr_m4 h))
      · show AW _ _ _ _ _ _ _
        refine n_if_eq 42 (by decide) dX12_readPart_32 (by decide) (fun _ => ?_) (fun h => absurd h (by decide))
        refine a_aload_n rfl dX12_readPart_42 ?_
        refine n_callV (mi' := miX12_isSitter) dX12_readPart_43 lX12_178 mX12_isSitter (by decide) rfl rfl rfl (c_X12_isSitter hDl hn hU (fun h_43 => ?_) (fun h_43 => ?_) d) rfl rfl (by omega) (by decide) (Nat.le_of_ble_eq_true rfl)
        · show AW _ _ _ _ _ _ _
          refine n_if_eq 56 (by decide) dX12_readPart_46 (by decide) (fun h => absurd h (by decide)) (fun _ => ?_)
          refine a_aload_n rfl dX12_readPart_49 ?_
          refine n_callV (mi' := miX12_readSitter) dX12_readPart_50 lX12_295 mX12_readSitter (by decide) rfl rfl rfl (c_X12_readSitter hDl hn hU hM hF hN h0 (isK_i.mp h_43).1 (fun M_50 hc_50 hv_50 hf_50 => ?_) d) rfl rfl (by omega) (by decide) (Nat.le_of_ble_eq_true rfl)
          show AW _ _ _ _ _ _ _
          refine a_goto 74 dX12_readPart_53 (by decide) ?_
          refine a_vret dX12_readPart_74 rfl ?_
          have e : ptA (tkN D n) t S N c = ptS (tkN D n) S N c := (if_neg h_1).trans ((if_neg h_15).trans ((if_neg h_29).trans (if_pos h_43)))
          rw [e] at hQ
          exact hQ _ hc_50 hv_50 ((hf_50.i ht (by unfold mrP muP; omega)).trans (congrArg nI (if_neg h_1)).symm) (hf_50.mo (fun _ _ h => mr_m4 h))
        · show AW _ _ _ _ _ _ _
          refine n_if_eq 56 (by decide) dX12_readPart_46 (by decide) (fun _ => ?_) (fun h => absurd h (by decide))
          refine a_aload_n rfl dX12_readPart_56 ?_
          refine n_callV (mi' := miX12_isNews) dX12_readPart_57 lX12_193 mX12_isNews (by decide) rfl rfl rfl (c_X12_isNews hDl hn hU (fun h_57 => ?_) (fun h_57 => ?_) d) rfl rfl (by omega) (by decide) (Nat.le_of_ble_eq_true rfl)
          · show AW _ _ _ _ _ _ _
            refine n_if_eq 70 (by decide) dX12_readPart_60 (by decide) (fun h => absurd h (by decide)) (fun _ => ?_)
            refine a_aload_n rfl dX12_readPart_63 ?_
            refine n_callV (mi' := miX12_readNews) dX12_readPart_64 lX12_298 mX12_readNews (by decide) rfl rfl rfl (c_X12_readNews hDl hn hU hM hF hN h0 (isK_i.mp h_57).1 (fun M_64 hc_64 hv_64 hf_64 => ?_) d) rfl rfl (by omega) (by decide) (Nat.le_of_ble_eq_true rfl)
            show AW _ _ _ _ _ _ _
            refine a_goto 74 dX12_readPart_67 (by decide) ?_
            refine a_vret dX12_readPart_74 rfl ?_
            have e : ptA (tkN D n) t S N c = ptN (tkN D n) S N c := (if_neg h_1).trans ((if_neg h_15).trans ((if_neg h_29).trans ((if_neg h_43).trans (if_pos h_57))))
            rw [e] at hQ
            exact hQ _ hc_64 hv_64 ((hf_64.i ht (by unfold mrP muP; omega)).trans (congrArg nI (if_neg h_1)).symm) (hf_64.mo (fun _ _ h => mr_m4 h))
          · show AW _ _ _ _ _ _ _
            refine n_if_eq 70 (by decide) dX12_readPart_60 (by decide) (fun _ => ?_) (fun h => absurd h (by decide))
            refine a_aload_n rfl dX12_readPart_70 ?_
            refine n_callV (mi' := miX12_amiss) dX12_readPart_71 lX12_225 mX12_amiss (by decide) rfl rfl rfl (c_X12_amiss hDl hn hU (fun M_71 hc_71 hf_71 => ?_) d) rfl rfl (by omega) (by decide) (Nat.le_of_ble_eq_true rfl)
            show AW _ _ _ _ _ _ _
            refine a_vret dX12_readPart_74 rfl ?_
            have e : ptA (tkN D n) t S N c = (flC (tkN D n) 2 c, S, N) := (if_neg h_1).trans ((if_neg h_15).trans ((if_neg h_29).trans ((if_neg h_43).trans (if_neg h_57))))
            rw [e] at hQ
            exact hQ _ hc_71 (fun _ => ⟨VM_mu hM hf_71, VNM_mu hN hf_71⟩) ((hf_71.i ht (by unfold muP; omega)).trans (congrArg nI (if_neg h_1)).symm) (hf_71.mo (fun _ _ h => mu_m4 h))

def stP (k j : Nat) : Prop := k = 132 ∧ 8 ≤ j ∧ j ≤ 19 ∧ j ≠ 10 ∧ j ≠ 11
theorem ini_MU {M : Mm} {B : Nat → Int32} {L q : Nat} (hB : ∀ j, j < L → M.1 136 j = B j) (hb : ∀ j, j < L → isByt (B j)) (hq : q ≤ L) : MA (siM (siM (siM (siM M 132 9 (nI q)) 132 8 (nI 0)) 132 16 (nI 0)) 132 12 (nI 0)) (fun j => byN (B j)) q :=
  ⟨siN (siN (siN siS (by omega)) (by omega)) (by omega), fun j hj => by rw [show (siM (siM (siM (siM M 132 9 (nI q)) 132 8 (nI 0)) 132 16 (nI 0)) 132 12 (nI 0)).1 136 j = B j from siN (siN (siN (siN (hB j (by omega)) (by omega)) (by omega)) (by omega)) (by omega)]; exact byN_a (hb j (by omega))⟩

set_option maxRecDepth 100000 in
set_option maxHeartbeats 800000 in
theorem c_X12_starts {M : Mm} {B : Nat → Int32} {L : Nat} (h8 : M.1 132 8 = nI L) (hL : L ≤ 900) (hB : ∀ j, j < L → M.1 136 j = B j) (hb : ∀ j, j < L → isByt (B j)) {x : Int32} {mo : Nat} (hmo : mo ≤ 900) {Q : Option Value → Mm → Prop} (h1 : ∀ q, x = nI q → q ≤ L → q ≤ mo → ∀ M', MU M' (fun j => byN (B j)) q (0, 0, 0) → M'.1 132 8 = nI 0 → fr stP M M' → Q (some (.int (nI 1))) M') (h0 : ¬ (0 ≤ x.toInt ∧ x.toInt ≤ (L : Int) ∧ x.toInt ≤ (mo : Int)) → Q (some (.int (nI 0))) (siM M 132 0 (nI 5))) (d : Nat) : AMt miX12_starts (d + 4) [.ref 132, .int x, .int (nI mo)] M Q := by
  refine AMt.of (by decide) (Nat.le_of_ble_eq_true rfl) ?_
  show AW miX12_starts (d + 4) (mxA Q) 0 [(0, some (.ref 132)), (1, some (.int x)), (2, some (.int (nI mo)))] [] M
  refine a_iload_n rfl dX12_starts_0 ?_
  refine r_if_lt 17 dX12_starts_1 (by decide) (fun h_1 => ?_) (fun h_1 => ?_)
  · refine a_aload_n rfl dX12_starts_17 ?_
    refine n_iconst 5 rfl dX12_starts_18 ?_
    refine n_callV (mi' := miX12_no) dX12_starts_19 lX12_84 mX12_no (by decide) rfl rfl rfl (c_X12_no ?_ d) rfl rfl (by omega) (by decide) (Nat.le_of_ble_eq_true rfl)
    show AW _ _ _ _ _ _ _
    refine a_zret dX12_starts_22 rfl (Or.inl rfl) ?_
    exact h0 (by omega)
  · refine a_iload_n rfl dX12_starts_4 ?_
    refine a_aload_n rfl dX12_starts_5 ?_
    refine g_i h8 (by decide) rfl fX12_235 rfl dX12_starts_6 ?_
    refine r_icmp_gt 17 (by omega) dX12_starts_9 (by decide) (fun h_9 => ?_) (fun h_9 => ?_)
    · refine a_aload_n rfl dX12_starts_17 ?_
      refine n_iconst 5 rfl dX12_starts_18 ?_
      refine n_callV (mi' := miX12_no) dX12_starts_19 lX12_84 mX12_no (by decide) rfl rfl rfl (c_X12_no ?_ d) rfl rfl (by omega) (by decide) (Nat.le_of_ble_eq_true rfl)
      show AW _ _ _ _ _ _ _
      refine a_zret dX12_starts_22 rfl (Or.inl rfl) ?_
      exact h0 (by omega)
    · refine a_iload_n rfl dX12_starts_12 ?_
      refine a_iload_n rfl dX12_starts_13 ?_
      refine r_icmp_le 23 (by omega) dX12_starts_14 (by decide) (fun h_14 => ?_) (fun h_14 => ?_)
      · obtain ⟨q, hq, rfl⟩ := inR_of (x := x) (m := 901) (by omega) (by omega) (by omega)
        have t_q : (nI q).toInt = (q : Int) := nI_toInt (by omega)
        have i_q : idx (nI q) = q := idx_nI (by omega)
        refine a_aload_n rfl dX12_starts_23 ?_
        refine a_iload_n rfl dX12_starts_24 ?_
        refine a_puti dX12_starts_25 pX12_112 (by decide) rfl rfl ?_
        refine a_aload_n rfl dX12_starts_28 ?_
        refine n_iconst 0 rfl dX12_starts_29 ?_
        refine a_puti dX12_starts_30 pX12_235 (by decide) rfl rfl ?_
        refine a_aload_n rfl dX12_starts_33 ?_
        refine n_iconst 0 rfl dX12_starts_34 ?_
        refine a_puti dX12_starts_35 pX12_115 (by decide) rfl rfl ?_
        refine a_aload_n rfl dX12_starts_38 ?_
        refine n_iconst 0 rfl dX12_starts_39 ?_
        refine a_puti dX12_starts_40 pX12_212 (by decide) rfl rfl ?_
        refine a_aload_n rfl dX12_starts_43 ?_
        refine n_callV (mi' := miX12_advance) dX12_starts_44 lX12_222 mX12_advance (by decide) rfl rfl rfl (c_X12_advance (k := 0) (ini_MU hB hb (show q ≤ L by omega)) (fun j => byN_lt _) (by omega) (siN siS (by omega)) (fun M_44 hk_44 hf_44 => ?_) d) rfl rfl (by omega) (by decide) (Nat.le_of_ble_eq_true rfl)
        show AW _ _ _ _ _ _ _
        refine n_iconst 1 rfl dX12_starts_47 ?_
        refine a_zret dX12_starts_48 rfl (Or.inr rfl) ?_
        exact h1 q rfl (by omega) (by omega) _ ⟨MA_av (ini_MU hB hb (by omega)) hf_44, hk_44, hf_44.i siS (by unfold avP; omega), fun q => absurd rfl q, by decide⟩ (hf_44.i (siN (siN siS (by omega)) (by omega)) (by unfold avP; omega)) (((((fr.r.si (by unfold stP; omega)).si (by unfold stP; omega)).si (by unfold stP; omega)).si (by unfold stP; omega)).t (hf_44.mo (fun k j h => by unfold avP at h; unfold stP; omega)))
      · refine a_aload_n rfl dX12_starts_17 ?_
        refine n_iconst 5 rfl dX12_starts_18 ?_
        refine n_callV (mi' := miX12_no) dX12_starts_19 lX12_84 mX12_no (by decide) rfl rfl rfl (c_X12_no ?_ d) rfl rfl (by omega) (by decide) (Nat.le_of_ble_eq_true rfl)
        show AW _ _ _ _ _ _ _
        refine a_zret dX12_starts_22 rfl (Or.inl rfl) ?_
        exact h0 (by omega)

set_option maxRecDepth 100000 in
set_option maxHeartbeats 800000 in
theorem c_X12_empties {M : Mm} {b : Nat} (hb : b ≤ 4) {Q : Option Value → Mm → Prop} (hQ : ∀ M', (∀ j, j < 362 → M'.1 137 (362 * b + j) = if j = 4 then nI 4 else nI 0) → frM (fun k j => k = 137 ∧ 362 * b ≤ j ∧ j < 362 * b + 362) M M' → Q none M') (d : Nat) : AMt miX12_empties (d) [.ref 132, .int (nI b)] M Q := by
  refine AMt.of (by decide) (Nat.le_of_ble_eq_true rfl) ?_
  show AW miX12_empties (d) (mxA Q) 0 [(0, some (.ref 132)), (1, some (.int (nI b)))] [] M
  refine n_iconst 0 rfl dX12_empties_0 ?_
  refine a_istore_n (by decide) rfl dX12_empties_1 ?_
  have loop_2 : ∀ i, i ≤ 362 → ∀ M1, ((∀ j, j < i → (M1).1 137 (362 * b + j) = nI 0) ∧ frM (fun k j => k = 137 ∧ 362 * b ≤ j ∧ j < 362 * b + 362) M M1) → AW miX12_empties (d) (mxA Q) 2 [(0, some (.ref 132)), (1, some (.int (nI b))), (2, some (.int (nI i)))] [] M1 := by
    refine up (W := fun i => ∀ M1, ((∀ j, j < i → (M1).1 137 (362 * b + j) = nI 0) ∧ frM (fun k j => k = 137 ∧ 362 * b ≤ j ∧ j < 362 * b + 362) M M1) → AW miX12_empties (d) (mxA Q) 2 [(0, some (.ref 132)), (1, some (.int (nI b))), (2, some (.int (nI i)))] [] M1) 362 (fun M1 hI_2 => ?_) (fun i hi_2 ih_2 M1 hI_2 => ?_)
    · refine a_iload_n rfl dX12_empties_2 ?_
      refine n_sipush 362 rfl dX12_empties_3 ?_
      refine n_icmp_ge 28 (by omega) (by omega) dX12_empties_6 (by decide) (fun h_6 => ?_) (fun h_6 => absurd h_6 (by omega))
      refine a_aload_n rfl dX12_empties_28 ?_
      refine a_geta dX12_empties_29 fX12_35 (by decide) rfl rfl ?_
      refine n_sipush 362 rfl dX12_empties_32 ?_
      refine a_iload_n rfl dX12_empties_35 ?_
      refine n_imul dX12_empties_36 ?_
      refine n_iconst 4 rfl dX12_empties_37 ?_
      refine n_iadd dX12_empties_38 ?_
      refine n_iconst 4 rfl dX12_empties_39 ?_
      refine n_iast (by omega) (by decide) rfl (by decide) dX12_empties_40 ?_
      refine a_vret dX12_empties_41 rfl ?_
      refine hQ _ (fun j hj => ?_) (hI_2.2.si (by omega))
      by_cases e : j = 4
      · rw [if_pos e, e]; exact siS
      · rw [if_neg e]; exact siN (hI_2.1 j hj) (by omega)
    · refine a_iload_n rfl dX12_empties_2 ?_
      refine n_sipush 362 rfl dX12_empties_3 ?_
      refine n_icmp_ge 28 (by omega) (by omega) dX12_empties_6 (by decide) (fun h_6 => absurd h_6 (by omega)) (fun h_6 => ?_)
      refine a_aload_n rfl dX12_empties_9 ?_
      refine a_geta dX12_empties_10 fX12_35 (by decide) rfl rfl ?_
      refine n_sipush 362 rfl dX12_empties_13 ?_
      refine a_iload_n rfl dX12_empties_16 ?_
      refine n_imul dX12_empties_17 ?_
      refine a_iload_n rfl dX12_empties_18 ?_
      refine n_iadd dX12_empties_19 ?_
      refine n_iconst 0 rfl dX12_empties_20 ?_
      refine n_iast (by omega) (by decide) rfl (by decide) dX12_empties_21 ?_
      refine n_iinc (c := 1) rfl rfl (by decide) rfl dX12_empties_22 ?_
      refine a_goto 2 dX12_empties_25 (by decide) ?_
      exact a_bk (ih_2 _ ⟨fun j hj => by
                    by_cases e : j = i
                    · rw [e]; exact siS
                    · exact siN (hI_2.1 j (by omega)) (by omega), hI_2.2.si (by omega)⟩) ⟨rfl, rfl, rfl, trivial⟩
  exact a_bk (loop_2 0 (by omega) _ ⟨fun j hj => absurd hj (Nat.not_lt_zero _), frM.r⟩) ⟨rfl, rfl, rfl, trivial⟩

theorem em_VM {M : Mm} {b : Nat} (h : ∀ j, j < 362 → M.1 137 (362 * b + j) = if j = 4 then nI 4 else nI 0) : VM (362 * b) M emW ∧ YM (362 * b) M Y0 := by
  have z : ∀ j, j < 362 → j ≠ 4 → M.1 137 (362 * b + j) = nI 0 := fun j hj h4 => (h j hj).trans (if_neg h4)
  exact ⟨⟨z 0 (by omega) (by omega), z 1 (by omega) (by omega), z 2 (by omega) (by omega), z 3 (by omega) (by omega), (h 4 (by omega)).trans (if_pos rfl), z 5 (by omega) (by omega), fun j hj => absurd (show j < 0 from hj) (Nat.not_lt_zero j), fun j hj => absurd (show j < 0 from hj) (Nat.not_lt_zero j), fun j hj => absurd (show j < 0 from hj) (Nat.not_lt_zero j), fun j hj => absurd (show j < 0 from hj) (Nat.not_lt_zero j), fun j hj => absurd (show j < 0 from hj) (Nat.not_lt_zero j), fun j hj => absurd (show j < 0 from hj) (Nat.not_lt_zero j), fun j hj => absurd (show j < 0 from hj) (Nat.not_lt_zero j), fun j hj => absurd (show j < 0 from hj) (Nat.not_lt_zero j), fun j hj => absurd (show j < 0 from hj) (Nat.not_lt_zero j), fun j hj => absurd (show j < 0 from hj) (Nat.not_lt_zero j), fun j hj => absurd (show j < 0 from hj) (Nat.not_lt_zero j)⟩, z 90 (by omega) (by omega), z 91 (by omega) (by omega), fun i hi => absurd (show i < 0 from hi) (Nat.not_lt_zero i)⟩
theorem tk_lt {D : Nat → Nat} {n i : Nat} (hn : n ≤ 900) (h : (tkN D n i).1 ≠ 0) : i < 900 := by
  have key : ∀ k j, j + k = i → (tkN D n j).1 ≠ 0 := by
    intro k
    induction k with
    | zero => intro j hj; rw [show j = i by omega]; exact h
    | succ k ih => intro j hj e; exact ih (j + 1) (by omega) (tk_end2 e)
  have h1 := po_i (D := D) (n := n) i (fun j hj => key (i - j) j (by omega))
  have h2 := po_gt h
  have h3 := po_le (D := D) (n := n) (i + 1)
  omega
/-- in the midst of the model's reading a wood -/
def woP (k j : Nat) : Prop := (k = 132 ∧ (8 ≤ j ∧ j ≤ 19 ∧ j ≠ 10 ∧ j ≠ 11 ∨ j = 24)) ∨ (k = 137 ∧ 1448 ≤ j ∧ j < 1810) ∨ (k = 139 ∧ 52 ≤ j ∧ j < 65)
theorem m4_wo {k j : Nat} (h : m4P k j) : woP k j := by unfold m4P muP at h; unfold woP; omega
def WI (M0 M : Mm) (D : Nat → Nat) (n : Nat) (R : PW) (k : Nat) (x : PW) : Prop := MU M D n x.1 ∧ (x.1.2.1 = 0 → VM (362 * 4) M x.2.1 ∧ VNM 4 M x.2.1 x.2.2.1 ∧ WF x.2.1 ∧ x.2.1 0 1 = 0 ∧ k ≤ x.1.1) ∧ M.1 132 24 = nI x.2.2.2 ∧ x.2.2.2 ≤ 1 ∧ YM (362 * 4) M Y0 ∧ fr woP M0 M ∧ lpW (tkN D n) (900 - k) x = R
theorem YM_m4 {M M' : Mm} (h : YM (362 * 4) M Y0) (hf : fr m4P M M') : YM (362 * 4) M' Y0 := ⟨(hf 137 _ (by unfold m4P muP; omega)).1.trans h.1, (hf 137 _ (by unfold m4P muP; omega)).1.trans h.2.1, fun i hi => absurd (show i < 0 from hi) (Nat.not_lt_zero i)⟩
theorem WI_step {M0 M M1 M2 : Mm} {D : Nat → Nat} {n k : Nat} {R : PW} {x : PW} (hn : n ≤ 900) (h : WI M0 M D n R k x) (h0 : x.1.2.1 = 0) (hk : kd (tkN D n) x.1 ≠ 0) (hv : (ptA (tkN D n) x.2.2.2 x.2.1 x.2.2.1 x.1).1.2.1 = 0 → VM (362 * 4) M1 (ptA (tkN D n) x.2.2.2 x.2.1 x.2.2.1 x.1).2.1 ∧ VNM 4 M1 (ptA (tkN D n) x.2.2.2 x.2.1 x.2.2.1 x.1).2.1 (ptA (tkN D n) x.2.2.2 x.2.1 x.2.2.1 x.1).2.2) (ht : M1.1 132 24 = nI (if isK (tkN D n) x.1 0 = true then 1 else x.2.2.2)) (hf : fr m4P M M1) (hc2 : MU M2 D n (endC (tkN D n) (ptA (tkN D n) x.2.2.2 x.2.1 x.2.2.1 x.1).1)) (hf2 : fr muP M1 M2) : WI M0 M2 D n R (k + 1) (ptW (tkN D n) x) ∧ k < 900 := by
  obtain ⟨h1, h3, h4, h5, h6, h7, h8⟩ := h
  have hk9 : k < 900 := Nat.lt_of_le_of_lt (h3 h0).2.2.2.2 (tk_lt hn hk)
  have hg : fr m4P M M2 := hf.t (hf2.mo (fun _ _ z => mu_m4 z))
  refine ⟨⟨hc2, fun z => ?_, (hf2.i ht (by unfold muP; omega)), ptW_t h5, YM_m4 h6 hg, h7.t (hg.mo (fun _ _ z => m4_wo z)), ?_⟩, hk9⟩
  · have z1 := (end_0 (show (endC (tkN D n) (ptA (tkN D n) x.2.2.2 x.2.1 x.2.2.1 x.1).1).2.1 = 0 from z)).1
    have z2 := ptW_0 (tk := tkN D n) (x := x) z (h3 h0).2.2.1
    have := (h3 h0).2.2.2.2
    exact ⟨VM_mu (hv z1).1 hf2, VNM_mu (hv z1).2 hf2, z2.1, pt_day.trans (h3 h0).2.2.2.1, by have := z2.2.2; omega⟩
  · rw [show 900 - k = (900 - (k + 1)) + 1 by omega, lpW_s h0 hk] at h8
    exact h8
theorem WI_0 {M0 M : Mm} {D : Nat → Nat} {n : Nat} (hU : MU M D n (0, 0, 0)) (hV : VM (362 * 4) M emW) (hY : YM (362 * 4) M Y0) (h24 : M.1 132 24 = nI 0) (hf : fr woP M0 M) : WI M0 M D n (lpW (tkN D n) 900 w0) 0 w0 :=
  ⟨hU, fun _ => ⟨hV, ⟨fun j hj => absurd (show j < 0 from hj) (Nat.not_lt_zero j), fun j hj => absurd (show j < 0 from hj) (Nat.not_lt_zero j)⟩, WF_em, rfl, Nat.zero_le _⟩, h24, Nat.zero_le _, hY, hf, rfl⟩
def mtP (k j : Nat) : Prop := woP k j ∨ (k = 132 ∧ (j = 0 ∨ j = 1 ∨ j = 10 ∨ j = 11))
def mwP (k j : Nat) : Prop := mtP k j ∨ (k = 137 ∧ j < 362) ∨ (k = 139 ∧ j < 13)
theorem IM_tx {M M1 : Mm} {T : TT} {W' : WD} {a b : Int32} {n : Nat} (h : IM M T) (hG : TG T) (hW : WM 0 M1 W') (h8' : M1.1 132 8 = nI 0) (h0 : M1.1 132 0 = nI n) (hF : M1.1 132 10 = a ∧ M1.1 132 11 = b) (hf : fr mwP M M1) : IM M1 (tfT T W' a b n) ∧ keX M M1 := by
  obtain ⟨h1, h2, h3, h4, h5, h6, h7, h8⟩ := h
  have h3k : (tK T).1 ≤ 3 := hG.2.2.2.2.2.1
  exact ⟨⟨hW, RM_fr h2 hf (fun k j a b => by unfold mwP mtP woP; omega), ⟨h8', fun j hj => absurd (show j < 0 from hj) (Nat.not_lt_zero j)⟩, ⟨h0, hf.l h4.2.1 (by unfold mwP mtP woP; omega), hf.l h4.2.2 (by unfold mwP mtP woP; omega)⟩, hF, ⟨hf.i h6.1 (by unfold mwP mtP woP; omega), fun q j hj => hf.i (h6.2 q j hj) (by unfold mwP mtP woP; omega)⟩, hf.i h7 (by unfold mwP mtP woP; omega), fun i hi => WM_fr (h8 i hi) (hG.2.2.2.2.2.2.1 i hi) hf (fun j a b => by have hi : i < (tK T).1 := hi; unfold mwP mtP woP; omega) (fun j a b => by have hi : i < (tK T).1 := hi; unfold mwP mtP woP; omega)⟩, keX_fr hf (fun k j z => by unfold mwP mtP woP at z; omega)⟩
theorem mt_mw {k j : Nat} (h : mtP k j) : mwP k j := Or.inl h

set_option maxRecDepth 100000 in
set_option maxHeartbeats 800000 in
theorem c_X12_isWell {M : Mm} {D : Nat → Nat} {n : Nat} (hDl : ∀ j, D j < 256) (hn : n ≤ 900) {c : CC} (hU : MU M D n c) {Q : Option Value → Mm → Prop} (h1 : c.2.1 = 0 → Q (some (.int (nI 1))) (siM (siM M 132 10 (nI c.2.1)) 132 11 (-1))) (h0 : ¬ c.2.1 = 0 → Q (some (.int (nI 0))) (siM (siM (siM M 132 10 (nI c.2.1)) 132 11 (nI c.2.2)) 132 0 (nI 10))) (d : Nat) : AMt miX12_isWell (d + 1) [.ref 132] M Q := by
  refine AMt.of (by decide) (Nat.le_of_ble_eq_true rfl) ?_
  show AW miX12_isWell (d + 1) (mxA Q) 0 [(0, some (.ref 132))] [] M
  have hf7 := hU.2.2.2.2
  have hKG := tkN_G (D := D) hn c.1
  have hkd : kd (tkN D n) c ≤ 6 := hKG.1
  have hst := hKG.2.1
  obtain ⟨mk0, mk1, mk2, mk3, mk4, mk5⟩ := mkd_i hkd
  refine a_aload_n rfl dX12_isWell_0 ?_
  refine a_aload_n rfl dX12_isWell_1 ?_
  refine g_i hU.2.2.1 (by decide) rfl fX12_212 rfl dX12_isWell_2 ?_
  refine a_puti dX12_isWell_5 pX12_28 (by decide) rfl rfl ?_
  refine a_aload_n rfl dX12_isWell_8 ?_
  refine a_aload_n rfl dX12_isWell_9 ?_
  refine g_i (siN hU.2.2.1 (by omega)) (by decide) rfl fX12_212 rfl dX12_isWell_10 ?_
  refine n_if_ne 20 (by omega) dX12_isWell_13 (by decide) (fun h_13 => ?_) (fun h_13 => ?_)
  · refine a_aload_n rfl dX12_isWell_20 ?_
    refine g_i (siN (hU.2.2.2.1 h_13) (by omega)) (by decide) rfl fX12_215 rfl dX12_isWell_21 ?_
    refine a_puti dX12_isWell_24 pX12_32 (by decide) rfl rfl ?_
    refine a_aload_n rfl dX12_isWell_27 ?_
    refine g_i (siN (siN hU.2.2.1 (by omega)) (by omega)) (by decide) rfl fX12_212 rfl dX12_isWell_28 ?_
    refine n_if_eq 43 (by omega) dX12_isWell_31 (by decide) (fun h_31 => absurd h_31 (by omega)) (fun h_31 => ?_)
    refine a_aload_n rfl dX12_isWell_34 ?_
    refine n_bipush 10 rfl dX12_isWell_35 ?_
    refine n_callV (mi' := miX12_no) dX12_isWell_37 lX12_84 mX12_no (by decide) rfl rfl rfl (c_X12_no ?_ d) rfl rfl (by omega) (by decide) (Nat.le_of_ble_eq_true rfl)
    show AW _ _ _ _ _ _ _
    refine n_if_eq 47 (by decide) dX12_isWell_40 (by decide) (fun _ => ?_) (fun h => absurd h (by decide))
    refine n_iconst 0 rfl dX12_isWell_47 ?_
    refine a_zret dX12_isWell_48 rfl (Or.inl rfl) ?_
    exact h0 h_13
  · refine a_iconst (-1) rfl dX12_isWell_16 ?_
    refine a_goto 24 dX12_isWell_17 (by decide) ?_
    refine a_puti dX12_isWell_24 pX12_32 (by decide) rfl rfl ?_
    refine a_aload_n rfl dX12_isWell_27 ?_
    refine g_i (siN (siN hU.2.2.1 (by omega)) (by omega)) (by decide) rfl fX12_212 rfl dX12_isWell_28 ?_
    refine n_if_eq 43 (by omega) dX12_isWell_31 (by decide) (fun h_31 => ?_) (fun h_31 => absurd h_31 (by omega))
    refine n_iconst 1 rfl dX12_isWell_43 ?_
    refine a_goto 48 dX12_isWell_44 (by decide) ?_
    refine a_zret dX12_isWell_48 rfl (Or.inr rfl) ?_
    exact h1 h_13

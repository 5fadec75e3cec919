def MW (M : Mm) (R : RN) : Prop := VM 0 M R.1 ∧ M.1 132 40 = nI R.2.1 ∧ M.1 132 42 = nI R.2.2.1 ∧ M.1 132 44 = nI R.2.2.2.1 ∧ M.1 132 45 = nI R.2.2.2.2
theorem MW_mk {M : Mm} {S : ST} {dr mi br cr : Nat} (a : VM 0 M S) (b : M.1 132 40 = nI dr) (c : M.1 132 42 = nI mi) (f : M.1 132 44 = nI br) (g : M.1 132 45 = nI cr) : MW M (S, dr, mi, br, cr) := ⟨a, b, c, f, g⟩
def fmP (k j : Nat) : Prop := (k = 137 ∧ j < 90) ∨ (k = 132 ∧ (j = 40 ∨ j = 44 ∨ j = 45))
abbrev FMY (M M1 : Mm) : Prop := fr fmP M M1
theorem VM_si {M : Mm} {S : ST} (h : VM 0 M S) (hF : WF S) {j : Nat} {x : Int32} : VM 0 (siM M 132 j x) S := VM_e h (fun i _ => siN rfl (by omega)) hF
theorem MW_dr {M : Mm} {S : ST} {dr mi br cr x : Nat} (h : MW M (S, dr, mi, br, cr)) (hF : WF S) : MW (siM M 132 40 (nI x)) (S, x, mi, br, cr) := MW_mk (VM_si h.1 hF) siS (siN h.2.2.1 (by omega)) (siN h.2.2.2.1 (by omega)) (siN h.2.2.2.2 (by omega))

set_option maxRecDepth 100000 in
set_option maxHeartbeats 800000 in
theorem c_X12_draw {M : Mm} {dr n : Nat} (h0 : M.1 132 40 = nI dr) (hdr : dr < 65536) (hn : 0 < n) (hn9 : n < 1000) {Q : Option Value → Mm → Prop} (hQ : Q (some (.int (nI (drw dr / 8 % n)))) (siM M 132 40 (nI (drw dr)))) (d : Nat) : AMt miX12_draw (d) [.ref 132, .int (nI n)] M Q := by
  refine AMt.of (by decide) (Nat.le_of_ble_eq_true rfl) ?_
  show AW miX12_draw (d) (mxA Q) 0 [(0, some (.ref 132)), (1, some (.int (nI n)))] [] M
  refine a_aload_n rfl dX12_draw_0 ?_
  refine a_aload_n rfl dX12_draw_1 ?_
  refine g_i h0 (by decide) rfl fX12_532 rfl dX12_draw_2 ?_
  refine n_sipush 2971 rfl dX12_draw_5 ?_
  refine n_imul dX12_draw_8 ?_
  refine n_sipush 10973 rfl dX12_draw_9 ?_
  refine n_iadd dX12_draw_12 ?_
  refine a_ldcw kX12_535 dX12_draw_13 ?_
  refine a_eqi (y := nI 65536) rfl ?_
  refine n_irem (by omega) (by omega) (by omega) dX12_draw_16 ?_
  refine a_puti dX12_draw_17 pX12_532 (by decide) rfl rfl ?_
  refine a_aload_n rfl dX12_draw_20 ?_
  refine g_i siS (by decide) rfl fX12_532 rfl dX12_draw_21 ?_
  refine n_bipush 8 rfl dX12_draw_24 ?_
  refine n_idiv (by omega) (by omega) (by omega) dX12_draw_26 ?_
  refine a_iload_n rfl dX12_draw_27 ?_
  refine n_irem (by omega) (by omega) (by omega) dX12_draw_28 ?_
  refine a_iret dX12_draw_29 rfl ?_
  exact hQ

set_option maxRecDepth 100000 in
set_option maxHeartbeats 800000 in
theorem c_X12_anyDays {M : Mm} {S : ST} {dr mi br cr : Nat} (hR : MW M (S, dr, mi, br, cr)) (hF : WF S) (hd9 : S 0 1 ≤ 9999) (hdr : dr < 65536) {n : Nat} (hn9 : n ≤ 1000) {Q : Option Value → Mm → Prop} (h1 : ∀ M', MW M' (rDay n (S, dr, mi, br, cr)) → FMY M M' → Q (some (.int (nI 1))) M') (h0 : ∀ M' R1, MW M' R1 → rMi R1 = rDay n (S, dr, mi, br, cr) → FMY M M' → Q (some (.int (nI 0))) M') (d : Nat) : AMt miX12_anyDays (d + 4) [.ref 132, .int (nI n)] M Q := by
  refine AMt.of (by decide) (Nat.le_of_ble_eq_true rfl) ?_
  show AW miX12_anyDays (d + 4) (mxA Q) 0 [(0, some (.ref 132)), (1, some (.int (nI n)))] [] M
  obtain ⟨hM, g40, g42, g44, g45⟩ : VM 0 M S ∧ M.1 132 40 = nI dr ∧ M.1 132 42 = nI mi ∧ M.1 132 44 = nI br ∧ M.1 132 45 = nI cr := id hR
  have hm := WF_m hF
  have hh := WF_h hF
  have hs := WF_s hF
  have hn := WF_n hF
  refine a_aload_n rfl dX12_anyDays_0 ?_
  refine a_geta dX12_anyDays_1 fX12_35 (by decide) rfl rfl ?_
  refine n_iconst 5 rfl dX12_anyDays_4 ?_
  refine v_iald (by omega) (VM_s5 hM) (by decide) rfl (by decide) dX12_anyDays_5 ?_
  refine a_iload_n rfl dX12_anyDays_6 ?_
  refine n_iadd dX12_anyDays_7 ?_
  refine n_sipush 9999 rfl dX12_anyDays_8 ?_
  refine n_icmp_le 16 (by omega) (by omega) dX12_anyDays_11 (by decide) (fun h_11 => ?_) (fun h_11 => ?_)
  · refine n_iconst 0 rfl dX12_anyDays_16 ?_
    refine a_istore_n (by decide) rfl dX12_anyDays_17 ?_
    have loop_18 : ∀ i, i ≤ n → ∀ M1, (VM 0 M1 (dayN S i) ∧ frM (fun k j => k = 137 ∧ j < 90) M M1) → AW miX12_anyDays (d + 4) (mxA Q) 18 [(0, some (.ref 132)), (1, some (.int (nI n))), (2, some (.int (nI i)))] [] M1 := by
      refine up (W := fun i => ∀ M1, (VM 0 M1 (dayN S i) ∧ frM (fun k j => k = 137 ∧ j < 90) M M1) → AW miX12_anyDays (d + 4) (mxA Q) 18 [(0, some (.ref 132)), (1, some (.int (nI n))), (2, some (.int (nI i)))] [] M1) n (fun M1 hI_18 => ?_) (fun i hi_18 ih_18 M1 hI_18 => ?_)
      · refine a_iload_n rfl dX12_anyDays_18 ?_
        refine a_iload_n rfl dX12_anyDays_19 ?_
        refine n_icmp_ge 33 (by omega) (by omega) dX12_anyDays_20 (by decide) (fun h_20 => ?_) (fun h_20 => absurd h_20 (by omega))
        refine n_iconst 1 rfl dX12_anyDays_33 ?_
        refine a_zret dX12_anyDays_34 rfl (Or.inr rfl) ?_
        exact h1 _ (by rw [show rDay n (S, dr, mi, br, cr) = (dayN S n, dr, mi, br, cr) from if_pos (show S 0 1 + n ≤ 9999 by omega)]; exact MW_mk hI_18.1 (hI_18.2.i g40 (by omega)) (hI_18.2.i g42 (by omega)) (hI_18.2.i g44 (by omega)) (hI_18.2.i g45 (by omega))) (hI_18.2.f.mo (fun k j h => Or.inl h))
      · refine a_iload_n rfl dX12_anyDays_18 ?_
        refine a_iload_n rfl dX12_anyDays_19 ?_
        refine n_icmp_ge 33 (by omega) (by omega) dX12_anyDays_20 (by decide) (fun h_20 => absurd h_20 (by omega)) (fun h_20 => ?_)
        refine a_aload_n rfl dX12_anyDays_23 ?_
        refine n_callV (mi' := miX12_passes) dX12_anyDays_24 lX12_394 mX12_passes (by decide) rfl rfl rfl (c_pass (S := dayN S i) hI_18.1 (WF_day2 hF (by omega)) (fun M_24 hV_24 hf_24 => ?_) d) rfl rfl (by omega) (by decide) (Nat.le_of_ble_eq_true rfl)
        show AW _ _ _ _ _ _ _
        refine n_iinc (c := 1) rfl rfl (by decide) rfl dX12_anyDays_27 ?_
        refine a_goto 18 dX12_anyDays_30 (by decide) ?_
        exact a_bk (ih_18 _ ⟨by rw [← passN_day]; exact hV_24, hI_18.2.t hf_24⟩) ⟨rfl, rfl, rfl, trivial⟩
    exact a_bk (loop_18 0 (by omega) _ ⟨by rw [dayN_0]; exact hM, frM.r⟩) ⟨rfl, rfl, rfl, trivial⟩
  · refine n_iconst 0 rfl dX12_anyDays_14 ?_
    refine a_zret dX12_anyDays_15 rfl (Or.inl rfl) ?_
    exact h0 _ (S, dr, mi, br, cr) hR (show rMi (S, dr, mi, br, cr) = rDay n (S, dr, mi, br, cr) from (if_neg (show ¬ S 0 1 + n ≤ 9999 by omega)).symm) fr.r

set_option maxRecDepth 100000 in
set_option maxHeartbeats 800000 in
theorem c_X12_isBrought {M : Mm} {S : ST} {dr mi br cr : Nat} (hR : MW M (S, dr, mi, br, cr)) (hF : WF S) (hd9 : S 0 1 ≤ 9999) (hdr : dr < 65536) {k : Nat} (hn9 : k ≤ 30) {Q : Option Value → Mm → Prop} (h1 : ∀ M', MW M' (rBr k (S, dr, mi, br, cr)) → FMY M M' → Q (some (.int (nI 1))) M') (h0 : ∀ M' R1, MW M' R1 → rMi R1 = rBr k (S, dr, mi, br, cr) → FMY M M' → Q (some (.int (nI 0))) M') (d : Nat) : AMt miX12_isBrought (d + 4) [.ref 132, .int (nI k)] M Q := by
  refine AMt.of (by decide) (Nat.le_of_ble_eq_true rfl) ?_
  show AW miX12_isBrought (d + 4) (mxA Q) 0 [(0, some (.ref 132)), (1, some (.int (nI k)))] [] M
  obtain ⟨hM, g40, g42, g44, g45⟩ : VM 0 M S ∧ M.1 132 40 = nI dr ∧ M.1 132 42 = nI mi ∧ M.1 132 44 = nI br ∧ M.1 132 45 = nI cr := id hR
  have hm := WF_m hF
  have hh := WF_h hF
  have hs := WF_s hF
  have hn := WF_n hF
  refine a_aload_n rfl dX12_isBrought_0 ?_
  refine a_iload_n rfl dX12_isBrought_1 ?_
  refine n_callV (mi' := miX12_brings) dX12_isBrought_2 lX12_400 mX12_brings (by decide) rfl rfl rfl (c_X12_brings hM hF (by omega) (fun h_2 ha_2 hb_2 hV_2 => ?_) (fun h_2 => ?_) d) rfl rfl (by omega) (by decide) (Nat.le_of_ble_eq_true rfl)
  · show AW _ _ _ _ _ _ _
    refine a_istore_n (by decide) rfl dX12_isBrought_5 ?_
    refine a_aload_n rfl dX12_isBrought_6 ?_
    refine a_dup rfl dX12_isBrought_7 ?_
    refine g_i (siN (siN g44 (by omega)) (by omega)) (by decide) rfl fX12_536 rfl dX12_isBrought_8 ?_
    refine a_iload_n rfl dX12_isBrought_11 ?_
    refine n_if_eq 19 (by decide) dX12_isBrought_12 (by decide) (fun h => absurd h (by decide)) (fun _ => ?_)
    refine n_iconst 1 rfl dX12_isBrought_15 ?_
    refine a_goto 20 dX12_isBrought_16 (by decide) ?_
    refine n_iadd dX12_isBrought_20 ?_
    refine a_puti dX12_isBrought_21 pX12_536 (by decide) rfl rfl ?_
    refine a_iload_n rfl dX12_isBrought_24 ?_
    refine a_zret dX12_isBrought_25 rfl (Or.inr rfl) ?_
    have hab := WF_about hF k h_2
    have hcl := WF_clear hF _ hab
    have hfc : WF (comeN S k) := WF_comeN hF
    exact h1 _ (by rw [show rBr k (S, dr, mi, br, cr) = (comeN S k, dr, mi, br + 1, cr) from if_pos (show k < S 0 5 ∧ S 11 k = 0 ∧ S 2 (S 9 k) < 100 from ⟨h_2, ha_2, by omega⟩)]; exact MW_mk (VM_si hV_2 hfc) (siN (siN (siN g40 (by omega)) (by omega)) (by omega)) (siN (siN (siN g42 (by omega)) (by omega)) (by omega)) siS (siN (siN (siN g45 (by omega)) (by omega)) (by omega))) (((fr.r.si (by unfold fmP; omega)).si (by unfold fmP; omega)).si (by unfold fmP; omega))
  · show AW _ _ _ _ _ _ _
    refine a_istore_n (by decide) rfl dX12_isBrought_5 ?_
    refine a_aload_n rfl dX12_isBrought_6 ?_
    refine a_dup rfl dX12_isBrought_7 ?_
    refine g_i g44 (by decide) rfl fX12_536 rfl dX12_isBrought_8 ?_
    refine a_iload_n rfl dX12_isBrought_11 ?_
    refine n_if_eq 19 (by decide) dX12_isBrought_12 (by decide) (fun _ => ?_) (fun h => absurd h (by decide))
    refine n_iconst 0 rfl dX12_isBrought_19 ?_
    refine n_iadd dX12_isBrought_20 ?_
    refine a_puti dX12_isBrought_21 pX12_536 (by decide) rfl rfl ?_
    refine a_iload_n rfl dX12_isBrought_24 ?_
    refine a_zret dX12_isBrought_25 rfl (Or.inl rfl) ?_
    exact h0 _ (S, dr, mi, br, cr) (MW_mk (VM_si hM hF) (siN g40 (by omega)) (siN g42 (by omega)) siS (siN g45 (by omega))) (show rMi (S, dr, mi, br, cr) = rBr k (S, dr, mi, br, cr) from (if_neg (show ¬ (k < S 0 5 ∧ S 11 k = 0 ∧ S 2 (S 9 k) < 100) from fun q => h_2 ⟨q.1, q.2.1, by omega⟩)).symm) (fr.r.si (by unfold fmP; omega))

theorem WF_hupd {S : ST} (h : WF S) {k v : Nat} (hv : v ≤ 100) : WF (hupd S k v) := by
  obtain ⟨h0, h1, h2, h3, h4, h5, a1, a2, a3, a4, a5, a6, a7, a8, a9, a10, a11, a12⟩ := h
  refine ⟨h0, h1, h2, h3, h4, h5, a1, fun j hj => ?_, a3, a4, a5, a6, a7, a8, a9, a10, a11, a12⟩
  show (if _ then _ else _) ≤ 100
  split
  · exact hv
  · exact a2 j hj

set_option maxRecDepth 100000 in
set_option maxHeartbeats 800000 in
theorem c_X12_isClouded {M : Mm} {S : ST} {dr mi br cr : Nat} (hR : MW M (S, dr, mi, br, cr)) (hF : WF S) (hd9 : S 0 1 ≤ 9999) (hdr : dr < 65536) {a n : Nat} (ha : a < S 0 2) (hn9 : n ≤ 100) {Q : Option Value → Mm → Prop} (h1 : ∀ M', MW M' (rCr a n (S, dr, mi, br, cr)) → FMY M M' → Q (some (.int (nI 1))) M') (h0 : ∀ M' R1, MW M' R1 → rMi R1 = rCr a n (S, dr, mi, br, cr) → FMY M M' → Q (some (.int (nI 0))) M') (d : Nat) : AMt miX12_isClouded (d + 4) [.ref 132, .int (nI a), .int (nI n)] M Q := by
  refine AMt.of (by decide) (Nat.le_of_ble_eq_true rfl) ?_
  show AW miX12_isClouded (d + 4) (mxA Q) 0 [(0, some (.ref 132)), (1, some (.int (nI a))), (2, some (.int (nI n)))] [] M
  obtain ⟨hM, g40, g42, g44, g45⟩ : VM 0 M S ∧ M.1 132 40 = nI dr ∧ M.1 132 42 = nI mi ∧ M.1 132 44 = nI br ∧ M.1 132 45 = nI cr := id hR
  have hm := WF_m hF
  have hh := WF_h hF
  have hs := WF_s hF
  have hn := WF_n hF
  have hca := WF_clear hF a ha
  refine a_aload_n rfl dX12_isClouded_0 ?_
  refine a_iload_n rfl dX12_isClouded_1 ?_
  refine a_iload_n rfl dX12_isClouded_2 ?_
  refine n_callV (mi' := miX12_clouds) dX12_isClouded_3 lX12_403 mX12_clouds (by decide) rfl rfl rfl (c_X12_clouds hM hF (by omega) (by omega) (fun h_3 hV_3 => ?_) (fun h_3 => ?_) d) rfl rfl (by omega) (by decide) (Nat.le_of_ble_eq_true rfl)
  · show AW _ _ _ _ _ _ _
    refine a_istore_n (by decide) rfl dX12_isClouded_6 ?_
    refine a_aload_n rfl dX12_isClouded_7 ?_
    refine a_dup rfl dX12_isClouded_8 ?_
    refine g_i (siN g45 (by omega)) (by decide) rfl fX12_539 rfl dX12_isClouded_9 ?_
    refine a_iload_n rfl dX12_isClouded_12 ?_
    refine n_if_eq 20 (by decide) dX12_isClouded_13 (by decide) (fun h => absurd h (by decide)) (fun _ => ?_)
    refine n_iconst 1 rfl dX12_isClouded_16 ?_
    refine a_goto 21 dX12_isClouded_17 (by decide) ?_
    refine n_iadd dX12_isClouded_21 ?_
    refine a_puti dX12_isClouded_22 pX12_539 (by decide) rfl rfl ?_
    refine a_iload_n rfl dX12_isClouded_25 ?_
    refine a_zret dX12_isClouded_26 rfl (Or.inr rfl) ?_
    exact h1 _ (by rw [show rCr a n (S, dr, mi, br, cr) = (hupd S a (S 2 a - n), dr, mi, br, cr + 1) from if_neg h_3]; exact MW_mk (VM_si hV_3 (WF_hupd hF (by omega))) (siN (siN g40 (by omega)) (by omega)) (siN (siN g42 (by omega)) (by omega)) (siN (siN g44 (by omega)) (by omega)) siS) ((fr.r.si (by unfold fmP; omega)).si (by unfold fmP; omega))
  · show AW _ _ _ _ _ _ _
    refine a_istore_n (by decide) rfl dX12_isClouded_6 ?_
    refine a_aload_n rfl dX12_isClouded_7 ?_
    refine a_dup rfl dX12_isClouded_8 ?_
    refine g_i g45 (by decide) rfl fX12_539 rfl dX12_isClouded_9 ?_
    refine a_iload_n rfl dX12_isClouded_12 ?_
    refine n_if_eq 20 (by decide) dX12_isClouded_13 (by decide) (fun _ => ?_) (fun h => absurd h (by decide))
    refine n_iconst 0 rfl dX12_isClouded_20 ?_
    refine n_iadd dX12_isClouded_21 ?_
    refine a_puti dX12_isClouded_22 pX12_539 (by decide) rfl rfl ?_
    refine a_iload_n rfl dX12_isClouded_25 ?_
    refine a_zret dX12_isClouded_26 rfl (Or.inl rfl) ?_
    exact h0 _ (S, dr, mi, br, cr) (MW_mk (VM_si hM hF) (siN g40 (by omega)) (siN g42 (by omega)) (siN g44 (by omega)) siS) (show rMi (S, dr, mi, br, cr) = rCr a n (S, dr, mi, br, cr) from (if_pos h_3).symm) (fr.r.si (by unfold fmP; omega))

set_option maxRecDepth 100000 in
set_option maxHeartbeats 800000 in
theorem c_X12_isAny {M : Mm} {S : ST} {dr mi br cr : Nat} (hR : MW M (S, dr, mi, br, cr)) (hF : WF S) (hd9 : S 0 1 ≤ 9999) (hdr : dr < 65536) {Q : Option Value → Mm → Prop} (h1 : ∀ M', MW M' (rAny (S, dr, mi, br, cr)) → FMY M M' → Q (some (.int (nI 1))) M') (h0 : ∀ M' R1, MW M' R1 → rMi R1 = rAny (S, dr, mi, br, cr) → FMY M M' → Q (some (.int (nI 0))) M') (d : Nat) : AMt miX12_isAny (d + 5) [.ref 132] M Q := by
  refine AMt.of (by decide) (Nat.le_of_ble_eq_true rfl) ?_
  show AW miX12_isAny (d + 5) (mxA Q) 0 [(0, some (.ref 132))] [] M
  obtain ⟨hM, g40, g42, g44, g45⟩ : VM 0 M S ∧ M.1 132 40 = nI dr ∧ M.1 132 42 = nI mi ∧ M.1 132 44 = nI br ∧ M.1 132 45 = nI cr := id hR
  have hm := WF_m hF
  have hh := WF_h hF
  have hs := WF_s hF
  have hn := WF_n hF
  have hod := WF_odds hF
  refine a_aload_n rfl dX12_isAny_0 ?_
  refine a_geta dX12_isAny_1 fX12_35 (by decide) rfl rfl ?_
  refine n_iconst 0 rfl dX12_isAny_4 ?_
  refine v_iald (by omega) (VM_s0 hM) (by decide) rfl (by decide) dX12_isAny_5 ?_
  refine n_if_ne 11 (by omega) dX12_isAny_6 (by decide) (fun h_6 => ?_) (fun h_6 => ?_)
  · refine a_aload_n rfl dX12_isAny_11 ?_
    refine a_aload_n rfl dX12_isAny_12 ?_
    refine a_geta dX12_isAny_13 fX12_35 (by decide) rfl rfl ?_
    refine n_iconst 0 rfl dX12_isAny_16 ?_
    refine v_iald (by omega) (VM_s0 hM) (by decide) rfl (by decide) dX12_isAny_17 ?_
    refine n_callV (mi' := miX12_draw) dX12_isAny_18 lX12_542 mX12_draw (by decide) rfl rfl rfl (c_X12_draw g40 hdr (by omega) (by omega) ?_ d) rfl rfl (by omega) (by decide) (Nat.le_of_ble_eq_true rfl)
    show AW _ _ _ _ _ _ _
    have hR1 := MW_dr (x := drw dr) hR hF
    have hVd1 : VM 0 (siM M 132 40 (nI (drw dr))) S := hR1.1
    have hmod : drw dr / 8 % S 0 2 < S 0 2 := Nat.mod_lt _ (by omega)
    refine a_istore_n (by decide) rfl dX12_isAny_21 ?_
    refine a_aload_n rfl dX12_isAny_22 ?_
    refine n_bipush 16 rfl dX12_isAny_23 ?_
    refine n_callV (mi' := miX12_draw) dX12_isAny_25 lX12_542 mX12_draw (by decide) rfl rfl rfl (c_X12_draw siS (drw_lt _) (by omega) (by omega) ?_ d) rfl rfl (by omega) (by decide) (Nat.le_of_ble_eq_true rfl)
    show AW _ _ _ _ _ _ _
    have hR2 := MW_dr (x := drw (drw dr)) hR1 hF
    have hVd2 : VM 0 (siM (siM M 132 40 (nI (drw dr))) 132 40 (nI (drw (drw dr)))) S := hR2.1
    refine a_aload_n rfl dX12_isAny_28 ?_
    refine a_geta dX12_isAny_29 fX12_35 (by decide) rfl rfl ?_
    refine n_iconst 4 rfl dX12_isAny_32 ?_
    refine v_iald (by omega) (VM_s4 hVd2) (by decide) rfl (by decide) dX12_isAny_33 ?_
    refine n_icmp_ge 53 (by omega) (by omega) dX12_isAny_34 (by decide) (fun h_34 => ?_) (fun h_34 => ?_)
    · refine a_aload_n rfl dX12_isAny_53 ?_
      refine n_iconst 1 rfl dX12_isAny_54 ?_
      refine n_callV (mi' := miX12_anyDays) dX12_isAny_55 lX12_548 mX12_anyDays (by decide) rfl rfl rfl (c_X12_anyDays hR2 hF hd9 (drw_lt _) (n := 1) (by omega) (fun M_55 hr_55 hf_55 => ?_) (fun M_55 R_55 hr_55 he_55 hf_55 => ?_) d) rfl rfl (by omega) (by decide) (Nat.le_of_ble_eq_true rfl)
      · show AW _ _ _ _ _ _ _
        refine a_zret dX12_isAny_58 rfl (Or.inr rfl) ?_
        exact h1 _ (by rw [show rAny (S, dr, mi, br, cr) = rDay 1 (S, drw (drw dr), mi, br, cr) from (if_neg h_6).trans (if_neg (show ¬ drw (drw dr) / 8 % 16 < S 0 0 by omega))]; exact hr_55) (((fr.r.si (by unfold fmP; omega)).si (by unfold fmP; omega)).t hf_55)
      · show AW _ _ _ _ _ _ _
        refine a_zret dX12_isAny_58 rfl (Or.inl rfl) ?_
        exact h0 _ _ hr_55 (he_55.trans (show rAny (S, dr, mi, br, cr) = rDay 1 (S, drw (drw dr), mi, br, cr) from (if_neg h_6).trans (if_neg (show ¬ drw (drw dr) / 8 % 16 < S 0 0 by omega))).symm) (((fr.r.si (by unfold fmP; omega)).si (by unfold fmP; omega)).t hf_55)
    · refine a_aload_n rfl dX12_isAny_37 ?_
      refine a_iload_n rfl dX12_isAny_38 ?_
      refine a_aload_n rfl dX12_isAny_39 ?_
      refine n_bipush 50 rfl dX12_isAny_40 ?_
      refine n_callV (mi' := miX12_draw) dX12_isAny_42 lX12_542 mX12_draw (by decide) rfl rfl rfl (c_X12_draw siS (drw_lt _) (by omega) (by omega) ?_ d) rfl rfl (by omega) (by decide) (Nat.le_of_ble_eq_true rfl)
      show AW _ _ _ _ _ _ _
      have hR3 := MW_dr (x := drw (drw (drw dr))) hR2 hF
      have hVd3 : VM 0 (siM (siM (siM M 132 40 (nI (drw dr))) 132 40 (nI (drw (drw dr)))) 132 40 (nI (drw (drw (drw dr))))) S := hR3.1
      refine n_iconst 1 rfl dX12_isAny_45 ?_
      refine n_iadd dX12_isAny_46 ?_
      refine n_callV (mi' := miX12_isClouded) dX12_isAny_47 lX12_545 mX12_isClouded (by decide) rfl rfl rfl (c_X12_isClouded hR3 hF hd9 (drw_lt _) hmod (by omega) (fun M_47 hr_47 hf_47 => ?_) (fun M_47 R_47 hr_47 he_47 hf_47 => ?_) d) rfl rfl (by omega) (by decide) (Nat.le_of_ble_eq_true rfl)
      · show AW _ _ _ _ _ _ _
        refine a_goto 58 dX12_isAny_50 (by decide) ?_
        refine a_zret dX12_isAny_58 rfl (Or.inr rfl) ?_
        exact h1 _ (by rw [show rAny (S, dr, mi, br, cr) = rCr (drw dr / 8 % S 0 2) (drw (drw (drw dr)) / 8 % 50 + 1) (S, drw (drw (drw dr)), mi, br, cr) from (if_neg h_6).trans (if_pos (show drw (drw dr) / 8 % 16 < S 0 0 by omega))]; exact hr_47) ((((fr.r.si (by unfold fmP; omega)).si (by unfold fmP; omega)).si (by unfold fmP; omega)).t hf_47)
      · show AW _ _ _ _ _ _ _
        refine a_goto 58 dX12_isAny_50 (by decide) ?_
        refine a_zret dX12_isAny_58 rfl (Or.inl rfl) ?_
        exact h0 _ _ hr_47 (he_47.trans (show rAny (S, dr, mi, br, cr) = rCr (drw dr / 8 % S 0 2) (drw (drw (drw dr)) / 8 % 50 + 1) (S, drw (drw (drw dr)), mi, br, cr) from (if_neg h_6).trans (if_pos (show drw (drw dr) / 8 % 16 < S 0 0 by omega))).symm) ((((fr.r.si (by unfold fmP; omega)).si (by unfold fmP; omega)).si (by unfold fmP; omega)).t hf_47)
  · refine n_iconst 0 rfl dX12_isAny_9 ?_
    refine a_zret dX12_isAny_10 rfl (Or.inl rfl) ?_
    exact h0 _ (S, dr, mi, br, cr) hR (show rMi (S, dr, mi, br, cr) = rAny (S, dr, mi, br, cr) from (if_pos h_6).symm) fr.r

set_option maxRecDepth 100000 in
set_option maxHeartbeats 800000 in
theorem c_does0 {M : Mm} {S : ST} {dr mi br cr : Nat} (hR : MW M (S, dr, mi, br, cr)) (hF : WF S) (hd9 : S 0 1 ≤ 9999) (hdr : dr < 65536) {c0 : Nat} {s : Nat → Nat} (hc0 : c0 ≤ 1000) (hk : M.1 137 c0 = nI 0) (hk1 : M.1 137 (c0 + 1) = nI (s 2)) (h2 : s 2 ≤ 40) {Q : Option Value → Mm → Prop} (h1 : ∀ M', MW M' (rDay (s 2) (S, dr, mi, br, cr)) → FMY M M' → Q (some (.int (nI 1))) M') (h0 : ∀ M' R1, MW M' R1 → rMi R1 = rDay (s 2) (S, dr, mi, br, cr) → FMY M M' → Q (some (.int (nI 0))) M') (d : Nat) : AMt miX12_does (d + 6) [.ref 132, .int (nI c0)] M Q := by
  refine AMt.of (by decide) (Nat.le_of_ble_eq_true rfl) ?_
  show AW miX12_does (d + 6) (mxA Q) 0 [(0, some (.ref 132)), (1, some (.int (nI c0)))] [] M
  obtain ⟨hM, g40, g42, g44, g45⟩ : VM 0 M S ∧ M.1 132 40 = nI dr ∧ M.1 132 42 = nI mi ∧ M.1 132 44 = nI br ∧ M.1 132 45 = nI cr := id hR
  have hm := WF_m hF
  have hh := WF_h hF
  have hs := WF_s hF
  have hn := WF_n hF
  refine a_aload_n rfl dX12_does_0 ?_
  refine a_geta dX12_does_1 fX12_35 (by decide) rfl rfl ?_
  refine a_iload_n rfl dX12_does_4 ?_
  refine v_iald (by omega) hk (by decide) rfl (by decide) dX12_does_5 ?_
  refine a_istore_n (by decide) rfl dX12_does_6 ?_
  refine a_aload_n rfl dX12_does_7 ?_
  refine a_geta dX12_does_8 fX12_35 (by decide) rfl rfl ?_
  refine a_iload_n rfl dX12_does_11 ?_
  refine n_iconst 1 rfl dX12_does_12 ?_
  refine n_iadd dX12_does_13 ?_
  refine v_iald (by omega) hk1 (by decide) rfl (by decide) dX12_does_14 ?_
  refine a_istore_n (by decide) rfl dX12_does_15 ?_
  refine a_iload_n rfl dX12_does_16 ?_
  refine n_if_ne 26 (by decide) dX12_does_17 (by decide) (fun h => absurd h (by decide)) (fun _ => ?_)
  refine a_aload_n rfl dX12_does_20 ?_
  refine a_iload_n rfl dX12_does_21 ?_
  refine n_callV (mi' := miX12_anyDays) dX12_does_22 lX12_548 mX12_anyDays (by decide) rfl rfl rfl (c_X12_anyDays hR hF hd9 hdr (by omega) (fun M_22 hr_22 hf_22 => ?_) (fun M_22 R_22 hr_22 he_22 hf_22 => ?_) d) rfl rfl (by omega) (by decide) (Nat.le_of_ble_eq_true rfl)
  · show AW _ _ _ _ _ _ _
    refine a_zret dX12_does_25 rfl (Or.inr rfl) ?_
    exact h1 _ hr_22 hf_22
  · show AW _ _ _ _ _ _ _
    refine a_zret dX12_does_25 rfl (Or.inl rfl) ?_
    exact h0 _ _ hr_22 he_22 hf_22

set_option maxRecDepth 100000 in
set_option maxHeartbeats 800000 in
theorem c_does1 {M : Mm} {S : ST} {dr mi br cr : Nat} (hR : MW M (S, dr, mi, br, cr)) (hF : WF S) (hd9 : S 0 1 ≤ 9999) (hdr : dr < 65536) {c0 : Nat} {s : Nat → Nat} (hc0 : c0 ≤ 1000) (hk : M.1 137 c0 = nI 1) (hk1 : M.1 137 (c0 + 1) = nI (s 2)) (h2 : s 2 ≤ 7) {Q : Option Value → Mm → Prop} (h1 : ∀ M', MW M' (rBr (s 2) (S, dr, mi, br, cr)) → FMY M M' → Q (some (.int (nI 1))) M') (h0 : ∀ M' R1, MW M' R1 → rMi R1 = rBr (s 2) (S, dr, mi, br, cr) → FMY M M' → Q (some (.int (nI 0))) M') (d : Nat) : AMt miX12_does (d + 6) [.ref 132, .int (nI c0)] M Q := by
  refine AMt.of (by decide) (Nat.le_of_ble_eq_true rfl) ?_
  show AW miX12_does (d + 6) (mxA Q) 0 [(0, some (.ref 132)), (1, some (.int (nI c0)))] [] M
  obtain ⟨hM, g40, g42, g44, g45⟩ : VM 0 M S ∧ M.1 132 40 = nI dr ∧ M.1 132 42 = nI mi ∧ M.1 132 44 = nI br ∧ M.1 132 45 = nI cr := id hR
  have hm := WF_m hF
  have hh := WF_h hF
  have hs := WF_s hF
  have hn := WF_n hF
  refine a_aload_n rfl dX12_does_0 ?_
  refine a_geta dX12_does_1 fX12_35 (by decide) rfl rfl ?_
  refine a_iload_n rfl dX12_does_4 ?_
  refine v_iald (by omega) hk (by decide) rfl (by decide) dX12_does_5 ?_
  refine a_istore_n (by decide) rfl dX12_does_6 ?_
  refine a_aload_n rfl dX12_does_7 ?_
  refine a_geta dX12_does_8 fX12_35 (by decide) rfl rfl ?_
  refine a_iload_n rfl dX12_does_11 ?_
  refine n_iconst 1 rfl dX12_does_12 ?_
  refine n_iadd dX12_does_13 ?_
  refine v_iald (by omega) hk1 (by decide) rfl (by decide) dX12_does_14 ?_
  refine a_istore_n (by decide) rfl dX12_does_15 ?_
  refine a_iload_n rfl dX12_does_16 ?_
  refine n_if_ne 26 (by decide) dX12_does_17 (by decide) (fun _ => ?_) (fun h => absurd h (by decide))
  refine a_iload_n rfl dX12_does_26 ?_
  refine n_iconst 1 rfl dX12_does_27 ?_
  refine n_icmp_ne 37 (by omega) (by omega) dX12_does_28 (by decide) (fun h_28 => absurd h_28 (by omega)) (fun h_28 => ?_)
  refine a_aload_n rfl dX12_does_31 ?_
  refine a_iload_n rfl dX12_does_32 ?_
  refine n_callV (mi' := miX12_isBrought) dX12_does_33 lX12_551 mX12_isBrought (by decide) rfl rfl rfl (c_X12_isBrought hR hF hd9 hdr (by omega) (fun M_33 hr_33 hf_33 => ?_) (fun M_33 R_33 hr_33 he_33 hf_33 => ?_) d) rfl rfl (by omega) (by decide) (Nat.le_of_ble_eq_true rfl)
  · show AW _ _ _ _ _ _ _
    refine a_zret dX12_does_36 rfl (Or.inr rfl) ?_
    exact h1 _ hr_33 hf_33
  · show AW _ _ _ _ _ _ _
    refine a_zret dX12_does_36 rfl (Or.inl rfl) ?_
    exact h0 _ _ hr_33 he_33 hf_33

set_option maxRecDepth 100000 in
set_option maxHeartbeats 800000 in
theorem c_does2 {M : Mm} {S : ST} {dr mi br cr : Nat} (hR : MW M (S, dr, mi, br, cr)) (hF : WF S) (hd9 : S 0 1 ≤ 9999) (hdr : dr < 65536) {c0 : Nat} {s : Nat → Nat} (hc0 : c0 ≤ 1000) (hk : M.1 137 c0 = nI 2) (hk1 : M.1 137 (c0 + 1) = nI (s 1)) (hk2 : M.1 137 (c0 + 2) = nI (s 2)) (ha : s 1 < S 0 2) (h2 : s 2 ≤ 100) {Q : Option Value → Mm → Prop} (h1 : ∀ M', MW M' (rCr (s 1) (s 2) (S, dr, mi, br, cr)) → FMY M M' → Q (some (.int (nI 1))) M') (h0 : ∀ M' R1, MW M' R1 → rMi R1 = rCr (s 1) (s 2) (S, dr, mi, br, cr) → FMY M M' → Q (some (.int (nI 0))) M') (d : Nat) : AMt miX12_does (d + 6) [.ref 132, .int (nI c0)] M Q := by
  refine AMt.of (by decide) (Nat.le_of_ble_eq_true rfl) ?_
  show AW miX12_does (d + 6) (mxA Q) 0 [(0, some (.ref 132)), (1, some (.int (nI c0)))] [] M
  obtain ⟨hM, g40, g42, g44, g45⟩ : VM 0 M S ∧ M.1 132 40 = nI dr ∧ M.1 132 42 = nI mi ∧ M.1 132 44 = nI br ∧ M.1 132 45 = nI cr := id hR
  have hm := WF_m hF
  have hh := WF_h hF
  have hs := WF_s hF
  have hn := WF_n hF
  refine a_aload_n rfl dX12_does_0 ?_
  refine a_geta dX12_does_1 fX12_35 (by decide) rfl rfl ?_
  refine a_iload_n rfl dX12_does_4 ?_
  refine v_iald (by omega) hk (by decide) rfl (by decide) dX12_does_5 ?_
  refine a_istore_n (by decide) rfl dX12_does_6 ?_
  refine a_aload_n rfl dX12_does_7 ?_
  refine a_geta dX12_does_8 fX12_35 (by decide) rfl rfl ?_
  refine a_iload_n rfl dX12_does_11 ?_
  refine n_iconst 1 rfl dX12_does_12 ?_
  refine n_iadd dX12_does_13 ?_
  refine v_iald (by omega) hk1 (by decide) rfl (by decide) dX12_does_14 ?_
  refine a_istore_n (by decide) rfl dX12_does_15 ?_
  refine a_iload_n rfl dX12_does_16 ?_
  refine n_if_ne 26 (by decide) dX12_does_17 (by decide) (fun _ => ?_) (fun h => absurd h (by decide))
  refine a_iload_n rfl dX12_does_26 ?_
  refine n_iconst 1 rfl dX12_does_27 ?_
  refine n_icmp_ne 37 (by omega) (by omega) dX12_does_28 (by decide) (fun h_28 => ?_) (fun h_28 => absurd h_28 (by omega))
  refine a_iload_n rfl dX12_does_37 ?_
  refine n_iconst 2 rfl dX12_does_38 ?_
  refine n_icmp_ne 56 (by omega) (by omega) dX12_does_39 (by decide) (fun h_39 => absurd h_39 (by omega)) (fun h_39 => ?_)
  refine a_aload_n rfl dX12_does_42 ?_
  refine a_iload_n rfl dX12_does_43 ?_
  refine a_aload_n rfl dX12_does_44 ?_
  refine a_geta dX12_does_45 fX12_35 (by decide) rfl rfl ?_
  refine a_iload_n rfl dX12_does_48 ?_
  refine n_iconst 2 rfl dX12_does_49 ?_
  refine n_iadd dX12_does_50 ?_
  refine v_iald (by omega) hk2 (by decide) rfl (by decide) dX12_does_51 ?_
  refine n_callV (mi' := miX12_isClouded) dX12_does_52 lX12_545 mX12_isClouded (by decide) rfl rfl rfl (c_X12_isClouded hR hF hd9 hdr ha (by omega) (fun M_52 hr_52 hf_52 => ?_) (fun M_52 R_52 hr_52 he_52 hf_52 => ?_) d) rfl rfl (by omega) (by decide) (Nat.le_of_ble_eq_true rfl)
  · show AW _ _ _ _ _ _ _
    refine a_zret dX12_does_55 rfl (Or.inr rfl) ?_
    exact h1 _ hr_52 hf_52
  · show AW _ _ _ _ _ _ _
    refine a_zret dX12_does_55 rfl (Or.inl rfl) ?_
    exact h0 _ _ hr_52 he_52 hf_52

set_option maxRecDepth 100000 in
set_option maxHeartbeats 800000 in
theorem c_does3 {M : Mm} {S : ST} {dr mi br cr : Nat} (hR : MW M (S, dr, mi, br, cr)) (hF : WF S) (hd9 : S 0 1 ≤ 9999) (hdr : dr < 65536) {c0 : Nat} {s : Nat → Nat} (hc0 : c0 ≤ 1000) (hk : M.1 137 c0 = nI 3) (hk1 : M.1 137 (c0 + 1) = nI (s 1)) (hk2 : M.1 137 (c0 + 2) = nI (s 2)) (ha : s 1 < S 0 4) (h2 : s 2 < S 0 2) {Q : Option Value → Mm → Prop} (h1 : ∀ M', MW M' (rTu (s 1) (s 2) (S, dr, mi, br, cr)) → FMY M M' → Q (some (.int (nI 1))) M') (h0 : ∀ M' R1, MW M' R1 → rMi R1 = rTu (s 1) (s 2) (S, dr, mi, br, cr) → FMY M M' → Q (some (.int (nI 0))) M') (d : Nat) : AMt miX12_does (d + 6) [.ref 132, .int (nI c0)] M Q := by
  refine AMt.of (by decide) (Nat.le_of_ble_eq_true rfl) ?_
  show AW miX12_does (d + 6) (mxA Q) 0 [(0, some (.ref 132)), (1, some (.int (nI c0)))] [] M
  obtain ⟨hM, g40, g42, g44, g45⟩ : VM 0 M S ∧ M.1 132 40 = nI dr ∧ M.1 132 42 = nI mi ∧ M.1 132 44 = nI br ∧ M.1 132 45 = nI cr := id hR
  have hm := WF_m hF
  have hh := WF_h hF
  have hs := WF_s hF
  have hn := WF_n hF
  refine a_aload_n rfl dX12_does_0 ?_
  refine a_geta dX12_does_1 fX12_35 (by decide) rfl rfl ?_
  refine a_iload_n rfl dX12_does_4 ?_
  refine v_iald (by omega) hk (by decide) rfl (by decide) dX12_does_5 ?_
  refine a_istore_n (by decide) rfl dX12_does_6 ?_
  refine a_aload_n rfl dX12_does_7 ?_
  refine a_geta dX12_does_8 fX12_35 (by decide) rfl rfl ?_
  refine a_iload_n rfl dX12_does_11 ?_
  refine n_iconst 1 rfl dX12_does_12 ?_
  refine n_iadd dX12_does_13 ?_
  refine v_iald (by omega) hk1 (by decide) rfl (by decide) dX12_does_14 ?_
  refine a_istore_n (by decide) rfl dX12_does_15 ?_
  refine a_iload_n rfl dX12_does_16 ?_
  refine n_if_ne 26 (by decide) dX12_does_17 (by decide) (fun _ => ?_) (fun h => absurd h (by decide))
  refine a_iload_n rfl dX12_does_26 ?_
  refine n_iconst 1 rfl dX12_does_27 ?_
  refine n_icmp_ne 37 (by omega) (by omega) dX12_does_28 (by decide) (fun h_28 => ?_) (fun h_28 => absurd h_28 (by omega))
  refine a_iload_n rfl dX12_does_37 ?_
  refine n_iconst 2 rfl dX12_does_38 ?_
  refine n_icmp_ne 56 (by omega) (by omega) dX12_does_39 (by decide) (fun h_39 => ?_) (fun h_39 => absurd h_39 (by omega))
  refine a_iload_n rfl dX12_does_56 ?_
  refine n_iconst 3 rfl dX12_does_57 ?_
  refine n_icmp_ne 80 (by omega) (by omega) dX12_does_58 (by decide) (fun h_58 => absurd h_58 (by omega)) (fun h_58 => ?_)
  refine a_aload_n rfl dX12_does_61 ?_
  refine n_bipush 52 rfl dX12_does_62 ?_
  refine a_iload_n rfl dX12_does_64 ?_
  refine n_iadd dX12_does_65 ?_
  refine a_aload_n rfl dX12_does_66 ?_
  refine a_geta dX12_does_67 fX12_35 (by decide) rfl rfl ?_
  refine a_iload_n rfl dX12_does_70 ?_
  refine n_iconst 2 rfl dX12_does_71 ?_
  refine n_iadd dX12_does_72 ?_
  refine v_iald (by omega) hk2 (by decide) rfl (by decide) dX12_does_73 ?_
  refine n_callV (mi' := miX12_becomes) dX12_does_74 lX12_406 mX12_becomes (by decide) rfl rfl rfl (c_X12_becomes hM hF ha h2 (fun h_74 hV_74 => ?_) (fun h_74 => ?_) d) rfl rfl (by omega) (by decide) (Nat.le_of_ble_eq_true rfl)
  · show AW _ _ _ _ _ _ _
    refine a_goto 84 dX12_does_77 (by decide) ?_
    refine a_zret dX12_does_84 rfl (Or.inr rfl) ?_
    exact h1 _ (by rw [show rTu (s 1) (s 2) (S, dr, mi, br, cr) = (upS2 S 7 (s 1) (s 2), dr, mi, br, cr) from if_neg h_74]; exact MW_mk hV_74 (siN g40 (by omega)) (siN g42 (by omega)) (siN g44 (by omega)) (siN g45 (by omega))) (fr.r.si (by unfold fmP; omega))
  · show AW _ _ _ _ _ _ _
    refine a_goto 84 dX12_does_77 (by decide) ?_
    refine a_zret dX12_does_84 rfl (Or.inl rfl) ?_
    exact h0 _ (S, dr, mi, br, cr) hR (show rMi (S, dr, mi, br, cr) = rTu (s 1) (s 2) (S, dr, mi, br, cr) from (if_pos h_74).symm) fr.r

set_option maxRecDepth 100000 in
set_option maxHeartbeats 800000 in
theorem c_does4 {M : Mm} {S : ST} {dr mi br cr : Nat} (hR : MW M (S, dr, mi, br, cr)) (hF : WF S) (hd9 : S 0 1 ≤ 9999) (hdr : dr < 65536) {c0 : Nat} {s : Nat → Nat} (hc0 : c0 ≤ 1000) (hk : M.1 137 c0 = nI 4)  {Q : Option Value → Mm → Prop} (h1 : ∀ M', MW M' (rAny (S, dr, mi, br, cr)) → FMY M M' → Q (some (.int (nI 1))) M') (h0 : ∀ M' R1, MW M' R1 → rMi R1 = rAny (S, dr, mi, br, cr) → FMY M M' → Q (some (.int (nI 0))) M') (d : Nat) : AMt miX12_does (d + 6) [.ref 132, .int (nI c0)] M Q := by
  refine AMt.of (by decide) (Nat.le_of_ble_eq_true rfl) ?_
  show AW miX12_does (d + 6) (mxA Q) 0 [(0, some (.ref 132)), (1, some (.int (nI c0)))] [] M
  obtain ⟨hM, g40, g42, g44, g45⟩ : VM 0 M S ∧ M.1 132 40 = nI dr ∧ M.1 132 42 = nI mi ∧ M.1 132 44 = nI br ∧ M.1 132 45 = nI cr := id hR
  have hm := WF_m hF
  have hh := WF_h hF
  have hs := WF_s hF
  have hn := WF_n hF
  refine a_aload_n rfl dX12_does_0 ?_
  refine a_geta dX12_does_1 fX12_35 (by decide) rfl rfl ?_
  refine a_iload_n rfl dX12_does_4 ?_
  refine v_iald (by omega) hk (by decide) rfl (by decide) dX12_does_5 ?_
  refine a_istore_n (by decide) rfl dX12_does_6 ?_
  refine a_aload_n rfl dX12_does_7 ?_
  refine a_geta dX12_does_8 fX12_35 (by decide) rfl rfl ?_
  refine a_iload_n rfl dX12_does_11 ?_
  refine n_iconst 1 rfl dX12_does_12 ?_
  refine n_iadd dX12_does_13 ?_
  refine n_iald (by omega) (by decide) rfl (by decide) dX12_does_14 ?_
  refine a_istore_n (by decide) rfl dX12_does_15 ?_
  refine a_iload_n rfl dX12_does_16 ?_
  refine n_if_ne 26 (by decide) dX12_does_17 (by decide) (fun _ => ?_) (fun h => absurd h (by decide))
  refine a_iload_n rfl dX12_does_26 ?_
  refine n_iconst 1 rfl dX12_does_27 ?_
  refine n_icmp_ne 37 (by omega) (by omega) dX12_does_28 (by decide) (fun h_28 => ?_) (fun h_28 => absurd h_28 (by omega))
  refine a_iload_n rfl dX12_does_37 ?_
  refine n_iconst 2 rfl dX12_does_38 ?_
  refine n_icmp_ne 56 (by omega) (by omega) dX12_does_39 (by decide) (fun h_39 => ?_) (fun h_39 => absurd h_39 (by omega))
  refine a_iload_n rfl dX12_does_56 ?_
  refine n_iconst 3 rfl dX12_does_57 ?_
  refine n_icmp_ne 80 (by omega) (by omega) dX12_does_58 (by decide) (fun h_58 => ?_) (fun h_58 => absurd h_58 (by omega))
  refine a_aload_n rfl dX12_does_80 ?_
  refine n_callV (mi' := miX12_isAny) dX12_does_81 lX12_554 mX12_isAny (by decide) rfl rfl rfl (c_X12_isAny hR hF hd9 hdr (fun M_81 hr_81 hf_81 => ?_) (fun M_81 R_81 hr_81 he_81 hf_81 => ?_) d) rfl rfl (by omega) (by decide) (Nat.le_of_ble_eq_true rfl)
  · show AW _ _ _ _ _ _ _
    refine a_zret dX12_does_84 rfl (Or.inr rfl) ?_
    exact h1 _ hr_81 hf_81
  · show AW _ _ _ _ _ _ _
    refine a_zret dX12_does_84 rfl (Or.inl rfl) ?_
    exact h0 _ _ hr_81 he_81 hf_81

set_option maxRecDepth 100000 in
set_option maxHeartbeats 800000 in
theorem c_X12_holds {M : Mm} {S : ST} (hM : VM 0 M S) (hF : WF S) {c0 : Nat} {s : Nat → Nat} (hc0 : c0 ≤ 1000) (hk1 : M.1 137 (c0 + 1) = nI (s 1)) (hk5 : M.1 137 (c0 + 5) = nI (s 3 - 19)) (hk6 : s 3 = 21 → M.1 137 (c0 + 6) = nI (s 2) ∧ M.1 137 (c0 + 7) = nI (s 4)) (h3 : 19 ≤ s 3 ∧ s 3 ≤ 21) (hm20 : s 3 = 20 → s 1 < S 0 2) (hm19 : s 3 ≠ 20 → s 1 < S 0 4) (hs2 : s 3 = 21 → s 2 ≤ 99) (hs4 : s 3 = 21 → s 4 = 60 ∨ s 4 = 61 ∨ s 4 = 62) {Q : Option Value → Mm → Prop} (h1 : soN S s = true → Q (some (.int (nI 1))) M) (h0 : soN S s = false → Q (some (.int (nI 0))) M) (d : Nat) : AMt miX12_holds (d + 3) [.ref 132, .int (nI c0)] M Q := by
  refine AMt.of (by decide) (Nat.le_of_ble_eq_true rfl) ?_
  show AW miX12_holds (d + 3) (mxA Q) 0 [(0, some (.ref 132)), (1, some (.int (nI c0)))] [] M
  have hm := WF_m hF
  have hh := WF_h hF
  have hs := WF_s hF
  have hn := WF_n hF
  refine a_aload_n rfl dX12_holds_0 ?_
  refine a_geta dX12_holds_1 fX12_35 (by decide) rfl rfl ?_
  refine a_iload_n rfl dX12_holds_4 ?_
  refine n_iconst 5 rfl dX12_holds_5 ?_
  refine n_iadd dX12_holds_6 ?_
  refine v_iald (by omega) hk5 (by decide) rfl (by decide) dX12_holds_7 ?_
  refine a_istore_n (by decide) rfl dX12_holds_8 ?_
  refine a_aload_n rfl dX12_holds_9 ?_
  refine a_geta dX12_holds_10 fX12_35 (by decide) rfl rfl ?_
  refine a_iload_n rfl dX12_holds_13 ?_
  refine n_iconst 1 rfl dX12_holds_14 ?_
  refine n_iadd dX12_holds_15 ?_
  refine v_iald (by omega) hk1 (by decide) rfl (by decide) dX12_holds_16 ?_
  refine a_istore_n (by decide) rfl dX12_holds_17 ?_
  refine a_iload_n rfl dX12_holds_18 ?_
  refine n_iconst 1 rfl dX12_holds_19 ?_
  refine n_icmp_ne 29 (by omega) (by omega) dX12_holds_20 (by decide) (fun h_20 => ?_) (fun h_20 => ?_)
  · have hsp := hm19 (by omega)
    have htl := WF_tall hF (s 1) hsp
    have hhl := hgt_le (S 6 (s 1)) (S 2 (S 7 (s 1)))
    have hgE : hgP S (s 1) = hgt (S 6 (s 1)) (S 2 (S 7 (s 1))) := rfl
    refine a_aload_n rfl dX12_holds_29 ?_
    refine a_iload_n rfl dX12_holds_30 ?_
    refine n_callV (mi' := miX12_heightOf) dX12_holds_31 lX12_340 mX12_heightOf (by decide) rfl rfl rfl (c_X12_heightOf hM hF (by omega) ?_ d) rfl rfl (by omega) (by decide) (Nat.le_of_ble_eq_true rfl)
    show AW _ _ _ _ _ _ _
    refine a_istore (by decide) rfl dX12_holds_34 ?_
    refine a_iload_n rfl dX12_holds_36 ?_
    refine n_if_ne 51 (by omega) dX12_holds_37 (by decide) (fun h_37 => ?_) (fun h_37 => ?_)
    · have hs29 := hs2 (by omega)
      have hs49 := hs4 (by omega)
      refine a_aload_n rfl dX12_holds_51 ?_
      refine a_geta dX12_holds_52 fX12_35 (by decide) rfl rfl ?_
      refine a_iload_n rfl dX12_holds_55 ?_
      refine n_bipush 7 rfl dX12_holds_56 ?_
      refine n_iadd dX12_holds_58 ?_
      refine v_iald (by omega) (hk6 (by omega)).2 (by decide) rfl (by decide) dX12_holds_59 ?_
      refine n_bipush 60 rfl dX12_holds_60 ?_
      refine n_icmp_ne 87 (by omega) (by omega) dX12_holds_62 (by decide) (fun h_62 => ?_) (fun h_62 => ?_)
      · refine a_aload_n rfl dX12_holds_87 ?_
        refine a_geta dX12_holds_88 fX12_35 (by decide) rfl rfl ?_
        refine a_iload_n rfl dX12_holds_91 ?_
        refine n_bipush 7 rfl dX12_holds_92 ?_
        refine n_iadd dX12_holds_94 ?_
        refine v_iald (by omega) (hk6 (by omega)).2 (by decide) rfl (by decide) dX12_holds_95 ?_
        refine n_bipush 62 rfl dX12_holds_96 ?_
        refine n_icmp_ne 123 (by omega) (by omega) dX12_holds_98 (by decide) (fun h_98 => ?_) (fun h_98 => ?_)
        · refine a_iload rfl dX12_holds_123 ?_
          refine a_aload_n rfl dX12_holds_125 ?_
          refine a_geta dX12_holds_126 fX12_35 (by decide) rfl rfl ?_
          refine a_iload_n rfl dX12_holds_129 ?_
          refine n_bipush 6 rfl dX12_holds_130 ?_
          refine n_iadd dX12_holds_132 ?_
          refine v_iald (by omega) (hk6 (by omega)).1 (by decide) rfl (by decide) dX12_holds_133 ?_
          refine n_icmp_ne 141 (by omega) (by omega) dX12_holds_134 (by decide) (fun h_134 => ?_) (fun h_134 => ?_)
          · refine n_iconst 0 rfl dX12_holds_141 ?_
            refine a_zret dX12_holds_142 rfl (Or.inl rfl) ?_
            exact h0 (by unfold soN; rw [if_neg (show ¬ s 3 = 20 by omega), if_pos (show s 3 = 21 by omega), if_neg (show ¬ s 4 = 60 by omega), if_neg (show ¬ s 4 = 62 by omega)]; exact decide_eq_false (by omega))
          · refine n_iconst 1 rfl dX12_holds_137 ?_
            refine a_goto 142 dX12_holds_138 (by decide) ?_
            refine a_zret dX12_holds_142 rfl (Or.inr rfl) ?_
            exact h1 (by unfold soN; rw [if_neg (show ¬ s 3 = 20 by omega), if_pos (show s 3 = 21 by omega), if_neg (show ¬ s 4 = 60 by omega), if_neg (show ¬ s 4 = 62 by omega)]; exact decide_eq_true (by omega))
        · refine a_iload rfl dX12_holds_101 ?_
          refine a_aload_n rfl dX12_holds_103 ?_
          refine a_geta dX12_holds_104 fX12_35 (by decide) rfl rfl ?_
          refine a_iload_n rfl dX12_holds_107 ?_
          refine n_bipush 6 rfl dX12_holds_108 ?_
          refine n_iadd dX12_holds_110 ?_
          refine v_iald (by omega) (hk6 (by omega)).1 (by decide) rfl (by decide) dX12_holds_111 ?_
          refine n_icmp_le 119 (by omega) (by omega) dX12_holds_112 (by decide) (fun h_112 => ?_) (fun h_112 => ?_)
          · refine n_iconst 0 rfl dX12_holds_119 ?_
            refine a_goto 142 dX12_holds_120 (by decide) ?_
            refine a_zret dX12_holds_142 rfl (Or.inl rfl) ?_
            exact h0 (by unfold soN; rw [if_neg (show ¬ s 3 = 20 by omega), if_pos (show s 3 = 21 by omega), if_neg (show ¬ s 4 = 60 by omega), if_pos (show s 4 = 62 by omega)]; exact decide_eq_false (by omega))
          · refine n_iconst 1 rfl dX12_holds_115 ?_
            refine a_goto 142 dX12_holds_116 (by decide) ?_
            refine a_zret dX12_holds_142 rfl (Or.inr rfl) ?_
            exact h1 (by unfold soN; rw [if_neg (show ¬ s 3 = 20 by omega), if_pos (show s 3 = 21 by omega), if_neg (show ¬ s 4 = 60 by omega), if_pos (show s 4 = 62 by omega)]; exact decide_eq_true (by omega))
      · refine a_iload rfl dX12_holds_65 ?_
        refine a_aload_n rfl dX12_holds_67 ?_
        refine a_geta dX12_holds_68 fX12_35 (by decide) rfl rfl ?_
        refine a_iload_n rfl dX12_holds_71 ?_
        refine n_bipush 6 rfl dX12_holds_72 ?_
        refine n_iadd dX12_holds_74 ?_
        refine v_iald (by omega) (hk6 (by omega)).1 (by decide) rfl (by decide) dX12_holds_75 ?_
        refine n_icmp_ge 83 (by omega) (by omega) dX12_holds_76 (by decide) (fun h_76 => ?_) (fun h_76 => ?_)
        · refine n_iconst 0 rfl dX12_holds_83 ?_
          refine a_goto 142 dX12_holds_84 (by decide) ?_
          refine a_zret dX12_holds_142 rfl (Or.inl rfl) ?_
          exact h0 (by unfold soN; rw [if_neg (show ¬ s 3 = 20 by omega), if_pos (show s 3 = 21 by omega), if_pos (show s 4 = 60 by omega)]; exact decide_eq_false (by omega))
        · refine n_iconst 1 rfl dX12_holds_79 ?_
          refine a_goto 142 dX12_holds_80 (by decide) ?_
          refine a_zret dX12_holds_142 rfl (Or.inr rfl) ?_
          exact h1 (by unfold soN; rw [if_neg (show ¬ s 3 = 20 by omega), if_pos (show s 3 = 21 by omega), if_pos (show s 4 = 60 by omega)]; exact decide_eq_true (by omega))
    · refine a_iload rfl dX12_holds_40 ?_
      refine n_if_ne 49 (by omega) dX12_holds_42 (by decide) (fun h_42 => ?_) (fun h_42 => ?_)
      · refine n_iconst 0 rfl dX12_holds_49 ?_
        refine a_zret dX12_holds_50 rfl (Or.inl rfl) ?_
        exact h0 (by unfold soN; rw [if_neg (show ¬ s 3 = 20 by omega), if_neg (show ¬ s 3 = 21 by omega)]; exact decide_eq_false (by omega))
      · refine n_iconst 1 rfl dX12_holds_45 ?_
        refine a_goto 50 dX12_holds_46 (by decide) ?_
        refine a_zret dX12_holds_50 rfl (Or.inr rfl) ?_
        exact h1 (by unfold soN; rw [if_neg (show ¬ s 3 = 20 by omega), if_neg (show ¬ s 3 = 21 by omega)]; exact decide_eq_true (by omega))
  · have hcl := WF_clear hF (s 1) (hm20 (by omega))
    refine a_aload_n rfl dX12_holds_23 ?_
    refine a_iload_n rfl dX12_holds_24 ?_
    refine n_callV (mi' := miX12_isSettled) dX12_holds_25 lX12_328 mX12_isSettled (by decide) rfl rfl rfl (c_X12_isSettled hM hF (hm20 (by omega)) (fun h_25 => ?_) (fun h_25 => ?_) d) rfl rfl (by omega) (by decide) (Nat.le_of_ble_eq_true rfl)
    · show AW _ _ _ _ _ _ _
      refine a_zret dX12_holds_28 rfl (Or.inr rfl) ?_
      exact h1 (by unfold soN; rw [if_pos (show s 3 = 20 by omega)]; exact decide_eq_true (by omega))
    · show AW _ _ _ _ _ _ _
      refine a_zret dX12_holds_28 rfl (Or.inl rfl) ?_
      exact h0 (by unfold soN; rw [if_pos (show s 3 = 20 by omega)]; exact decide_eq_false (by omega))

def trN (R : TRY) (x : Int32) : Nat := if inN x 4 then (if lenI R (idx x) < 0 then 3 else 0) else 1
theorem trN_le (R : TRY) (x : Int32) : trN R x ≤ 3 := by unfold trN; split <;> (try split) <;> omega
theorem why_tr {R : TRY} {x p : Int32} {c : Nat} (h : trN R x ≠ 0) : whyN R x p c = trN R x := by
  unfold trN at *; unfold whyN
  by_cases h1 : inN x 4
  · rw [if_pos h1] at h ⊢; rw [if_pos h1]
    by_cases h2 : lenI R (idx x) < 0
    · rw [if_pos h2, if_pos h2]
    · rw [if_neg h2] at h; exact absurd rfl h
  · rw [if_neg h1, if_neg h1]
theorem trN_0 {R : TRY} {x : Int32} (h : trN R x = 0) : inN x 4 ∧ 0 ≤ lenI R (idx x) := by
  unfold trN at h
  split at h
  · split at h
    · omega
    · exact ⟨by assumption, by omega⟩
  · omega

set_option maxRecDepth 100000 in
set_option maxHeartbeats 800000 in
theorem c_X12_trayed {M : Mm} {R : TRY} (hR : RM M R) (hG : RG R) {x : Int32} {Q : Option Value → Mm → Prop} (hQ : Q (some (.int (nI (trN R x)))) M) (d : Nat) : AMt miX12_trayed (d) [.ref 132, .int x] M Q := by
  refine AMt.of (by decide) (Nat.le_of_ble_eq_true rfl) ?_
  show AW miX12_trayed (d) (mxA Q) 0 [(0, some (.ref 132)), (1, some (.int x))] [] M
  refine a_iload_n rfl dX12_trayed_0 ?_
  refine r_if_lt 9 dX12_trayed_1 (by decide) (fun h_1 => ?_) (fun h_1 => ?_)
  · refine n_iconst 1 rfl dX12_trayed_9 ?_
    refine a_goto 27 dX12_trayed_10 (by decide) ?_
    refine a_iret dX12_trayed_27 rfl ?_
    rw [show trN R x = 1 by unfold trN; rw [if_neg (by omega)]] at hQ
    exact hQ
  · refine a_iload_n rfl dX12_trayed_4 ?_
    refine n_iconst 4 rfl dX12_trayed_5 ?_
    refine r_icmp_lt 13 (by omega) dX12_trayed_6 (by decide) (fun h_6 => ?_) (fun h_6 => ?_)
    · obtain ⟨t, ht, rfl⟩ := inR_of (x := x) (m := 4) (by omega) (by omega) (by omega)
      have t_t : (nI t).toInt = (t : Int) := nI_toInt (by omega)
      have i_t : idx (nI t) = t := idx_nI (by omega)
      have hl := RM_len hR hG (t := t) (by omega)
      refine a_aload_n rfl dX12_trayed_13 ?_
      refine a_geta dX12_trayed_14 fX12_17 (by decide) rfl rfl ?_
      refine a_iload_n rfl dX12_trayed_17 ?_
      refine n_iald (by omega) (by decide) rfl (by decide) dX12_trayed_18 ?_
      refine r_if_ge 26 dX12_trayed_19 (by decide) (fun h_19 => ?_) (fun h_19 => ?_)
      · refine n_iconst 0 rfl dX12_trayed_26 ?_
        refine a_iret dX12_trayed_27 rfl ?_
        rw [show trN R (nI t) = 0 by unfold trN; rw [if_pos (by omega), i_t, if_neg (by omega)]] at hQ
        exact hQ
      · refine n_iconst 3 rfl dX12_trayed_22 ?_
        refine a_goto 27 dX12_trayed_23 (by decide) ?_
        refine a_iret dX12_trayed_27 rfl ?_
        rw [show trN R (nI t) = 3 by unfold trN; rw [if_pos (by omega), i_t, if_pos (by omega)]] at hQ
        exact hQ
    · refine n_iconst 1 rfl dX12_trayed_9 ?_
      refine a_goto 27 dX12_trayed_10 (by decide) ?_
      refine a_iret dX12_trayed_27 rfl ?_
      rw [show trN R x = 1 by unfold trN; rw [if_neg (by omega)]] at hQ
      exact hQ

set_option maxRecDepth 100000 in
set_option maxHeartbeats 800000 in
theorem c_X12_placed {M : Mm} {R : TRY} (hR : RM M R) (hG : RG R) {x p : Int32} {Q : Option Value → Mm → Prop} (hQ : Q (some (.int (nI (whyN R x p 1)))) M) (d : Nat) : AMt miX12_placed (d + 1) [.ref 132, .int x, .int p] M Q := by
  refine AMt.of (by decide) (Nat.le_of_ble_eq_true rfl) ?_
  show AW miX12_placed (d + 1) (mxA Q) 0 [(0, some (.ref 132)), (1, some (.int x)), (2, some (.int p))] [] M
  have hw0 := trN_le R x
  refine a_aload_n rfl dX12_placed_0 ?_
  refine a_iload_n rfl dX12_placed_1 ?_
  refine n_callV (mi' := miX12_trayed) dX12_placed_2 lX12_88 mX12_trayed (by decide) rfl rfl rfl (c_X12_trayed hR hG ?_ d) rfl rfl (by omega) (by decide) (Nat.le_of_ble_eq_true rfl)
  show AW _ _ _ _ _ _ _
  refine a_istore_n (by decide) rfl dX12_placed_5 ?_
  refine a_iload_n rfl dX12_placed_6 ?_
  refine n_if_le 14 (by omega) dX12_placed_7 (by decide) (fun h_7 => ?_) (fun h_7 => ?_)
  · obtain ⟨ha0, hb0⟩ := trN_0 h_7
    have hx0 := lenI_le hG (t := idx x) (by unfold idx; omega)
    obtain ⟨t, ht, rfl⟩ := inR_of (x := x) (m := 4) (by omega) (by omega) (by omega)
    have t_t : (nI t).toInt = (t : Int) := nI_toInt (by omega)
    have i_t : idx (nI t) = t := idx_nI (by omega)
    have hl := RM_len hR hG (t := t) (by omega)
    rw [i_t] at hb0 hx0
    refine a_iload_n rfl dX12_placed_14 ?_
    refine r_if_lt 28 dX12_placed_15 (by decide) (fun h_15 => ?_) (fun h_15 => ?_)
    · refine n_iconst 4 rfl dX12_placed_28 ?_
      refine a_goto 33 dX12_placed_29 (by decide) ?_
      refine a_iret dX12_placed_33 rfl ?_
      rw [show whyN R (nI t) p 1 = 4 by unfold whyN; rw [if_pos (by omega), i_t, if_neg (by omega), if_neg (by omega)]] at hQ
      exact hQ
    · refine a_iload_n rfl dX12_placed_18 ?_
      refine a_aload_n rfl dX12_placed_19 ?_
      refine a_geta dX12_placed_20 fX12_17 (by decide) rfl rfl ?_
      refine a_iload_n rfl dX12_placed_23 ?_
      refine n_iald (by omega) (by decide) rfl (by decide) dX12_placed_24 ?_
      refine u_icmp_lt 32 dX12_placed_25 (by decide) (fun h_25 => ?_) (fun h_25 => ?_)
      · refine n_iconst 0 rfl dX12_placed_32 ?_
        refine a_iret dX12_placed_33 rfl ?_
        rw [show whyN R (nI t) p 1 = 0 by unfold whyN; rw [if_pos (by omega), i_t, if_neg (by omega), if_pos (by omega)]] at hQ
        exact hQ
      · refine n_iconst 4 rfl dX12_placed_28 ?_
        refine a_goto 33 dX12_placed_29 (by decide) ?_
        refine a_iret dX12_placed_33 rfl ?_
        rw [show whyN R (nI t) p 1 = 4 by unfold whyN; rw [if_pos (by omega), i_t, if_neg (by omega), if_neg (by omega)]] at hQ
        exact hQ
  · refine a_iload_n rfl dX12_placed_10 ?_
    refine a_goto 33 dX12_placed_11 (by decide) ?_
    refine a_iret dX12_placed_33 rfl ?_
    rw [why_tr h_7] at hQ
    exact hQ

set_option maxRecDepth 100000 in
set_option maxHeartbeats 800000 in
theorem c_X12_cut {M : Mm} {a : Nat} {v : Int64} (ha : a ≤ 3) {Q : Option Value → Mm → Prop} (hQ : Q (some (.long (cutN a v))) M) (d : Nat) : AMt miX12_cut (d) [.int (nI a), .long v] M Q := by
  refine AMt.of (by decide) (Nat.le_of_ble_eq_true rfl) ?_
  show AW miX12_cut (d) (mxA Q) 0 [(0, some (.int (nI a))), (1, some (.long v))] [] M
  refine a_iload_n rfl dX12_cut_0 ?_
  refine n_if_ne 11 (by omega) dX12_cut_1 (by decide) (fun h_1 => ?_) (fun h_1 => ?_)
  · refine a_iload_n rfl dX12_cut_11 ?_
    refine n_iconst 1 rfl dX12_cut_12 ?_
    refine n_icmp_ne 23 (by omega) (by omega) dX12_cut_13 (by decide) (fun h_13 => ?_) (fun h_13 => ?_)
    · refine a_iload_n rfl dX12_cut_23 ?_
      refine n_iconst 2 rfl dX12_cut_24 ?_
      refine n_icmp_ne 34 (by omega) (by omega) dX12_cut_25 (by decide) (fun h_25 => ?_) (fun h_25 => ?_)
      · refine a_lload_n rfl dX12_cut_34 ?_
        refine a_lret dX12_cut_35 rfl ?_
        rw [show cutN a v = _ from by unfold cutN; rw [if_neg (by omega), if_neg (by omega), if_neg (by omega)]] at hQ
        exact hQ
      · refine a_lload_n rfl dX12_cut_28 ?_
        refine a_l2i dX12_cut_29 ?_
        refine a_i2l dX12_cut_30 ?_
        refine a_goto 35 dX12_cut_31 (by decide) ?_
        refine a_lret dX12_cut_35 rfl ?_
        rw [show cutN a v = _ from by unfold cutN; rw [if_neg (by omega), if_neg (by omega), if_pos (by omega)]] at hQ
        exact hQ
    · refine a_lload_n rfl dX12_cut_16 ?_
      refine a_l2i dX12_cut_17 ?_
      refine a_i2s dX12_cut_18 ?_
      refine a_i2l dX12_cut_19 ?_
      refine a_goto 35 dX12_cut_20 (by decide) ?_
      refine a_lret dX12_cut_35 rfl ?_
      rw [show cutN a v = _ from by unfold cutN; rw [if_neg (by omega), if_pos (by omega)]] at hQ
      exact hQ
  · refine a_lload_n rfl dX12_cut_4 ?_
    refine a_l2i dX12_cut_5 ?_
    refine a_i2b dX12_cut_6 ?_
    refine a_i2l dX12_cut_7 ?_
    refine a_goto 35 dX12_cut_8 (by decide) ?_
    refine a_lret dX12_cut_35 rfl ?_
    rw [show cutN a v = _ from by unfold cutN; rw [if_pos (by omega)]] at hQ
    exact hQ

theorem RM_lay {M M1 : Mm} {R : TRY} (h : RM M R) (hG : RG R) {t a n : Nat} (ht : t < 4) (ha : a ≤ 3) (hn : n ≤ 60) (hz : ∀ j, j < n → M1.2 135 (60 * t + j) = 0) (h1 : M1.1 133 t = nI a) (h2 : M1.1 134 t = nI n) (hf : fr (fun k j => (k = 132 ∧ (j = 0 ∨ j = 1)) ∨ (133 ≤ k ∧ k ≤ 134 ∧ j = t) ∨ (k = 135 ∧ 60 * t ≤ j ∧ j < 60 * t + 60)) M M1) : RM M1 (layR R t a n) := by
  refine RM_mk (RG_lay hG ha hn) (fun b hb => ?_) (fun b hb => ?_) (fun b j hb hj => ?_)
  · show _ = nI (if b = t then a else R.1 b)
    by_cases e : b = t
    · rw [if_pos e, e]; exact h1
    · rw [if_neg e]; exact hf.i (RM_sort h hb) (by omega)
  · show _ = (match (if b = t then some n else R.2.1 b) with | none => (-1 : Int) | some n => n)
    by_cases e : b = t
    · rw [if_pos e, e, h2, nI_toInt (by omega)]
    · rw [if_neg e, (hf 134 b (by omega)).1]; exact RM_len h hG hb
  · have hj : (j : Int) < (match (if b = t then some n else R.2.1 b) with | none => (-1 : Int) | some n => n) := hj
    show _ = if b = t then 0 else R.2.2 b j
    by_cases e : b = t
    · rw [if_pos e] at hj ⊢
      rw [e]
      have hj : (j : Int) < n := hj
      exact hz j (by omega)
    · rw [if_neg e] at hj ⊢
      have h60 := (lenI_le hG hb).2
      have hj : (j : Int) < lenI R b := hj
      exact hf.l (RM_dat h hb hj) (by omega)

set_option maxRecDepth 100000 in
set_option maxHeartbeats 800000 in
theorem c_X12_tray {M : Mm} {T : TT} (hI : IM M T) (hG : TG T) {x y z : Int32} {Q : Option Value → Mm → Prop} (hQ : ∀ M', IM M' (sp_tray x y z T).2 → keX M M' → Q (some (.int (sp_tray x y z T).1)) M') (d : Nat) : AMt miX12_tray (d + 3) [.ref 132, .int x, .int y, .int z] M Q := by
  refine AMt.of (by decide) (Nat.le_of_ble_eq_true rfl) ?_
  show AW miX12_tray (d + 3) (mxA Q) 0 [(0, some (.ref 132)), (1, some (.int x)), (2, some (.int y)), (3, some (.int z))] [] M
  refine a_aload_n rfl dX12_tray_0 ?_
  refine n_iconst 0 rfl dX12_tray_1 ?_
  refine a_puti dX12_tray_2 pX12_69 (by decide) rfl rfl ?_
  refine a_aload_n rfl dX12_tray_5 ?_
  refine n_iconst 0 rfl dX12_tray_6 ?_
  refine a_puti dX12_tray_7 pX12_72 (by decide) rfl rfl ?_
  show AW miX12_tray (d + 3) (mxA Q) 10 [(0, some (.ref 132)), (1, some (.int x)), (2, some (.int y)), (3, some (.int z))] [] (m0 M)
  refine a_iload_n rfl dX12_tray_10 ?_
  refine r_if_lt 28 dX12_tray_11 (by decide) (fun h_11 => ?_) (fun h_11 => ?_)
  · refine a_aload_n rfl dX12_tray_28 ?_
    refine n_iconst 1 rfl dX12_tray_29 ?_
    refine n_callV (mi' := miX12_no) dX12_tray_30 lX12_84 mX12_no (by decide) rfl rfl rfl (c_X12_no ?_ d) rfl rfl (by omega) (by decide) (Nat.le_of_ble_eq_true rfl)
    show AW _ _ _ _ _ _ _
    refine a_zret dX12_tray_33 rfl (Or.inl rfl) ?_
    exact fin_qM hQ hI hG (by unfold sp_tray; rw [if_neg (by omega)]) siS (m0_fr.si (by unfold scM coM; omega))
  · refine a_iload_n rfl dX12_tray_14 ?_
    refine n_iconst 4 rfl dX12_tray_15 ?_
    refine r_icmp_ge 28 (by omega) dX12_tray_16 (by decide) (fun h_16 => ?_) (fun h_16 => ?_)
    · refine a_aload_n rfl dX12_tray_28 ?_
      refine n_iconst 1 rfl dX12_tray_29 ?_
      refine n_callV (mi' := miX12_no) dX12_tray_30 lX12_84 mX12_no (by decide) rfl rfl rfl (c_X12_no ?_ d) rfl rfl (by omega) (by decide) (Nat.le_of_ble_eq_true rfl)
      show AW _ _ _ _ _ _ _
      refine a_zret dX12_tray_33 rfl (Or.inl rfl) ?_
      exact fin_qM hQ hI hG (by unfold sp_tray; rw [if_neg (by omega)]) siS (m0_fr.si (by unfold scM coM; omega))
    · refine a_iload_n rfl dX12_tray_19 ?_
      refine r_if_lt 28 dX12_tray_20 (by decide) (fun h_20 => ?_) (fun h_20 => ?_)
      · refine a_aload_n rfl dX12_tray_28 ?_
        refine n_iconst 1 rfl dX12_tray_29 ?_
        refine n_callV (mi' := miX12_no) dX12_tray_30 lX12_84 mX12_no (by decide) rfl rfl rfl (c_X12_no ?_ d) rfl rfl (by omega) (by decide) (Nat.le_of_ble_eq_true rfl)
        show AW _ _ _ _ _ _ _
        refine a_zret dX12_tray_33 rfl (Or.inl rfl) ?_
        exact fin_qM hQ hI hG (by unfold sp_tray; rw [if_neg (by omega)]) siS (m0_fr.si (by unfold scM coM; omega))
      · refine a_iload_n rfl dX12_tray_23 ?_
        refine n_iconst 3 rfl dX12_tray_24 ?_
        refine r_icmp_le 34 (by omega) dX12_tray_25 (by decide) (fun h_25 => ?_) (fun h_25 => ?_)
        · refine a_iload_n rfl dX12_tray_34 ?_
          refine n_bipush 60 rfl dX12_tray_35 ?_
          refine r_icmp_le 46 (by omega) dX12_tray_37 (by decide) (fun h_37 => ?_) (fun h_37 => ?_)
          · refine a_iload_n rfl dX12_tray_46 ?_
            refine r_if_ge 57 dX12_tray_47 (by decide) (fun h_47 => ?_) (fun h_47 => ?_)
            · obtain ⟨t, ht, rfl⟩ := inR_of (x := x) (m := 4) (by omega) (by omega) (by omega)
              have t_t : (nI t).toInt = (t : Int) := nI_toInt (by omega)
              have i_t : idx (nI t) = t := idx_nI (by omega)
              obtain ⟨a, ha, rfl⟩ := inR_of (x := y) (m := 4) (by omega) (by omega) (by omega)
              have t_a : (nI a).toInt = (a : Int) := nI_toInt (by omega)
              have i_a : idx (nI a) = a := idx_nI (by omega)
              obtain ⟨n, hn, rfl⟩ := inR_of (x := z) (m := 61) (by omega) (by omega) (by omega)
              have t_n : (nI n).toInt = (n : Int) := nI_toInt (by omega)
              have i_n : idx (nI n) = n := idx_nI (by omega)
              refine a_aload_n rfl dX12_tray_57 ?_
              refine a_geta dX12_tray_58 fX12_13 (by decide) rfl rfl ?_
              refine a_iload_n rfl dX12_tray_61 ?_
              refine a_iload_n rfl dX12_tray_62 ?_
              refine n_iast (by omega) (by decide) rfl (by decide) dX12_tray_63 ?_
              refine a_aload_n rfl dX12_tray_64 ?_
              refine a_geta dX12_tray_65 fX12_17 (by decide) rfl rfl ?_
              refine a_iload_n rfl dX12_tray_68 ?_
              refine a_iload_n rfl dX12_tray_69 ?_
              refine n_iast (by omega) (by decide) rfl (by decide) dX12_tray_70 ?_
              refine n_iconst 0 rfl dX12_tray_71 ?_
              refine a_istore (by decide) rfl dX12_tray_72 ?_
              have loop_74 : ∀ i, i ≤ n → ∀ M1, ((∀ j, j < i → (M1).2 135 (60 * t + j) = 0) ∧ fr (fun k j => k = 135 ∧ 60 * t ≤ j ∧ j < 60 * t + 60) (siM (siM (m0 M) 133 t (nI a)) 134 t (nI n)) M1) → AW miX12_tray (d + 3) (mxA Q) 74 [(0, some (.ref 132)), (1, some (.int (nI t))), (2, some (.int (nI a))), (3, some (.int (nI n))), (4, some (.int (nI i)))] [] M1 := by
                refine up (W := fun i => ∀ M1, ((∀ j, j < i → (M1).2 135 (60 * t + j) = 0) ∧ fr (fun k j => k = 135 ∧ 60 * t ≤ j ∧ j < 60 * t + 60) (siM (siM (m0 M) 133 t (nI a)) 134 t (nI n)) M1) → AW miX12_tray (d + 3) (mxA Q) 74 [(0, some (.ref 132)), (1, some (.int (nI t))), (2, some (.int (nI a))), (3, some (.int (nI n))), (4, some (.int (nI i)))] [] M1) n (fun M1 hI_74 => ?_) (fun i hi_74 ih_74 M1 hI_74 => ?_)
                · refine a_iload rfl dX12_tray_74 ?_
                  refine a_iload_n rfl dX12_tray_76 ?_
                  refine n_icmp_ge 99 (by omega) (by omega) dX12_tray_77 (by decide) (fun h_77 => ?_) (fun h_77 => absurd h_77 (by omega))
                  refine n_iconst 1 rfl dX12_tray_99 ?_
                  refine a_zret dX12_tray_100 rfl (Or.inr rfl) ?_
                  have hf2 : fr (fun k j => (k = 132 ∧ (j = 0 ∨ j = 1)) ∨ (133 ≤ k ∧ k ≤ 134 ∧ j = t) ∨ (k = 135 ∧ 60 * t ≤ j ∧ j < 60 * t + 60)) M M1 := (((m0_fr2.mo (fun k j h => Or.inl h)).si (by omega)).si (by omega)).t (hI_74.2.mo (fun k j h => Or.inr (Or.inr h)))
                  refine fin_RM hQ hI hG (R' := layR (tR T) t a n) (by unfold sp_tray; rw [if_pos (by omega), if_neg (by omega), if_neg (by omega), i_t, i_a, i_n]) (RM_lay hI.2.1 hG.2.1 (by omega) (by omega) (by omega) hI_74.1 (hI_74.2.i (siN siS (by omega)) (by omega)) (hI_74.2.i siS (by omega)) hf2) (hI_74.2.i (siN (siN m0_s (by omega)) (by omega)) (by omega)) (hf2.mo (fun k j h => by omega))
                · refine a_iload rfl dX12_tray_74 ?_
                  refine a_iload_n rfl dX12_tray_76 ?_
                  refine n_icmp_ge 99 (by omega) (by omega) dX12_tray_77 (by decide) (fun h_77 => absurd h_77 (by omega)) (fun h_77 => ?_)
                  refine a_aload_n rfl dX12_tray_80 ?_
                  refine a_geta dX12_tray_81 fX12_20 (by decide) rfl rfl ?_
                  refine n_bipush 60 rfl dX12_tray_84 ?_
                  refine a_iload_n rfl dX12_tray_86 ?_
                  refine n_imul dX12_tray_87 ?_
                  refine a_iload rfl dX12_tray_88 ?_
                  refine n_iadd dX12_tray_90 ?_
                  refine a_lconst 0 rfl dX12_tray_91 ?_
                  refine n_last (by omega) (by decide) rfl (by decide) dX12_tray_92 ?_
                  refine n_iinc (c := 1) rfl rfl (by decide) rfl dX12_tray_93 ?_
                  refine a_goto 74 dX12_tray_96 (by decide) ?_
                  exact a_bk (ih_74 _ ⟨sl_all hI_74.1, hI_74.2.sl (by omega)⟩) ⟨rfl, rfl, rfl, rfl, rfl, trivial⟩
              exact a_bk (loop_74 0 (by omega) _ ⟨fun j hj => absurd hj (by omega), fr.r⟩) ⟨rfl, rfl, rfl, rfl, rfl, trivial⟩
            · refine a_aload_n rfl dX12_tray_50 ?_
              refine n_bipush 6 rfl dX12_tray_51 ?_
              refine n_callV (mi' := miX12_no) dX12_tray_53 lX12_84 mX12_no (by decide) rfl rfl rfl (c_X12_no ?_ d) rfl rfl (by omega) (by decide) (Nat.le_of_ble_eq_true rfl)
              show AW _ _ _ _ _ _ _
              refine a_zret dX12_tray_56 rfl (Or.inl rfl) ?_
              exact fin_qM hQ hI hG (by unfold sp_tray; rw [if_pos (by omega), if_neg (by omega), if_pos (by omega)]) siS (m0_fr.si (by unfold scM coM; omega))
          · refine a_aload_n rfl dX12_tray_40 ?_
            refine n_iconst 5 rfl dX12_tray_41 ?_
            refine n_callV (mi' := miX12_no) dX12_tray_42 lX12_84 mX12_no (by decide) rfl rfl rfl (c_X12_no ?_ d) rfl rfl (by omega) (by decide) (Nat.le_of_ble_eq_true rfl)
            show AW _ _ _ _ _ _ _
            refine a_zret dX12_tray_45 rfl (Or.inl rfl) ?_
            exact fin_qM hQ hI hG (by unfold sp_tray; rw [if_pos (by omega), if_pos (by omega)]) siS (m0_fr.si (by unfold scM coM; omega))
        · refine a_aload_n rfl dX12_tray_28 ?_
          refine n_iconst 1 rfl dX12_tray_29 ?_
          refine n_callV (mi' := miX12_no) dX12_tray_30 lX12_84 mX12_no (by decide) rfl rfl rfl (c_X12_no ?_ d) rfl rfl (by omega) (by decide) (Nat.le_of_ble_eq_true rfl)
          show AW _ _ _ _ _ _ _
          refine a_zret dX12_tray_33 rfl (Or.inl rfl) ?_
          exact fin_qM hQ hI hG (by unfold sp_tray; rw [if_neg (by omega)]) siS (m0_fr.si (by unfold scM coM; omega))

set_option maxRecDepth 100000 in
set_option maxHeartbeats 800000 in
theorem c_X12_write {M : Mm} {T : TT} (hI : IM M T) (hG : TG T) {x p : Int32} {v : Int64} {Q : Option Value → Mm → Prop} (hQ : ∀ M', IM M' (sp_write x p v T).2 → keX M M' → Q (some (.int (sp_write x p v T).1)) M') (d : Nat) : AMt miX12_write (d + 3) [.ref 132, .int x, .int p, .long v] M Q := by
  refine AMt.of (by decide) (Nat.le_of_ble_eq_true rfl) ?_
  show AW miX12_write (d + 3) (mxA Q) 0 [(0, some (.ref 132)), (1, some (.int x)), (2, some (.int p)), (3, some (.long v))] [] M
  have hw0 := whyN_le (tR T) x p 1
  refine a_aload_n rfl dX12_write_0 ?_
  refine n_iconst 0 rfl dX12_write_1 ?_
  refine a_puti dX12_write_2 pX12_69 (by decide) rfl rfl ?_
  refine a_aload_n rfl dX12_write_5 ?_
  refine a_aload_n rfl dX12_write_6 ?_
  refine a_iload_n rfl dX12_write_7 ?_
  refine a_iload_n rfl dX12_write_8 ?_
  refine n_callV (mi' := miX12_placed) dX12_write_9 lX12_92 mX12_placed (by decide) rfl rfl rfl (c_X12_placed (R := tR T) (RM_fr hI.2.1 (P := fun k j => k = 132) (fr.r.si rfl) (fun k j a b => by omega)) hG.2.1 ?_ d) rfl rfl (by omega) (by decide) (Nat.le_of_ble_eq_true rfl)
  show AW _ _ _ _ _ _ _
  refine a_puti dX12_write_12 pX12_72 (by decide) rfl rfl ?_
  refine a_aload_n rfl dX12_write_15 ?_
  refine g_i siS (by decide) rfl fX12_72 rfl dX12_write_16 ?_
  refine n_if_le 24 (by omega) dX12_write_19 (by decide) (fun h_19 => ?_) (fun h_19 => ?_)
  · obtain ⟨ha0, hb0, hc0⟩ := whyN_0 (h_19)
    have hl60 := lenI_le hG.2.1 (t := idx x) (by unfold idx; omega)
    obtain ⟨t, ht, rfl⟩ := inR_of (x := x) (m := 4) (by omega) (by omega) (by omega)
    have t_t : (nI t).toInt = (t : Int) := nI_toInt (by omega)
    have i_t : idx (nI t) = t := idx_nI (by omega)
    obtain ⟨k, hk, rfl⟩ := inR_of (x := p) (m := 60) (by omega) (by omega) (by omega)
    have t_k : (nI k).toInt = (k : Int) := nI_toInt (by omega)
    have i_k : idx (nI k) = k := idx_nI (by omega)
    rw [i_t] at hc0 hl60
    have hs3 := (hG.2.1 t (by omega)).1
    refine a_aload_n rfl dX12_write_24 ?_
    refine a_geta dX12_write_25 fX12_20 (by decide) rfl rfl ?_
    refine n_bipush 60 rfl dX12_write_28 ?_
    refine a_iload_n rfl dX12_write_30 ?_
    refine n_imul dX12_write_31 ?_
    refine a_iload_n rfl dX12_write_32 ?_
    refine n_iadd dX12_write_33 ?_
    refine a_aload_n rfl dX12_write_34 ?_
    refine a_geta dX12_write_35 fX12_13 (by decide) rfl rfl ?_
    refine a_iload_n rfl dX12_write_38 ?_
    refine v_iald (by omega) (siN (siN (RM_sort hI.2.1 (by omega)) (by omega)) (by omega)) (by decide) rfl (by decide) dX12_write_39 ?_
    refine a_lload_n rfl dX12_write_40 ?_
    refine n_callS (mi' := miX12_cut) dX12_write_41 lX12_96 mX12_cut (c_X12_cut (by omega) ?_ d) rfl rfl (by omega) (by decide) (Nat.le_of_ble_eq_true rfl)
    show AW _ _ _ _ _ _ _
    refine n_last (by omega) (by decide) rfl (by decide) dX12_write_44 ?_
    refine n_iconst 1 rfl dX12_write_45 ?_
    refine a_zret dX12_write_46 rfl (Or.inr rfl) ?_
    have hf1 : fr (fun k j => k = 132 ∧ (j = 0 ∨ j = 1)) M (siM (siM M 132 1 (nI 0)) 132 0 (nI (whyN (tR T) (nI t) (nI k) 1))) := (fr.r.si (by omega)).si (by omega)
    exact fin_RM hQ hI hG (by unfold sp_write; rw [if_pos h_19, i_t, i_k]) (RM_put hG.2.1 (RM_fr hI.2.1 hf1 (fun k j a b => by omega)) (by omega)) (by rw [← h_19]; exact siS) ((hf1.mo (fun k j h => by omega)).sl (by omega))
  · refine n_iconst 0 rfl dX12_write_22 ?_
    refine a_zret dX12_write_23 rfl (Or.inl rfl) ?_
    exact fin_qM hQ hI hG (by unfold sp_write; rw [if_neg (by omega)]) siS ((fr.r.si (by unfold scM coM; omega)).si (by unfold scM coM; omega))

set_option maxRecDepth 100000 in
set_option maxHeartbeats 800000 in
theorem c_X12_read {M : Mm} {T : TT} (hI : IM M T) (hG : TG T) {x p : Int32} {Q : Option Value → Mm → Prop} (hQ : ∀ M', IM M' (sp_read x p T).2 → keX M M' → Q (some (.long (sp_read x p T).1)) M') (d : Nat) : AMt miX12_read (d + 3) [.ref 132, .int x, .int p] M Q := by
  refine AMt.of (by decide) (Nat.le_of_ble_eq_true rfl) ?_
  show AW miX12_read (d + 3) (mxA Q) 0 [(0, some (.ref 132)), (1, some (.int x)), (2, some (.int p))] [] M
  have hw0 := whyN_le (tR T) x p 1
  refine a_aload_n rfl dX12_read_0 ?_
  refine n_iconst 0 rfl dX12_read_1 ?_
  refine a_puti dX12_read_2 pX12_69 (by decide) rfl rfl ?_
  refine a_aload_n rfl dX12_read_5 ?_
  refine a_aload_n rfl dX12_read_6 ?_
  refine a_iload_n rfl dX12_read_7 ?_
  refine a_iload_n rfl dX12_read_8 ?_
  refine n_callV (mi' := miX12_placed) dX12_read_9 lX12_92 mX12_placed (by decide) rfl rfl rfl (c_X12_placed (R := tR T) (RM_fr hI.2.1 (P := fun k j => k = 132) (fr.r.si rfl) (fun k j a b => by omega)) hG.2.1 ?_ d) rfl rfl (by omega) (by decide) (Nat.le_of_ble_eq_true rfl)
  show AW _ _ _ _ _ _ _
  refine a_puti dX12_read_12 pX12_72 (by decide) rfl rfl ?_
  refine a_aload_n rfl dX12_read_15 ?_
  refine g_i siS (by decide) rfl fX12_72 rfl dX12_read_16 ?_
  refine n_if_le 28 (by omega) dX12_read_19 (by decide) (fun h_19 => ?_) (fun h_19 => ?_)
  · obtain ⟨ha0, hb0, hc0⟩ := whyN_0 (h_19)
    have hl60 := lenI_le hG.2.1 (t := idx x) (by unfold idx; omega)
    obtain ⟨t, ht, rfl⟩ := inR_of (x := x) (m := 4) (by omega) (by omega) (by omega)
    have t_t : (nI t).toInt = (t : Int) := nI_toInt (by omega)
    have i_t : idx (nI t) = t := idx_nI (by omega)
    obtain ⟨k, hk, rfl⟩ := inR_of (x := p) (m := 60) (by omega) (by omega) (by omega)
    have t_k : (nI k).toInt = (k : Int) := nI_toInt (by omega)
    have i_k : idx (nI k) = k := idx_nI (by omega)
    rw [i_t] at hc0 hl60
    refine a_aload_n rfl dX12_read_28 ?_
    refine a_geta dX12_read_29 fX12_20 (by decide) rfl rfl ?_
    refine n_bipush 60 rfl dX12_read_32 ?_
    refine a_iload_n rfl dX12_read_34 ?_
    refine n_imul dX12_read_35 ?_
    refine a_iload_n rfl dX12_read_36 ?_
    refine n_iadd dX12_read_37 ?_
    refine n_lald (by omega) (by decide) rfl (by decide) dX12_read_38 ?_
    refine a_lret dX12_read_39 rfl ?_
    have hd : (siM (siM M 132 1 (nI 0)) 132 0 (nI (whyN (tR T) (nI t) (nI k) 1))).2 135 (60 * t + k) = (tR T).2.2 t k := RM_dat hI.2.1 (by omega) (by omega)
    rw [hd]
    exact fin_qlM hQ hI hG (by unfold sp_read; rw [if_pos h_19, i_t, i_k]) (by rw [← h_19]; exact siS) ((fr.r.si (by unfold scM coM; omega)).si (by unfold scM coM; omega))
  · refine a_ldc2 kX12_100 dX12_read_22 ?_
    refine a_goto 39 dX12_read_25 (by decide) ?_
    refine a_lret dX12_read_39 rfl ?_
    exact fin_qlM (v := -1) hQ hI hG (by unfold sp_read; rw [if_neg (by omega)]) siS ((fr.r.si (by unfold scM coM; omega)).si (by unfold scM coM; omega))

/-- where the model's pour reads and writes, step by step -/
def pmN (r n k x : Nat) : Bool := if r = 1 then decide (n - k ≤ x) else decide (x < k)
def pnN (r n k : Nat) : Nat := if r = 1 then n - 1 - k else k
theorem pour_step {M M1 : Mm} {a b n k r : Nat} (hr : (r = 1 ∧ a < b) ∨ (r = 0 ∧ (b ≤ a ∨ a + n ≤ b)) ∨ (r = 1 ∧ b + n ≤ a)) (hk : k < n) (h : (∀ q, M1.2 135 q = if b ≤ q ∧ q < b + n ∧ pmN r n k (q - b) = true then M.2 135 (a + (q - b)) else M.2 135 q)) (hf : fr (fun k j => k = 135 ∧ b ≤ j ∧ j < b + n) M M1) : (fun M2 : Mm => (∀ q, M2.2 135 q = if b ≤ q ∧ q < b + n ∧ pmN r n (k + 1) (q - b) = true then M.2 135 (a + (q - b)) else M.2 135 q) ∧ fr (fun k j => k = 135 ∧ b ≤ j ∧ j < b + n) M M2) (slM M1 135 (b + pnN r n k) (M1.2 135 (a + pnN r n k))) := by
  have hp : pnN r n k < n := by unfold pnN; split <;> omega
  refine ⟨fun q => ?_, hf.sl (by omega)⟩
  by_cases e : q = b + pnN r n k
  · subst e
    rw [slS, h]
    have e1 : pmN r n (k + 1) (b + pnN r n k - b) = true := by
      unfold pmN pnN; split <;> simp <;> omega
    have c : ¬ (b ≤ a + pnN r n k ∧ a + pnN r n k < b + n ∧ pmN r n k (a + pnN r n k - b) = true) := by
      intro ⟨c1, c2, c3⟩
      unfold pmN pnN at *
      rcases hr with ⟨rfl, h⟩ | ⟨rfl, h⟩ | ⟨rfl, h⟩ <;> simp at * <;> omega
    rw [if_neg c, if_pos ⟨by omega, by omega, e1⟩]
    exact congrArg (M.2 135) (by omega)
  · rw [slN (h q) (by omega)]
    have e2 : b ≤ q → (pmN r n (k + 1) (q - b) = true ↔ pmN r n k (q - b) = true) := fun hb => by
      unfold pmN pnN at *; split at e <;> split <;> simp <;> omega
    by_cases hb : b ≤ q
    · by_cases c : b ≤ q ∧ q < b + n ∧ pmN r n k (q - b) = true
      · rw [if_pos c, if_pos ⟨c.1, c.2.1, (e2 hb).mpr c.2.2⟩]
      · rw [if_neg c, if_neg (fun z => c ⟨z.1, z.2.1, (e2 hb).mp z.2.2⟩)]
    · rw [if_neg (fun z => hb z.1), if_neg (fun z => hb z.1)]
theorem RM_pour {M M1 : Mm} {R : TRY} (h : RM M R) (hG : RG R) {t i u j n r : Nat} (ht : t < 4) (hu : u < 4) (hi : (i : Int) + n ≤ lenI R t) (hj : (j : Int) + n ≤ lenI R u) (hd : ∀ q, M1.2 135 q = if 60 * u + j ≤ q ∧ q < 60 * u + j + n ∧ pmN r n n (q - (60 * u + j)) = true then M.2 135 (60 * t + i + (q - (60 * u + j))) else M.2 135 q) (hf : fr (fun k j' => k = 135 ∧ 60 * u + j ≤ j' ∧ j' < 60 * u + j + n) M M1) : RM M1 (pourR R t i u j n) := by
  refine RM_mk (R := pourR R t i u j n) hG (fun b hb => hf.i (RM_sort h hb) (by omega)) (fun b hb => by rw [(hf 134 b (by omega)).1]; exact RM_len h hG hb) (fun b k hb hk => ?_)
  have hk : (k : Int) < lenI R b := hk
  have h60 := (lenI_le hG hb).2
  have h61 := (lenI_le hG ht).2
  have h62 := (lenI_le hG hu).2
  rw [hd]
  show _ = if b = u ∧ j ≤ k ∧ k < j + n then R.2.2 t (i + (k - j)) else R.2.2 b k
  by_cases c : b = u ∧ j ≤ k ∧ k < j + n
  · rw [if_pos c, if_pos ⟨by omega, by omega, by unfold pmN; split <;> simp <;> omega⟩, show 60 * t + i + (60 * b + k - (60 * u + j)) = 60 * t + (i + (k - j)) by omega]
    exact RM_dat h ht (by omega)
  · rw [if_neg c, if_neg (fun z => by omega)]
    exact RM_dat h hb hk

set_option maxRecDepth 100000 in
set_option maxHeartbeats 800000 in
theorem c_X12_pour {M : Mm} {T : TT} (hI : IM M T) (hG : TG T) {x y z w v : Int32} {Q : Option Value → Mm → Prop} (hQ : ∀ M', IM M' (sp_pour x y z w v T).2 → keX M M' → Q (some (.int (sp_pour x y z w v T).1)) M') (d : Nat) : AMt miX12_pour (d + 3) [.ref 132, .int x, .int y, .int z, .int w, .int v] M Q := by
  refine AMt.of (by decide) (Nat.le_of_ble_eq_true rfl) ?_
  show AW miX12_pour (d + 3) (mxA Q) 0 [(0, some (.ref 132)), (1, some (.int x)), (2, some (.int y)), (3, some (.int z)), (4, some (.int w)), (5, some (.int v))] [] M
  refine a_aload_n rfl dX12_pour_0 ?_
  refine n_iconst 0 rfl dX12_pour_1 ?_
  refine a_puti dX12_pour_2 pX12_69 (by decide) rfl rfl ?_
  refine a_aload_n rfl dX12_pour_5 ?_
  refine n_iconst 0 rfl dX12_pour_6 ?_
  refine a_puti dX12_pour_7 pX12_72 (by decide) rfl rfl ?_
  show AW miX12_pour (d + 3) (mxA Q) 10 [(0, some (.ref 132)), (1, some (.int x)), (2, some (.int y)), (3, some (.int z)), (4, some (.int w)), (5, some (.int v))] [] (m0 M)
  refine a_iload_n rfl dX12_pour_10 ?_
  refine r_if_lt 28 dX12_pour_11 (by decide) (fun h_11 => ?_) (fun h_11 => ?_)
  · refine a_aload_n rfl dX12_pour_28 ?_
    refine n_iconst 1 rfl dX12_pour_29 ?_
    refine n_callV (mi' := miX12_no) dX12_pour_30 lX12_84 mX12_no (by decide) rfl rfl rfl (c_X12_no ?_ d) rfl rfl (by omega) (by decide) (Nat.le_of_ble_eq_true rfl)
    show AW _ _ _ _ _ _ _
    refine a_zret dX12_pour_33 rfl (Or.inl rfl) ?_
    exact fin_qM hQ hI hG (by unfold sp_pour; rw [if_neg (by omega)]) siS (m0_fr.si (by unfold scM coM; omega))
  · refine a_iload_n rfl dX12_pour_14 ?_
    refine n_iconst 4 rfl dX12_pour_15 ?_
    refine r_icmp_ge 28 (by omega) dX12_pour_16 (by decide) (fun h_16 => ?_) (fun h_16 => ?_)
    · refine a_aload_n rfl dX12_pour_28 ?_
      refine n_iconst 1 rfl dX12_pour_29 ?_
      refine n_callV (mi' := miX12_no) dX12_pour_30 lX12_84 mX12_no (by decide) rfl rfl rfl (c_X12_no ?_ d) rfl rfl (by omega) (by decide) (Nat.le_of_ble_eq_true rfl)
      show AW _ _ _ _ _ _ _
      refine a_zret dX12_pour_33 rfl (Or.inl rfl) ?_
      exact fin_qM hQ hI hG (by unfold sp_pour; rw [if_neg (by omega)]) siS (m0_fr.si (by unfold scM coM; omega))
    · refine a_iload_n rfl dX12_pour_19 ?_
      refine r_if_lt 28 dX12_pour_20 (by decide) (fun h_20 => ?_) (fun h_20 => ?_)
      · refine a_aload_n rfl dX12_pour_28 ?_
        refine n_iconst 1 rfl dX12_pour_29 ?_
        refine n_callV (mi' := miX12_no) dX12_pour_30 lX12_84 mX12_no (by decide) rfl rfl rfl (c_X12_no ?_ d) rfl rfl (by omega) (by decide) (Nat.le_of_ble_eq_true rfl)
        show AW _ _ _ _ _ _ _
        refine a_zret dX12_pour_33 rfl (Or.inl rfl) ?_
        exact fin_qM hQ hI hG (by unfold sp_pour; rw [if_neg (by omega)]) siS (m0_fr.si (by unfold scM coM; omega))
      · refine a_iload_n rfl dX12_pour_23 ?_
        refine n_iconst 4 rfl dX12_pour_24 ?_
        refine r_icmp_lt 34 (by omega) dX12_pour_25 (by decide) (fun h_25 => ?_) (fun h_25 => ?_)
        · obtain ⟨t, ht, rfl⟩ := inR_of (x := x) (m := 4) (by omega) (by omega) (by omega)
          have t_t : (nI t).toInt = (t : Int) := nI_toInt (by omega)
          have i_t : idx (nI t) = t := idx_nI (by omega)
          obtain ⟨u, hu, rfl⟩ := inR_of (x := z) (m := 4) (by omega) (by omega) (by omega)
          have t_u : (nI u).toInt = (u : Int) := nI_toInt (by omega)
          have i_u : idx (nI u) = u := idx_nI (by omega)
          have hl_t := lenI_le hG.2.1 (t := t) (by omega)
          have hl_u := lenI_le hG.2.1 (t := u) (by omega)
          have hlt : ((m0 M).1 134 t).toInt = lenI (tR T) t := RM_len (RM_m0 hI.2.1) hG.2.1 (by omega)
          have hlu : ((m0 M).1 134 u).toInt = lenI (tR T) u := RM_len (RM_m0 hI.2.1) hG.2.1 (by omega)
          refine a_aload_n rfl dX12_pour_34 ?_
          refine a_geta dX12_pour_35 fX12_17 (by decide) rfl rfl ?_
          refine a_iload_n rfl dX12_pour_38 ?_
          refine n_iald (by omega) (by decide) rfl (by decide) dX12_pour_39 ?_
          refine r_if_lt 52 dX12_pour_40 (by decide) (fun h_40 => ?_) (fun h_40 => ?_)
          · refine a_aload_n rfl dX12_pour_52 ?_
            refine n_iconst 3 rfl dX12_pour_53 ?_
            refine n_callV (mi' := miX12_no) dX12_pour_54 lX12_84 mX12_no (by decide) rfl rfl rfl (c_X12_no ?_ d) rfl rfl (by omega) (by decide) (Nat.le_of_ble_eq_true rfl)
            show AW _ _ _ _ _ _ _
            refine a_zret dX12_pour_57 rfl (Or.inl rfl) ?_
            exact fin_qM hQ hI hG (by unfold sp_pour; rw [if_pos (by omega)]; simp only [i_t, i_u]; rw [if_pos (by omega)]) siS (m0_fr.si (by unfold scM coM; omega))
          · refine a_aload_n rfl dX12_pour_43 ?_
            refine a_geta dX12_pour_44 fX12_17 (by decide) rfl rfl ?_
            refine a_iload_n rfl dX12_pour_47 ?_
            refine n_iald (by omega) (by decide) rfl (by decide) dX12_pour_48 ?_
            refine r_if_ge 58 dX12_pour_49 (by decide) (fun h_49 => ?_) (fun h_49 => ?_)
            · have hs1 := (hG.2.1 t (by omega)).1
              have hs2 := (hG.2.1 u (by omega)).1
              refine a_aload_n rfl dX12_pour_58 ?_
              refine a_geta dX12_pour_59 fX12_13 (by decide) rfl rfl ?_
              refine a_iload_n rfl dX12_pour_62 ?_
              refine v_iald (by omega) (RM_sort (RM_m0 hI.2.1) (by omega)) (by decide) rfl (by decide) dX12_pour_63 ?_
              refine a_aload_n rfl dX12_pour_64 ?_
              refine a_geta dX12_pour_65 fX12_13 (by decide) rfl rfl ?_
              refine a_iload_n rfl dX12_pour_68 ?_
              refine v_iald (by omega) (RM_sort (RM_m0 hI.2.1) (by omega)) (by decide) rfl (by decide) dX12_pour_69 ?_
              refine n_icmp_eq 80 (by omega) (by omega) dX12_pour_70 (by decide) (fun h_70 => ?_) (fun h_70 => ?_)
              · refine a_iload rfl dX12_pour_80 ?_
                refine r_if_ge 92 dX12_pour_82 (by decide) (fun h_82 => ?_) (fun h_82 => ?_)
                · obtain ⟨n, hn, rfl⟩ := nI_ofI (x := v) (by omega)
                  have t_n : (nI n).toInt = (n : Int) := nI_toInt (by omega)
                  have i_n : idx (nI n) = n := idx_nI (by omega)
                  refine a_iload_n rfl dX12_pour_92 ?_
                  refine r_if_lt 136 dX12_pour_93 (by decide) (fun h_93 => ?_) (fun h_93 => ?_)
                  · refine a_aload_n rfl dX12_pour_136 ?_
                    refine n_iconst 4 rfl dX12_pour_137 ?_
                    refine n_callV (mi' := miX12_no) dX12_pour_138 lX12_84 mX12_no (by decide) rfl rfl rfl (c_X12_no ?_ d) rfl rfl (by omega) (by decide) (Nat.le_of_ble_eq_true rfl)
                    show AW _ _ _ _ _ _ _
                    refine a_zret dX12_pour_141 rfl (Or.inl rfl) ?_
                    exact fin_qM hQ hI hG (by unfold sp_pour; rw [if_pos (by omega)]; simp only [i_t, i_u]; rw [if_neg (by omega), if_pos (by omega), if_neg (by omega), if_neg (by omega)]) siS (m0_fr.si (by unfold scM coM; omega))
                  · refine a_iload rfl dX12_pour_96 ?_
                    refine r_if_lt 136 dX12_pour_98 (by decide) (fun h_98 => ?_) (fun h_98 => ?_)
                    · refine a_aload_n rfl dX12_pour_136 ?_
                      refine n_iconst 4 rfl dX12_pour_137 ?_
                      refine n_callV (mi' := miX12_no) dX12_pour_138 lX12_84 mX12_no (by decide) rfl rfl rfl (c_X12_no ?_ d) rfl rfl (by omega) (by decide) (Nat.le_of_ble_eq_true rfl)
                      show AW _ _ _ _ _ _ _
                      refine a_zret dX12_pour_141 rfl (Or.inl rfl) ?_
                      exact fin_qM hQ hI hG (by unfold sp_pour; rw [if_pos (by omega)]; simp only [i_t, i_u]; rw [if_neg (by omega), if_pos (by omega), if_neg (by omega), if_neg (by omega)]) siS (m0_fr.si (by unfold scM coM; omega))
                    · refine a_iload_n rfl dX12_pour_101 ?_
                      refine a_i2l dX12_pour_102 ?_
                      refine a_iload rfl dX12_pour_103 ?_
                      refine a_i2l dX12_pour_105 ?_
                      refine a_ladd dX12_pour_106 ?_
                      refine a_aload_n rfl dX12_pour_107 ?_
                      refine a_geta dX12_pour_108 fX12_17 (by decide) rfl rfl ?_
                      refine a_iload_n rfl dX12_pour_111 ?_
                      refine n_iald (by omega) (by decide) rfl (by decide) dX12_pour_112 ?_
                      refine a_i2l dX12_pour_113 ?_
                      refine a_lcmp dX12_pour_114 ?_
                      refine l_if_gt 136 dX12_pour_115 (by decide) (fun h_115 => ?_) (fun h_115 => ?_)
                      · refine a_aload_n rfl dX12_pour_136 ?_
                        refine n_iconst 4 rfl dX12_pour_137 ?_
                        refine n_callV (mi' := miX12_no) dX12_pour_138 lX12_84 mX12_no (by decide) rfl rfl rfl (c_X12_no ?_ d) rfl rfl (by omega) (by decide) (Nat.le_of_ble_eq_true rfl)
                        show AW _ _ _ _ _ _ _
                        refine a_zret dX12_pour_141 rfl (Or.inl rfl) ?_
                        try simp only [Int64.lt_iff_toInt_lt, Int64.le_iff_toInt_le, i64_add, i64_i32, t_n, hlt, hlu] at h_115
                        exact fin_qM hQ hI hG (by unfold sp_pour; rw [if_pos (by omega)]; simp only [i_t, i_u]; rw [if_neg (by omega), if_pos (by omega), if_neg (by omega), if_neg (by omega)]) siS (m0_fr.si (by unfold scM coM; omega))
                      · refine a_iload rfl dX12_pour_118 ?_
                        refine a_i2l dX12_pour_120 ?_
                        refine a_iload rfl dX12_pour_121 ?_
                        refine a_i2l dX12_pour_123 ?_
                        refine a_ladd dX12_pour_124 ?_
                        refine a_aload_n rfl dX12_pour_125 ?_
                        refine a_geta dX12_pour_126 fX12_17 (by decide) rfl rfl ?_
                        refine a_iload_n rfl dX12_pour_129 ?_
                        refine n_iald (by omega) (by decide) rfl (by decide) dX12_pour_130 ?_
                        refine a_i2l dX12_pour_131 ?_
                        refine a_lcmp dX12_pour_132 ?_
                        refine l_if_le 142 dX12_pour_133 (by decide) (fun h_133 => ?_) (fun h_133 => ?_)
                        · simp only [Int64.lt_iff_toInt_lt, Int64.le_iff_toInt_le, i64_add, i64_i32, t_n, hlt, hlu] at h_115 h_133
                          obtain ⟨i, hi, rfl⟩ := inR_of (x := y) (m := 61) (by omega) (by omega) (by omega)
                          have t_i : (nI i).toInt = (i : Int) := nI_toInt (by omega)
                          have i_i : idx (nI i) = i := idx_nI (by omega)
                          obtain ⟨j, hj, rfl⟩ := inR_of (x := w) (m := 61) (by omega) (by omega) (by omega)
                          have t_j : (nI j).toInt = (j : Int) := nI_toInt (by omega)
                          have i_j : idx (nI j) = j := idx_nI (by omega)
                          refine a_iload_n rfl dX12_pour_142 ?_
                          refine a_iload rfl dX12_pour_143 ?_
                          refine n_icmp_ge 152 (by omega) (by omega) dX12_pour_145 (by decide) (fun h_145 => ?_) (fun h_145 => ?_)
                          · refine n_iconst 0 rfl dX12_pour_152 ?_
                            refine a_istore (by decide) rfl dX12_pour_153 ?_
                            refine n_iconst 0 rfl dX12_pour_155 ?_
                            refine a_istore (by decide) rfl dX12_pour_156 ?_
                            have loop_158 : ∀ k, k ≤ n → ∀ M1, ((∀ q, (M1).2 135 q = if 60 * u + j ≤ q ∧ q < 60 * u + j + n ∧ pmN 0 n k (q - (60 * u + j)) = true then (m0 M).2 135 (60 * t + i + (q - (60 * u + j))) else (m0 M).2 135 q) ∧ fr (fun k j' => k = 135 ∧ 60 * u + j ≤ j' ∧ j' < 60 * u + j + n) (m0 M) M1) → AW miX12_pour (d + 3) (mxA Q) 158 [(0, some (.ref 132)), (1, some (.int (nI t))), (2, some (.int (nI i))), (3, some (.int (nI u))), (4, some (.int (nI j))), (5, some (.int (nI n))), (6, some (.int (nI 0))), (7, some (.int (nI k)))] [] M1 := by
                              refine up (W := fun k => ∀ M1, ((∀ q, (M1).2 135 q = if 60 * u + j ≤ q ∧ q < 60 * u + j + n ∧ pmN 0 n k (q - (60 * u + j)) = true then (m0 M).2 135 (60 * t + i + (q - (60 * u + j))) else (m0 M).2 135 q) ∧ fr (fun k j' => k = 135 ∧ 60 * u + j ≤ j' ∧ j' < 60 * u + j + n) (m0 M) M1) → AW miX12_pour (d + 3) (mxA Q) 158 [(0, some (.ref 132)), (1, some (.int (nI t))), (2, some (.int (nI i))), (3, some (.int (nI u))), (4, some (.int (nI j))), (5, some (.int (nI n))), (6, some (.int (nI 0))), (7, some (.int (nI k)))] [] M1) n (fun M1 hI_158 => ?_) (fun k hi_158 ih_158 M1 hI_158 => ?_)
                              · refine a_iload rfl dX12_pour_158 ?_
                                refine a_iload rfl dX12_pour_160 ?_
                                refine n_icmp_ge 219 (by omega) (by omega) dX12_pour_162 (by decide) (fun h_162 => ?_) (fun h_162 => absurd h_162 (by omega))
                                refine n_iconst 1 rfl dX12_pour_219 ?_
                                refine a_zret dX12_pour_220 rfl (Or.inr rfl) ?_
                                have hf2 : fr (fun k j' => (k = 132 ∧ (j' = 0 ∨ j' = 1)) ∨ (k = 135 ∧ 60 * u + j ≤ j' ∧ j' < 60 * u + j + n)) M M1 := (m0_fr2.mo (fun k j h => Or.inl h)).t (hI_158.2.mo (fun k j h => Or.inr h))
                                exact fin_RM hQ hI hG (R' := pourR (tR T) t i u j n) (by unfold sp_pour; rw [if_pos (by omega)]; simp only [i_t, i_u]; rw [if_neg (by omega), if_pos (by omega), if_neg (by omega), if_pos (by omega), i_i, i_j, i_n]) (RM_pour (RM_m0 hI.2.1) hG.2.1 (by omega) (by omega) (by omega) (by omega) hI_158.1 hI_158.2) (hI_158.2.i m0_s (by omega)) (hf2.mo (fun k j h => by omega))
                              · refine a_iload rfl dX12_pour_158 ?_
                                refine a_iload rfl dX12_pour_160 ?_
                                refine n_icmp_ge 219 (by omega) (by omega) dX12_pour_162 (by decide) (fun h_162 => absurd h_162 (by omega)) (fun h_162 => ?_)
                                refine a_iload rfl dX12_pour_165 ?_
                                refine n_if_eq 180 (by decide) dX12_pour_167 (by decide) (fun _ => ?_) (fun h => absurd h (by decide))
                                refine a_iload rfl dX12_pour_180 ?_
                                refine a_istore (by decide) rfl dX12_pour_182 ?_
                                refine a_aload_n rfl dX12_pour_184 ?_
                                refine a_geta dX12_pour_185 fX12_20 (by decide) rfl rfl ?_
                                refine n_bipush 60 rfl dX12_pour_188 ?_
                                refine a_iload_n rfl dX12_pour_190 ?_
                                refine n_imul dX12_pour_191 ?_
                                refine a_iload rfl dX12_pour_192 ?_
                                refine n_iadd dX12_pour_194 ?_
                                refine a_iload rfl dX12_pour_195 ?_
                                refine n_iadd dX12_pour_197 ?_
                                refine a_aload_n rfl dX12_pour_198 ?_
                                refine a_geta dX12_pour_199 fX12_20 (by decide) rfl rfl ?_
                                refine n_bipush 60 rfl dX12_pour_202 ?_
                                refine a_iload_n rfl dX12_pour_204 ?_
                                refine n_imul dX12_pour_205 ?_
                                refine a_iload_n rfl dX12_pour_206 ?_
                                refine n_iadd dX12_pour_207 ?_
                                refine a_iload rfl dX12_pour_208 ?_
                                refine n_iadd dX12_pour_210 ?_
                                refine n_lald (by omega) (by decide) rfl (by decide) dX12_pour_211 ?_
                                refine n_last (by omega) (by decide) rfl (by decide) dX12_pour_212 ?_
                                refine n_iinc (c := 1) rfl rfl (by decide) rfl dX12_pour_213 ?_
                                refine a_goto 158 dX12_pour_216 (by decide) ?_
                                exact a_bk (ih_158 _ (pour_step (r := 0) (by omega) hi_158 hI_158.1 hI_158.2)) ⟨rfl, rfl, rfl, rfl, rfl, rfl, rfl, rfl, trivial⟩
                            exact a_bk (loop_158 0 (by omega) _ ⟨fun q => by rw [if_neg (fun z => by have := z.2.2; unfold pmN at this; simp at this)], fr.r⟩) ⟨rfl, rfl, rfl, rfl, rfl, rfl, rfl, rfl, trivial⟩
                          · refine n_iconst 1 rfl dX12_pour_148 ?_
                            refine a_goto 153 dX12_pour_149 (by decide) ?_
                            refine a_istore (by decide) rfl dX12_pour_153 ?_
                            refine n_iconst 0 rfl dX12_pour_155 ?_
                            refine a_istore (by decide) rfl dX12_pour_156 ?_
                            have loop_158 : ∀ k, k ≤ n → ∀ M1, ((∀ q, (M1).2 135 q = if 60 * u + j ≤ q ∧ q < 60 * u + j + n ∧ pmN 1 n k (q - (60 * u + j)) = true then (m0 M).2 135 (60 * t + i + (q - (60 * u + j))) else (m0 M).2 135 q) ∧ fr (fun k j' => k = 135 ∧ 60 * u + j ≤ j' ∧ j' < 60 * u + j + n) (m0 M) M1) → AW miX12_pour (d + 3) (mxA Q) 158 [(0, some (.ref 132)), (1, some (.int (nI t))), (2, some (.int (nI i))), (3, some (.int (nI u))), (4, some (.int (nI j))), (5, some (.int (nI n))), (6, some (.int (nI 1))), (7, some (.int (nI k)))] [] M1 := by
                              refine up (W := fun k => ∀ M1, ((∀ q, (M1).2 135 q = if 60 * u + j ≤ q ∧ q < 60 * u + j + n ∧ pmN 1 n k (q - (60 * u + j)) = true then (m0 M).2 135 (60 * t + i + (q - (60 * u + j))) else (m0 M).2 135 q) ∧ fr (fun k j' => k = 135 ∧ 60 * u + j ≤ j' ∧ j' < 60 * u + j + n) (m0 M) M1) → AW miX12_pour (d + 3) (mxA Q) 158 [(0, some (.ref 132)), (1, some (.int (nI t))), (2, some (.int (nI i))), (3, some (.int (nI u))), (4, some (.int (nI j))), (5, some (.int (nI n))), (6, some (.int (nI 1))), (7, some (.int (nI k)))] [] M1) n (fun M1 hI_158 => ?_) (fun k hi_158 ih_158 M1 hI_158 => ?_)
                              · refine a_iload rfl dX12_pour_158 ?_
                                refine a_iload rfl dX12_pour_160 ?_
                                refine n_icmp_ge 219 (by omega) (by omega) dX12_pour_162 (by decide) (fun h_162 => ?_) (fun h_162 => absurd h_162 (by omega))
                                refine n_iconst 1 rfl dX12_pour_219 ?_
                                refine a_zret dX12_pour_220 rfl (Or.inr rfl) ?_
                                have hf2 : fr (fun k j' => (k = 132 ∧ (j' = 0 ∨ j' = 1)) ∨ (k = 135 ∧ 60 * u + j ≤ j' ∧ j' < 60 * u + j + n)) M M1 := (m0_fr2.mo (fun k j h => Or.inl h)).t (hI_158.2.mo (fun k j h => Or.inr h))
                                exact fin_RM hQ hI hG (R' := pourR (tR T) t i u j n) (by unfold sp_pour; rw [if_pos (by omega)]; simp only [i_t, i_u]; rw [if_neg (by omega), if_pos (by omega), if_neg (by omega), if_pos (by omega), i_i, i_j, i_n]) (RM_pour (RM_m0 hI.2.1) hG.2.1 (by omega) (by omega) (by omega) (by omega) hI_158.1 hI_158.2) (hI_158.2.i m0_s (by omega)) (hf2.mo (fun k j h => by omega))
                              · refine a_iload rfl dX12_pour_158 ?_
                                refine a_iload rfl dX12_pour_160 ?_
                                refine n_icmp_ge 219 (by omega) (by omega) dX12_pour_162 (by decide) (fun h_162 => absurd h_162 (by omega)) (fun h_162 => ?_)
                                refine a_iload rfl dX12_pour_165 ?_
                                refine n_if_eq 180 (by decide) dX12_pour_167 (by decide) (fun h => absurd h (by decide)) (fun _ => ?_)
                                refine a_iload rfl dX12_pour_170 ?_
                                refine n_iconst 1 rfl dX12_pour_172 ?_
                                refine n_isub (by omega) dX12_pour_173 ?_
                                refine a_iload rfl dX12_pour_174 ?_
                                refine n_isub (by omega) dX12_pour_176 ?_
                                refine a_goto 182 dX12_pour_177 (by decide) ?_
                                refine a_istore (by decide) rfl dX12_pour_182 ?_
                                refine a_aload_n rfl dX12_pour_184 ?_
                                refine a_geta dX12_pour_185 fX12_20 (by decide) rfl rfl ?_
                                refine n_bipush 60 rfl dX12_pour_188 ?_
                                refine a_iload_n rfl dX12_pour_190 ?_
                                refine n_imul dX12_pour_191 ?_
                                refine a_iload rfl dX12_pour_192 ?_
                                refine n_iadd dX12_pour_194 ?_
                                refine a_iload rfl dX12_pour_195 ?_
                                refine n_iadd dX12_pour_197 ?_
                                refine a_aload_n rfl dX12_pour_198 ?_
                                refine a_geta dX12_pour_199 fX12_20 (by decide) rfl rfl ?_
                                refine n_bipush 60 rfl dX12_pour_202 ?_
                                refine a_iload_n rfl dX12_pour_204 ?_
                                refine n_imul dX12_pour_205 ?_
                                refine a_iload_n rfl dX12_pour_206 ?_
                                refine n_iadd dX12_pour_207 ?_
                                refine a_iload rfl dX12_pour_208 ?_
                                refine n_iadd dX12_pour_210 ?_
                                refine n_lald (by omega) (by decide) rfl (by decide) dX12_pour_211 ?_
                                refine n_last (by omega) (by decide) rfl (by decide) dX12_pour_212 ?_
                                refine n_iinc (c := 1) rfl rfl (by decide) rfl dX12_pour_213 ?_
                                refine a_goto 158 dX12_pour_216 (by decide) ?_
                                exact a_bk (ih_158 _ (pour_step (r := 1) (by omega) hi_158 hI_158.1 hI_158.2)) ⟨rfl, rfl, rfl, rfl, rfl, rfl, rfl, rfl, trivial⟩
                            exact a_bk (loop_158 0 (by omega) _ ⟨fun q => by rw [if_neg (fun z => by have := z.2.2; unfold pmN at this; simp at this; omega)], fr.r⟩) ⟨rfl, rfl, rfl, rfl, rfl, rfl, rfl, rfl, trivial⟩
                        · refine a_aload_n rfl dX12_pour_136 ?_
                          refine n_iconst 4 rfl dX12_pour_137 ?_
                          refine n_callV (mi' := miX12_no) dX12_pour_138 lX12_84 mX12_no (by decide) rfl rfl rfl (c_X12_no ?_ d) rfl rfl (by omega) (by decide) (Nat.le_of_ble_eq_true rfl)
                          show AW _ _ _ _ _ _ _
                          refine a_zret dX12_pour_141 rfl (Or.inl rfl) ?_
                          try simp only [Int64.lt_iff_toInt_lt, Int64.le_iff_toInt_le, i64_add, i64_i32, t_n, hlt, hlu] at h_115
                          try simp only [Int64.lt_iff_toInt_lt, Int64.le_iff_toInt_le, i64_add, i64_i32, t_n, hlt, hlu] at h_133
                          exact fin_qM hQ hI hG (by unfold sp_pour; rw [if_pos (by omega)]; simp only [i_t, i_u]; rw [if_neg (by omega), if_pos (by omega), if_neg (by omega), if_neg (by omega)]) siS (m0_fr.si (by unfold scM coM; omega))
                · refine a_aload_n rfl dX12_pour_85 ?_
                  refine n_bipush 6 rfl dX12_pour_86 ?_
                  refine n_callV (mi' := miX12_no) dX12_pour_88 lX12_84 mX12_no (by decide) rfl rfl rfl (c_X12_no ?_ d) rfl rfl (by omega) (by decide) (Nat.le_of_ble_eq_true rfl)
                  show AW _ _ _ _ _ _ _
                  refine a_zret dX12_pour_91 rfl (Or.inl rfl) ?_
                  exact fin_qM hQ hI hG (by unfold sp_pour; rw [if_pos (by omega)]; simp only [i_t, i_u]; rw [if_neg (by omega), if_pos (by omega), if_pos (by omega)]) siS (m0_fr.si (by unfold scM coM; omega))
              · refine a_aload_n rfl dX12_pour_73 ?_
                refine n_bipush 11 rfl dX12_pour_74 ?_
                refine n_callV (mi' := miX12_no) dX12_pour_76 lX12_84 mX12_no (by decide) rfl rfl rfl (c_X12_no ?_ d) rfl rfl (by omega) (by decide) (Nat.le_of_ble_eq_true rfl)
                show AW _ _ _ _ _ _ _
                refine a_zret dX12_pour_79 rfl (Or.inl rfl) ?_
                exact fin_qM hQ hI hG (by unfold sp_pour; rw [if_pos (by omega)]; simp only [i_t, i_u]; rw [if_neg (by omega), if_neg (by omega)]) siS (m0_fr.si (by unfold scM coM; omega))
            · refine a_aload_n rfl dX12_pour_52 ?_
              refine n_iconst 3 rfl dX12_pour_53 ?_
              refine n_callV (mi' := miX12_no) dX12_pour_54 lX12_84 mX12_no (by decide) rfl rfl rfl (c_X12_no ?_ d) rfl rfl (by omega) (by decide) (Nat.le_of_ble_eq_true rfl)
              show AW _ _ _ _ _ _ _
              refine a_zret dX12_pour_57 rfl (Or.inl rfl) ?_
              exact fin_qM hQ hI hG (by unfold sp_pour; rw [if_pos (by omega)]; simp only [i_t, i_u]; rw [if_pos (by omega)]) siS (m0_fr.si (by unfold scM coM; omega))
        · refine a_aload_n rfl dX12_pour_28 ?_
          refine n_iconst 1 rfl dX12_pour_29 ?_
          refine n_callV (mi' := miX12_no) dX12_pour_30 lX12_84 mX12_no (by decide) rfl rfl rfl (c_X12_no ?_ d) rfl rfl (by omega) (by decide) (Nat.le_of_ble_eq_true rfl)
          show AW _ _ _ _ _ _ _
          refine a_zret dX12_pour_33 rfl (Or.inl rfl) ?_
          exact fin_qM hQ hI hG (by unfold sp_pour; rw [if_neg (by omega)]) siS (m0_fr.si (by unfold scM coM; omega))

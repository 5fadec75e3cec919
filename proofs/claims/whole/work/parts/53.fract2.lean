theorem oc_s (o h i : Nat) : min (h * (16 ^ i * 16)) (16 * 16 ^ i + (16 - o) * ocN o h i) = ocN o h (i + 1) := by
  rw [ocN, Nat.min_comm, Nat.pow_succ, Nat.mul_comm 16]

set_option maxRecDepth 100000 in
set_option maxHeartbeats 800000 in
theorem c_X12_laysCost {M : Mm} {S : ST} (hM : VM 0 M S) (hF : WF S) {h n : Nat} (hh : h ≤ 99) (hn : n ≤ 8) {Q : Option Value → Mm → Prop} (hQ : ∀ M', M'.2 132 34 = lN (ocN (S 0 0) h n) → M'.2 132 35 = lN (16 ^ n) → fr (fun k j => k = 132 ∧ (j = 34 ∨ j = 35)) M M' → M'.1 = M.1 → Q none M') (d : Nat) : AMt miX12_laysCost (d) [.ref 132, .int (nI h), .int (nI n)] M Q := by
  refine AMt.of (by decide) (Nat.le_of_ble_eq_true rfl) ?_
  show AW miX12_laysCost (d) (mxA Q) 0 [(0, some (.ref 132)), (1, some (.int (nI h))), (2, some (.int (nI n)))] [] M
  have hod := WF_odds hF
  refine a_aload_n rfl dX12_laysCost_0 ?_
  refine a_iload_n rfl dX12_laysCost_1 ?_
  refine n_i2l (by omega) dX12_laysCost_2 ?_
  refine a_putl dX12_laysCost_3 pX12_500 (by decide) rfl rfl ?_
  refine a_aload_n rfl dX12_laysCost_6 ?_
  refine a_lconst (lN 1) rfl dX12_laysCost_7 ?_
  refine a_putl dX12_laysCost_8 pX12_503 (by decide) rfl rfl ?_
  refine n_iconst 0 rfl dX12_laysCost_11 ?_
  refine a_istore_n (by decide) rfl dX12_laysCost_12 ?_
  have loop_13 : ∀ i, i ≤ n → ∀ M1, ((M1).2 132 34 = lN (ocN (S 0 0) h i) ∧ (M1).2 132 35 = lN (16 ^ i) ∧ fr (fun k j => k = 132 ∧ (j = 34 ∨ j = 35)) M M1 ∧ (M1).1 = M.1) → AW miX12_laysCost (d) (mxA Q) 13 [(0, some (.ref 132)), (1, some (.int (nI h))), (2, some (.int (nI n))), (3, some (.int (nI i)))] [] M1 := by
    refine up (W := fun i => ∀ M1, ((M1).2 132 34 = lN (ocN (S 0 0) h i) ∧ (M1).2 132 35 = lN (16 ^ i) ∧ fr (fun k j => k = 132 ∧ (j = 34 ∨ j = 35)) M M1 ∧ (M1).1 = M.1) → AW miX12_laysCost (d) (mxA Q) 13 [(0, some (.ref 132)), (1, some (.int (nI h))), (2, some (.int (nI n))), (3, some (.int (nI i)))] [] M1) n (fun M1 hI_13 => ?_) (fun i hi_13 ih_13 M1 hI_13 => ?_)
    · refine a_iload_n rfl dX12_laysCost_13 ?_
      refine a_iload_n rfl dX12_laysCost_14 ?_
      refine n_icmp_ge 78 (by omega) (by omega) dX12_laysCost_15 (by decide) (fun h_15 => ?_) (fun h_15 => absurd h_15 (by omega))
      refine a_vret dX12_laysCost_78 rfl ?_
      exact hQ _ hI_13.1 hI_13.2.1 hI_13.2.2.1 hI_13.2.2.2
    · have hMi : VM 0 M1 S := VM_e hM (fun j _ => by rw [hI_13.2.2.2]) hF
      have hb1 := oc_b (o := S 0 0) hh (show i ≤ 8 by omega)
      have hb2 := oc_b (o := S 0 0) hh (show i + 1 ≤ 8 by omega)
      have hb3 := p16 (show i ≤ 8 by omega)
      have hb4 := p16 (show i + 1 ≤ 8 by omega)
      rw [Nat.pow_succ] at hb2 hb4
      refine a_iload_n rfl dX12_laysCost_13 ?_
      refine a_iload_n rfl dX12_laysCost_14 ?_
      refine n_icmp_ge 78 (by omega) (by omega) dX12_laysCost_15 (by decide) (fun h_15 => absurd h_15 (by omega)) (fun h_15 => ?_)
      refine a_ldc2 kX12_415 dX12_laysCost_18 ?_
      refine a_eql (y := lN 16) rfl ?_
      refine a_aload_n rfl dX12_laysCost_21 ?_
      refine g_l hI_13.2.1 (by decide) rfl fX12_503 rfl dX12_laysCost_22 ?_
      refine n_lmul dX12_laysCost_25 ?_
      refine n_bipush 16 rfl dX12_laysCost_26 ?_
      refine a_aload_n rfl dX12_laysCost_28 ?_
      refine a_geta dX12_laysCost_29 fX12_35 (by decide) rfl rfl ?_
      refine n_iconst 4 rfl dX12_laysCost_32 ?_
      refine v_iald (by omega) (VM_s4 hMi) (by decide) rfl (by decide) dX12_laysCost_33 ?_
      refine n_isub (by omega) dX12_laysCost_34 ?_
      refine n_i2l (by omega) dX12_laysCost_35 ?_
      refine a_aload_n rfl dX12_laysCost_36 ?_
      refine g_l hI_13.1 (by decide) rfl fX12_500 rfl dX12_laysCost_37 ?_
      refine n_lmul dX12_laysCost_40 ?_
      refine n_ladd dX12_laysCost_41 ?_
      refine a_lstore (by decide) rfl dX12_laysCost_42 ?_
      refine a_aload_n rfl dX12_laysCost_44 ?_
      refine a_dup rfl dX12_laysCost_45 ?_
      refine g_l hI_13.2.1 (by decide) rfl fX12_503 rfl dX12_laysCost_46 ?_
      refine a_ldc2 kX12_415 dX12_laysCost_49 ?_
      refine a_eql (y := lN 16) rfl ?_
      refine n_lmul dX12_laysCost_52 ?_
      refine a_putl dX12_laysCost_53 pX12_503 (by decide) rfl rfl ?_
      refine a_aload_n rfl dX12_laysCost_56 ?_
      refine a_iload_n rfl dX12_laysCost_57 ?_
      refine n_i2l (by omega) dX12_laysCost_58 ?_
      refine a_aload_n rfl dX12_laysCost_59 ?_
      refine g_l slS (by decide) rfl fX12_503 rfl dX12_laysCost_60 ?_
      refine n_lmul dX12_laysCost_63 ?_
      refine a_lload rfl dX12_laysCost_64 ?_
      refine n_minl (by omega) (by omega) dX12_laysCost_66 lX12_506 (Nat.le_of_ble_eq_true rfl) ?_
      refine a_putl dX12_laysCost_69 pX12_500 (by decide) rfl rfl ?_
      refine n_iinc (c := 1) rfl rfl (by decide) rfl dX12_laysCost_72 ?_
      refine a_goto 13 dX12_laysCost_75 (by decide) ?_
      exact a_bk (ih_13 _ ⟨slS.trans (congrArg lN (oc_s _ _ _)), slN (slS.trans (by rw [Nat.pow_succ])) (by omega), (hI_13.2.2.1.sl (by omega)).sl (by omega), hI_13.2.2.2⟩) ⟨rfl, rfl, rfl, rfl, trivial⟩
  exact a_bk (loop_13 0 (by omega) _ ⟨slN slS (by omega), slS, (fr.r.sl (by omega)).sl (by omega), rfl⟩) ⟨rfl, rfl, rfl, rfl, trivial⟩

set_option maxRecDepth 100000 in
set_option maxHeartbeats 800000 in
theorem c_X12_off {M : Mm} {T : TT} (hI : IM M T) (hG : TG T) {h n : Int32} {Q : Option Value → Mm → Prop} (hQ : ∀ M', IM M' (sp_off h n T).2 → keX M M' → Q (some (.int (sp_off h n T).1)) M') (d : Nat) : AMt miX12_off (d + 3) [.ref 132, .int h, .int n] M Q := by
  refine AMt.of (by decide) (Nat.le_of_ble_eq_true rfl) ?_
  show AW miX12_off (d + 3) (mxA Q) 0 [(0, some (.ref 132)), (1, some (.int h)), (2, some (.int n))] [] M
  have hF : WF (tS T) := hG.1.1
  have hM : VM 0 M (tS T) := hI.1.1
  have hM1 := m0_VM hM hF
  refine a_aload_n rfl dX12_off_0 ?_
  refine n_iconst 0 rfl dX12_off_1 ?_
  refine a_puti dX12_off_2 pX12_69 (by decide) rfl rfl ?_
  refine a_aload_n rfl dX12_off_5 ?_
  refine n_iconst 0 rfl dX12_off_6 ?_
  refine a_puti dX12_off_7 pX12_72 (by decide) rfl rfl ?_
  show AW miX12_off (d + 3) (mxA Q) 10 [(0, some (.ref 132)), (1, some (.int h)), (2, some (.int n))] [] (m0 M)
  refine a_iload_n rfl dX12_off_10 ?_
  refine a_i2l dX12_off_11 ?_
  refine a_lconst (lN 0) rfl dX12_off_12 ?_
  refine a_ldc2 kX12_411 dX12_off_13 ?_
  refine a_eql (y := lN 99) rfl ?_
  refine n_callS (mi' := miX12_isIn) dX12_off_16 lX12_104 mX12_isIn (c_X12_isIn (lo := lN 0) (hi := lN 99) (fun h_16 => ?_) (fun h_16 => ?_) d) rfl rfl (by omega) (by decide) (Nat.le_of_ble_eq_true rfl)
  · show AW _ _ _ _ _ _ _
    have h_16 := isIn4 (x := h) (a := 0) (b := 99) (by decide) (by decide) h_16
    refine n_if_eq 34 (by decide) dX12_off_19 (by decide) (fun h => absurd h (by decide)) (fun _ => ?_)
    refine a_iload_n rfl dX12_off_22 ?_
    refine a_i2l dX12_off_23 ?_
    refine a_lconst (lN 0) rfl dX12_off_24 ?_
    refine a_ldc2 kX12_509 dX12_off_25 ?_
    refine a_eql (y := lN 8) rfl ?_
    refine n_callS (mi' := miX12_isIn) dX12_off_28 lX12_104 mX12_isIn (c_X12_isIn (lo := lN 0) (hi := lN 8) (fun h_28 => ?_) (fun h_28 => ?_) d) rfl rfl (by omega) (by decide) (Nat.le_of_ble_eq_true rfl)
    · show AW _ _ _ _ _ _ _
      have h_28 := isIn4 (x := n) (a := 0) (b := 8) (by decide) (by decide) h_28
      refine n_if_ne 40 (by decide) dX12_off_31 (by decide) (fun _ => ?_) (fun h => absurd h (by decide))
      obtain ⟨a, ha, rfl⟩ := inR_of (x := h) (m := 100) (by omega) (by omega) (by omega)
      have t_a : (nI a).toInt = (a : Int) := nI_toInt (by omega)
      have i_a : idx (nI a) = a := idx_nI (by omega)
      obtain ⟨b, hb, rfl⟩ := inR_of (x := n) (m := 9) (by omega) (by omega) (by omega)
      have t_b : (nI b).toInt = (b : Int) := nI_toInt (by omega)
      have i_b : idx (nI b) = b := idx_nI (by omega)
      have hb1 := oc_b (o := tS T 0 0) (show a ≤ 99 by omega) (show b ≤ 8 by omega)
      have hb2 := p16 (show b ≤ 8 by omega)
      refine a_aload_n rfl dX12_off_40 ?_
      refine a_iload_n rfl dX12_off_41 ?_
      refine a_iload_n rfl dX12_off_42 ?_
      refine n_callV (mi' := miX12_laysCost) dX12_off_43 lX12_511 mX12_laysCost (by decide) rfl rfl rfl (c_X12_laysCost hM1 hF (by omega) (by omega) (fun M_43 ha_43 hb_43 hf_43 he_43 => ?_) d) rfl rfl (by omega) (by decide) (Nat.le_of_ble_eq_true rfl)
      show AW _ _ _ _ _ _ _
      refine a_aload_n rfl dX12_off_46 ?_
      refine a_aload_n rfl dX12_off_47 ?_
      refine g_l ha_43 (by decide) rfl fX12_500 rfl dX12_off_48 ?_
      refine a_aload_n rfl dX12_off_51 ?_
      refine g_l hb_43 (by decide) rfl fX12_503 rfl dX12_off_52 ?_
      refine n_callV (mi' := miX12_fraction) dX12_off_55 lX12_514 mX12_fraction (by decide) rfl rfl rfl (c_X12_fraction (by omega) (by omega) (by omega) ?_ d) rfl rfl (by omega) (by decide) (Nat.le_of_ble_eq_true rfl)
      show AW _ _ _ _ _ _ _
      refine a_zret dX12_off_58 rfl (Or.inr rfl) ?_
      exact fin_FM hQ hI hG (by unfold sp_off; rw [if_pos (by omega), i_a, i_b]) (hf_43.i m0_s (by omega)) (m0_fr.t (hf_43.mo (fun k j h => by unfold scM coM; omega)))
    · show AW _ _ _ _ _ _ _
      have h_28 := isIn4n (x := n) (a := 0) (b := 8) (by decide) (by decide) h_28
      refine n_if_ne 40 (by decide) dX12_off_31 (by decide) (fun h => absurd h (by decide)) (fun _ => ?_)
      refine a_aload_n rfl dX12_off_34 ?_
      refine n_iconst 5 rfl dX12_off_35 ?_
      refine n_callV (mi' := miX12_no) dX12_off_36 lX12_84 mX12_no (by decide) rfl rfl rfl (c_X12_no ?_ d) rfl rfl (by omega) (by decide) (Nat.le_of_ble_eq_true rfl)
      show AW _ _ _ _ _ _ _
      refine a_zret dX12_off_39 rfl (Or.inl rfl) ?_
      exact fin_qM hQ hI hG (by unfold sp_off; rw [if_neg (by omega)]) siS (m0_fr.si (by unfold scM coM; omega))
  · show AW _ _ _ _ _ _ _
    have h_16 := isIn4n (x := h) (a := 0) (b := 99) (by decide) (by decide) h_16
    refine n_if_eq 34 (by decide) dX12_off_19 (by decide) (fun _ => ?_) (fun h => absurd h (by decide))
    refine a_aload_n rfl dX12_off_34 ?_
    refine n_iconst 5 rfl dX12_off_35 ?_
    refine n_callV (mi' := miX12_no) dX12_off_36 lX12_84 mX12_no (by decide) rfl rfl rfl (c_X12_no ?_ d) rfl rfl (by omega) (by decide) (Nat.le_of_ble_eq_true rfl)
    show AW _ _ _ _ _ _ _
    refine a_zret dX12_off_39 rfl (Or.inl rfl) ?_
    exact fin_qM hQ hI hG (by unfold sp_off; rw [if_neg (by omega)]) siS (m0_fr.si (by unfold scM coM; omega))

set_option maxRecDepth 100000 in
set_option maxHeartbeats 800000 in
theorem c_X12_stay {M : Mm} {T : TT} (hI : IM M T) (hG : TG T) {h n : Int32} {Q : Option Value → Mm → Prop} (hQ : ∀ M', IM M' (sp_stay h n T).2 → keX M M' → Q (some (.int (sp_stay h n T).1)) M') (d : Nat) : AMt miX12_stay (d + 3) [.ref 132, .int h, .int n] M Q := by
  refine AMt.of (by decide) (Nat.le_of_ble_eq_true rfl) ?_
  show AW miX12_stay (d + 3) (mxA Q) 0 [(0, some (.ref 132)), (1, some (.int h)), (2, some (.int n))] [] M
  have hF : WF (tS T) := hG.1.1
  have hM : VM 0 M (tS T) := hI.1.1
  have hM1 := m0_VM hM hF
  refine a_aload_n rfl dX12_stay_0 ?_
  refine n_iconst 0 rfl dX12_stay_1 ?_
  refine a_puti dX12_stay_2 pX12_69 (by decide) rfl rfl ?_
  refine a_aload_n rfl dX12_stay_5 ?_
  refine n_iconst 0 rfl dX12_stay_6 ?_
  refine a_puti dX12_stay_7 pX12_72 (by decide) rfl rfl ?_
  show AW miX12_stay (d + 3) (mxA Q) 10 [(0, some (.ref 132)), (1, some (.int h)), (2, some (.int n))] [] (m0 M)
  refine a_iload_n rfl dX12_stay_10 ?_
  refine a_i2l dX12_stay_11 ?_
  refine a_lconst (lN 0) rfl dX12_stay_12 ?_
  refine a_ldc2 kX12_411 dX12_stay_13 ?_
  refine a_eql (y := lN 99) rfl ?_
  refine n_callS (mi' := miX12_isIn) dX12_stay_16 lX12_104 mX12_isIn (c_X12_isIn (lo := lN 0) (hi := lN 99) (fun h_16 => ?_) (fun h_16 => ?_) d) rfl rfl (by omega) (by decide) (Nat.le_of_ble_eq_true rfl)
  · show AW _ _ _ _ _ _ _
    have h_16 := isIn4 (x := h) (a := 0) (b := 99) (by decide) (by decide) h_16
    refine n_if_eq 34 (by decide) dX12_stay_19 (by decide) (fun h => absurd h (by decide)) (fun _ => ?_)
    refine a_iload_n rfl dX12_stay_22 ?_
    refine a_i2l dX12_stay_23 ?_
    refine a_lconst (lN 0) rfl dX12_stay_24 ?_
    refine a_ldc2 kX12_509 dX12_stay_25 ?_
    refine a_eql (y := lN 8) rfl ?_
    refine n_callS (mi' := miX12_isIn) dX12_stay_28 lX12_104 mX12_isIn (c_X12_isIn (lo := lN 0) (hi := lN 8) (fun h_28 => ?_) (fun h_28 => ?_) d) rfl rfl (by omega) (by decide) (Nat.le_of_ble_eq_true rfl)
    · show AW _ _ _ _ _ _ _
      have h_28 := isIn4 (x := n) (a := 0) (b := 8) (by decide) (by decide) h_28
      refine n_if_ne 40 (by decide) dX12_stay_31 (by decide) (fun _ => ?_) (fun h => absurd h (by decide))
      obtain ⟨a, ha, rfl⟩ := inR_of (x := h) (m := 100) (by omega) (by omega) (by omega)
      have t_a : (nI a).toInt = (a : Int) := nI_toInt (by omega)
      have i_a : idx (nI a) = a := idx_nI (by omega)
      obtain ⟨b, hb, rfl⟩ := inR_of (x := n) (m := 9) (by omega) (by omega) (by omega)
      have t_b : (nI b).toInt = (b : Int) := nI_toInt (by omega)
      have i_b : idx (nI b) = b := idx_nI (by omega)
      have hb1 := oc_b (o := tS T 0 0) (show a ≤ 99 by omega) (show b ≤ 8 by omega)
      have hb2 := p16 (show b ≤ 8 by omega)
      refine a_aload_n rfl dX12_stay_40 ?_
      refine a_iload_n rfl dX12_stay_41 ?_
      refine a_iload_n rfl dX12_stay_42 ?_
      refine n_callV (mi' := miX12_laysCost) dX12_stay_43 lX12_511 mX12_laysCost (by decide) rfl rfl rfl (c_X12_laysCost hM1 hF (by omega) (by omega) (fun M_43 ha_43 hb_43 hf_43 he_43 => ?_) d) rfl rfl (by omega) (by decide) (Nat.le_of_ble_eq_true rfl)
      show AW _ _ _ _ _ _ _
      refine a_aload_n rfl dX12_stay_46 ?_
      refine g_l ha_43 (by decide) rfl fX12_500 rfl dX12_stay_47 ?_
      refine a_iload_n rfl dX12_stay_50 ?_
      refine n_i2l (by omega) dX12_stay_51 ?_
      refine a_aload_n rfl dX12_stay_52 ?_
      refine g_l hb_43 (by decide) rfl fX12_503 rfl dX12_stay_53 ?_
      refine n_lmul dX12_stay_56 ?_
      refine a_lcmp dX12_stay_57 ?_
      refine nl_if_ge 65 (by omega) (by omega) dX12_stay_58 (by decide) (fun h_58 => ?_) (fun h_58 => ?_)
      · refine n_iconst 0 rfl dX12_stay_65 ?_
        refine a_iret dX12_stay_66 rfl ?_
        exact fin_qM hQ hI hG (by unfold sp_stay; rw [if_pos (by omega), i_a, i_b, if_neg (by omega)]) (hf_43.i m0_s (by omega)) (m0_fr.t (hf_43.mo (fun k j h => by unfold scM coM; omega)))
      · refine n_iconst 1 rfl dX12_stay_61 ?_
        refine a_goto 66 dX12_stay_62 (by decide) ?_
        refine a_iret dX12_stay_66 rfl ?_
        exact fin_qM hQ hI hG (by unfold sp_stay; rw [if_pos (by omega), i_a, i_b, if_pos (by omega)]) (hf_43.i m0_s (by omega)) (m0_fr.t (hf_43.mo (fun k j h => by unfold scM coM; omega)))
    · show AW _ _ _ _ _ _ _
      have h_28 := isIn4n (x := n) (a := 0) (b := 8) (by decide) (by decide) h_28
      refine n_if_ne 40 (by decide) dX12_stay_31 (by decide) (fun h => absurd h (by decide)) (fun _ => ?_)
      refine a_aload_n rfl dX12_stay_34 ?_
      refine n_iconst 5 rfl dX12_stay_35 ?_
      refine n_callV (mi' := miX12_refuse) dX12_stay_36 lX12_345 mX12_refuse (by decide) rfl rfl rfl (c_X12_refuse ?_ d) rfl rfl (by omega) (by decide) (Nat.le_of_ble_eq_true rfl)
      show AW _ _ _ _ _ _ _
      refine a_iret dX12_stay_39 rfl ?_
      exact fin_qM hQ hI hG (by unfold sp_stay; rw [if_neg (by omega)]) siS (m0_fr.si (by unfold scM coM; omega))
  · show AW _ _ _ _ _ _ _
    have h_16 := isIn4n (x := h) (a := 0) (b := 99) (by decide) (by decide) h_16
    refine n_if_eq 34 (by decide) dX12_stay_19 (by decide) (fun _ => ?_) (fun h => absurd h (by decide))
    refine a_aload_n rfl dX12_stay_34 ?_
    refine n_iconst 5 rfl dX12_stay_35 ?_
    refine n_callV (mi' := miX12_refuse) dX12_stay_36 lX12_345 mX12_refuse (by decide) rfl rfl rfl (c_X12_refuse ?_ d) rfl rfl (by omega) (by decide) (Nat.le_of_ble_eq_true rfl)
    show AW _ _ _ _ _ _ _
    refine a_iret dX12_stay_39 rfl ?_
    exact fin_qM hQ hI hG (by unfold sp_stay; rw [if_neg (by omega)]) siS (m0_fr.si (by unfold scM coM; omega))

set_option maxRecDepth 100000 in
set_option maxHeartbeats 800000 in
theorem c_X12_lasts {M : Mm} {T : TT} (hI : IM M T) (hG : TG T) {n : Int32} {Q : Option Value → Mm → Prop} (hQ : ∀ M', IM M' (sp_lasts n T).2 → keX M M' → Q (some (.int (sp_lasts n T).1)) M') (d : Nat) : AMt miX12_lasts (d + 3) [.ref 132, .int n] M Q := by
  refine AMt.of (by decide) (Nat.le_of_ble_eq_true rfl) ?_
  show AW miX12_lasts (d + 3) (mxA Q) 0 [(0, some (.ref 132)), (1, some (.int n))] [] M
  have hF : WF (tS T) := hG.1.1
  have hM : VM 0 M (tS T) := hI.1.1
  have hM1 := m0_VM hM hF
  have hod := WF_odds hF
  refine a_aload_n rfl dX12_lasts_0 ?_
  refine n_iconst 0 rfl dX12_lasts_1 ?_
  refine a_puti dX12_lasts_2 pX12_69 (by decide) rfl rfl ?_
  refine a_aload_n rfl dX12_lasts_5 ?_
  refine n_iconst 0 rfl dX12_lasts_6 ?_
  refine a_puti dX12_lasts_7 pX12_72 (by decide) rfl rfl ?_
  show AW miX12_lasts (d + 3) (mxA Q) 10 [(0, some (.ref 132)), (1, some (.int n))] [] (m0 M)
  refine a_iload_n rfl dX12_lasts_10 ?_
  refine a_i2l dX12_lasts_11 ?_
  refine a_lconst (lN 0) rfl dX12_lasts_12 ?_
  refine a_ldc2 kX12_527 dX12_lasts_13 ?_
  refine a_eql (y := lN 12) rfl ?_
  refine n_callS (mi' := miX12_isIn) dX12_lasts_16 lX12_104 mX12_isIn (c_X12_isIn (lo := lN 0) (hi := lN 12) (fun h_16 => ?_) (fun h_16 => ?_) d) rfl rfl (by omega) (by decide) (Nat.le_of_ble_eq_true rfl)
  · show AW _ _ _ _ _ _ _
    have h_16 := isIn4 (x := n) (a := 0) (b := 12) (by decide) (by decide) h_16
    refine n_if_ne 28 (by decide) dX12_lasts_19 (by decide) (fun _ => ?_) (fun h => absurd h (by decide))
    obtain ⟨b, hb, rfl⟩ := inR_of (x := n) (m := 13) (by omega) (by omega) (by omega)
    have t_b : (nI b).toInt = (b : Int) := nI_toInt (by omega)
    have i_b : idx (nI b) = b := idx_nI (by omega)
    have hb2 := p16b (show b ≤ 12 by omega)
    have hlp : ∀ i, i ≤ 12 → (16 - tS T 0 0) ^ i ≤ 281474976710656 := fun i hi => Nat.le_trans (Nat.pow_le_pow_left (Nat.sub_le _ _) i) (p16b hi).1
    have hlb := hlp b (by omega)
    refine a_lconst (lN 1) rfl dX12_lasts_28 ?_
    refine a_lstore_n (by decide) rfl dX12_lasts_29 ?_
    refine a_lconst (lN 1) rfl dX12_lasts_30 ?_
    refine a_lstore (by decide) rfl dX12_lasts_31 ?_
    refine n_iconst 0 rfl dX12_lasts_33 ?_
    refine a_istore (by decide) rfl dX12_lasts_34 ?_
    have loop_36 : ∀ i, i ≤ b → AW miX12_lasts (d + 3) (mxA Q) 36 [(0, some (.ref 132)), (1, some (.int (nI b))), (2, some (.long (lN ((16 - tS T 0 0) ^ i)))), (4, some (.long (lN (16 ^ i)))), (6, some (.int (nI i)))] [] ((m0 M)) := by
      refine up b ?_ (fun i hi_36 ih_36 => ?_)
      · refine a_iload rfl dX12_lasts_36 ?_
        refine a_iload_n rfl dX12_lasts_38 ?_
        refine n_icmp_ge 69 (by omega) (by omega) dX12_lasts_39 (by decide) (fun h_39 => ?_) (fun h_39 => absurd h_39 (by omega))
        refine a_aload_n rfl dX12_lasts_69 ?_
        refine a_lload_n rfl dX12_lasts_70 ?_
        refine a_lload rfl dX12_lasts_71 ?_
        refine n_callV (mi' := miX12_fraction) dX12_lasts_73 lX12_514 mX12_fraction (by decide) rfl rfl rfl (c_X12_fraction (by omega) (by omega) (by omega) ?_ d) rfl rfl (by omega) (by decide) (Nat.le_of_ble_eq_true rfl)
        show AW _ _ _ _ _ _ _
        refine a_zret dX12_lasts_76 rfl (Or.inr rfl) ?_
        exact fin_FM hQ hI hG (by unfold sp_lasts; rw [if_pos (by omega), i_b]) m0_s m0_fr
      · have hli := hlp i (by omega)
        have hl2 := p16b (show i ≤ 12 by omega)
        refine a_iload rfl dX12_lasts_36 ?_
        refine a_iload_n rfl dX12_lasts_38 ?_
        refine n_icmp_ge 69 (by omega) (by omega) dX12_lasts_39 (by decide) (fun h_39 => absurd h_39 (by omega)) (fun h_39 => ?_)
        refine a_lload_n rfl dX12_lasts_42 ?_
        refine n_bipush 16 rfl dX12_lasts_43 ?_
        refine a_aload_n rfl dX12_lasts_45 ?_
        refine a_geta dX12_lasts_46 fX12_35 (by decide) rfl rfl ?_
        refine n_iconst 4 rfl dX12_lasts_49 ?_
        refine v_iald (by omega) (VM_s4 hM1) (by decide) rfl (by decide) dX12_lasts_50 ?_
        refine n_isub (by omega) dX12_lasts_51 ?_
        refine n_i2l (by omega) dX12_lasts_52 ?_
        refine n_lmul dX12_lasts_53 ?_
        refine a_lstore_n (by decide) rfl dX12_lasts_54 ?_
        refine a_lload rfl dX12_lasts_55 ?_
        refine a_ldc2 kX12_415 dX12_lasts_57 ?_
        refine a_eql (y := lN 16) rfl ?_
        refine n_lmul dX12_lasts_60 ?_
        refine a_lstore (by decide) rfl dX12_lasts_61 ?_
        refine n_iinc (c := 1) rfl rfl (by decide) rfl dX12_lasts_63 ?_
        refine a_goto 36 dX12_lasts_66 (by decide) ?_
        rw [Nat.pow_succ, Nat.pow_succ] at ih_36
        exact a_bk ih_36 ⟨rfl, rfl, rfl, rfl, rfl, trivial⟩
    exact a_bk (loop_36 0 (by omega)) ⟨rfl, rfl, rfl, rfl, rfl, trivial⟩
  · show AW _ _ _ _ _ _ _
    have h_16 := isIn4n (x := n) (a := 0) (b := 12) (by decide) (by decide) h_16
    refine n_if_ne 28 (by decide) dX12_lasts_19 (by decide) (fun h => absurd h (by decide)) (fun _ => ?_)
    refine a_aload_n rfl dX12_lasts_22 ?_
    refine n_iconst 5 rfl dX12_lasts_23 ?_
    refine n_callV (mi' := miX12_no) dX12_lasts_24 lX12_84 mX12_no (by decide) rfl rfl rfl (c_X12_no ?_ d) rfl rfl (by omega) (by decide) (Nat.le_of_ble_eq_true rfl)
    show AW _ _ _ _ _ _ _
    refine a_zret dX12_lasts_27 rfl (Or.inl rfl) ?_
    exact fin_qM hQ hI hG (by unfold sp_lasts; rw [if_neg (by omega)]) siS (m0_fr.si (by unfold scM coM; omega))

set_option maxRecDepth 100000 in
set_option maxHeartbeats 800000 in
theorem c_X12_share {M : Mm} {T : TT} (hI : IM M T) (hG : TG T) {p : Int32} {Q : Option Value → Mm → Prop} (hQ : ∀ M', IM M' (sp_share p T).2 → keX M M' → Q (some (.int (sp_share p T).1)) M') (d : Nat) : AMt miX12_share (d + 4) [.ref 132, .int p] M Q := by
  refine AMt.of (by decide) (Nat.le_of_ble_eq_true rfl) ?_
  show AW miX12_share (d + 4) (mxA Q) 0 [(0, some (.ref 132)), (1, some (.int p))] [] M
  have hF : WF (tS T) := hG.1.1
  have hM : VM 0 M (tS T) := hI.1.1
  have hM1 := m0_VM hM hF
  have hs : tS T 0 4 ≤ 7 := WF_s hF
  have hal := hall_le hF
  refine a_aload_n rfl dX12_share_0 ?_
  refine n_iconst 0 rfl dX12_share_1 ?_
  refine a_puti dX12_share_2 pX12_69 (by decide) rfl rfl ?_
  refine a_aload_n rfl dX12_share_5 ?_
  refine n_iconst 0 rfl dX12_share_6 ?_
  refine a_puti dX12_share_7 pX12_72 (by decide) rfl rfl ?_
  show AW miX12_share (d + 4) (mxA Q) 10 [(0, some (.ref 132)), (1, some (.int p))] [] (m0 M)
  refine a_aload_n rfl dX12_share_10 ?_
  refine a_iload_n rfl dX12_share_11 ?_
  refine n_callV (mi' := miX12_isSitterAt) dX12_share_12 lX12_371 mX12_isSitterAt (by decide) rfl rfl rfl (c_X12_isSitterAt hM1 hF (fun j_12 h_12 e_12 => ?_) (fun h_12 => ?_) d) rfl rfl (by omega) (by decide) (Nat.le_of_ble_eq_true rfl)
  · show AW _ _ _ _ _ _ _
    subst e_12
    have t_12 : (nI j_12).toInt = (j_12 : Int) := nI_toInt (by omega)
    refine n_if_ne 24 (by decide) dX12_share_15 (by decide) (fun _ => ?_) (fun h => absurd h (by decide))
    refine a_aload_n rfl dX12_share_24 ?_
    refine n_callV (mi' := miX12_heights) dX12_share_25 lX12_529 mX12_heights (by decide) rfl rfl rfl (c_X12_heights hM1 hF ?_ d) rfl rfl (by omega) (by decide) (Nat.le_of_ble_eq_true rfl)
    show AW _ _ _ _ _ _ _
    refine a_eqi (y := nI (hallN (tS T))) rfl ?_
    refine a_istore_n (by decide) rfl dX12_share_28 ?_
    refine a_iload_n rfl dX12_share_29 ?_
    refine n_if_ne 42 (by omega) dX12_share_30 (by decide) (fun h_30 => ?_) (fun h_30 => ?_)
    · refine a_aload_n rfl dX12_share_42 ?_
      refine a_aload_n rfl dX12_share_43 ?_
      refine a_iload_n rfl dX12_share_44 ?_
      refine n_callV (mi' := miX12_heightOf) dX12_share_45 lX12_340 mX12_heightOf (by decide) rfl rfl rfl (c_X12_heightOf hM1 hF (by omega) ?_ d) rfl rfl (by omega) (by decide) (Nat.le_of_ble_eq_true rfl)
      show AW _ _ _ _ _ _ _
      refine a_eqi (y := nI (hghN (tS T) j_12)) rfl ?_
      have hh1 := hgt_le (tS T 6 j_12) (tS T 2 (tS T 7 j_12))
      have hh2 := WF_tall hF j_12 (by omega)
      have hh3 : hghN (tS T) j_12 = hgt (tS T 6 j_12) (tS T 2 (tS T 7 j_12)) := rfl
      refine n_i2l (by omega) dX12_share_48 ?_
      refine a_iload_n rfl dX12_share_49 ?_
      refine n_i2l (by omega) dX12_share_50 ?_
      refine n_callV (mi' := miX12_fraction) dX12_share_51 lX12_514 mX12_fraction (by decide) rfl rfl rfl (c_X12_fraction (by omega) (by omega) (by omega) ?_ d) rfl rfl (by omega) (by decide) (Nat.le_of_ble_eq_true rfl)
      show AW _ _ _ _ _ _ _
      refine a_zret dX12_share_54 rfl (Or.inr rfl) ?_
      exact fin_FM hQ hI hG (by unfold sp_share; rw [if_pos (by omega), if_neg h_30, idx_nI (show j_12 < 2 ^ 31 by omega)]) m0_s m0_fr
    · refine a_aload_n rfl dX12_share_33 ?_
      refine n_bipush 8 rfl dX12_share_34 ?_
      refine n_callV (mi' := miX12_no) dX12_share_36 lX12_84 mX12_no (by decide) rfl rfl rfl (c_X12_no ?_ d) rfl rfl (by omega) (by decide) (Nat.le_of_ble_eq_true rfl)
      show AW _ _ _ _ _ _ _
      refine a_goto 54 dX12_share_39 (by decide) ?_
      refine a_zret dX12_share_54 rfl (Or.inl rfl) ?_
      exact fin_qM hQ hI hG (by unfold sp_share; rw [if_pos (by omega), if_pos h_30]) siS (m0_fr.si (by unfold scM coM; omega))
  · show AW _ _ _ _ _ _ _
    have h_12 := not_inR h_12 (by omega)
    refine n_if_ne 24 (by decide) dX12_share_15 (by decide) (fun h => absurd h (by decide)) (fun _ => ?_)
    refine a_aload_n rfl dX12_share_18 ?_
    refine n_iconst 2 rfl dX12_share_19 ?_
    refine n_callV (mi' := miX12_no) dX12_share_20 lX12_84 mX12_no (by decide) rfl rfl rfl (c_X12_no ?_ d) rfl rfl (by omega) (by decide) (Nat.le_of_ble_eq_true rfl)
    show AW _ _ _ _ _ _ _
    refine a_zret dX12_share_23 rfl (Or.inl rfl) ?_
    exact fin_qM hQ hI hG (by unfold sp_share; rw [if_neg (by omega)]) siS (m0_fr.si (by unfold scM coM; omega))

set_option maxRecDepth 100000 in
set_option maxHeartbeats 800000 in
theorem c_X7_readMatter {M : Mm} {tk : Nat → TK} {n : Nat} {c : CC} (hK : TKG tk) (hT : TX M tk n) (hC : CU M n c) {S : ST} {N : NM} (hV : VX 37 M S) (hF : WF S) (hN : VN 37 M S N) {Q : Option Value → Mm → Prop} (hQ : ∀ M', CU M' n (ptM tk S N c).1 → ((ptM tk S N c).1.2.1 = 0 → VX 37 M' (ptM tk S N c).2.1 ∧ VN 37 M' (ptM tk S N c).2.1 (ptM tk S N c).2.2) → fr rvP M M' → Q none M') (d : Nat) : AMt miX7_readMatter (d + 5) [.ref 37, .ref 10] M Q := by
  refine AMt.of (by decide) (Nat.le_of_ble_eq_true rfl) ?_
  show AW miX7_readMatter (d + 5) (mxA Q) 0 [(0, some (.ref 37)), (1, some (.ref 10))] [] M
  have hc1 := hC.1
  have hn1 := hT.2.1
  have hn9 := hT.2.2.1
  have hf7 := hC.2.2.2.2
  have hkd : kd tk c ≤ 6 := (hK c.1).1
  have hst := (hK c.1).2.1
  have htx := tx_kd hT hC
  have hm := WF_m hF
  have hh := WF_h hF
  have hs := WF_s hF
  have hn := WF_n hF
  refine a_aload_n rfl dX7_readMatter_0 ?_
  refine a_aload_n rfl dX7_readMatter_1 ?_
  refine g_i (VX_2 hV) (by decide) rfl fX7_67 rfl dX7_readMatter_2 ?_
  refine n_bipush 6 rfl dX7_readMatter_5 ?_
  refine n_icmp_lt 14 (by omega) (by omega) dX7_readMatter_7 (by decide) (fun h_7 => ?_) (fun h_7 => ?_)
  · refine n_iconst 0 rfl dX7_readMatter_14 ?_
    refine n_callS (mi' := miX7_begin) dX7_readMatter_15 lX7_70 mX7_begin (c_X7_begin (c := c) (b := decide (6 ≤ S 0 2)) hK hT hC (by rw [decide_eq_false (by omega)]; rfl) (fun M_15 hc_15 hf_15 => ?_) d) rfl rfl (by omega) (by decide) (Nat.le_of_ble_eq_true rfl)
    show AW _ _ _ _ _ _ _
    have hT_15 := TX_fr hT hf_15 (fun k j h => by unfold cuP; omega)
    have hV_15 := VX_cu isW37 hV hf_15
    have hN_15 := VN_cu isW37 hN hf_15
    refine a_aload_n rfl dX7_readMatter_18 ?_
    refine a_aload_n rfl dX7_readMatter_19 ?_
    refine n_callV (mi' := miX4_takeNewName) dX7_readMatter_20 lX7_74 mX4_takeNewName (by decide) rfl rfl rfl (c_X4_takeNewName (c := (maA tk S c)) hK hT_15 hc_15 isW37 hV_15 hF hN_15 (fun M_20 v_20 hc_20 hv_20 hf_20 => ?_) d) rfl rfl (by omega) (by decide) (Nat.le_of_ble_eq_true rfl)
    show AW _ _ _ _ _ _ _
    have hT_20 := TX_fr hT_15 hf_20 (fun k j h => by unfold cuP; omega)
    have hV_20 := VX_cu isW37 hV_15 hf_20
    have hN_20 := VN_cu isW37 hN_15 hf_20
    refine a_lstore_n (by decide) rfl dX7_readMatter_23 ?_
    refine a_aload_n rfl dX7_readMatter_24 ?_
    refine n_iconst 2 rfl dX7_readMatter_25 ?_
    refine n_callV (mi' := miX4_takeKeyword) dX7_readMatter_26 lX7_80 mX4_takeKeyword (by decide) rfl rfl rfl (c_X4_takeKeyword (c := (maB tk S N c)) hK hT_20 hc_20 (by omega) (fun M_26 hc_26 hf_26 => ?_) d) rfl rfl (by omega) (by decide) (Nat.le_of_ble_eq_true rfl)
    show AW _ _ _ _ _ _ _
    have hT_26 := TX_fr hT_20 hf_26 (fun k j h => by unfold cuP; omega)
    have hV_26 := VX_cu isW37 hV_20 hf_26
    have hN_26 := VN_cu isW37 hN_20 hf_26
    refine a_aload_n rfl dX7_readMatter_29 ?_
    refine n_iconst 0 rfl dX7_readMatter_30 ?_
    refine n_bipush 20 rfl dX7_readMatter_31 ?_
    refine n_callV (mi' := miX4_takeNumber) dX7_readMatter_33 lX7_59 mX4_takeNumber (by decide) rfl rfl rfl (c_X4_takeNumber (c := (maC tk S N c)) hK hT_26 hc_26 (by omega) (by omega) (fun M_33 v_33 hc_33 hv_33 hf_33 => ?_) d) rfl rfl (by omega) (by decide) (Nat.le_of_ble_eq_true rfl)
    show AW _ _ _ _ _ _ _
    have hT_33 := TX_fr hT_26 hf_33 (fun k j h => by unfold cuP; omega)
    have hV_33 := VX_cu isW37 hV_26 hf_33
    have hN_33 := VN_cu isW37 hN_26 hf_33
    refine a_istore (by decide) rfl dX7_readMatter_36 ?_
    refine n_iconst 0 rfl dX7_readMatter_38 ?_
    refine a_istore (by decide) rfl dX7_readMatter_39 ?_
    refine a_aload_n rfl dX7_readMatter_41 ?_
    refine n_callV (mi' := miX4_keyword) dX7_readMatter_42 lX7_33 mX4_keyword (by decide) rfl rfl rfl (c_X4_keyword (c := (maD tk S N c)) hK hT_33 hc_33 (fun h_42 hl_42 => ?_) (fun h_42 => ?_) d) rfl rfl (by omega) (by decide) (Nat.le_of_ble_eq_true rfl)
    · show AW _ _ _ _ _ _ _
      refine n_iconst 3 rfl dX7_readMatter_45 ?_
      refine n_icmp_ne 62 (by omega) (by omega) dX7_readMatter_46 (by decide) (fun h_46 => ?_) (fun h_46 => ?_)
      · refine a_aload_n rfl dX7_readMatter_62 ?_
        refine n_callV (mi' := miX4_areGood) dX7_readMatter_63 lX7_83 mX4_areGood (by decide) rfl rfl rfl (c_X4_areGood (c := (maD tk S N c)) hK hT_33 hc_33 (fun h_63 => ?_) (fun h_63 => ?_) d) rfl rfl (by omega) (by decide) (Nat.le_of_ble_eq_true rfl)
        · show AW _ _ _ _ _ _ _
          have hk : ¬ isK tk (maD tk S N c) 3 = true := fun q => h_46 (isK_i.mp q).2
          have e1 : opN tk 3 0 100 (maD tk S N c) = (maD tk S N c) := if_neg hk
          have e2 : opV tk 3 0 (maD tk S N c) = 0 := if_neg hk
          have z4 : (maD tk S N c).2.1 = 0 := h_63
          have z3 := num_0 (show (numC tk 0 20 (maC tk S N c)).2.1 = 0 from z4)
          have z2 := kwd_0 (show (kwdC tk 2 (maB tk S N c)).2.1 = 0 from z3.1)
          have z1 := new_0 (show (newC tk S N (maA tk S c)).2.1 = 0 from z2.1)
          have z0 := bg_0 (by decide) (show (bgC tk (decide (6 ≤ S 0 2)) 6 c).2.1 = 0 from z1.1)
          have hm6 : S 0 2 < 6 := Nat.not_le.mp (of_decide_eq_false z0.2.1)
          have e20 := hv_20 z2.1
          have e33 := hv_33 z4
          subst e20
          subst e33
          refine n_if_eq 78 (by decide) dX7_readMatter_66 (by decide) (fun h => absurd h (by decide)) (fun _ => ?_)
          refine a_aload_n rfl dX7_readMatter_69 ?_
          refine a_lload_n rfl dX7_readMatter_70 ?_
          refine a_iload rfl dX7_readMatter_71 ?_
          refine a_iload rfl dX7_readMatter_73 ?_
          refine n_callV (mi' := miX6_addMatter) dX7_readMatter_75 lX7_86 mX6_addMatter (by decide) rfl rfl rfl (c_X6_addMatter isW37 hV_33 hF hm6 (fun hV_75 => ?_) d) rfl rfl (by omega) (by decide) (Nat.le_of_ble_eq_true rfl)
          show AW _ _ _ _ _ _ _
          refine a_vret dX7_readMatter_78 rfl ?_
          have hf2 : fr (fun k j => 37 ≤ k ∧ k < 50) M_33 (siM (siM (siM (slM M_33 (37 + 1) (S 0 2) (lN (cd tk (maA tk S c)))) (37 + 2) (S 0 2) (nI (cd tk (maC tk S N c)))) (37 + 3) (S 0 2) (nI (0))) 37 2 (nI (S 0 2 + 1))) := (((fr.r.sl (by omega)).si (by omega)).si (by omega)).si (by omega)
          refine hQ _ (by show CU _ n (opN tk 3 0 100 (maD tk S N c)); rw [e1]; exact CU_fr hc_33 hf2 (fun j _ _ => by omega)) (fun z => ?_) (((((hf_15.t hf_20).t hf_26).t hf_33).mo (fun _ _ h => cu_rv h)).t (hf2.mo (fun k j h => Or.inr h)))
          show VX 37 _ (addMN S (cd tk (maC tk S N c)) (opV tk 3 0 (maD tk S N c))) ∧ VN 37 _ (addMN S (cd tk (maC tk S N c)) (opV tk 3 0 (maD tk S N c))) (upN N 0 (S 0 2) (lN (cd tk (maA tk S c))))
          rw [e2]
          exact ⟨hV_75, VN_adm hN_33 (fun k j h => slN rfl (by omega)) slS⟩
        · show AW _ _ _ _ _ _ _
          have hk : ¬ isK tk (maD tk S N c) 3 = true := fun q => h_46 (isK_i.mp q).2
          have e1 : opN tk 3 0 100 (maD tk S N c) = (maD tk S N c) := if_neg hk
          have e2 : opV tk 3 0 (maD tk S N c) = 0 := if_neg hk
          refine n_if_eq 78 (by decide) dX7_readMatter_66 (by decide) (fun _ => ?_) (fun h => absurd h (by decide))
          refine a_vret dX7_readMatter_78 rfl ?_
          exact hQ _ (by show CU _ n (opN tk 3 0 100 (maD tk S N c)); rw [e1]; exact hc_33) (fun z => absurd (show (opN tk 3 0 100 (maD tk S N c)).2.1 = 0 from z) (by rw [e1]; exact h_63)) ((((hf_15.t hf_20).t hf_26).t hf_33).mo (fun _ _ h => cu_rv h))
      · refine a_aload_n rfl dX7_readMatter_49 ?_
        refine n_callV (mi' := miX4_step) dX7_readMatter_50 lX7_56 mX4_step (by decide) rfl rfl rfl (c_X4_step (c := (maD tk S N c)) hK hT_33 hc_33 (fun M_50 hc_50 hf_50 => ?_) d) rfl rfl (by omega) (by decide) (Nat.le_of_ble_eq_true rfl)
        show AW _ _ _ _ _ _ _
        have hT_50 := TX_fr hT_33 hf_50 (fun k j h => by unfold cuP; omega)
        have hV_50 := VX_cu isW37 hV_33 hf_50
        have hN_50 := VN_cu isW37 hN_33 hf_50
        refine a_aload_n rfl dX7_readMatter_53 ?_
        refine n_iconst 0 rfl dX7_readMatter_54 ?_
        refine n_bipush 100 rfl dX7_readMatter_55 ?_
        refine n_callV (mi' := miX4_takeNumber) dX7_readMatter_57 lX7_59 mX4_takeNumber (by decide) rfl rfl rfl (c_X4_takeNumber (c := (spC tk (maD tk S N c))) hK hT_50 hc_50 (by omega) (by omega) (fun M_57 v_57 hc_57 hv_57 hf_57 => ?_) d) rfl rfl (by omega) (by decide) (Nat.le_of_ble_eq_true rfl)
        show AW _ _ _ _ _ _ _
        have hT_57 := TX_fr hT_50 hf_57 (fun k j h => by unfold cuP; omega)
        have hV_57 := VX_cu isW37 hV_50 hf_57
        have hN_57 := VN_cu isW37 hN_50 hf_57
        refine a_istore (by decide) rfl dX7_readMatter_60 ?_
        refine a_aload_n rfl dX7_readMatter_62 ?_
        refine n_callV (mi' := miX4_areGood) dX7_readMatter_63 lX7_83 mX4_areGood (by decide) rfl rfl rfl (c_X4_areGood (c := (numC tk 0 100 (spC tk (maD tk S N c)))) hK hT_57 hc_57 (fun h_63 => ?_) (fun h_63 => ?_) d) rfl rfl (by omega) (by decide) (Nat.le_of_ble_eq_true rfl)
        · show AW _ _ _ _ _ _ _
          have hk : isK tk (maD tk S N c) 3 = true := isK_i.mpr ⟨h_42, by omega⟩
          have e1 : opN tk 3 0 100 (maD tk S N c) = numC tk 0 100 (spC tk (maD tk S N c)) := if_pos hk
          have e2 : opV tk 3 0 (maD tk S N c) = cd tk (spC tk (maD tk S N c)) := if_pos hk
          have z4 : (maD tk S N c).2.1 = 0 := sp_0 (num_0 h_63).1
          have z3 := num_0 (show (numC tk 0 20 (maC tk S N c)).2.1 = 0 from z4)
          have z2 := kwd_0 (show (kwdC tk 2 (maB tk S N c)).2.1 = 0 from z3.1)
          have z1 := new_0 (show (newC tk S N (maA tk S c)).2.1 = 0 from z2.1)
          have z0 := bg_0 (by decide) (show (bgC tk (decide (6 ≤ S 0 2)) 6 c).2.1 = 0 from z1.1)
          have hm6 : S 0 2 < 6 := Nat.not_le.mp (of_decide_eq_false z0.2.1)
          have e20 := hv_20 z2.1
          have e33 := hv_33 z4
          have e57 := hv_57 h_63
          subst e20
          subst e33
          subst e57
          refine n_if_eq 78 (by decide) dX7_readMatter_66 (by decide) (fun h => absurd h (by decide)) (fun _ => ?_)
          refine a_aload_n rfl dX7_readMatter_69 ?_
          refine a_lload_n rfl dX7_readMatter_70 ?_
          refine a_iload rfl dX7_readMatter_71 ?_
          refine a_iload rfl dX7_readMatter_73 ?_
          refine n_callV (mi' := miX6_addMatter) dX7_readMatter_75 lX7_86 mX6_addMatter (by decide) rfl rfl rfl (c_X6_addMatter isW37 hV_57 hF hm6 (fun hV_75 => ?_) d) rfl rfl (by omega) (by decide) (Nat.le_of_ble_eq_true rfl)
          show AW _ _ _ _ _ _ _
          refine a_vret dX7_readMatter_78 rfl ?_
          have hf2 : fr (fun k j => 37 ≤ k ∧ k < 50) M_57 (siM (siM (siM (slM M_57 (37 + 1) (S 0 2) (lN (cd tk (maA tk S c)))) (37 + 2) (S 0 2) (nI (cd tk (maC tk S N c)))) (37 + 3) (S 0 2) (nI (cd tk (spC tk (maD tk S N c))))) 37 2 (nI (S 0 2 + 1))) := (((fr.r.sl (by omega)).si (by omega)).si (by omega)).si (by omega)
          refine hQ _ (by show CU _ n (opN tk 3 0 100 (maD tk S N c)); rw [e1]; exact CU_fr hc_57 hf2 (fun j _ _ => by omega)) (fun z => ?_) (((((((hf_15.t hf_20).t hf_26).t hf_33).t hf_50).t hf_57).mo (fun _ _ h => cu_rv h)).t (hf2.mo (fun k j h => Or.inr h)))
          show VX 37 _ (addMN S (cd tk (maC tk S N c)) (opV tk 3 0 (maD tk S N c))) ∧ VN 37 _ (addMN S (cd tk (maC tk S N c)) (opV tk 3 0 (maD tk S N c))) (upN N 0 (S 0 2) (lN (cd tk (maA tk S c))))
          rw [e2]
          exact ⟨hV_75, VN_adm hN_57 (fun k j h => slN rfl (by omega)) slS⟩
        · show AW _ _ _ _ _ _ _
          have hk : isK tk (maD tk S N c) 3 = true := isK_i.mpr ⟨h_42, by omega⟩
          have e1 : opN tk 3 0 100 (maD tk S N c) = numC tk 0 100 (spC tk (maD tk S N c)) := if_pos hk
          have e2 : opV tk 3 0 (maD tk S N c) = cd tk (spC tk (maD tk S N c)) := if_pos hk
          refine n_if_eq 78 (by decide) dX7_readMatter_66 (by decide) (fun _ => ?_) (fun h => absurd h (by decide))
          refine a_vret dX7_readMatter_78 rfl ?_
          exact hQ _ (by show CU _ n (opN tk 3 0 100 (maD tk S N c)); rw [e1]; exact hc_57) (fun z => absurd (show (opN tk 3 0 100 (maD tk S N c)).2.1 = 0 from z) (by rw [e1]; exact h_63)) ((((((hf_15.t hf_20).t hf_26).t hf_33).t hf_50).t hf_57).mo (fun _ _ h => cu_rv h))
    · show AW _ _ _ _ _ _ _
      refine n_iconst 3 rfl dX7_readMatter_45 ?_
      refine r_icmp_ne 62 (by omega) dX7_readMatter_46 (by decide) (fun h_46 => ?_) (fun h_46 => absurd h_46 (by rw [show (-1 : Int32).toInt = -1 from by decide]; omega))
      refine a_aload_n rfl dX7_readMatter_62 ?_
      refine n_callV (mi' := miX4_areGood) dX7_readMatter_63 lX7_83 mX4_areGood (by decide) rfl rfl rfl (c_X4_areGood (c := (maD tk S N c)) hK hT_33 hc_33 (fun h_63 => ?_) (fun h_63 => ?_) d) rfl rfl (by omega) (by decide) (Nat.le_of_ble_eq_true rfl)
      · show AW _ _ _ _ _ _ _
        have hk : ¬ isK tk (maD tk S N c) 3 = true := fun q => h_42 (isK_i.mp q).1
        have e1 : opN tk 3 0 100 (maD tk S N c) = (maD tk S N c) := if_neg hk
        have e2 : opV tk 3 0 (maD tk S N c) = 0 := if_neg hk
        have z4 : (maD tk S N c).2.1 = 0 := h_63
        have z3 := num_0 (show (numC tk 0 20 (maC tk S N c)).2.1 = 0 from z4)
        have z2 := kwd_0 (show (kwdC tk 2 (maB tk S N c)).2.1 = 0 from z3.1)
        have z1 := new_0 (show (newC tk S N (maA tk S c)).2.1 = 0 from z2.1)
        have z0 := bg_0 (by decide) (show (bgC tk (decide (6 ≤ S 0 2)) 6 c).2.1 = 0 from z1.1)
        have hm6 : S 0 2 < 6 := Nat.not_le.mp (of_decide_eq_false z0.2.1)
        have e20 := hv_20 z2.1
        have e33 := hv_33 z4
        subst e20
        subst e33
        refine n_if_eq 78 (by decide) dX7_readMatter_66 (by decide) (fun h => absurd h (by decide)) (fun _ => ?_)
        refine a_aload_n rfl dX7_readMatter_69 ?_
        refine a_lload_n rfl dX7_readMatter_70 ?_
        refine a_iload rfl dX7_readMatter_71 ?_
        refine a_iload rfl dX7_readMatter_73 ?_
        refine n_callV (mi' := miX6_addMatter) dX7_readMatter_75 lX7_86 mX6_addMatter (by decide) rfl rfl rfl (c_X6_addMatter isW37 hV_33 hF hm6 (fun hV_75 => ?_) d) rfl rfl (by omega) (by decide) (Nat.le_of_ble_eq_true rfl)
        show AW _ _ _ _ _ _ _
        refine a_vret dX7_readMatter_78 rfl ?_
        have hf2 : fr (fun k j => 37 ≤ k ∧ k < 50) M_33 (siM (siM (siM (slM M_33 (37 + 1) (S 0 2) (lN (cd tk (maA tk S c)))) (37 + 2) (S 0 2) (nI (cd tk (maC tk S N c)))) (37 + 3) (S 0 2) (nI (0))) 37 2 (nI (S 0 2 + 1))) := (((fr.r.sl (by omega)).si (by omega)).si (by omega)).si (by omega)
        refine hQ _ (by show CU _ n (opN tk 3 0 100 (maD tk S N c)); rw [e1]; exact CU_fr hc_33 hf2 (fun j _ _ => by omega)) (fun z => ?_) (((((hf_15.t hf_20).t hf_26).t hf_33).mo (fun _ _ h => cu_rv h)).t (hf2.mo (fun k j h => Or.inr h)))
        show VX 37 _ (addMN S (cd tk (maC tk S N c)) (opV tk 3 0 (maD tk S N c))) ∧ VN 37 _ (addMN S (cd tk (maC tk S N c)) (opV tk 3 0 (maD tk S N c))) (upN N 0 (S 0 2) (lN (cd tk (maA tk S c))))
        rw [e2]
        exact ⟨hV_75, VN_adm hN_33 (fun k j h => slN rfl (by omega)) slS⟩
      · show AW _ _ _ _ _ _ _
        have hk : ¬ isK tk (maD tk S N c) 3 = true := fun q => h_42 (isK_i.mp q).1
        have e1 : opN tk 3 0 100 (maD tk S N c) = (maD tk S N c) := if_neg hk
        have e2 : opV tk 3 0 (maD tk S N c) = 0 := if_neg hk
        refine n_if_eq 78 (by decide) dX7_readMatter_66 (by decide) (fun _ => ?_) (fun h => absurd h (by decide))
        refine a_vret dX7_readMatter_78 rfl ?_
        exact hQ _ (by show CU _ n (opN tk 3 0 100 (maD tk S N c)); rw [e1]; exact hc_33) (fun z => absurd (show (opN tk 3 0 100 (maD tk S N c)).2.1 = 0 from z) (by rw [e1]; exact h_63)) ((((hf_15.t hf_20).t hf_26).t hf_33).mo (fun _ _ h => cu_rv h))
  · refine n_iconst 1 rfl dX7_readMatter_10 ?_
    refine a_goto 15 dX7_readMatter_11 (by decide) ?_
    refine n_callS (mi' := miX7_begin) dX7_readMatter_15 lX7_70 mX7_begin (c_X7_begin (c := c) (b := decide (6 ≤ S 0 2)) hK hT hC (by rw [decide_eq_true (by omega)]; rfl) (fun M_15 hc_15 hf_15 => ?_) d) rfl rfl (by omega) (by decide) (Nat.le_of_ble_eq_true rfl)
    show AW _ _ _ _ _ _ _
    have hT_15 := TX_fr hT hf_15 (fun k j h => by unfold cuP; omega)
    have hV_15 := VX_cu isW37 hV hf_15
    have hN_15 := VN_cu isW37 hN hf_15
    refine a_aload_n rfl dX7_readMatter_18 ?_
    refine a_aload_n rfl dX7_readMatter_19 ?_
    refine n_callV (mi' := miX4_takeNewName) dX7_readMatter_20 lX7_74 mX4_takeNewName (by decide) rfl rfl rfl (c_X4_takeNewName (c := (maA tk S c)) hK hT_15 hc_15 isW37 hV_15 hF hN_15 (fun M_20 v_20 hc_20 hv_20 hf_20 => ?_) d) rfl rfl (by omega) (by decide) (Nat.le_of_ble_eq_true rfl)
    show AW _ _ _ _ _ _ _
    have hT_20 := TX_fr hT_15 hf_20 (fun k j h => by unfold cuP; omega)
    have hV_20 := VX_cu isW37 hV_15 hf_20
    have hN_20 := VN_cu isW37 hN_15 hf_20
    refine a_lstore_n (by decide) rfl dX7_readMatter_23 ?_
    refine a_aload_n rfl dX7_readMatter_24 ?_
    refine n_iconst 2 rfl dX7_readMatter_25 ?_
    refine n_callV (mi' := miX4_takeKeyword) dX7_readMatter_26 lX7_80 mX4_takeKeyword (by decide) rfl rfl rfl (c_X4_takeKeyword (c := (maB tk S N c)) hK hT_20 hc_20 (by omega) (fun M_26 hc_26 hf_26 => ?_) d) rfl rfl (by omega) (by decide) (Nat.le_of_ble_eq_true rfl)
    show AW _ _ _ _ _ _ _
    have hT_26 := TX_fr hT_20 hf_26 (fun k j h => by unfold cuP; omega)
    have hV_26 := VX_cu isW37 hV_20 hf_26
    have hN_26 := VN_cu isW37 hN_20 hf_26
    refine a_aload_n rfl dX7_readMatter_29 ?_
    refine n_iconst 0 rfl dX7_readMatter_30 ?_
    refine n_bipush 20 rfl dX7_readMatter_31 ?_
    refine n_callV (mi' := miX4_takeNumber) dX7_readMatter_33 lX7_59 mX4_takeNumber (by decide) rfl rfl rfl (c_X4_takeNumber (c := (maC tk S N c)) hK hT_26 hc_26 (by omega) (by omega) (fun M_33 v_33 hc_33 hv_33 hf_33 => ?_) d) rfl rfl (by omega) (by decide) (Nat.le_of_ble_eq_true rfl)
    show AW _ _ _ _ _ _ _
    have hT_33 := TX_fr hT_26 hf_33 (fun k j h => by unfold cuP; omega)
    have hV_33 := VX_cu isW37 hV_26 hf_33
    have hN_33 := VN_cu isW37 hN_26 hf_33
    refine a_istore (by decide) rfl dX7_readMatter_36 ?_
    refine n_iconst 0 rfl dX7_readMatter_38 ?_
    refine a_istore (by decide) rfl dX7_readMatter_39 ?_
    refine a_aload_n rfl dX7_readMatter_41 ?_
    refine n_callV (mi' := miX4_keyword) dX7_readMatter_42 lX7_33 mX4_keyword (by decide) rfl rfl rfl (c_X4_keyword (c := (maD tk S N c)) hK hT_33 hc_33 (fun h_42 hl_42 => ?_) (fun h_42 => ?_) d) rfl rfl (by omega) (by decide) (Nat.le_of_ble_eq_true rfl)
    · show AW _ _ _ _ _ _ _
      refine n_iconst 3 rfl dX7_readMatter_45 ?_
      refine n_icmp_ne 62 (by omega) (by omega) dX7_readMatter_46 (by decide) (fun h_46 => ?_) (fun h_46 => ?_)
      · refine a_aload_n rfl dX7_readMatter_62 ?_
        refine n_callV (mi' := miX4_areGood) dX7_readMatter_63 lX7_83 mX4_areGood (by decide) rfl rfl rfl (c_X4_areGood (c := (maD tk S N c)) hK hT_33 hc_33 (fun h_63 => ?_) (fun h_63 => ?_) d) rfl rfl (by omega) (by decide) (Nat.le_of_ble_eq_true rfl)
        · show AW _ _ _ _ _ _ _
          have hk : ¬ isK tk (maD tk S N c) 3 = true := fun q => h_46 (isK_i.mp q).2
          have e1 : opN tk 3 0 100 (maD tk S N c) = (maD tk S N c) := if_neg hk
          have e2 : opV tk 3 0 (maD tk S N c) = 0 := if_neg hk
          have z4 : (maD tk S N c).2.1 = 0 := h_63
          have z3 := num_0 (show (numC tk 0 20 (maC tk S N c)).2.1 = 0 from z4)
          have z2 := kwd_0 (show (kwdC tk 2 (maB tk S N c)).2.1 = 0 from z3.1)
          have z1 := new_0 (show (newC tk S N (maA tk S c)).2.1 = 0 from z2.1)
          have z0 := bg_0 (by decide) (show (bgC tk (decide (6 ≤ S 0 2)) 6 c).2.1 = 0 from z1.1)
          have hm6 : S 0 2 < 6 := Nat.not_le.mp (of_decide_eq_false z0.2.1)
          have e20 := hv_20 z2.1
          have e33 := hv_33 z4
          subst e20
          subst e33
          refine n_if_eq 78 (by decide) dX7_readMatter_66 (by decide) (fun h => absurd h (by decide)) (fun _ => ?_)
          refine a_aload_n rfl dX7_readMatter_69 ?_
          refine a_lload_n rfl dX7_readMatter_70 ?_
          refine a_iload rfl dX7_readMatter_71 ?_
          refine a_iload rfl dX7_readMatter_73 ?_
          refine n_callV (mi' := miX6_addMatter) dX7_readMatter_75 lX7_86 mX6_addMatter (by decide) rfl rfl rfl (c_X6_addMatter isW37 hV_33 hF hm6 (fun hV_75 => ?_) d) rfl rfl (by omega) (by decide) (Nat.le_of_ble_eq_true rfl)
          show AW _ _ _ _ _ _ _
          refine a_vret dX7_readMatter_78 rfl ?_
          have hf2 : fr (fun k j => 37 ≤ k ∧ k < 50) M_33 (siM (siM (siM (slM M_33 (37 + 1) (S 0 2) (lN (cd tk (maA tk S c)))) (37 + 2) (S 0 2) (nI (cd tk (maC tk S N c)))) (37 + 3) (S 0 2) (nI (0))) 37 2 (nI (S 0 2 + 1))) := (((fr.r.sl (by omega)).si (by omega)).si (by omega)).si (by omega)
          refine hQ _ (by show CU _ n (opN tk 3 0 100 (maD tk S N c)); rw [e1]; exact CU_fr hc_33 hf2 (fun j _ _ => by omega)) (fun z => ?_) (((((hf_15.t hf_20).t hf_26).t hf_33).mo (fun _ _ h => cu_rv h)).t (hf2.mo (fun k j h => Or.inr h)))
          show VX 37 _ (addMN S (cd tk (maC tk S N c)) (opV tk 3 0 (maD tk S N c))) ∧ VN 37 _ (addMN S (cd tk (maC tk S N c)) (opV tk 3 0 (maD tk S N c))) (upN N 0 (S 0 2) (lN (cd tk (maA tk S c))))
          rw [e2]
          exact ⟨hV_75, VN_adm hN_33 (fun k j h => slN rfl (by omega)) slS⟩
        · show AW _ _ _ _ _ _ _
          have hk : ¬ isK tk (maD tk S N c) 3 = true := fun q => h_46 (isK_i.mp q).2
          have e1 : opN tk 3 0 100 (maD tk S N c) = (maD tk S N c) := if_neg hk
          have e2 : opV tk 3 0 (maD tk S N c) = 0 := if_neg hk
          refine n_if_eq 78 (by decide) dX7_readMatter_66 (by decide) (fun _ => ?_) (fun h => absurd h (by decide))
          refine a_vret dX7_readMatter_78 rfl ?_
          exact hQ _ (by show CU _ n (opN tk 3 0 100 (maD tk S N c)); rw [e1]; exact hc_33) (fun z => absurd (show (opN tk 3 0 100 (maD tk S N c)).2.1 = 0 from z) (by rw [e1]; exact h_63)) ((((hf_15.t hf_20).t hf_26).t hf_33).mo (fun _ _ h => cu_rv h))
      · refine a_aload_n rfl dX7_readMatter_49 ?_
        refine n_callV (mi' := miX4_step) dX7_readMatter_50 lX7_56 mX4_step (by decide) rfl rfl rfl (c_X4_step (c := (maD tk S N c)) hK hT_33 hc_33 (fun M_50 hc_50 hf_50 => ?_) d) rfl rfl (by omega) (by decide) (Nat.le_of_ble_eq_true rfl)
        show AW _ _ _ _ _ _ _
        have hT_50 := TX_fr hT_33 hf_50 (fun k j h => by unfold cuP; omega)
        have hV_50 := VX_cu isW37 hV_33 hf_50
        have hN_50 := VN_cu isW37 hN_33 hf_50
        refine a_aload_n rfl dX7_readMatter_53 ?_
        refine n_iconst 0 rfl dX7_readMatter_54 ?_
        refine n_bipush 100 rfl dX7_readMatter_55 ?_
        refine n_callV (mi' := miX4_takeNumber) dX7_readMatter_57 lX7_59 mX4_takeNumber (by decide) rfl rfl rfl (c_X4_takeNumber (c := (spC tk (maD tk S N c))) hK hT_50 hc_50 (by omega) (by omega) (fun M_57 v_57 hc_57 hv_57 hf_57 => ?_) d) rfl rfl (by omega) (by decide) (Nat.le_of_ble_eq_true rfl)
        show AW _ _ _ _ _ _ _
        have hT_57 := TX_fr hT_50 hf_57 (fun k j h => by unfold cuP; omega)
        have hV_57 := VX_cu isW37 hV_50 hf_57
        have hN_57 := VN_cu isW37 hN_50 hf_57
        refine a_istore (by decide) rfl dX7_readMatter_60 ?_
        refine a_aload_n rfl dX7_readMatter_62 ?_
        refine n_callV (mi' := miX4_areGood) dX7_readMatter_63 lX7_83 mX4_areGood (by decide) rfl rfl rfl (c_X4_areGood (c := (numC tk 0 100 (spC tk (maD tk S N c)))) hK hT_57 hc_57 (fun h_63 => ?_) (fun h_63 => ?_) d) rfl rfl (by omega) (by decide) (Nat.le_of_ble_eq_true rfl)
        · show AW _ _ _ _ _ _ _
          have hk : isK tk (maD tk S N c) 3 = true := isK_i.mpr ⟨h_42, by omega⟩
          have e1 : opN tk 3 0 100 (maD tk S N c) = numC tk 0 100 (spC tk (maD tk S N c)) := if_pos hk
          have e2 : opV tk 3 0 (maD tk S N c) = cd tk (spC tk (maD tk S N c)) := if_pos hk
          have z4 : (maD tk S N c).2.1 = 0 := sp_0 (num_0 h_63).1
          have z3 := num_0 (show (numC tk 0 20 (maC tk S N c)).2.1 = 0 from z4)
          have z2 := kwd_0 (show (kwdC tk 2 (maB tk S N c)).2.1 = 0 from z3.1)
          have z1 := new_0 (show (newC tk S N (maA tk S c)).2.1 = 0 from z2.1)
          have z0 := bg_0 (by decide) (show (bgC tk (decide (6 ≤ S 0 2)) 6 c).2.1 = 0 from z1.1)
          have hm6 : S 0 2 < 6 := Nat.not_le.mp (of_decide_eq_false z0.2.1)
          have e20 := hv_20 z2.1
          have e33 := hv_33 z4
          have e57 := hv_57 h_63
          subst e20
          subst e33
          subst e57
          refine n_if_eq 78 (by decide) dX7_readMatter_66 (by decide) (fun h => absurd h (by decide)) (fun _ => ?_)
          refine a_aload_n rfl dX7_readMatter_69 ?_
          refine a_lload_n rfl dX7_readMatter_70 ?_
          refine a_iload rfl dX7_readMatter_71 ?_
          refine a_iload rfl dX7_readMatter_73 ?_
          refine n_callV (mi' := miX6_addMatter) dX7_readMatter_75 lX7_86 mX6_addMatter (by decide) rfl rfl rfl (c_X6_addMatter isW37 hV_57 hF hm6 (fun hV_75 => ?_) d) rfl rfl (by omega) (by decide) (Nat.le_of_ble_eq_true rfl)
          show AW _ _ _ _ _ _ _
          refine a_vret dX7_readMatter_78 rfl ?_
          have hf2 : fr (fun k j => 37 ≤ k ∧ k < 50) M_57 (siM (siM (siM (slM M_57 (37 + 1) (S 0 2) (lN (cd tk (maA tk S c)))) (37 + 2) (S 0 2) (nI (cd tk (maC tk S N c)))) (37 + 3) (S 0 2) (nI (cd tk (spC tk (maD tk S N c))))) 37 2 (nI (S 0 2 + 1))) := (((fr.r.sl (by omega)).si (by omega)).si (by omega)).si (by omega)
          refine hQ _ (by show CU _ n (opN tk 3 0 100 (maD tk S N c)); rw [e1]; exact CU_fr hc_57 hf2 (fun j _ _ => by omega)) (fun z => ?_) (((((((hf_15.t hf_20).t hf_26).t hf_33).t hf_50).t hf_57).mo (fun _ _ h => cu_rv h)).t (hf2.mo (fun k j h => Or.inr h)))
          show VX 37 _ (addMN S (cd tk (maC tk S N c)) (opV tk 3 0 (maD tk S N c))) ∧ VN 37 _ (addMN S (cd tk (maC tk S N c)) (opV tk 3 0 (maD tk S N c))) (upN N 0 (S 0 2) (lN (cd tk (maA tk S c))))
          rw [e2]
          exact ⟨hV_75, VN_adm hN_57 (fun k j h => slN rfl (by omega)) slS⟩
        · show AW _ _ _ _ _ _ _
          have hk : isK tk (maD tk S N c) 3 = true := isK_i.mpr ⟨h_42, by omega⟩
          have e1 : opN tk 3 0 100 (maD tk S N c) = numC tk 0 100 (spC tk (maD tk S N c)) := if_pos hk
          have e2 : opV tk 3 0 (maD tk S N c) = cd tk (spC tk (maD tk S N c)) := if_pos hk
          refine n_if_eq 78 (by decide) dX7_readMatter_66 (by decide) (fun _ => ?_) (fun h => absurd h (by decide))
          refine a_vret dX7_readMatter_78 rfl ?_
          exact hQ _ (by show CU _ n (opN tk 3 0 100 (maD tk S N c)); rw [e1]; exact hc_57) (fun z => absurd (show (opN tk 3 0 100 (maD tk S N c)).2.1 = 0 from z) (by rw [e1]; exact h_63)) ((((((hf_15.t hf_20).t hf_26).t hf_33).t hf_50).t hf_57).mo (fun _ _ h => cu_rv h))
    · show AW _ _ _ _ _ _ _
      refine n_iconst 3 rfl dX7_readMatter_45 ?_
      refine r_icmp_ne 62 (by omega) dX7_readMatter_46 (by decide) (fun h_46 => ?_) (fun h_46 => absurd h_46 (by rw [show (-1 : Int32).toInt = -1 from by decide]; omega))
      refine a_aload_n rfl dX7_readMatter_62 ?_
      refine n_callV (mi' := miX4_areGood) dX7_readMatter_63 lX7_83 mX4_areGood (by decide) rfl rfl rfl (c_X4_areGood (c := (maD tk S N c)) hK hT_33 hc_33 (fun h_63 => ?_) (fun h_63 => ?_) d) rfl rfl (by omega) (by decide) (Nat.le_of_ble_eq_true rfl)
      · show AW _ _ _ _ _ _ _
        have hk : ¬ isK tk (maD tk S N c) 3 = true := fun q => h_42 (isK_i.mp q).1
        have e1 : opN tk 3 0 100 (maD tk S N c) = (maD tk S N c) := if_neg hk
        have e2 : opV tk 3 0 (maD tk S N c) = 0 := if_neg hk
        have z4 : (maD tk S N c).2.1 = 0 := h_63
        have z3 := num_0 (show (numC tk 0 20 (maC tk S N c)).2.1 = 0 from z4)
        have z2 := kwd_0 (show (kwdC tk 2 (maB tk S N c)).2.1 = 0 from z3.1)
        have z1 := new_0 (show (newC tk S N (maA tk S c)).2.1 = 0 from z2.1)
        have z0 := bg_0 (by decide) (show (bgC tk (decide (6 ≤ S 0 2)) 6 c).2.1 = 0 from z1.1)
        have hm6 : S 0 2 < 6 := Nat.not_le.mp (of_decide_eq_false z0.2.1)
        have e20 := hv_20 z2.1
        have e33 := hv_33 z4
        subst e20
        subst e33
        refine n_if_eq 78 (by decide) dX7_readMatter_66 (by decide) (fun h => absurd h (by decide)) (fun _ => ?_)
        refine a_aload_n rfl dX7_readMatter_69 ?_
        refine a_lload_n rfl dX7_readMatter_70 ?_
        refine a_iload rfl dX7_readMatter_71 ?_
        refine a_iload rfl dX7_readMatter_73 ?_
        refine n_callV (mi' := miX6_addMatter) dX7_readMatter_75 lX7_86 mX6_addMatter (by decide) rfl rfl rfl (c_X6_addMatter isW37 hV_33 hF hm6 (fun hV_75 => ?_) d) rfl rfl (by omega) (by decide) (Nat.le_of_ble_eq_true rfl)
        show AW _ _ _ _ _ _ _
        refine a_vret dX7_readMatter_78 rfl ?_
        have hf2 : fr (fun k j => 37 ≤ k ∧ k < 50) M_33 (siM (siM (siM (slM M_33 (37 + 1) (S 0 2) (lN (cd tk (maA tk S c)))) (37 + 2) (S 0 2) (nI (cd tk (maC tk S N c)))) (37 + 3) (S 0 2) (nI (0))) 37 2 (nI (S 0 2 + 1))) := (((fr.r.sl (by omega)).si (by omega)).si (by omega)).si (by omega)
        refine hQ _ (by show CU _ n (opN tk 3 0 100 (maD tk S N c)); rw [e1]; exact CU_fr hc_33 hf2 (fun j _ _ => by omega)) (fun z => ?_) (((((hf_15.t hf_20).t hf_26).t hf_33).mo (fun _ _ h => cu_rv h)).t (hf2.mo (fun k j h => Or.inr h)))
        show VX 37 _ (addMN S (cd tk (maC tk S N c)) (opV tk 3 0 (maD tk S N c))) ∧ VN 37 _ (addMN S (cd tk (maC tk S N c)) (opV tk 3 0 (maD tk S N c))) (upN N 0 (S 0 2) (lN (cd tk (maA tk S c))))
        rw [e2]
        exact ⟨hV_75, VN_adm hN_33 (fun k j h => slN rfl (by omega)) slS⟩
      · show AW _ _ _ _ _ _ _
        have hk : ¬ isK tk (maD tk S N c) 3 = true := fun q => h_42 (isK_i.mp q).1
        have e1 : opN tk 3 0 100 (maD tk S N c) = (maD tk S N c) := if_neg hk
        have e2 : opV tk 3 0 (maD tk S N c) = 0 := if_neg hk
        refine n_if_eq 78 (by decide) dX7_readMatter_66 (by decide) (fun _ => ?_) (fun h => absurd h (by decide))
        refine a_vret dX7_readMatter_78 rfl ?_
        exact hQ _ (by show CU _ n (opN tk 3 0 100 (maD tk S N c)); rw [e1]; exact hc_33) (fun z => absurd (show (opN tk 3 0 100 (maD tk S N c)).2.1 = 0 from z) (by rw [e1]; exact h_63)) ((((hf_15.t hf_20).t hf_26).t hf_33).mo (fun _ _ h => cu_rv h))

set_option maxRecDepth 100000 in
set_option maxHeartbeats 800000 in
theorem c_heldRaw {w : Nat} (hw : isW w) {M : Mm} {S : ST} (hV : VX w M S) (hF : WF S) {x y : Int32} {Q : Option Value → Mm → Prop} (h1 : Q (some (.int (nI 1))) M) (h0 : Q (some (.int (nI 0))) M) (d : Nat) : AMt miX6_isHeldBy (d) [.ref w, .int x, .int y] M Q := by
  refine AMt.of (by decide) (Nat.le_of_ble_eq_true rfl) ?_
  show AW miX6_isHeldBy (d) (mxA Q) 0 [(0, some (.ref w)), (1, some (.int x)), (2, some (.int y))] [] M
  have hh := WF_h hF
  refine n_iconst 0 rfl dX6_isHeldBy_0 ?_
  refine a_istore_n (by decide) rfl dX6_isHeldBy_1 ?_
  have loop_2 : ∀ i, i ≤ S 0 3 → AW miX6_isHeldBy (d) (mxA Q) 2 [(0, some (.ref w)), (1, some (.int x)), (2, some (.int y)), (3, some (.int (nI i)))] [] M := by
    refine up (S 0 3) ?_ (fun i hi_2 ih_2 => ?_)
    · refine a_iload_n rfl dX6_isHeldBy_2 ?_
      refine a_aload_n rfl dX6_isHeldBy_3 ?_
      refine g_i (VX_3 hV) (isW_lt hw (i := 0) (by decide)) (layW_0 hw) fX6_66 rfl dX6_isHeldBy_4 ?_
      refine n_icmp_ge 38 (by omega) (by omega) dX6_isHeldBy_7 (by decide) (fun h_7 => ?_) (fun h_7 => absurd h_7 (by omega))
      refine n_iconst 0 rfl dX6_isHeldBy_38 ?_
      refine a_zret dX6_isHeldBy_39 rfl (Or.inl rfl) ?_
      exact h0
    · have a3 := WF_held hF i (by omega)
      have a4 := WF_by hF i (by omega)
      have hm := WF_m hF
      refine a_iload_n rfl dX6_isHeldBy_2 ?_
      refine a_aload_n rfl dX6_isHeldBy_3 ?_
      refine g_i (VX_3 hV) (isW_lt hw (i := 0) (by decide)) (layW_0 hw) fX6_66 rfl dX6_isHeldBy_4 ?_
      refine n_icmp_ge 38 (by omega) (by omega) dX6_isHeldBy_7 (by decide) (fun h_7 => absurd h_7 (by omega)) (fun h_7 => ?_)
      refine a_aload_n rfl dX6_isHeldBy_10 ?_
      refine a_geta dX6_isHeldBy_11 fX6_26 (isW_lt hw (i := 0) (by decide)) (layW_0 hw) rfl ?_
      refine a_iload_n rfl dX6_isHeldBy_14 ?_
      refine v_iald (by omega) (VX_a4 hV (by omega)) (isW_lt hw (i := 4) (by decide)) (layW_4 hw) (by decide) dX6_isHeldBy_15 ?_
      refine a_iload_n rfl dX6_isHeldBy_16 ?_
      refine s_icmp_ne 32 (by omega) dX6_isHeldBy_17 (by decide) (fun h_17 => ?_) (fun h_17 => ?_)
      · refine n_iinc (c := 1) rfl rfl (by decide) rfl dX6_isHeldBy_32 ?_
        refine a_goto 2 dX6_isHeldBy_35 (by decide) ?_
        exact a_bk ih_2 ⟨rfl, rfl, rfl, rfl, trivial⟩
      · refine a_aload_n rfl dX6_isHeldBy_20 ?_
        refine a_geta dX6_isHeldBy_21 fX6_29 (isW_lt hw (i := 0) (by decide)) (layW_0 hw) rfl ?_
        refine a_iload_n rfl dX6_isHeldBy_24 ?_
        refine v_iald (by omega) (VX_a5 hV (by omega)) (isW_lt hw (i := 5) (by decide)) (layW_5 hw) (by decide) dX6_isHeldBy_25 ?_
        refine a_iload_n rfl dX6_isHeldBy_26 ?_
        refine s_icmp_ne 32 (by omega) dX6_isHeldBy_27 (by decide) (fun h_27 => ?_) (fun h_27 => ?_)
        · refine n_iinc (c := 1) rfl rfl (by decide) rfl dX6_isHeldBy_32 ?_
          refine a_goto 2 dX6_isHeldBy_35 (by decide) ?_
          exact a_bk ih_2 ⟨rfl, rfl, rfl, rfl, trivial⟩
        · refine n_iconst 1 rfl dX6_isHeldBy_30 ?_
          refine a_zret dX6_isHeldBy_31 rfl (Or.inr rfl) ?_
          exact h1
  exact a_bk (loop_2 0 (by omega)) ⟨rfl, rfl, rfl, rfl, trivial⟩

theorem c_heldAny {w : Nat} (hw : isW w) {M : Mm} {S : ST} (hV : VX w M S) (hF : WF S) {x y : Int32} {Q : Option Value → Mm → Prop} (h1 : (∀ a b, a < 6 → b < 6 → x = nI a → y = nI b → boundN S a b = true) → Q (some (.int (nI 1))) M) (h0 : (∀ a b, a < 6 → b < 6 → x = nI a → y = nI b → boundN S a b = false) → Q (some (.int (nI 0))) M) (d : Nat) : AMt miX6_isHeldBy (d) [.ref w, .int x, .int y] M Q := by
  by_cases ha : ∃ a b, a < 6 ∧ b < 6 ∧ x = nI a ∧ y = nI b
  · obtain ⟨a, b, ha, hb, rfl, rfl⟩ := ha
    have inj : ∀ p q : Nat, p < 6 → q < 6 → nI p = nI q → p = q := fun p q hp hq h => (nI_eq (by omega) (by omega)).mp h
    exact c_X6_isHeldBy hw hV hF ha hb (fun h => h1 (fun p q hp hq e1 e2 => by rw [← inj _ _ ha hp e1, ← inj _ _ hb hq e2]; exact boundN_t h)) (fun h => h0 (fun p q hp hq e1 e2 => by rw [← inj _ _ ha hp e1, ← inj _ _ hb hq e2]; exact boundN_f h)) d
  · exact c_heldRaw hw hV hF (h1 (fun a b p q e1 e2 => absurd ⟨a, b, p, q, e1, e2⟩ ha)) (h0 (fun a b p q e1 e2 => absurd ⟨a, b, p, q, e1, e2⟩ ha)) d

set_option maxRecDepth 100000 in
set_option maxHeartbeats 800000 in
theorem c_X7_readHold {M : Mm} {tk : Nat → TK} {n : Nat} {c : CC} (hK : TKG tk) (hT : TX M tk n) (hC : CU M n c) {S : ST} {N : NM} (hV : VX 37 M S) (hF : WF S) (hN : VN 37 M S N) {Q : Option Value → Mm → Prop} (hQ : ∀ M', CU M' n (ptH tk S N c).1 → ((ptH tk S N c).1.2.1 = 0 → VX 37 M' (ptH tk S N c).2.1 ∧ VN 37 M' (ptH tk S N c).2.1 (ptH tk S N c).2.2) → fr rvP M M' → Q none M') (d : Nat) : AMt miX7_readHold (d + 5) [.ref 37, .ref 10] M Q := by
  refine AMt.of (by decide) (Nat.le_of_ble_eq_true rfl) ?_
  show AW miX7_readHold (d + 5) (mxA Q) 0 [(0, some (.ref 37)), (1, some (.ref 10))] [] M
  have hc1 := hC.1
  have hn1 := hT.2.1
  have hn9 := hT.2.2.1
  have hf7 := hC.2.2.2.2
  have hkd : kd tk c ≤ 6 := (hK c.1).1
  have hst := (hK c.1).2.1
  have htx := tx_kd hT hC
  have hm := WF_m hF
  have hh := WF_h hF
  have hs := WF_s hF
  have hn := WF_n hF
  refine a_aload_n rfl dX7_readHold_0 ?_
  refine a_aload_n rfl dX7_readHold_1 ?_
  refine g_i (VX_3 hV) (by decide) rfl fX7_90 rfl dX7_readHold_2 ?_
  refine n_bipush 10 rfl dX7_readHold_5 ?_
  refine n_icmp_lt 14 (by omega) (by omega) dX7_readHold_7 (by decide) (fun h_7 => ?_) (fun h_7 => ?_)
  · refine n_iconst 0 rfl dX7_readHold_14 ?_
    refine n_callS (mi' := miX7_begin) dX7_readHold_15 lX7_70 mX7_begin (c_X7_begin (c := c) (b := decide (10 ≤ S 0 3)) hK hT hC (by rw [decide_eq_false (by omega)]; rfl) (fun M_15 hc_15 hf_15 => ?_) d) rfl rfl (by omega) (by decide) (Nat.le_of_ble_eq_true rfl)
    show AW _ _ _ _ _ _ _
    have hT_15 := TX_fr hT hf_15 (fun k j h => by unfold cuP; omega)
    have hV_15 := VX_cu isW37 hV hf_15
    have hN_15 := VN_cu isW37 hN hf_15
    refine a_aload_n rfl dX7_readHold_18 ?_
    refine a_aload_n rfl dX7_readHold_19 ?_
    refine n_callV (mi' := miX4_takeMatter) dX7_readHold_20 lX7_93 mX4_takeMatter (by decide) rfl rfl rfl (c_X4_takeMatter (c := (hoA tk S c)) hK hT_15 hc_15 isW37 hV_15 hF hN_15 (fun M_20 v_20 hc_20 hv_20 hf_20 => ?_) d) rfl rfl (by omega) (by decide) (Nat.le_of_ble_eq_true rfl)
    show AW _ _ _ _ _ _ _
    have hT_20 := TX_fr hT_15 hf_20 (fun k j h => by unfold cuP; omega)
    have hV_20 := VX_cu isW37 hV_15 hf_20
    have hN_20 := VN_cu isW37 hN_15 hf_20
    refine a_istore_n (by decide) rfl dX7_readHold_23 ?_
    refine a_aload_n rfl dX7_readHold_24 ?_
    refine n_iconst 5 rfl dX7_readHold_25 ?_
    refine n_callV (mi' := miX4_takeKeyword) dX7_readHold_26 lX7_80 mX4_takeKeyword (by decide) rfl rfl rfl (c_X4_takeKeyword (c := (hoB tk S N c)) hK hT_20 hc_20 (by omega) (fun M_26 hc_26 hf_26 => ?_) d) rfl rfl (by omega) (by decide) (Nat.le_of_ble_eq_true rfl)
    show AW _ _ _ _ _ _ _
    have hT_26 := TX_fr hT_20 hf_26 (fun k j h => by unfold cuP; omega)
    have hV_26 := VX_cu isW37 hV_20 hf_26
    have hN_26 := VN_cu isW37 hN_20 hf_26
    refine a_aload_n rfl dX7_readHold_29 ?_
    refine a_aload_n rfl dX7_readHold_30 ?_
    refine n_callV (mi' := miX4_matterHere) dX7_readHold_31 lX7_97 mX4_matterHere (by decide) rfl rfl rfl (c_X4_matterHere (c := (hoC tk S N c)) hK hT_26 hc_26 isW37 hV_26 hF hN_26 (fun M_31 v_31 hc_31 hv_31 hf_31 => ?_) d) rfl rfl (by omega) (by decide) (Nat.le_of_ble_eq_true rfl)
    show AW _ _ _ _ _ _ _
    have hT_31 := TX_fr hT_26 hf_31 (fun k j h => by unfold cuP; omega)
    have hV_31 := VX_cu isW37 hV_26 hf_31
    have hN_31 := VN_cu isW37 hN_26 hf_31
    refine a_istore_n (by decide) rfl dX7_readHold_34 ?_
    refine a_iload_n rfl dX7_readHold_35 ?_
    refine a_iload_n rfl dX7_readHold_36 ?_
    refine u_icmp_eq 49 dX7_readHold_37 (by decide) (fun h_37 => ?_) (fun h_37 => ?_)
    · refine a_aload_n rfl dX7_readHold_49 ?_
      refine n_iconst 5 rfl dX7_readHold_50 ?_
      refine n_callV (mi' := miX4_fail) dX7_readHold_51 lX7_52 mX4_fail (by decide) rfl rfl rfl (c_X4_fail (c := (hoD tk S N c)) hK hT_31 hc_31 (by omega) (fun M_51 hc_51 hf_51 => ?_) d) rfl rfl (by omega) (by decide) (Nat.le_of_ble_eq_true rfl)
      show AW _ _ _ _ _ _ _
      have hT_51 := TX_fr hT_31 hf_51 (fun k j h => by unfold cuP; omega)
      have hV_51 := VX_cu isW37 hV_31 hf_51
      have hN_51 := VN_cu isW37 hN_31 hf_51
      refine a_aload_n rfl dX7_readHold_54 ?_
      refine n_callV (mi' := miX4_step) dX7_readHold_55 lX7_56 mX4_step (by decide) rfl rfl rfl (c_X4_step (c := (flC tk 5 (hoD tk S N c))) hK hT_51 hc_51 (fun M_55 hc_55 hf_55 => ?_) d) rfl rfl (by omega) (by decide) (Nat.le_of_ble_eq_true rfl)
      show AW _ _ _ _ _ _ _
      have hoo : spC tk (flC tk 5 (hoD tk S N c)) = hoE tk S N c := by
        by_cases zD : (hoD tk S N c).2.1 = 0
        · obtain ⟨a1, ha1, ea1⟩ := hv_20 (kwd_0 (show (kwdC tk 5 (hoB tk S N c)).2.1 = 0 from (ref_0 (show (refC tk (nmM tk S N (hoC tk S N c)) (hoC tk S N c)).2.1 = 0 from zD)).1)).1
          obtain ⟨b1, hb1, eb1⟩ := hv_31 zD
          have hX : hoX tk S N c = a1 := nmM_some ha1
          have hY : hoY tk S N c = b1 := nmM_some hb1
          have la := (nmI_lt ha1).1
          have lb := (nmI_lt hb1).1
          unfold hoE
          rw [hX, hY, if_pos (Or.inl ((nI_eq (by omega) (by omega)).mp (by rw [← ea1, ← eb1]; exact i32_eq_toInt _ _ |>.mpr h_37)))]
        · unfold hoE
          split
          · rfl
          · rw [fl_n zD]
      rw [hoo] at hc_55
      have hT_55 := TX_fr hT_51 hf_55 (fun k j h => by unfold cuP; omega)
      have hV_55 := VX_cu isW37 hV_51 hf_55
      have hN_55 := VN_cu isW37 hN_51 hf_55
      refine a_aload_n rfl dX7_readHold_58 ?_
      refine n_callV (mi' := miX4_areGood) dX7_readHold_59 lX7_83 mX4_areGood (by decide) rfl rfl rfl (c_X4_areGood (c := (hoE tk S N c)) hK hT_55 hc_55 (fun h_59 => ?_) (fun h_59 => ?_) d) rfl rfl (by omega) (by decide) (Nat.le_of_ble_eq_true rfl)
      · show AW _ _ _ _ _ _ _
        exact absurd (show (hoE tk S N c).2.1 = 0 from h_59) (by rw [← hoo, sp_f]; exact fl_z (by decide))
      · show AW _ _ _ _ _ _ _
        refine n_if_eq 71 (by decide) dX7_readHold_62 (by decide) (fun _ => ?_) (fun h => absurd h (by decide))
        refine a_vret dX7_readHold_71 rfl ?_
        exact hQ _ hc_55 (fun z => absurd (show (hoE tk S N c).2.1 = 0 from z) h_59) ((((((hf_15.t hf_20).t hf_26).t hf_31).t hf_51).t hf_55).mo (fun _ _ h => cu_rv h))
    · refine a_aload_n rfl dX7_readHold_40 ?_
      refine a_iload_n rfl dX7_readHold_41 ?_
      refine a_iload_n rfl dX7_readHold_42 ?_
      refine n_callV (mi' := miX6_isHeldBy) dX7_readHold_43 lX7_100 mX6_isHeldBy (by decide) rfl rfl rfl (c_heldAny isW37 hV_31 hF (fun hb_43 => ?_) (fun hb_43 => ?_) d) rfl rfl (by omega) (by decide) (Nat.le_of_ble_eq_true rfl)
      · show AW _ _ _ _ _ _ _
        refine n_if_eq 54 (by decide) dX7_readHold_46 (by decide) (fun h => absurd h (by decide)) (fun _ => ?_)
        refine a_aload_n rfl dX7_readHold_49 ?_
        refine n_iconst 5 rfl dX7_readHold_50 ?_
        refine n_callV (mi' := miX4_fail) dX7_readHold_51 lX7_52 mX4_fail (by decide) rfl rfl rfl (c_X4_fail (c := (hoD tk S N c)) hK hT_31 hc_31 (by omega) (fun M_51 hc_51 hf_51 => ?_) d) rfl rfl (by omega) (by decide) (Nat.le_of_ble_eq_true rfl)
        show AW _ _ _ _ _ _ _
        have hT_51 := TX_fr hT_31 hf_51 (fun k j h => by unfold cuP; omega)
        have hV_51 := VX_cu isW37 hV_31 hf_51
        have hN_51 := VN_cu isW37 hN_31 hf_51
        refine a_aload_n rfl dX7_readHold_54 ?_
        refine n_callV (mi' := miX4_step) dX7_readHold_55 lX7_56 mX4_step (by decide) rfl rfl rfl (c_X4_step (c := (flC tk 5 (hoD tk S N c))) hK hT_51 hc_51 (fun M_55 hc_55 hf_55 => ?_) d) rfl rfl (by omega) (by decide) (Nat.le_of_ble_eq_true rfl)
        show AW _ _ _ _ _ _ _
        have hoo : spC tk (flC tk 5 (hoD tk S N c)) = hoE tk S N c := by
          by_cases zD : (hoD tk S N c).2.1 = 0
          · obtain ⟨a1, ha1, ea1⟩ := hv_20 (kwd_0 (show (kwdC tk 5 (hoB tk S N c)).2.1 = 0 from (ref_0 (show (refC tk (nmM tk S N (hoC tk S N c)) (hoC tk S N c)).2.1 = 0 from zD)).1)).1
            obtain ⟨b1, hb1, eb1⟩ := hv_31 zD
            have hX : hoX tk S N c = a1 := nmM_some ha1
            have hY : hoY tk S N c = b1 := nmM_some hb1
            have la := (nmI_lt ha1).1
            have lb := (nmI_lt hb1).1
            unfold hoE
            rw [hX, hY, if_pos (Or.inr (hb_43 a1 b1 (by omega) (by omega) ea1 eb1))]
          · unfold hoE
            split
            · rfl
            · rw [fl_n zD]
        rw [hoo] at hc_55
        have hT_55 := TX_fr hT_51 hf_55 (fun k j h => by unfold cuP; omega)
        have hV_55 := VX_cu isW37 hV_51 hf_55
        have hN_55 := VN_cu isW37 hN_51 hf_55
        refine a_aload_n rfl dX7_readHold_58 ?_
        refine n_callV (mi' := miX4_areGood) dX7_readHold_59 lX7_83 mX4_areGood (by decide) rfl rfl rfl (c_X4_areGood (c := (hoE tk S N c)) hK hT_55 hc_55 (fun h_59 => ?_) (fun h_59 => ?_) d) rfl rfl (by omega) (by decide) (Nat.le_of_ble_eq_true rfl)
        · show AW _ _ _ _ _ _ _
          exact absurd (show (hoE tk S N c).2.1 = 0 from h_59) (by rw [← hoo, sp_f]; exact fl_z (by decide))
        · show AW _ _ _ _ _ _ _
          refine n_if_eq 71 (by decide) dX7_readHold_62 (by decide) (fun _ => ?_) (fun h => absurd h (by decide))
          refine a_vret dX7_readHold_71 rfl ?_
          exact hQ _ hc_55 (fun z => absurd (show (hoE tk S N c).2.1 = 0 from z) h_59) ((((((hf_15.t hf_20).t hf_26).t hf_31).t hf_51).t hf_55).mo (fun _ _ h => cu_rv h))
      · show AW _ _ _ _ _ _ _
        refine n_if_eq 54 (by decide) dX7_readHold_46 (by decide) (fun _ => ?_) (fun h => absurd h (by decide))
        refine a_aload_n rfl dX7_readHold_54 ?_
        refine n_callV (mi' := miX4_step) dX7_readHold_55 lX7_56 mX4_step (by decide) rfl rfl rfl (c_X4_step (c := (hoD tk S N c)) hK hT_31 hc_31 (fun M_55 hc_55 hf_55 => ?_) d) rfl rfl (by omega) (by decide) (Nat.le_of_ble_eq_true rfl)
        show AW _ _ _ _ _ _ _
        have hoo : spC tk (hoD tk S N c) = hoE tk S N c := by
          by_cases zD : (hoD tk S N c).2.1 = 0
          · obtain ⟨a1, ha1, ea1⟩ := hv_20 (kwd_0 (show (kwdC tk 5 (hoB tk S N c)).2.1 = 0 from (ref_0 (show (refC tk (nmM tk S N (hoC tk S N c)) (hoC tk S N c)).2.1 = 0 from zD)).1)).1
            obtain ⟨b1, hb1, eb1⟩ := hv_31 zD
            have hX : hoX tk S N c = a1 := nmM_some ha1
            have hY : hoY tk S N c = b1 := nmM_some hb1
            have la := (nmI_lt ha1).1
            have lb := (nmI_lt hb1).1
            unfold hoE
            rw [hX, hY, if_neg (fun q => q.elim (fun q => h_37 (by rw [ea1, eb1, q])) (fun q => by rw [hb_43 a1 b1 (by omega) (by omega) ea1 eb1] at q; cases q))]
          · unfold hoE
            split
            · rw [fl_n zD]
            · rfl
        rw [hoo] at hc_55
        have hT_55 := TX_fr hT_31 hf_55 (fun k j h => by unfold cuP; omega)
        have hV_55 := VX_cu isW37 hV_31 hf_55
        have hN_55 := VN_cu isW37 hN_31 hf_55
        refine a_aload_n rfl dX7_readHold_58 ?_
        refine n_callV (mi' := miX4_areGood) dX7_readHold_59 lX7_83 mX4_areGood (by decide) rfl rfl rfl (c_X4_areGood (c := (hoE tk S N c)) hK hT_55 hc_55 (fun h_59 => ?_) (fun h_59 => ?_) d) rfl rfl (by omega) (by decide) (Nat.le_of_ble_eq_true rfl)
        · show AW _ _ _ _ _ _ _
          have hz : (hoD tk S N c).2.1 = 0 := by rw [← hoo, sp_f] at h_59; exact h_59
          have zD : (hoD tk S N c).2.1 = 0 := hz
          have z3 := ref_0 (show (refC tk (nmM tk S N (hoC tk S N c)) (hoC tk S N c)).2.1 = 0 from zD)
          have z2 := kwd_0 (show (kwdC tk 5 (hoB tk S N c)).2.1 = 0 from z3.1)
          have z1 := ref_0 (sp_0 (show (spC tk (refC tk (nmM tk S N (hoA tk S c)) (hoA tk S c))).2.1 = 0 from z2.1))
          have z0 := bg_0 (by decide) (show (bgC tk (decide (10 ≤ S 0 3)) 6 c).2.1 = 0 from z1.1)
          have hm6 : S 0 3 < 10 := Nat.not_le.mp (of_decide_eq_false z0.2.1)
          obtain ⟨a1, ha1, ea1⟩ := hv_20 (show (spC tk (refC tk (nmM tk S N (hoA tk S c)) (hoA tk S c))).2.1 = 0 from z2.1)
          obtain ⟨b1, hb1, eb1⟩ := hv_31 zD
          have hX : hoX tk S N c = a1 := nmM_some ha1
          have hY : hoY tk S N c = b1 := nmM_some hb1
          subst ea1
          subst eb1
          refine n_if_eq 71 (by decide) dX7_readHold_62 (by decide) (fun h => absurd h (by decide)) (fun _ => ?_)
          refine a_aload_n rfl dX7_readHold_65 ?_
          refine a_iload_n rfl dX7_readHold_66 ?_
          refine a_iload_n rfl dX7_readHold_67 ?_
          refine n_callV (mi' := miX6_addHold) dX7_readHold_68 lX7_104 mX6_addHold (by decide) rfl rfl rfl (c_X6_addHold isW37 hV_55 hF hm6 (fun hV_68 => ?_) d) rfl rfl (by omega) (by decide) (Nat.le_of_ble_eq_true rfl)
          show AW _ _ _ _ _ _ _
          refine a_vret dX7_readHold_71 rfl ?_
          have hf2 : fr (fun k j => 37 ≤ k ∧ k < 50) M_55 (siM (siM (siM M_55 (37 + 4) (S 0 3) (nI a1)) (37 + 5) (S 0 3) (nI b1)) 37 3 (nI (S 0 3 + 1))) := ((fr.r.si (by omega)).si (by omega)).si (by omega)
          refine hQ _ (CU_fr hc_55 hf2 (fun j _ _ => by omega)) (fun z => ?_) ((((((hf_15.t hf_20).t hf_26).t hf_31).t hf_55).mo (fun _ _ h => cu_rv h)).t (hf2.mo (fun k j h => Or.inr h)))
          show VX 37 _ (addHN S (hoX tk S N c) (hoY tk S N c)) ∧ VN 37 _ (addHN S (hoX tk S N c) (hoY tk S N c)) N
          rw [hX, hY]
          exact ⟨hV_68, hN_55⟩
        · show AW _ _ _ _ _ _ _
          refine n_if_eq 71 (by decide) dX7_readHold_62 (by decide) (fun _ => ?_) (fun h => absurd h (by decide))
          refine a_vret dX7_readHold_71 rfl ?_
          exact hQ _ hc_55 (fun z => absurd (show (hoE tk S N c).2.1 = 0 from z) h_59) (((((hf_15.t hf_20).t hf_26).t hf_31).t hf_55).mo (fun _ _ h => cu_rv h))
  · refine n_iconst 1 rfl dX7_readHold_10 ?_
    refine a_goto 15 dX7_readHold_11 (by decide) ?_
    refine n_callS (mi' := miX7_begin) dX7_readHold_15 lX7_70 mX7_begin (c_X7_begin (c := c) (b := decide (10 ≤ S 0 3)) hK hT hC (by rw [decide_eq_true (by omega)]; rfl) (fun M_15 hc_15 hf_15 => ?_) d) rfl rfl (by omega) (by decide) (Nat.le_of_ble_eq_true rfl)
    show AW _ _ _ _ _ _ _
    have hT_15 := TX_fr hT hf_15 (fun k j h => by unfold cuP; omega)
    have hV_15 := VX_cu isW37 hV hf_15
    have hN_15 := VN_cu isW37 hN hf_15
    refine a_aload_n rfl dX7_readHold_18 ?_
    refine a_aload_n rfl dX7_readHold_19 ?_
    refine n_callV (mi' := miX4_takeMatter) dX7_readHold_20 lX7_93 mX4_takeMatter (by decide) rfl rfl rfl (c_X4_takeMatter (c := (hoA tk S c)) hK hT_15 hc_15 isW37 hV_15 hF hN_15 (fun M_20 v_20 hc_20 hv_20 hf_20 => ?_) d) rfl rfl (by omega) (by decide) (Nat.le_of_ble_eq_true rfl)
    show AW _ _ _ _ _ _ _
    have hT_20 := TX_fr hT_15 hf_20 (fun k j h => by unfold cuP; omega)
    have hV_20 := VX_cu isW37 hV_15 hf_20
    have hN_20 := VN_cu isW37 hN_15 hf_20
    refine a_istore_n (by decide) rfl dX7_readHold_23 ?_
    refine a_aload_n rfl dX7_readHold_24 ?_
    refine n_iconst 5 rfl dX7_readHold_25 ?_
    refine n_callV (mi' := miX4_takeKeyword) dX7_readHold_26 lX7_80 mX4_takeKeyword (by decide) rfl rfl rfl (c_X4_takeKeyword (c := (hoB tk S N c)) hK hT_20 hc_20 (by omega) (fun M_26 hc_26 hf_26 => ?_) d) rfl rfl (by omega) (by decide) (Nat.le_of_ble_eq_true rfl)
    show AW _ _ _ _ _ _ _
    have hT_26 := TX_fr hT_20 hf_26 (fun k j h => by unfold cuP; omega)
    have hV_26 := VX_cu isW37 hV_20 hf_26
    have hN_26 := VN_cu isW37 hN_20 hf_26
    refine a_aload_n rfl dX7_readHold_29 ?_
    refine a_aload_n rfl dX7_readHold_30 ?_
    refine n_callV (mi' := miX4_matterHere) dX7_readHold_31 lX7_97 mX4_matterHere (by decide) rfl rfl rfl (c_X4_matterHere (c := (hoC tk S N c)) hK hT_26 hc_26 isW37 hV_26 hF hN_26 (fun M_31 v_31 hc_31 hv_31 hf_31 => ?_) d) rfl rfl (by omega) (by decide) (Nat.le_of_ble_eq_true rfl)
    show AW _ _ _ _ _ _ _
    have hT_31 := TX_fr hT_26 hf_31 (fun k j h => by unfold cuP; omega)
    have hV_31 := VX_cu isW37 hV_26 hf_31
    have hN_31 := VN_cu isW37 hN_26 hf_31
    refine a_istore_n (by decide) rfl dX7_readHold_34 ?_
    refine a_iload_n rfl dX7_readHold_35 ?_
    refine a_iload_n rfl dX7_readHold_36 ?_
    refine u_icmp_eq 49 dX7_readHold_37 (by decide) (fun h_37 => ?_) (fun h_37 => ?_)
    · refine a_aload_n rfl dX7_readHold_49 ?_
      refine n_iconst 5 rfl dX7_readHold_50 ?_
      refine n_callV (mi' := miX4_fail) dX7_readHold_51 lX7_52 mX4_fail (by decide) rfl rfl rfl (c_X4_fail (c := (hoD tk S N c)) hK hT_31 hc_31 (by omega) (fun M_51 hc_51 hf_51 => ?_) d) rfl rfl (by omega) (by decide) (Nat.le_of_ble_eq_true rfl)
      show AW _ _ _ _ _ _ _
      have hT_51 := TX_fr hT_31 hf_51 (fun k j h => by unfold cuP; omega)
      have hV_51 := VX_cu isW37 hV_31 hf_51
      have hN_51 := VN_cu isW37 hN_31 hf_51
      refine a_aload_n rfl dX7_readHold_54 ?_
      refine n_callV (mi' := miX4_step) dX7_readHold_55 lX7_56 mX4_step (by decide) rfl rfl rfl (c_X4_step (c := (flC tk 5 (hoD tk S N c))) hK hT_51 hc_51 (fun M_55 hc_55 hf_55 => ?_) d) rfl rfl (by omega) (by decide) (Nat.le_of_ble_eq_true rfl)
      show AW _ _ _ _ _ _ _
      have hoo : spC tk (flC tk 5 (hoD tk S N c)) = hoE tk S N c := by
        by_cases zD : (hoD tk S N c).2.1 = 0
        · obtain ⟨a1, ha1, ea1⟩ := hv_20 (kwd_0 (show (kwdC tk 5 (hoB tk S N c)).2.1 = 0 from (ref_0 (show (refC tk (nmM tk S N (hoC tk S N c)) (hoC tk S N c)).2.1 = 0 from zD)).1)).1
          obtain ⟨b1, hb1, eb1⟩ := hv_31 zD
          have hX : hoX tk S N c = a1 := nmM_some ha1
          have hY : hoY tk S N c = b1 := nmM_some hb1
          have la := (nmI_lt ha1).1
          have lb := (nmI_lt hb1).1
          unfold hoE
          rw [hX, hY, if_pos (Or.inl ((nI_eq (by omega) (by omega)).mp (by rw [← ea1, ← eb1]; exact i32_eq_toInt _ _ |>.mpr h_37)))]
        · unfold hoE
          split
          · rfl
          · rw [fl_n zD]
      rw [hoo] at hc_55
      have hT_55 := TX_fr hT_51 hf_55 (fun k j h => by unfold cuP; omega)
      have hV_55 := VX_cu isW37 hV_51 hf_55
      have hN_55 := VN_cu isW37 hN_51 hf_55
      refine a_aload_n rfl dX7_readHold_58 ?_
      refine n_callV (mi' := miX4_areGood) dX7_readHold_59 lX7_83 mX4_areGood (by decide) rfl rfl rfl (c_X4_areGood (c := (hoE tk S N c)) hK hT_55 hc_55 (fun h_59 => ?_) (fun h_59 => ?_) d) rfl rfl (by omega) (by decide) (Nat.le_of_ble_eq_true rfl)
      · show AW _ _ _ _ _ _ _
        exact absurd (show (hoE tk S N c).2.1 = 0 from h_59) (by rw [← hoo, sp_f]; exact fl_z (by decide))
      · show AW _ _ _ _ _ _ _
        refine n_if_eq 71 (by decide) dX7_readHold_62 (by decide) (fun _ => ?_) (fun h => absurd h (by decide))
        refine a_vret dX7_readHold_71 rfl ?_
        exact hQ _ hc_55 (fun z => absurd (show (hoE tk S N c).2.1 = 0 from z) h_59) ((((((hf_15.t hf_20).t hf_26).t hf_31).t hf_51).t hf_55).mo (fun _ _ h => cu_rv h))
    · refine a_aload_n rfl dX7_readHold_40 ?_
      refine a_iload_n rfl dX7_readHold_41 ?_
      refine a_iload_n rfl dX7_readHold_42 ?_
      refine n_callV (mi' := miX6_isHeldBy) dX7_readHold_43 lX7_100 mX6_isHeldBy (by decide) rfl rfl rfl (c_heldAny isW37 hV_31 hF (fun hb_43 => ?_) (fun hb_43 => ?_) d) rfl rfl (by omega) (by decide) (Nat.le_of_ble_eq_true rfl)
      · show AW _ _ _ _ _ _ _
        refine n_if_eq 54 (by decide) dX7_readHold_46 (by decide) (fun h => absurd h (by decide)) (fun _ => ?_)
        refine a_aload_n rfl dX7_readHold_49 ?_
        refine n_iconst 5 rfl dX7_readHold_50 ?_
        refine n_callV (mi' := miX4_fail) dX7_readHold_51 lX7_52 mX4_fail (by decide) rfl rfl rfl (c_X4_fail (c := (hoD tk S N c)) hK hT_31 hc_31 (by omega) (fun M_51 hc_51 hf_51 => ?_) d) rfl rfl (by omega) (by decide) (Nat.le_of_ble_eq_true rfl)
        show AW _ _ _ _ _ _ _
        have hT_51 := TX_fr hT_31 hf_51 (fun k j h => by unfold cuP; omega)
        have hV_51 := VX_cu isW37 hV_31 hf_51
        have hN_51 := VN_cu isW37 hN_31 hf_51
        refine a_aload_n rfl dX7_readHold_54 ?_
        refine n_callV (mi' := miX4_step) dX7_readHold_55 lX7_56 mX4_step (by decide) rfl rfl rfl (c_X4_step (c := (flC tk 5 (hoD tk S N c))) hK hT_51 hc_51 (fun M_55 hc_55 hf_55 => ?_) d) rfl rfl (by omega) (by decide) (Nat.le_of_ble_eq_true rfl)
        show AW _ _ _ _ _ _ _
        have hoo : spC tk (flC tk 5 (hoD tk S N c)) = hoE tk S N c := by
          by_cases zD : (hoD tk S N c).2.1 = 0
          · obtain ⟨a1, ha1, ea1⟩ := hv_20 (kwd_0 (show (kwdC tk 5 (hoB tk S N c)).2.1 = 0 from (ref_0 (show (refC tk (nmM tk S N (hoC tk S N c)) (hoC tk S N c)).2.1 = 0 from zD)).1)).1
            obtain ⟨b1, hb1, eb1⟩ := hv_31 zD
            have hX : hoX tk S N c = a1 := nmM_some ha1
            have hY : hoY tk S N c = b1 := nmM_some hb1
            have la := (nmI_lt ha1).1
            have lb := (nmI_lt hb1).1
            unfold hoE
            rw [hX, hY, if_pos (Or.inr (hb_43 a1 b1 (by omega) (by omega) ea1 eb1))]
          · unfold hoE
            split
            · rfl
            · rw [fl_n zD]
        rw [hoo] at hc_55
        have hT_55 := TX_fr hT_51 hf_55 (fun k j h => by unfold cuP; omega)
        have hV_55 := VX_cu isW37 hV_51 hf_55
        have hN_55 := VN_cu isW37 hN_51 hf_55
        refine a_aload_n rfl dX7_readHold_58 ?_
        refine n_callV (mi' := miX4_areGood) dX7_readHold_59 lX7_83 mX4_areGood (by decide) rfl rfl rfl (c_X4_areGood (c := (hoE tk S N c)) hK hT_55 hc_55 (fun h_59 => ?_) (fun h_59 => ?_) d) rfl rfl (by omega) (by decide) (Nat.le_of_ble_eq_true rfl)
        · show AW _ _ _ _ _ _ _
          exact absurd (show (hoE tk S N c).2.1 = 0 from h_59) (by rw [← hoo, sp_f]; exact fl_z (by decide))
        · show AW _ _ _ _ _ _ _
          refine n_if_eq 71 (by decide) dX7_readHold_62 (by decide) (fun _ => ?_) (fun h => absurd h (by decide))
          refine a_vret dX7_readHold_71 rfl ?_
          exact hQ _ hc_55 (fun z => absurd (show (hoE tk S N c).2.1 = 0 from z) h_59) ((((((hf_15.t hf_20).t hf_26).t hf_31).t hf_51).t hf_55).mo (fun _ _ h => cu_rv h))
      · show AW _ _ _ _ _ _ _
        refine n_if_eq 54 (by decide) dX7_readHold_46 (by decide) (fun _ => ?_) (fun h => absurd h (by decide))
        refine a_aload_n rfl dX7_readHold_54 ?_
        refine n_callV (mi' := miX4_step) dX7_readHold_55 lX7_56 mX4_step (by decide) rfl rfl rfl (c_X4_step (c := (hoD tk S N c)) hK hT_31 hc_31 (fun M_55 hc_55 hf_55 => ?_) d) rfl rfl (by omega) (by decide) (Nat.le_of_ble_eq_true rfl)
        show AW _ _ _ _ _ _ _
        have hoo : spC tk (hoD tk S N c) = hoE tk S N c := by
          by_cases zD : (hoD tk S N c).2.1 = 0
          · obtain ⟨a1, ha1, ea1⟩ := hv_20 (kwd_0 (show (kwdC tk 5 (hoB tk S N c)).2.1 = 0 from (ref_0 (show (refC tk (nmM tk S N (hoC tk S N c)) (hoC tk S N c)).2.1 = 0 from zD)).1)).1
            obtain ⟨b1, hb1, eb1⟩ := hv_31 zD
            have hX : hoX tk S N c = a1 := nmM_some ha1
            have hY : hoY tk S N c = b1 := nmM_some hb1
            have la := (nmI_lt ha1).1
            have lb := (nmI_lt hb1).1
            unfold hoE
            rw [hX, hY, if_neg (fun q => q.elim (fun q => h_37 (by rw [ea1, eb1, q])) (fun q => by rw [hb_43 a1 b1 (by omega) (by omega) ea1 eb1] at q; cases q))]
          · unfold hoE
            split
            · rw [fl_n zD]
            · rfl
        rw [hoo] at hc_55
        have hT_55 := TX_fr hT_31 hf_55 (fun k j h => by unfold cuP; omega)
        have hV_55 := VX_cu isW37 hV_31 hf_55
        have hN_55 := VN_cu isW37 hN_31 hf_55
        refine a_aload_n rfl dX7_readHold_58 ?_
        refine n_callV (mi' := miX4_areGood) dX7_readHold_59 lX7_83 mX4_areGood (by decide) rfl rfl rfl (c_X4_areGood (c := (hoE tk S N c)) hK hT_55 hc_55 (fun h_59 => ?_) (fun h_59 => ?_) d) rfl rfl (by omega) (by decide) (Nat.le_of_ble_eq_true rfl)
        · show AW _ _ _ _ _ _ _
          have hz : (hoD tk S N c).2.1 = 0 := by rw [← hoo, sp_f] at h_59; exact h_59
          have zD : (hoD tk S N c).2.1 = 0 := hz
          have z3 := ref_0 (show (refC tk (nmM tk S N (hoC tk S N c)) (hoC tk S N c)).2.1 = 0 from zD)
          have z2 := kwd_0 (show (kwdC tk 5 (hoB tk S N c)).2.1 = 0 from z3.1)
          have z1 := ref_0 (sp_0 (show (spC tk (refC tk (nmM tk S N (hoA tk S c)) (hoA tk S c))).2.1 = 0 from z2.1))
          have z0 := bg_0 (by decide) (show (bgC tk (decide (10 ≤ S 0 3)) 6 c).2.1 = 0 from z1.1)
          have hm6 : S 0 3 < 10 := Nat.not_le.mp (of_decide_eq_false z0.2.1)
          obtain ⟨a1, ha1, ea1⟩ := hv_20 (show (spC tk (refC tk (nmM tk S N (hoA tk S c)) (hoA tk S c))).2.1 = 0 from z2.1)
          obtain ⟨b1, hb1, eb1⟩ := hv_31 zD
          have hX : hoX tk S N c = a1 := nmM_some ha1
          have hY : hoY tk S N c = b1 := nmM_some hb1
          subst ea1
          subst eb1
          refine n_if_eq 71 (by decide) dX7_readHold_62 (by decide) (fun h => absurd h (by decide)) (fun _ => ?_)
          refine a_aload_n rfl dX7_readHold_65 ?_
          refine a_iload_n rfl dX7_readHold_66 ?_
          refine a_iload_n rfl dX7_readHold_67 ?_
          refine n_callV (mi' := miX6_addHold) dX7_readHold_68 lX7_104 mX6_addHold (by decide) rfl rfl rfl (c_X6_addHold isW37 hV_55 hF hm6 (fun hV_68 => ?_) d) rfl rfl (by omega) (by decide) (Nat.le_of_ble_eq_true rfl)
          show AW _ _ _ _ _ _ _
          refine a_vret dX7_readHold_71 rfl ?_
          have hf2 : fr (fun k j => 37 ≤ k ∧ k < 50) M_55 (siM (siM (siM M_55 (37 + 4) (S 0 3) (nI a1)) (37 + 5) (S 0 3) (nI b1)) 37 3 (nI (S 0 3 + 1))) := ((fr.r.si (by omega)).si (by omega)).si (by omega)
          refine hQ _ (CU_fr hc_55 hf2 (fun j _ _ => by omega)) (fun z => ?_) ((((((hf_15.t hf_20).t hf_26).t hf_31).t hf_55).mo (fun _ _ h => cu_rv h)).t (hf2.mo (fun k j h => Or.inr h)))
          show VX 37 _ (addHN S (hoX tk S N c) (hoY tk S N c)) ∧ VN 37 _ (addHN S (hoX tk S N c) (hoY tk S N c)) N
          rw [hX, hY]
          exact ⟨hV_68, hN_55⟩
        · show AW _ _ _ _ _ _ _
          refine n_if_eq 71 (by decide) dX7_readHold_62 (by decide) (fun _ => ?_) (fun h => absurd h (by decide))
          refine a_vret dX7_readHold_71 rfl ?_
          exact hQ _ hc_55 (fun z => absurd (show (hoE tk S N c).2.1 = 0 from z) h_59) (((((hf_15.t hf_20).t hf_26).t hf_31).t hf_55).mo (fun _ _ h => cu_rv h))

set_option maxRecDepth 100000 in
set_option maxHeartbeats 800000 in
theorem c_X7_readSitter {M : Mm} {tk : Nat → TK} {n : Nat} {c : CC} (hK : TKG tk) (hT : TX M tk n) (hC : CU M n c) {S : ST} {N : NM} (hV : VX 37 M S) (hF : WF S) (hN : VN 37 M S N) {Q : Option Value → Mm → Prop} (hQ : ∀ M', CU M' n (ptS tk S N c).1 → ((ptS tk S N c).1.2.1 = 0 → VX 37 M' (ptS tk S N c).2.1 ∧ VN 37 M' (ptS tk S N c).2.1 (ptS tk S N c).2.2) → fr rvP M M' → Q none M') (d : Nat) : AMt miX7_readSitter (d + 5) [.ref 37, .ref 10] M Q := by
  refine AMt.of (by decide) (Nat.le_of_ble_eq_true rfl) ?_
  show AW miX7_readSitter (d + 5) (mxA Q) 0 [(0, some (.ref 37)), (1, some (.ref 10))] [] M
  have hc1 := hC.1
  have hn1 := hT.2.1
  have hn9 := hT.2.2.1
  have hf7 := hC.2.2.2.2
  have hkd : kd tk c ≤ 6 := (hK c.1).1
  have hst := (hK c.1).2.1
  have htx := tx_kd hT hC
  have hm := WF_m hF
  have hh := WF_h hF
  have hs := WF_s hF
  have hn := WF_n hF
  refine a_aload_n rfl dX7_readSitter_0 ?_
  refine a_aload_n rfl dX7_readSitter_1 ?_
  refine g_i (VX_4 hV) (by decide) rfl fX7_108 rfl dX7_readSitter_2 ?_
  refine n_bipush 7 rfl dX7_readSitter_5 ?_
  refine n_icmp_lt 14 (by omega) (by omega) dX7_readSitter_7 (by decide) (fun h_7 => ?_) (fun h_7 => ?_)
  · refine n_iconst 0 rfl dX7_readSitter_14 ?_
    refine n_callS (mi' := miX7_begin) dX7_readSitter_15 lX7_70 mX7_begin (c_X7_begin (c := c) (b := decide (7 ≤ S 0 4)) hK hT hC (by rw [decide_eq_false (by omega)]; rfl) (fun M_15 hc_15 hf_15 => ?_) d) rfl rfl (by omega) (by decide) (Nat.le_of_ble_eq_true rfl)
    show AW _ _ _ _ _ _ _
    have hT_15 := TX_fr hT hf_15 (fun k j h => by unfold cuP; omega)
    have hV_15 := VX_cu isW37 hV hf_15
    have hN_15 := VN_cu isW37 hN hf_15
    refine a_aload_n rfl dX7_readSitter_18 ?_
    refine a_aload_n rfl dX7_readSitter_19 ?_
    refine n_callV (mi' := miX4_takeNewName) dX7_readSitter_20 lX7_74 mX4_takeNewName (by decide) rfl rfl rfl (c_X4_takeNewName (c := (siA tk S c)) hK hT_15 hc_15 isW37 hV_15 hF hN_15 (fun M_20 v_20 hc_20 hv_20 hf_20 => ?_) d) rfl rfl (by omega) (by decide) (Nat.le_of_ble_eq_true rfl)
    show AW _ _ _ _ _ _ _
    have hT_20 := TX_fr hT_15 hf_20 (fun k j h => by unfold cuP; omega)
    have hV_20 := VX_cu isW37 hV_15 hf_20
    have hN_20 := VN_cu isW37 hN_15 hf_20
    refine a_lstore_n (by decide) rfl dX7_readSitter_23 ?_
    refine a_aload_n rfl dX7_readSitter_24 ?_
    refine n_bipush 7 rfl dX7_readSitter_25 ?_
    refine n_callV (mi' := miX4_takeKeyword) dX7_readSitter_27 lX7_80 mX4_takeKeyword (by decide) rfl rfl rfl (c_X4_takeKeyword (c := (siB tk S N c)) hK hT_20 hc_20 (by omega) (fun M_27 hc_27 hf_27 => ?_) d) rfl rfl (by omega) (by decide) (Nat.le_of_ble_eq_true rfl)
    show AW _ _ _ _ _ _ _
    have hT_27 := TX_fr hT_20 hf_27 (fun k j h => by unfold cuP; omega)
    have hV_27 := VX_cu isW37 hV_20 hf_27
    have hN_27 := VN_cu isW37 hN_20 hf_27
    refine a_aload_n rfl dX7_readSitter_30 ?_
    refine n_iconst 0 rfl dX7_readSitter_31 ?_
    refine n_bipush 59 rfl dX7_readSitter_32 ?_
    refine n_callV (mi' := miX4_takeNumber) dX7_readSitter_34 lX7_59 mX4_takeNumber (by decide) rfl rfl rfl (c_X4_takeNumber (c := (siC tk S N c)) hK hT_27 hc_27 (by omega) (by omega) (fun M_34 v_34 hc_34 hv_34 hf_34 => ?_) d) rfl rfl (by omega) (by decide) (Nat.le_of_ble_eq_true rfl)
    show AW _ _ _ _ _ _ _
    have hT_34 := TX_fr hT_27 hf_34 (fun k j h => by unfold cuP; omega)
    have hV_34 := VX_cu isW37 hV_27 hf_34
    have hN_34 := VN_cu isW37 hN_27 hf_34
    refine a_istore (by decide) rfl dX7_readSitter_37 ?_
    refine a_aload_n rfl dX7_readSitter_39 ?_
    refine n_bipush 8 rfl dX7_readSitter_40 ?_
    refine n_callV (mi' := miX4_takeKeyword) dX7_readSitter_42 lX7_80 mX4_takeKeyword (by decide) rfl rfl rfl (c_X4_takeKeyword (c := (siD tk S N c)) hK hT_34 hc_34 (by omega) (fun M_42 hc_42 hf_42 => ?_) d) rfl rfl (by omega) (by decide) (Nat.le_of_ble_eq_true rfl)
    show AW _ _ _ _ _ _ _
    have hT_42 := TX_fr hT_34 hf_42 (fun k j h => by unfold cuP; omega)
    have hV_42 := VX_cu isW37 hV_34 hf_42
    have hN_42 := VN_cu isW37 hN_34 hf_42
    refine a_aload_n rfl dX7_readSitter_45 ?_
    refine n_iconst 1 rfl dX7_readSitter_46 ?_
    refine n_bipush 99 rfl dX7_readSitter_47 ?_
    refine n_callV (mi' := miX4_takeNumber) dX7_readSitter_49 lX7_59 mX4_takeNumber (by decide) rfl rfl rfl (c_X4_takeNumber (c := (siE tk S N c)) hK hT_42 hc_42 (by omega) (by omega) (fun M_49 v_49 hc_49 hv_49 hf_49 => ?_) d) rfl rfl (by omega) (by decide) (Nat.le_of_ble_eq_true rfl)
    show AW _ _ _ _ _ _ _
    have hT_49 := TX_fr hT_42 hf_49 (fun k j h => by unfold cuP; omega)
    have hV_49 := VX_cu isW37 hV_42 hf_49
    have hN_49 := VN_cu isW37 hN_42 hf_49
    refine a_istore (by decide) rfl dX7_readSitter_52 ?_
    refine a_aload_n rfl dX7_readSitter_54 ?_
    refine n_bipush 9 rfl dX7_readSitter_55 ?_
    refine n_callV (mi' := miX4_takeKeyword) dX7_readSitter_57 lX7_80 mX4_takeKeyword (by decide) rfl rfl rfl (c_X4_takeKeyword (c := (siF tk S N c)) hK hT_49 hc_49 (by omega) (fun M_57 hc_57 hf_57 => ?_) d) rfl rfl (by omega) (by decide) (Nat.le_of_ble_eq_true rfl)
    show AW _ _ _ _ _ _ _
    have hT_57 := TX_fr hT_49 hf_57 (fun k j h => by unfold cuP; omega)
    have hV_57 := VX_cu isW37 hV_49 hf_57
    have hN_57 := VN_cu isW37 hN_49 hf_57
    refine a_aload_n rfl dX7_readSitter_60 ?_
    refine a_aload_n rfl dX7_readSitter_61 ?_
    refine n_callV (mi' := miX4_takeMatter) dX7_readSitter_62 lX7_93 mX4_takeMatter (by decide) rfl rfl rfl (c_X4_takeMatter (c := (siG tk S N c)) hK hT_57 hc_57 isW37 hV_57 hF hN_57 (fun M_62 v_62 hc_62 hv_62 hf_62 => ?_) d) rfl rfl (by omega) (by decide) (Nat.le_of_ble_eq_true rfl)
    show AW _ _ _ _ _ _ _
    have hT_62 := TX_fr hT_57 hf_62 (fun k j h => by unfold cuP; omega)
    have hV_62 := VX_cu isW37 hV_57 hf_62
    have hN_62 := VN_cu isW37 hN_57 hf_62
    refine a_istore (by decide) rfl dX7_readSitter_65 ?_
    refine n_iconst 1 rfl dX7_readSitter_67 ?_
    refine a_istore (by decide) rfl dX7_readSitter_68 ?_
    refine a_aload_n rfl dX7_readSitter_70 ?_
    refine n_callV (mi' := miX4_keyword) dX7_readSitter_71 lX7_33 mX4_keyword (by decide) rfl rfl rfl (c_X4_keyword (c := (siH tk S N c)) hK hT_62 hc_62 (fun h_71 hl_71 => ?_) (fun h_71 => ?_) d) rfl rfl (by omega) (by decide) (Nat.le_of_ble_eq_true rfl)
    · show AW _ _ _ _ _ _ _
      refine n_bipush 10 rfl dX7_readSitter_74 ?_
      refine n_icmp_ne 92 (by omega) (by omega) dX7_readSitter_76 (by decide) (fun h_76 => ?_) (fun h_76 => ?_)
      · refine a_aload_n rfl dX7_readSitter_92 ?_
        refine n_callV (mi' := miX4_areGood) dX7_readSitter_93 lX7_83 mX4_areGood (by decide) rfl rfl rfl (c_X4_areGood (c := (siH tk S N c)) hK hT_62 hc_62 (fun h_93 => ?_) (fun h_93 => ?_) d) rfl rfl (by omega) (by decide) (Nat.le_of_ble_eq_true rfl)
        · show AW _ _ _ _ _ _ _
          have hk : ¬ isK tk (siH tk S N c) 10 = true := fun q => h_76 (isK_i.mp q).2
          have e1 : opN tk 10 1 9 (siH tk S N c) = (siH tk S N c) := if_neg hk
          have e2 : opV tk 10 1 (siH tk S N c) = 1 := if_neg hk
          have zH : (siH tk S N c).2.1 = 0 := h_93
          have z7 := ref_0 (sp_0 (show (spC tk (refC tk (nmM tk S N (siG tk S N c)) (siG tk S N c))).2.1 = 0 from zH))
          have z6 := kwd_0 (show (kwdC tk 9 (siF tk S N c)).2.1 = 0 from z7.1)
          have z5 := num_0 (show (numC tk 1 99 (siE tk S N c)).2.1 = 0 from z6.1)
          have z4 := kwd_0 (show (kwdC tk 8 (siD tk S N c)).2.1 = 0 from z5.1)
          have z3 := num_0 (show (numC tk 0 59 (siC tk S N c)).2.1 = 0 from z4.1)
          have z2 := kwd_0 (show (kwdC tk 7 (siB tk S N c)).2.1 = 0 from z3.1)
          have z1 := new_0 (show (newC tk S N (siA tk S c)).2.1 = 0 from z2.1)
          have z0 := bg_0 (by decide) (show (bgC tk (decide (7 ≤ S 0 4)) 6 c).2.1 = 0 from z1.1)
          have hm6 : S 0 4 < 7 := Nat.not_le.mp (of_decide_eq_false z0.2.1)
          have e20 := hv_20 z2.1
          have e34 := hv_34 z4.1
          have e49 := hv_49 z6.1
          obtain ⟨k1, hk1, ek1⟩ := hv_62 zH
          have hX : (nmM tk S N (siG tk S N c)).getD 0 = k1 := nmM_some hk1
          subst e20
          subst e34
          subst e49
          subst ek1
          refine n_if_eq 112 (by decide) dX7_readSitter_96 (by decide) (fun h => absurd h (by decide)) (fun _ => ?_)
          refine a_aload_n rfl dX7_readSitter_99 ?_
          refine a_lload_n rfl dX7_readSitter_100 ?_
          refine a_iload rfl dX7_readSitter_101 ?_
          refine a_iload rfl dX7_readSitter_103 ?_
          refine a_iload rfl dX7_readSitter_105 ?_
          refine a_iload rfl dX7_readSitter_107 ?_
          refine n_callV (mi' := miX6_addSitter) dX7_readSitter_109 lX7_111 mX6_addSitter (by decide) rfl rfl rfl (c_X6_addSitter isW37 hV_62 hF hm6 (fun hV_109 => ?_) d) rfl rfl (by omega) (by decide) (Nat.le_of_ble_eq_true rfl)
          show AW _ _ _ _ _ _ _
          refine a_vret dX7_readSitter_112 rfl ?_
          have hf2 : fr (fun k j => 37 ≤ k ∧ k < 50) M_62 (siM (siM (siM (siM (siM (slM M_62 (37 + 6) (S 0 4) (lN (cd tk (siA tk S c)))) (37 + 7) (S 0 4) (nI (cd tk (siC tk S N c)))) (37 + 8) (S 0 4) (nI (cd tk (siE tk S N c)))) (37 + 9) (S 0 4) (nI k1)) (37 + 10) (S 0 4) (nI (1))) 37 4 (nI (S 0 4 + 1))) := (((((fr.r.sl (by omega)).si (by omega)).si (by omega)).si (by omega)).si (by omega)).si (by omega)
          refine hQ _ (by show CU _ n (opN tk 10 1 9 (siH tk S N c)); rw [e1]; exact CU_fr hc_62 hf2 (fun j _ _ => by omega)) (fun z => ?_) (((((((((hf_15.t hf_20).t hf_27).t hf_34).t hf_42).t hf_49).t hf_57).t hf_62).mo (fun _ _ h => cu_rv h)).t (hf2.mo (fun k j h => Or.inr h)))
          show VX 37 _ (addSN S (cd tk (siC tk S N c)) (cd tk (siE tk S N c)) ((nmM tk S N (siG tk S N c)).getD 0) (opV tk 10 1 (siH tk S N c))) ∧ VN 37 _ (addSN S (cd tk (siC tk S N c)) (cd tk (siE tk S N c)) ((nmM tk S N (siG tk S N c)).getD 0) (opV tk 10 1 (siH tk S N c))) (upN N 1 (S 0 4) (lN (cd tk (siA tk S c))))
          rw [e2, hX]
          exact ⟨hV_109, VN_ads hN_62 (fun k j h => slN rfl (by omega)) slS⟩
        · show AW _ _ _ _ _ _ _
          have hk : ¬ isK tk (siH tk S N c) 10 = true := fun q => h_76 (isK_i.mp q).2
          have e1 : opN tk 10 1 9 (siH tk S N c) = (siH tk S N c) := if_neg hk
          have e2 : opV tk 10 1 (siH tk S N c) = 1 := if_neg hk
          refine n_if_eq 112 (by decide) dX7_readSitter_96 (by decide) (fun _ => ?_) (fun h => absurd h (by decide))
          refine a_vret dX7_readSitter_112 rfl ?_
          exact hQ _ (by show CU _ n (opN tk 10 1 9 (siH tk S N c)); rw [e1]; exact hc_62) (fun z => absurd (show (opN tk 10 1 9 (siH tk S N c)).2.1 = 0 from z) (by rw [e1]; exact h_93)) ((((((((hf_15.t hf_20).t hf_27).t hf_34).t hf_42).t hf_49).t hf_57).t hf_62).mo (fun _ _ h => cu_rv h))
      · refine a_aload_n rfl dX7_readSitter_79 ?_
        refine n_callV (mi' := miX4_step) dX7_readSitter_80 lX7_56 mX4_step (by decide) rfl rfl rfl (c_X4_step (c := (siH tk S N c)) hK hT_62 hc_62 (fun M_80 hc_80 hf_80 => ?_) d) rfl rfl (by omega) (by decide) (Nat.le_of_ble_eq_true rfl)
        show AW _ _ _ _ _ _ _
        have hT_80 := TX_fr hT_62 hf_80 (fun k j h => by unfold cuP; omega)
        have hV_80 := VX_cu isW37 hV_62 hf_80
        have hN_80 := VN_cu isW37 hN_62 hf_80
        refine a_aload_n rfl dX7_readSitter_83 ?_
        refine n_iconst 1 rfl dX7_readSitter_84 ?_
        refine n_bipush 9 rfl dX7_readSitter_85 ?_
        refine n_callV (mi' := miX4_takeNumber) dX7_readSitter_87 lX7_59 mX4_takeNumber (by decide) rfl rfl rfl (c_X4_takeNumber (c := (spC tk (siH tk S N c))) hK hT_80 hc_80 (by omega) (by omega) (fun M_87 v_87 hc_87 hv_87 hf_87 => ?_) d) rfl rfl (by omega) (by decide) (Nat.le_of_ble_eq_true rfl)
        show AW _ _ _ _ _ _ _
        have hT_87 := TX_fr hT_80 hf_87 (fun k j h => by unfold cuP; omega)
        have hV_87 := VX_cu isW37 hV_80 hf_87
        have hN_87 := VN_cu isW37 hN_80 hf_87
        refine a_istore (by decide) rfl dX7_readSitter_90 ?_
        refine a_aload_n rfl dX7_readSitter_92 ?_
        refine n_callV (mi' := miX4_areGood) dX7_readSitter_93 lX7_83 mX4_areGood (by decide) rfl rfl rfl (c_X4_areGood (c := (numC tk 1 9 (spC tk (siH tk S N c)))) hK hT_87 hc_87 (fun h_93 => ?_) (fun h_93 => ?_) d) rfl rfl (by omega) (by decide) (Nat.le_of_ble_eq_true rfl)
        · show AW _ _ _ _ _ _ _
          have hk : isK tk (siH tk S N c) 10 = true := isK_i.mpr ⟨h_71, by omega⟩
          have e1 : opN tk 10 1 9 (siH tk S N c) = numC tk 1 9 (spC tk (siH tk S N c)) := if_pos hk
          have e2 : opV tk 10 1 (siH tk S N c) = cd tk (spC tk (siH tk S N c)) := if_pos hk
          have zH : (siH tk S N c).2.1 = 0 := sp_0 (num_0 h_93).1
          have z7 := ref_0 (sp_0 (show (spC tk (refC tk (nmM tk S N (siG tk S N c)) (siG tk S N c))).2.1 = 0 from zH))
          have z6 := kwd_0 (show (kwdC tk 9 (siF tk S N c)).2.1 = 0 from z7.1)
          have z5 := num_0 (show (numC tk 1 99 (siE tk S N c)).2.1 = 0 from z6.1)
          have z4 := kwd_0 (show (kwdC tk 8 (siD tk S N c)).2.1 = 0 from z5.1)
          have z3 := num_0 (show (numC tk 0 59 (siC tk S N c)).2.1 = 0 from z4.1)
          have z2 := kwd_0 (show (kwdC tk 7 (siB tk S N c)).2.1 = 0 from z3.1)
          have z1 := new_0 (show (newC tk S N (siA tk S c)).2.1 = 0 from z2.1)
          have z0 := bg_0 (by decide) (show (bgC tk (decide (7 ≤ S 0 4)) 6 c).2.1 = 0 from z1.1)
          have hm6 : S 0 4 < 7 := Nat.not_le.mp (of_decide_eq_false z0.2.1)
          have e20 := hv_20 z2.1
          have e34 := hv_34 z4.1
          have e49 := hv_49 z6.1
          obtain ⟨k1, hk1, ek1⟩ := hv_62 zH
          have hX : (nmM tk S N (siG tk S N c)).getD 0 = k1 := nmM_some hk1
          have e87 := hv_87 h_93
          subst e20
          subst e34
          subst e49
          subst ek1
          subst e87
          refine n_if_eq 112 (by decide) dX7_readSitter_96 (by decide) (fun h => absurd h (by decide)) (fun _ => ?_)
          refine a_aload_n rfl dX7_readSitter_99 ?_
          refine a_lload_n rfl dX7_readSitter_100 ?_
          refine a_iload rfl dX7_readSitter_101 ?_
          refine a_iload rfl dX7_readSitter_103 ?_
          refine a_iload rfl dX7_readSitter_105 ?_
          refine a_iload rfl dX7_readSitter_107 ?_
          refine n_callV (mi' := miX6_addSitter) dX7_readSitter_109 lX7_111 mX6_addSitter (by decide) rfl rfl rfl (c_X6_addSitter isW37 hV_87 hF hm6 (fun hV_109 => ?_) d) rfl rfl (by omega) (by decide) (Nat.le_of_ble_eq_true rfl)
          show AW _ _ _ _ _ _ _
          refine a_vret dX7_readSitter_112 rfl ?_
          have hf2 : fr (fun k j => 37 ≤ k ∧ k < 50) M_87 (siM (siM (siM (siM (siM (slM M_87 (37 + 6) (S 0 4) (lN (cd tk (siA tk S c)))) (37 + 7) (S 0 4) (nI (cd tk (siC tk S N c)))) (37 + 8) (S 0 4) (nI (cd tk (siE tk S N c)))) (37 + 9) (S 0 4) (nI k1)) (37 + 10) (S 0 4) (nI (cd tk (spC tk (siH tk S N c))))) 37 4 (nI (S 0 4 + 1))) := (((((fr.r.sl (by omega)).si (by omega)).si (by omega)).si (by omega)).si (by omega)).si (by omega)
          refine hQ _ (by show CU _ n (opN tk 10 1 9 (siH tk S N c)); rw [e1]; exact CU_fr hc_87 hf2 (fun j _ _ => by omega)) (fun z => ?_) (((((((((((hf_15.t hf_20).t hf_27).t hf_34).t hf_42).t hf_49).t hf_57).t hf_62).t hf_80).t hf_87).mo (fun _ _ h => cu_rv h)).t (hf2.mo (fun k j h => Or.inr h)))
          show VX 37 _ (addSN S (cd tk (siC tk S N c)) (cd tk (siE tk S N c)) ((nmM tk S N (siG tk S N c)).getD 0) (opV tk 10 1 (siH tk S N c))) ∧ VN 37 _ (addSN S (cd tk (siC tk S N c)) (cd tk (siE tk S N c)) ((nmM tk S N (siG tk S N c)).getD 0) (opV tk 10 1 (siH tk S N c))) (upN N 1 (S 0 4) (lN (cd tk (siA tk S c))))
          rw [e2, hX]
          exact ⟨hV_109, VN_ads hN_87 (fun k j h => slN rfl (by omega)) slS⟩
        · show AW _ _ _ _ _ _ _
          have hk : isK tk (siH tk S N c) 10 = true := isK_i.mpr ⟨h_71, by omega⟩
          have e1 : opN tk 10 1 9 (siH tk S N c) = numC tk 1 9 (spC tk (siH tk S N c)) := if_pos hk
          have e2 : opV tk 10 1 (siH tk S N c) = cd tk (spC tk (siH tk S N c)) := if_pos hk
          refine n_if_eq 112 (by decide) dX7_readSitter_96 (by decide) (fun _ => ?_) (fun h => absurd h (by decide))
          refine a_vret dX7_readSitter_112 rfl ?_
          exact hQ _ (by show CU _ n (opN tk 10 1 9 (siH tk S N c)); rw [e1]; exact hc_87) (fun z => absurd (show (opN tk 10 1 9 (siH tk S N c)).2.1 = 0 from z) (by rw [e1]; exact h_93)) ((((((((((hf_15.t hf_20).t hf_27).t hf_34).t hf_42).t hf_49).t hf_57).t hf_62).t hf_80).t hf_87).mo (fun _ _ h => cu_rv h))
    · show AW _ _ _ _ _ _ _
      refine n_bipush 10 rfl dX7_readSitter_74 ?_
      refine r_icmp_ne 92 (by omega) dX7_readSitter_76 (by decide) (fun h_76 => ?_) (fun h_76 => absurd h_76 (by rw [show (-1 : Int32).toInt = -1 from by decide]; omega))
      refine a_aload_n rfl dX7_readSitter_92 ?_
      refine n_callV (mi' := miX4_areGood) dX7_readSitter_93 lX7_83 mX4_areGood (by decide) rfl rfl rfl (c_X4_areGood (c := (siH tk S N c)) hK hT_62 hc_62 (fun h_93 => ?_) (fun h_93 => ?_) d) rfl rfl (by omega) (by decide) (Nat.le_of_ble_eq_true rfl)
      · show AW _ _ _ _ _ _ _
        have hk : ¬ isK tk (siH tk S N c) 10 = true := fun q => h_71 (isK_i.mp q).1
        have e1 : opN tk 10 1 9 (siH tk S N c) = (siH tk S N c) := if_neg hk
        have e2 : opV tk 10 1 (siH tk S N c) = 1 := if_neg hk
        have zH : (siH tk S N c).2.1 = 0 := h_93
        have z7 := ref_0 (sp_0 (show (spC tk (refC tk (nmM tk S N (siG tk S N c)) (siG tk S N c))).2.1 = 0 from zH))
        have z6 := kwd_0 (show (kwdC tk 9 (siF tk S N c)).2.1 = 0 from z7.1)
        have z5 := num_0 (show (numC tk 1 99 (siE tk S N c)).2.1 = 0 from z6.1)
        have z4 := kwd_0 (show (kwdC tk 8 (siD tk S N c)).2.1 = 0 from z5.1)
        have z3 := num_0 (show (numC tk 0 59 (siC tk S N c)).2.1 = 0 from z4.1)
        have z2 := kwd_0 (show (kwdC tk 7 (siB tk S N c)).2.1 = 0 from z3.1)
        have z1 := new_0 (show (newC tk S N (siA tk S c)).2.1 = 0 from z2.1)
        have z0 := bg_0 (by decide) (show (bgC tk (decide (7 ≤ S 0 4)) 6 c).2.1 = 0 from z1.1)
        have hm6 : S 0 4 < 7 := Nat.not_le.mp (of_decide_eq_false z0.2.1)
        have e20 := hv_20 z2.1
        have e34 := hv_34 z4.1
        have e49 := hv_49 z6.1
        obtain ⟨k1, hk1, ek1⟩ := hv_62 zH
        have hX : (nmM tk S N (siG tk S N c)).getD 0 = k1 := nmM_some hk1
        subst e20
        subst e34
        subst e49
        subst ek1
        refine n_if_eq 112 (by decide) dX7_readSitter_96 (by decide) (fun h => absurd h (by decide)) (fun _ => ?_)
        refine a_aload_n rfl dX7_readSitter_99 ?_
        refine a_lload_n rfl dX7_readSitter_100 ?_
        refine a_iload rfl dX7_readSitter_101 ?_
        refine a_iload rfl dX7_readSitter_103 ?_
        refine a_iload rfl dX7_readSitter_105 ?_
        refine a_iload rfl dX7_readSitter_107 ?_
        refine n_callV (mi' := miX6_addSitter) dX7_readSitter_109 lX7_111 mX6_addSitter (by decide) rfl rfl rfl (c_X6_addSitter isW37 hV_62 hF hm6 (fun hV_109 => ?_) d) rfl rfl (by omega) (by decide) (Nat.le_of_ble_eq_true rfl)
        show AW _ _ _ _ _ _ _
        refine a_vret dX7_readSitter_112 rfl ?_
        have hf2 : fr (fun k j => 37 ≤ k ∧ k < 50) M_62 (siM (siM (siM (siM (siM (slM M_62 (37 + 6) (S 0 4) (lN (cd tk (siA tk S c)))) (37 + 7) (S 0 4) (nI (cd tk (siC tk S N c)))) (37 + 8) (S 0 4) (nI (cd tk (siE tk S N c)))) (37 + 9) (S 0 4) (nI k1)) (37 + 10) (S 0 4) (nI (1))) 37 4 (nI (S 0 4 + 1))) := (((((fr.r.sl (by omega)).si (by omega)).si (by omega)).si (by omega)).si (by omega)).si (by omega)
        refine hQ _ (by show CU _ n (opN tk 10 1 9 (siH tk S N c)); rw [e1]; exact CU_fr hc_62 hf2 (fun j _ _ => by omega)) (fun z => ?_) (((((((((hf_15.t hf_20).t hf_27).t hf_34).t hf_42).t hf_49).t hf_57).t hf_62).mo (fun _ _ h => cu_rv h)).t (hf2.mo (fun k j h => Or.inr h)))
        show VX 37 _ (addSN S (cd tk (siC tk S N c)) (cd tk (siE tk S N c)) ((nmM tk S N (siG tk S N c)).getD 0) (opV tk 10 1 (siH tk S N c))) ∧ VN 37 _ (addSN S (cd tk (siC tk S N c)) (cd tk (siE tk S N c)) ((nmM tk S N (siG tk S N c)).getD 0) (opV tk 10 1 (siH tk S N c))) (upN N 1 (S 0 4) (lN (cd tk (siA tk S c))))
        rw [e2, hX]
        exact ⟨hV_109, VN_ads hN_62 (fun k j h => slN rfl (by omega)) slS⟩
      · show AW _ _ _ _ _ _ _
        have hk : ¬ isK tk (siH tk S N c) 10 = true := fun q => h_71 (isK_i.mp q).1
        have e1 : opN tk 10 1 9 (siH tk S N c) = (siH tk S N c) := if_neg hk
        have e2 : opV tk 10 1 (siH tk S N c) = 1 := if_neg hk
        refine n_if_eq 112 (by decide) dX7_readSitter_96 (by decide) (fun _ => ?_) (fun h => absurd h (by decide))
        refine a_vret dX7_readSitter_112 rfl ?_
        exact hQ _ (by show CU _ n (opN tk 10 1 9 (siH tk S N c)); rw [e1]; exact hc_62) (fun z => absurd (show (opN tk 10 1 9 (siH tk S N c)).2.1 = 0 from z) (by rw [e1]; exact h_93)) ((((((((hf_15.t hf_20).t hf_27).t hf_34).t hf_42).t hf_49).t hf_57).t hf_62).mo (fun _ _ h => cu_rv h))
  · refine n_iconst 1 rfl dX7_readSitter_10 ?_
    refine a_goto 15 dX7_readSitter_11 (by decide) ?_
    refine n_callS (mi' := miX7_begin) dX7_readSitter_15 lX7_70 mX7_begin (c_X7_begin (c := c) (b := decide (7 ≤ S 0 4)) hK hT hC (by rw [decide_eq_true (by omega)]; rfl) (fun M_15 hc_15 hf_15 => ?_) d) rfl rfl (by omega) (by decide) (Nat.le_of_ble_eq_true rfl)
    show AW _ _ _ _ _ _ _
    have hT_15 := TX_fr hT hf_15 (fun k j h => by unfold cuP; omega)
    have hV_15 := VX_cu isW37 hV hf_15
    have hN_15 := VN_cu isW37 hN hf_15
    refine a_aload_n rfl dX7_readSitter_18 ?_
    refine a_aload_n rfl dX7_readSitter_19 ?_
    refine n_callV (mi' := miX4_takeNewName) dX7_readSitter_20 lX7_74 mX4_takeNewName (by decide) rfl rfl rfl (c_X4_takeNewName (c := (siA tk S c)) hK hT_15 hc_15 isW37 hV_15 hF hN_15 (fun M_20 v_20 hc_20 hv_20 hf_20 => ?_) d) rfl rfl (by omega) (by decide) (Nat.le_of_ble_eq_true rfl)
    show AW _ _ _ _ _ _ _
    have hT_20 := TX_fr hT_15 hf_20 (fun k j h => by unfold cuP; omega)
    have hV_20 := VX_cu isW37 hV_15 hf_20
    have hN_20 := VN_cu isW37 hN_15 hf_20
    refine a_lstore_n (by decide) rfl dX7_readSitter_23 ?_
    refine a_aload_n rfl dX7_readSitter_24 ?_
    refine n_bipush 7 rfl dX7_readSitter_25 ?_
    refine n_callV (mi' := miX4_takeKeyword) dX7_readSitter_27 lX7_80 mX4_takeKeyword (by decide) rfl rfl rfl (c_X4_takeKeyword (c := (siB tk S N c)) hK hT_20 hc_20 (by omega) (fun M_27 hc_27 hf_27 => ?_) d) rfl rfl (by omega) (by decide) (Nat.le_of_ble_eq_true rfl)
    show AW _ _ _ _ _ _ _
    have hT_27 := TX_fr hT_20 hf_27 (fun k j h => by unfold cuP; omega)
    have hV_27 := VX_cu isW37 hV_20 hf_27
    have hN_27 := VN_cu isW37 hN_20 hf_27
    refine a_aload_n rfl dX7_readSitter_30 ?_
    refine n_iconst 0 rfl dX7_readSitter_31 ?_
    refine n_bipush 59 rfl dX7_readSitter_32 ?_
    refine n_callV (mi' := miX4_takeNumber) dX7_readSitter_34 lX7_59 mX4_takeNumber (by decide) rfl rfl rfl (c_X4_takeNumber (c := (siC tk S N c)) hK hT_27 hc_27 (by omega) (by omega) (fun M_34 v_34 hc_34 hv_34 hf_34 => ?_) d) rfl rfl (by omega) (by decide) (Nat.le_of_ble_eq_true rfl)
    show AW _ _ _ _ _ _ _
    have hT_34 := TX_fr hT_27 hf_34 (fun k j h => by unfold cuP; omega)
    have hV_34 := VX_cu isW37 hV_27 hf_34
    have hN_34 := VN_cu isW37 hN_27 hf_34
    refine a_istore (by decide) rfl dX7_readSitter_37 ?_
    refine a_aload_n rfl dX7_readSitter_39 ?_
    refine n_bipush 8 rfl dX7_readSitter_40 ?_
    refine n_callV (mi' := miX4_takeKeyword) dX7_readSitter_42 lX7_80 mX4_takeKeyword (by decide) rfl rfl rfl (c_X4_takeKeyword (c := (siD tk S N c)) hK hT_34 hc_34 (by omega) (fun M_42 hc_42 hf_42 => ?_) d) rfl rfl (by omega) (by decide) (Nat.le_of_ble_eq_true rfl)
    show AW _ _ _ _ _ _ _
    have hT_42 := TX_fr hT_34 hf_42 (fun k j h => by unfold cuP; omega)
    have hV_42 := VX_cu isW37 hV_34 hf_42
    have hN_42 := VN_cu isW37 hN_34 hf_42
    refine a_aload_n rfl dX7_readSitter_45 ?_
    refine n_iconst 1 rfl dX7_readSitter_46 ?_
    refine n_bipush 99 rfl dX7_readSitter_47 ?_
    refine n_callV (mi' := miX4_takeNumber) dX7_readSitter_49 lX7_59 mX4_takeNumber (by decide) rfl rfl rfl (c_X4_takeNumber (c := (siE tk S N c)) hK hT_42 hc_42 (by omega) (by omega) (fun M_49 v_49 hc_49 hv_49 hf_49 => ?_) d) rfl rfl (by omega) (by decide) (Nat.le_of_ble_eq_true rfl)
    show AW _ _ _ _ _ _ _
    have hT_49 := TX_fr hT_42 hf_49 (fun k j h => by unfold cuP; omega)
    have hV_49 := VX_cu isW37 hV_42 hf_49
    have hN_49 := VN_cu isW37 hN_42 hf_49
    refine a_istore (by decide) rfl dX7_readSitter_52 ?_
    refine a_aload_n rfl dX7_readSitter_54 ?_
    refine n_bipush 9 rfl dX7_readSitter_55 ?_
    refine n_callV (mi' := miX4_takeKeyword) dX7_readSitter_57 lX7_80 mX4_takeKeyword (by decide) rfl rfl rfl (c_X4_takeKeyword (c := (siF tk S N c)) hK hT_49 hc_49 (by omega) (fun M_57 hc_57 hf_57 => ?_) d) rfl rfl (by omega) (by decide) (Nat.le_of_ble_eq_true rfl)
    show AW _ _ _ _ _ _ _
    have hT_57 := TX_fr hT_49 hf_57 (fun k j h => by unfold cuP; omega)
    have hV_57 := VX_cu isW37 hV_49 hf_57
    have hN_57 := VN_cu isW37 hN_49 hf_57
    refine a_aload_n rfl dX7_readSitter_60 ?_
    refine a_aload_n rfl dX7_readSitter_61 ?_
    refine n_callV (mi' := miX4_takeMatter) dX7_readSitter_62 lX7_93 mX4_takeMatter (by decide) rfl rfl rfl (c_X4_takeMatter (c := (siG tk S N c)) hK hT_57 hc_57 isW37 hV_57 hF hN_57 (fun M_62 v_62 hc_62 hv_62 hf_62 => ?_) d) rfl rfl (by omega) (by decide) (Nat.le_of_ble_eq_true rfl)
    show AW _ _ _ _ _ _ _
    have hT_62 := TX_fr hT_57 hf_62 (fun k j h => by unfold cuP; omega)
    have hV_62 := VX_cu isW37 hV_57 hf_62
    have hN_62 := VN_cu isW37 hN_57 hf_62
    refine a_istore (by decide) rfl dX7_readSitter_65 ?_
    refine n_iconst 1 rfl dX7_readSitter_67 ?_
    refine a_istore (by decide) rfl dX7_readSitter_68 ?_
    refine a_aload_n rfl dX7_readSitter_70 ?_
    refine n_callV (mi' := miX4_keyword) dX7_readSitter_71 lX7_33 mX4_keyword (by decide) rfl rfl rfl (c_X4_keyword (c := (siH tk S N c)) hK hT_62 hc_62 (fun h_71 hl_71 => ?_) (fun h_71 => ?_) d) rfl rfl (by omega) (by decide) (Nat.le_of_ble_eq_true rfl)
    · show AW _ _ _ _ _ _ _
      refine n_bipush 10 rfl dX7_readSitter_74 ?_
      refine n_icmp_ne 92 (by omega) (by omega) dX7_readSitter_76 (by decide) (fun h_76 => ?_) (fun h_76 => ?_)
      · refine a_aload_n rfl dX7_readSitter_92 ?_
        refine n_callV (mi' := miX4_areGood) dX7_readSitter_93 lX7_83 mX4_areGood (by decide) rfl rfl rfl (c_X4_areGood (c := (siH tk S N c)) hK hT_62 hc_62 (fun h_93 => ?_) (fun h_93 => ?_) d) rfl rfl (by omega) (by decide) (Nat.le_of_ble_eq_true rfl)
        · show AW _ _ _ _ _ _ _
          have hk : ¬ isK tk (siH tk S N c) 10 = true := fun q => h_76 (isK_i.mp q).2
          have e1 : opN tk 10 1 9 (siH tk S N c) = (siH tk S N c) := if_neg hk
          have e2 : opV tk 10 1 (siH tk S N c) = 1 := if_neg hk
          have zH : (siH tk S N c).2.1 = 0 := h_93
          have z7 := ref_0 (sp_0 (show (spC tk (refC tk (nmM tk S N (siG tk S N c)) (siG tk S N c))).2.1 = 0 from zH))
          have z6 := kwd_0 (show (kwdC tk 9 (siF tk S N c)).2.1 = 0 from z7.1)
          have z5 := num_0 (show (numC tk 1 99 (siE tk S N c)).2.1 = 0 from z6.1)
          have z4 := kwd_0 (show (kwdC tk 8 (siD tk S N c)).2.1 = 0 from z5.1)
          have z3 := num_0 (show (numC tk 0 59 (siC tk S N c)).2.1 = 0 from z4.1)
          have z2 := kwd_0 (show (kwdC tk 7 (siB tk S N c)).2.1 = 0 from z3.1)
          have z1 := new_0 (show (newC tk S N (siA tk S c)).2.1 = 0 from z2.1)
          have z0 := bg_0 (by decide) (show (bgC tk (decide (7 ≤ S 0 4)) 6 c).2.1 = 0 from z1.1)
          have hm6 : S 0 4 < 7 := Nat.not_le.mp (of_decide_eq_false z0.2.1)
          have e20 := hv_20 z2.1
          have e34 := hv_34 z4.1
          have e49 := hv_49 z6.1
          obtain ⟨k1, hk1, ek1⟩ := hv_62 zH
          have hX : (nmM tk S N (siG tk S N c)).getD 0 = k1 := nmM_some hk1
          subst e20
          subst e34
          subst e49
          subst ek1
          refine n_if_eq 112 (by decide) dX7_readSitter_96 (by decide) (fun h => absurd h (by decide)) (fun _ => ?_)
          refine a_aload_n rfl dX7_readSitter_99 ?_
          refine a_lload_n rfl dX7_readSitter_100 ?_
          refine a_iload rfl dX7_readSitter_101 ?_
          refine a_iload rfl dX7_readSitter_103 ?_
          refine a_iload rfl dX7_readSitter_105 ?_
          refine a_iload rfl dX7_readSitter_107 ?_
          refine n_callV (mi' := miX6_addSitter) dX7_readSitter_109 lX7_111 mX6_addSitter (by decide) rfl rfl rfl (c_X6_addSitter isW37 hV_62 hF hm6 (fun hV_109 => ?_) d) rfl rfl (by omega) (by decide) (Nat.le_of_ble_eq_true rfl)
          show AW _ _ _ _ _ _ _
          refine a_vret dX7_readSitter_112 rfl ?_
          have hf2 : fr (fun k j => 37 ≤ k ∧ k < 50) M_62 (siM (siM (siM (siM (siM (slM M_62 (37 + 6) (S 0 4) (lN (cd tk (siA tk S c)))) (37 + 7) (S 0 4) (nI (cd tk (siC tk S N c)))) (37 + 8) (S 0 4) (nI (cd tk (siE tk S N c)))) (37 + 9) (S 0 4) (nI k1)) (37 + 10) (S 0 4) (nI (1))) 37 4 (nI (S 0 4 + 1))) := (((((fr.r.sl (by omega)).si (by omega)).si (by omega)).si (by omega)).si (by omega)).si (by omega)
          refine hQ _ (by show CU _ n (opN tk 10 1 9 (siH tk S N c)); rw [e1]; exact CU_fr hc_62 hf2 (fun j _ _ => by omega)) (fun z => ?_) (((((((((hf_15.t hf_20).t hf_27).t hf_34).t hf_42).t hf_49).t hf_57).t hf_62).mo (fun _ _ h => cu_rv h)).t (hf2.mo (fun k j h => Or.inr h)))
          show VX 37 _ (addSN S (cd tk (siC tk S N c)) (cd tk (siE tk S N c)) ((nmM tk S N (siG tk S N c)).getD 0) (opV tk 10 1 (siH tk S N c))) ∧ VN 37 _ (addSN S (cd tk (siC tk S N c)) (cd tk (siE tk S N c)) ((nmM tk S N (siG tk S N c)).getD 0) (opV tk 10 1 (siH tk S N c))) (upN N 1 (S 0 4) (lN (cd tk (siA tk S c))))
          rw [e2, hX]
          exact ⟨hV_109, VN_ads hN_62 (fun k j h => slN rfl (by omega)) slS⟩
        · show AW _ _ _ _ _ _ _
          have hk : ¬ isK tk (siH tk S N c) 10 = true := fun q => h_76 (isK_i.mp q).2
          have e1 : opN tk 10 1 9 (siH tk S N c) = (siH tk S N c) := if_neg hk
          have e2 : opV tk 10 1 (siH tk S N c) = 1 := if_neg hk
          refine n_if_eq 112 (by decide) dX7_readSitter_96 (by decide) (fun _ => ?_) (fun h => absurd h (by decide))
          refine a_vret dX7_readSitter_112 rfl ?_
          exact hQ _ (by show CU _ n (opN tk 10 1 9 (siH tk S N c)); rw [e1]; exact hc_62) (fun z => absurd (show (opN tk 10 1 9 (siH tk S N c)).2.1 = 0 from z) (by rw [e1]; exact h_93)) ((((((((hf_15.t hf_20).t hf_27).t hf_34).t hf_42).t hf_49).t hf_57).t hf_62).mo (fun _ _ h => cu_rv h))
      · refine a_aload_n rfl dX7_readSitter_79 ?_
        refine n_callV (mi' := miX4_step) dX7_readSitter_80 lX7_56 mX4_step (by decide) rfl rfl rfl (c_X4_step (c := (siH tk S N c)) hK hT_62 hc_62 (fun M_80 hc_80 hf_80 => ?_) d) rfl rfl (by omega) (by decide) (Nat.le_of_ble_eq_true rfl)
        show AW _ _ _ _ _ _ _
        have hT_80 := TX_fr hT_62 hf_80 (fun k j h => by unfold cuP; omega)
        have hV_80 := VX_cu isW37 hV_62 hf_80
        have hN_80 := VN_cu isW37 hN_62 hf_80
        refine a_aload_n rfl dX7_readSitter_83 ?_
        refine n_iconst 1 rfl dX7_readSitter_84 ?_
        refine n_bipush 9 rfl dX7_readSitter_85 ?_
        refine n_callV (mi' := miX4_takeNumber) dX7_readSitter_87 lX7_59 mX4_takeNumber (by decide) rfl rfl rfl (c_X4_takeNumber (c := (spC tk (siH tk S N c))) hK hT_80 hc_80 (by omega) (by omega) (fun M_87 v_87 hc_87 hv_87 hf_87 => ?_) d) rfl rfl (by omega) (by decide) (Nat.le_of_ble_eq_true rfl)
        show AW _ _ _ _ _ _ _
        have hT_87 := TX_fr hT_80 hf_87 (fun k j h => by unfold cuP; omega)
        have hV_87 := VX_cu isW37 hV_80 hf_87
        have hN_87 := VN_cu isW37 hN_80 hf_87
        refine a_istore (by decide) rfl dX7_readSitter_90 ?_
        refine a_aload_n rfl dX7_readSitter_92 ?_
        refine n_callV (mi' := miX4_areGood) dX7_readSitter_93 lX7_83 mX4_areGood (by decide) rfl rfl rfl (c_X4_areGood (c := (numC tk 1 9 (spC tk (siH tk S N c)))) hK hT_87 hc_87 (fun h_93 => ?_) (fun h_93 => ?_) d) rfl rfl (by omega) (by decide) (Nat.le_of_ble_eq_true rfl)
        · show AW _ _ _ _ _ _ _
          have hk : isK tk (siH tk S N c) 10 = true := isK_i.mpr ⟨h_71, by omega⟩
          have e1 : opN tk 10 1 9 (siH tk S N c) = numC tk 1 9 (spC tk (siH tk S N c)) := if_pos hk
          have e2 : opV tk 10 1 (siH tk S N c) = cd tk (spC tk (siH tk S N c)) := if_pos hk
          have zH : (siH tk S N c).2.1 = 0 := sp_0 (num_0 h_93).1
          have z7 := ref_0 (sp_0 (show (spC tk (refC tk (nmM tk S N (siG tk S N c)) (siG tk S N c))).2.1 = 0 from zH))
          have z6 := kwd_0 (show (kwdC tk 9 (siF tk S N c)).2.1 = 0 from z7.1)
          have z5 := num_0 (show (numC tk 1 99 (siE tk S N c)).2.1 = 0 from z6.1)
          have z4 := kwd_0 (show (kwdC tk 8 (siD tk S N c)).2.1 = 0 from z5.1)
          have z3 := num_0 (show (numC tk 0 59 (siC tk S N c)).2.1 = 0 from z4.1)
          have z2 := kwd_0 (show (kwdC tk 7 (siB tk S N c)).2.1 = 0 from z3.1)
          have z1 := new_0 (show (newC tk S N (siA tk S c)).2.1 = 0 from z2.1)
          have z0 := bg_0 (by decide) (show (bgC tk (decide (7 ≤ S 0 4)) 6 c).2.1 = 0 from z1.1)
          have hm6 : S 0 4 < 7 := Nat.not_le.mp (of_decide_eq_false z0.2.1)
          have e20 := hv_20 z2.1
          have e34 := hv_34 z4.1
          have e49 := hv_49 z6.1
          obtain ⟨k1, hk1, ek1⟩ := hv_62 zH
          have hX : (nmM tk S N (siG tk S N c)).getD 0 = k1 := nmM_some hk1
          have e87 := hv_87 h_93
          subst e20
          subst e34
          subst e49
          subst ek1
          subst e87
          refine n_if_eq 112 (by decide) dX7_readSitter_96 (by decide) (fun h => absurd h (by decide)) (fun _ => ?_)
          refine a_aload_n rfl dX7_readSitter_99 ?_
          refine a_lload_n rfl dX7_readSitter_100 ?_
          refine a_iload rfl dX7_readSitter_101 ?_
          refine a_iload rfl dX7_readSitter_103 ?_
          refine a_iload rfl dX7_readSitter_105 ?_
          refine a_iload rfl dX7_readSitter_107 ?_
          refine n_callV (mi' := miX6_addSitter) dX7_readSitter_109 lX7_111 mX6_addSitter (by decide) rfl rfl rfl (c_X6_addSitter isW37 hV_87 hF hm6 (fun hV_109 => ?_) d) rfl rfl (by omega) (by decide) (Nat.le_of_ble_eq_true rfl)
          show AW _ _ _ _ _ _ _
          refine a_vret dX7_readSitter_112 rfl ?_
          have hf2 : fr (fun k j => 37 ≤ k ∧ k < 50) M_87 (siM (siM (siM (siM (siM (slM M_87 (37 + 6) (S 0 4) (lN (cd tk (siA tk S c)))) (37 + 7) (S 0 4) (nI (cd tk (siC tk S N c)))) (37 + 8) (S 0 4) (nI (cd tk (siE tk S N c)))) (37 + 9) (S 0 4) (nI k1)) (37 + 10) (S 0 4) (nI (cd tk (spC tk (siH tk S N c))))) 37 4 (nI (S 0 4 + 1))) := (((((fr.r.sl (by omega)).si (by omega)).si (by omega)).si (by omega)).si (by omega)).si (by omega)
          refine hQ _ (by show CU _ n (opN tk 10 1 9 (siH tk S N c)); rw [e1]; exact CU_fr hc_87 hf2 (fun j _ _ => by omega)) (fun z => ?_) (((((((((((hf_15.t hf_20).t hf_27).t hf_34).t hf_42).t hf_49).t hf_57).t hf_62).t hf_80).t hf_87).mo (fun _ _ h => cu_rv h)).t (hf2.mo (fun k j h => Or.inr h)))
          show VX 37 _ (addSN S (cd tk (siC tk S N c)) (cd tk (siE tk S N c)) ((nmM tk S N (siG tk S N c)).getD 0) (opV tk 10 1 (siH tk S N c))) ∧ VN 37 _ (addSN S (cd tk (siC tk S N c)) (cd tk (siE tk S N c)) ((nmM tk S N (siG tk S N c)).getD 0) (opV tk 10 1 (siH tk S N c))) (upN N 1 (S 0 4) (lN (cd tk (siA tk S c))))
          rw [e2, hX]
          exact ⟨hV_109, VN_ads hN_87 (fun k j h => slN rfl (by omega)) slS⟩
        · show AW _ _ _ _ _ _ _
          have hk : isK tk (siH tk S N c) 10 = true := isK_i.mpr ⟨h_71, by omega⟩
          have e1 : opN tk 10 1 9 (siH tk S N c) = numC tk 1 9 (spC tk (siH tk S N c)) := if_pos hk
          have e2 : opV tk 10 1 (siH tk S N c) = cd tk (spC tk (siH tk S N c)) := if_pos hk
          refine n_if_eq 112 (by decide) dX7_readSitter_96 (by decide) (fun _ => ?_) (fun h => absurd h (by decide))
          refine a_vret dX7_readSitter_112 rfl ?_
          exact hQ _ (by show CU _ n (opN tk 10 1 9 (siH tk S N c)); rw [e1]; exact hc_87) (fun z => absurd (show (opN tk 10 1 9 (siH tk S N c)).2.1 = 0 from z) (by rw [e1]; exact h_93)) ((((((((((hf_15.t hf_20).t hf_27).t hf_34).t hf_42).t hf_49).t hf_57).t hf_62).t hf_80).t hf_87).mo (fun _ _ h => cu_rv h))
    · show AW _ _ _ _ _ _ _
      refine n_bipush 10 rfl dX7_readSitter_74 ?_
      refine r_icmp_ne 92 (by omega) dX7_readSitter_76 (by decide) (fun h_76 => ?_) (fun h_76 => absurd h_76 (by rw [show (-1 : Int32).toInt = -1 from by decide]; omega))
      refine a_aload_n rfl dX7_readSitter_92 ?_
      refine n_callV (mi' := miX4_areGood) dX7_readSitter_93 lX7_83 mX4_areGood (by decide) rfl rfl rfl (c_X4_areGood (c := (siH tk S N c)) hK hT_62 hc_62 (fun h_93 => ?_) (fun h_93 => ?_) d) rfl rfl (by omega) (by decide) (Nat.le_of_ble_eq_true rfl)
      · show AW _ _ _ _ _ _ _
        have hk : ¬ isK tk (siH tk S N c) 10 = true := fun q => h_71 (isK_i.mp q).1
        have e1 : opN tk 10 1 9 (siH tk S N c) = (siH tk S N c) := if_neg hk
        have e2 : opV tk 10 1 (siH tk S N c) = 1 := if_neg hk
        have zH : (siH tk S N c).2.1 = 0 := h_93
        have z7 := ref_0 (sp_0 (show (spC tk (refC tk (nmM tk S N (siG tk S N c)) (siG tk S N c))).2.1 = 0 from zH))
        have z6 := kwd_0 (show (kwdC tk 9 (siF tk S N c)).2.1 = 0 from z7.1)
        have z5 := num_0 (show (numC tk 1 99 (siE tk S N c)).2.1 = 0 from z6.1)
        have z4 := kwd_0 (show (kwdC tk 8 (siD tk S N c)).2.1 = 0 from z5.1)
        have z3 := num_0 (show (numC tk 0 59 (siC tk S N c)).2.1 = 0 from z4.1)
        have z2 := kwd_0 (show (kwdC tk 7 (siB tk S N c)).2.1 = 0 from z3.1)
        have z1 := new_0 (show (newC tk S N (siA tk S c)).2.1 = 0 from z2.1)
        have z0 := bg_0 (by decide) (show (bgC tk (decide (7 ≤ S 0 4)) 6 c).2.1 = 0 from z1.1)
        have hm6 : S 0 4 < 7 := Nat.not_le.mp (of_decide_eq_false z0.2.1)
        have e20 := hv_20 z2.1
        have e34 := hv_34 z4.1
        have e49 := hv_49 z6.1
        obtain ⟨k1, hk1, ek1⟩ := hv_62 zH
        have hX : (nmM tk S N (siG tk S N c)).getD 0 = k1 := nmM_some hk1
        subst e20
        subst e34
        subst e49
        subst ek1
        refine n_if_eq 112 (by decide) dX7_readSitter_96 (by decide) (fun h => absurd h (by decide)) (fun _ => ?_)
        refine a_aload_n rfl dX7_readSitter_99 ?_
        refine a_lload_n rfl dX7_readSitter_100 ?_
        refine a_iload rfl dX7_readSitter_101 ?_
        refine a_iload rfl dX7_readSitter_103 ?_
        refine a_iload rfl dX7_readSitter_105 ?_
        refine a_iload rfl dX7_readSitter_107 ?_
        refine n_callV (mi' := miX6_addSitter) dX7_readSitter_109 lX7_111 mX6_addSitter (by decide) rfl rfl rfl (c_X6_addSitter isW37 hV_62 hF hm6 (fun hV_109 => ?_) d) rfl rfl (by omega) (by decide) (Nat.le_of_ble_eq_true rfl)
        show AW _ _ _ _ _ _ _
        refine a_vret dX7_readSitter_112 rfl ?_
        have hf2 : fr (fun k j => 37 ≤ k ∧ k < 50) M_62 (siM (siM (siM (siM (siM (slM M_62 (37 + 6) (S 0 4) (lN (cd tk (siA tk S c)))) (37 + 7) (S 0 4) (nI (cd tk (siC tk S N c)))) (37 + 8) (S 0 4) (nI (cd tk (siE tk S N c)))) (37 + 9) (S 0 4) (nI k1)) (37 + 10) (S 0 4) (nI (1))) 37 4 (nI (S 0 4 + 1))) := (((((fr.r.sl (by omega)).si (by omega)).si (by omega)).si (by omega)).si (by omega)).si (by omega)
        refine hQ _ (by show CU _ n (opN tk 10 1 9 (siH tk S N c)); rw [e1]; exact CU_fr hc_62 hf2 (fun j _ _ => by omega)) (fun z => ?_) (((((((((hf_15.t hf_20).t hf_27).t hf_34).t hf_42).t hf_49).t hf_57).t hf_62).mo (fun _ _ h => cu_rv h)).t (hf2.mo (fun k j h => Or.inr h)))
        show VX 37 _ (addSN S (cd tk (siC tk S N c)) (cd tk (siE tk S N c)) ((nmM tk S N (siG tk S N c)).getD 0) (opV tk 10 1 (siH tk S N c))) ∧ VN 37 _ (addSN S (cd tk (siC tk S N c)) (cd tk (siE tk S N c)) ((nmM tk S N (siG tk S N c)).getD 0) (opV tk 10 1 (siH tk S N c))) (upN N 1 (S 0 4) (lN (cd tk (siA tk S c))))
        rw [e2, hX]
        exact ⟨hV_109, VN_ads hN_62 (fun k j h => slN rfl (by omega)) slS⟩
      · show AW _ _ _ _ _ _ _
        have hk : ¬ isK tk (siH tk S N c) 10 = true := fun q => h_71 (isK_i.mp q).1
        have e1 : opN tk 10 1 9 (siH tk S N c) = (siH tk S N c) := if_neg hk
        have e2 : opV tk 10 1 (siH tk S N c) = 1 := if_neg hk
        refine n_if_eq 112 (by decide) dX7_readSitter_96 (by decide) (fun _ => ?_) (fun h => absurd h (by decide))
        refine a_vret dX7_readSitter_112 rfl ?_
        exact hQ _ (by show CU _ n (opN tk 10 1 9 (siH tk S N c)); rw [e1]; exact hc_62) (fun z => absurd (show (opN tk 10 1 9 (siH tk S N c)).2.1 = 0 from z) (by rw [e1]; exact h_93)) ((((((((hf_15.t hf_20).t hf_27).t hf_34).t hf_42).t hf_49).t hf_57).t hf_62).mo (fun _ _ h => cu_rv h))

set_option maxRecDepth 100000 in
set_option maxHeartbeats 800000 in
theorem c_X7_readNews {M : Mm} {tk : Nat → TK} {n : Nat} {c : CC} (hK : TKG tk) (hT : TX M tk n) (hC : CU M n c) {S : ST} {N : NM} (hV : VX 37 M S) (hF : WF S) (hN : VN 37 M S N) {Q : Option Value → Mm → Prop} (hQ : ∀ M', CU M' n (ptN tk S N c).1 → ((ptN tk S N c).1.2.1 = 0 → VX 37 M' (ptN tk S N c).2.1 ∧ VN 37 M' (ptN tk S N c).2.1 (ptN tk S N c).2.2) → fr rvP M M' → Q none M') (d : Nat) : AMt miX7_readNews (d + 5) [.ref 37, .ref 10] M Q := by
  refine AMt.of (by decide) (Nat.le_of_ble_eq_true rfl) ?_
  show AW miX7_readNews (d + 5) (mxA Q) 0 [(0, some (.ref 37)), (1, some (.ref 10))] [] M
  have hc1 := hC.1
  have hn1 := hT.2.1
  have hn9 := hT.2.2.1
  have hf7 := hC.2.2.2.2
  have hkd : kd tk c ≤ 6 := (hK c.1).1
  have hst := (hK c.1).2.1
  have htx := tx_kd hT hC
  have hm := WF_m hF
  have hh := WF_h hF
  have hs := WF_s hF
  have hn := WF_n hF
  refine a_aload_n rfl dX7_readNews_0 ?_
  refine a_aload_n rfl dX7_readNews_1 ?_
  refine g_i (VX_5 hV) (by decide) rfl fX7_115 rfl dX7_readNews_2 ?_
  refine n_bipush 8 rfl dX7_readNews_5 ?_
  refine n_icmp_lt 14 (by omega) (by omega) dX7_readNews_7 (by decide) (fun h_7 => ?_) (fun h_7 => ?_)
  · refine n_iconst 0 rfl dX7_readNews_14 ?_
    refine n_callS (mi' := miX7_begin) dX7_readNews_15 lX7_70 mX7_begin (c_X7_begin (c := c) (b := decide (8 ≤ S 0 5)) hK hT hC (by rw [decide_eq_false (by omega)]; rfl) (fun M_15 hc_15 hf_15 => ?_) d) rfl rfl (by omega) (by decide) (Nat.le_of_ble_eq_true rfl)
    show AW _ _ _ _ _ _ _
    have hT_15 := TX_fr hT hf_15 (fun k j h => by unfold cuP; omega)
    have hV_15 := VX_cu isW37 hV hf_15
    have hN_15 := VN_cu isW37 hN hf_15
    refine a_aload_n rfl dX7_readNews_18 ?_
    refine a_aload_n rfl dX7_readNews_19 ?_
    refine n_callV (mi' := miX4_takeMatter) dX7_readNews_20 lX7_93 mX4_takeMatter (by decide) rfl rfl rfl (c_X4_takeMatter (c := (neA tk S c)) hK hT_15 hc_15 isW37 hV_15 hF hN_15 (fun M_20 v_20 hc_20 hv_20 hf_20 => ?_) d) rfl rfl (by omega) (by decide) (Nat.le_of_ble_eq_true rfl)
    show AW _ _ _ _ _ _ _
    have hT_20 := TX_fr hT_15 hf_20 (fun k j h => by unfold cuP; omega)
    have hV_20 := VX_cu isW37 hV_15 hf_20
    have hN_20 := VN_cu isW37 hN_15 hf_20
    refine a_istore_n (by decide) rfl dX7_readNews_23 ?_
    refine a_aload_n rfl dX7_readNews_24 ?_
    refine n_bipush 12 rfl dX7_readNews_25 ?_
    refine n_callV (mi' := miX4_takeKeyword) dX7_readNews_27 lX7_80 mX4_takeKeyword (by decide) rfl rfl rfl (c_X4_takeKeyword (c := (neB tk S N c)) hK hT_20 hc_20 (by omega) (fun M_27 hc_27 hf_27 => ?_) d) rfl rfl (by omega) (by decide) (Nat.le_of_ble_eq_true rfl)
    show AW _ _ _ _ _ _ _
    have hT_27 := TX_fr hT_20 hf_27 (fun k j h => by unfold cuP; omega)
    have hV_27 := VX_cu isW37 hV_20 hf_27
    have hN_27 := VN_cu isW37 hN_20 hf_27
    refine a_aload_n rfl dX7_readNews_30 ?_
    refine n_iconst 1 rfl dX7_readNews_31 ?_
    refine n_bipush 100 rfl dX7_readNews_32 ?_
    refine n_callV (mi' := miX4_takeNumber) dX7_readNews_34 lX7_59 mX4_takeNumber (by decide) rfl rfl rfl (c_X4_takeNumber (c := (neC tk S N c)) hK hT_27 hc_27 (by omega) (by omega) (fun M_34 v_34 hc_34 hv_34 hf_34 => ?_) d) rfl rfl (by omega) (by decide) (Nat.le_of_ble_eq_true rfl)
    show AW _ _ _ _ _ _ _
    have hT_34 := TX_fr hT_27 hf_34 (fun k j h => by unfold cuP; omega)
    have hV_34 := VX_cu isW37 hV_27 hf_34
    have hN_34 := VN_cu isW37 hN_27 hf_34
    refine a_istore_n (by decide) rfl dX7_readNews_37 ?_
    refine a_aload_n rfl dX7_readNews_38 ?_
    refine n_callV (mi' := miX4_areGood) dX7_readNews_39 lX7_83 mX4_areGood (by decide) rfl rfl rfl (c_X4_areGood (c := (numC tk 1 100 (neC tk S N c))) hK hT_34 hc_34 (fun h_39 => ?_) (fun h_39 => ?_) d) rfl rfl (by omega) (by decide) (Nat.le_of_ble_eq_true rfl)
    · show AW _ _ _ _ _ _ _
      have z3 := num_0 h_39
      have z2 := kwd_0 (show (kwdC tk 12 (neB tk S N c)).2.1 = 0 from z3.1)
      have z1 := ref_0 (sp_0 (show (spC tk (refC tk (nmM tk S N (neA tk S c)) (neA tk S c))).2.1 = 0 from z2.1))
      have z0 := bg_0 (by decide) (show (bgC tk (decide (8 ≤ S 0 5)) 6 c).2.1 = 0 from z1.1)
      have hm6 : S 0 5 < 8 := Nat.not_le.mp (of_decide_eq_false z0.2.1)
      have e34 := hv_34 h_39
      obtain ⟨k1, hk1, ek1⟩ := hv_20 z2.1
      have hX : (nmM tk S N (neA tk S c)).getD 0 = k1 := nmM_some hk1
      subst e34
      subst ek1
      refine n_if_eq 51 (by decide) dX7_readNews_42 (by decide) (fun h => absurd h (by decide)) (fun _ => ?_)
      refine a_aload_n rfl dX7_readNews_45 ?_
      refine a_iload_n rfl dX7_readNews_46 ?_
      refine a_iload_n rfl dX7_readNews_47 ?_
      refine n_callV (mi' := miX6_addNews) dX7_readNews_48 lX7_118 mX6_addNews (by decide) rfl rfl rfl (c_X6_addNews isW37 hV_34 hF hm6 (fun hV_48 => ?_) d) rfl rfl (by omega) (by decide) (Nat.le_of_ble_eq_true rfl)
      show AW _ _ _ _ _ _ _
      refine a_vret dX7_readNews_51 rfl ?_
      have hf2 : fr (fun k j => 37 ≤ k ∧ k < 50) M_34 (siM (siM (siM M_34 (37 + 11) (S 0 5) (nI k1)) (37 + 12) (S 0 5) (nI (cd tk (neC tk S N c)))) 37 5 (nI (S 0 5 + 1))) := ((fr.r.si (by omega)).si (by omega)).si (by omega)
      refine hQ _ (CU_fr hc_34 hf2 (fun j _ _ => by omega)) (fun z => ?_) (((((hf_15.t hf_20).t hf_27).t hf_34).mo (fun _ _ h => cu_rv h)).t (hf2.mo (fun k j h => Or.inr h)))
      show VX 37 _ (addNN S ((nmM tk S N (neA tk S c)).getD 0) (cd tk (neC tk S N c))) ∧ VN 37 _ (addNN S ((nmM tk S N (neA tk S c)).getD 0) (cd tk (neC tk S N c))) N
      rw [hX]
      exact ⟨hV_48, hN_34⟩
    · show AW _ _ _ _ _ _ _
      refine n_if_eq 51 (by decide) dX7_readNews_42 (by decide) (fun _ => ?_) (fun h => absurd h (by decide))
      refine a_vret dX7_readNews_51 rfl ?_
      exact hQ _ hc_34 (fun z => absurd (show (numC tk 1 100 (neC tk S N c)).2.1 = 0 from z) h_39) ((((hf_15.t hf_20).t hf_27).t hf_34).mo (fun _ _ h => cu_rv h))
  · refine n_iconst 1 rfl dX7_readNews_10 ?_
    refine a_goto 15 dX7_readNews_11 (by decide) ?_
    refine n_callS (mi' := miX7_begin) dX7_readNews_15 lX7_70 mX7_begin (c_X7_begin (c := c) (b := decide (8 ≤ S 0 5)) hK hT hC (by rw [decide_eq_true (by omega)]; rfl) (fun M_15 hc_15 hf_15 => ?_) d) rfl rfl (by omega) (by decide) (Nat.le_of_ble_eq_true rfl)
    show AW _ _ _ _ _ _ _
    have hT_15 := TX_fr hT hf_15 (fun k j h => by unfold cuP; omega)
    have hV_15 := VX_cu isW37 hV hf_15
    have hN_15 := VN_cu isW37 hN hf_15
    refine a_aload_n rfl dX7_readNews_18 ?_
    refine a_aload_n rfl dX7_readNews_19 ?_
    refine n_callV (mi' := miX4_takeMatter) dX7_readNews_20 lX7_93 mX4_takeMatter (by decide) rfl rfl rfl (c_X4_takeMatter (c := (neA tk S c)) hK hT_15 hc_15 isW37 hV_15 hF hN_15 (fun M_20 v_20 hc_20 hv_20 hf_20 => ?_) d) rfl rfl (by omega) (by decide) (Nat.le_of_ble_eq_true rfl)
    show AW _ _ _ _ _ _ _
    have hT_20 := TX_fr hT_15 hf_20 (fun k j h => by unfold cuP; omega)
    have hV_20 := VX_cu isW37 hV_15 hf_20
    have hN_20 := VN_cu isW37 hN_15 hf_20
    refine a_istore_n (by decide) rfl dX7_readNews_23 ?_
    refine a_aload_n rfl dX7_readNews_24 ?_
    refine n_bipush 12 rfl dX7_readNews_25 ?_
    refine n_callV (mi' := miX4_takeKeyword) dX7_readNews_27 lX7_80 mX4_takeKeyword (by decide) rfl rfl rfl (c_X4_takeKeyword (c := (neB tk S N c)) hK hT_20 hc_20 (by omega) (fun M_27 hc_27 hf_27 => ?_) d) rfl rfl (by omega) (by decide) (Nat.le_of_ble_eq_true rfl)
    show AW _ _ _ _ _ _ _
    have hT_27 := TX_fr hT_20 hf_27 (fun k j h => by unfold cuP; omega)
    have hV_27 := VX_cu isW37 hV_20 hf_27
    have hN_27 := VN_cu isW37 hN_20 hf_27
    refine a_aload_n rfl dX7_readNews_30 ?_
    refine n_iconst 1 rfl dX7_readNews_31 ?_
    refine n_bipush 100 rfl dX7_readNews_32 ?_
    refine n_callV (mi' := miX4_takeNumber) dX7_readNews_34 lX7_59 mX4_takeNumber (by decide) rfl rfl rfl (c_X4_takeNumber (c := (neC tk S N c)) hK hT_27 hc_27 (by omega) (by omega) (fun M_34 v_34 hc_34 hv_34 hf_34 => ?_) d) rfl rfl (by omega) (by decide) (Nat.le_of_ble_eq_true rfl)
    show AW _ _ _ _ _ _ _
    have hT_34 := TX_fr hT_27 hf_34 (fun k j h => by unfold cuP; omega)
    have hV_34 := VX_cu isW37 hV_27 hf_34
    have hN_34 := VN_cu isW37 hN_27 hf_34
    refine a_istore_n (by decide) rfl dX7_readNews_37 ?_
    refine a_aload_n rfl dX7_readNews_38 ?_
    refine n_callV (mi' := miX4_areGood) dX7_readNews_39 lX7_83 mX4_areGood (by decide) rfl rfl rfl (c_X4_areGood (c := (numC tk 1 100 (neC tk S N c))) hK hT_34 hc_34 (fun h_39 => ?_) (fun h_39 => ?_) d) rfl rfl (by omega) (by decide) (Nat.le_of_ble_eq_true rfl)
    · show AW _ _ _ _ _ _ _
      have z3 := num_0 h_39
      have z2 := kwd_0 (show (kwdC tk 12 (neB tk S N c)).2.1 = 0 from z3.1)
      have z1 := ref_0 (sp_0 (show (spC tk (refC tk (nmM tk S N (neA tk S c)) (neA tk S c))).2.1 = 0 from z2.1))
      have z0 := bg_0 (by decide) (show (bgC tk (decide (8 ≤ S 0 5)) 6 c).2.1 = 0 from z1.1)
      have hm6 : S 0 5 < 8 := Nat.not_le.mp (of_decide_eq_false z0.2.1)
      have e34 := hv_34 h_39
      obtain ⟨k1, hk1, ek1⟩ := hv_20 z2.1
      have hX : (nmM tk S N (neA tk S c)).getD 0 = k1 := nmM_some hk1
      subst e34
      subst ek1
      refine n_if_eq 51 (by decide) dX7_readNews_42 (by decide) (fun h => absurd h (by decide)) (fun _ => ?_)
      refine a_aload_n rfl dX7_readNews_45 ?_
      refine a_iload_n rfl dX7_readNews_46 ?_
      refine a_iload_n rfl dX7_readNews_47 ?_
      refine n_callV (mi' := miX6_addNews) dX7_readNews_48 lX7_118 mX6_addNews (by decide) rfl rfl rfl (c_X6_addNews isW37 hV_34 hF hm6 (fun hV_48 => ?_) d) rfl rfl (by omega) (by decide) (Nat.le_of_ble_eq_true rfl)
      show AW _ _ _ _ _ _ _
      refine a_vret dX7_readNews_51 rfl ?_
      have hf2 : fr (fun k j => 37 ≤ k ∧ k < 50) M_34 (siM (siM (siM M_34 (37 + 11) (S 0 5) (nI k1)) (37 + 12) (S 0 5) (nI (cd tk (neC tk S N c)))) 37 5 (nI (S 0 5 + 1))) := ((fr.r.si (by omega)).si (by omega)).si (by omega)
      refine hQ _ (CU_fr hc_34 hf2 (fun j _ _ => by omega)) (fun z => ?_) (((((hf_15.t hf_20).t hf_27).t hf_34).mo (fun _ _ h => cu_rv h)).t (hf2.mo (fun k j h => Or.inr h)))
      show VX 37 _ (addNN S ((nmM tk S N (neA tk S c)).getD 0) (cd tk (neC tk S N c))) ∧ VN 37 _ (addNN S ((nmM tk S N (neA tk S c)).getD 0) (cd tk (neC tk S N c))) N
      rw [hX]
      exact ⟨hV_48, hN_34⟩
    · show AW _ _ _ _ _ _ _
      refine n_if_eq 51 (by decide) dX7_readNews_42 (by decide) (fun _ => ?_) (fun h => absurd h (by decide))
      refine a_vret dX7_readNews_51 rfl ?_
      exact hQ _ hc_34 (fun z => absurd (show (numC tk 1 100 (neC tk S N c)).2.1 = 0 from z) h_39) ((((hf_15.t hf_20).t hf_27).t hf_34).mo (fun _ _ h => cu_rv h))

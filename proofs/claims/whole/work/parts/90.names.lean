set_option maxRecDepth 100000 in
set_option maxHeartbeats 800000 in
theorem c_X4_takeNewName {M : Mm} {tk : Nat → TK} {n : Nat} {c : CC} (hK : TKG tk) (hT : TX M tk n) (hC : CU M n c) {w : Nat} (hw : isW w) {S : ST} {N : NM} (hV : VX w M S) (hF : WF S) (hN : VN w M S N) {Q : Option Value → Mm → Prop} (hQ : ∀ M' v, CU M' n (newC tk S N c) → ((newC tk S N c).2.1 = 0 → v = lN (cd tk c)) → fr cuP M M' → Q (some (.long v)) M') (d : Nat) : AMt miX4_takeNewName (d + 2) [.ref 10, .ref w] M Q := by
  refine AMt.of (by decide) (Nat.le_of_ble_eq_true rfl) ?_
  show AW miX4_takeNewName (d + 2) (mxA Q) 0 [(0, some (.ref 10)), (1, some (.ref w))] [] M
  have hc1 := hC.1
  have hn1 := hT.2.1
  have hn9 := hT.2.2.1
  have hf7 := hC.2.2.2.2
  have hkd : kd tk c ≤ 6 := (hK c.1).1
  have hst := (hK c.1).2.1
  have htx := tx_kd hT hC
  have hm := WF_m hF
  have hs := WF_s hF
  refine a_aload_n rfl dX4_takeNewName_0 ?_
  refine a_geta dX4_takeNewName_1 fX4_18 (by decide) rfl rfl ?_
  refine a_aload_n rfl dX4_takeNewName_4 ?_
  refine g_i hC.2.1 (by decide) rfl fX4_62 rfl dX4_takeNewName_5 ?_
  refine n_lald (by omega) (by decide) rfl (by decide) dX4_takeNewName_8 ?_
  generalize hx : M.2 13 c.1 = x
  have hxn : kd tk c = 2 → x = lN (cd tk c) := fun h => by rw [← hx]; exact (hT.2.2.2.2.2 _ hC.1).2.2 (Or.inr (Or.inl h))
  refine a_lstore_n (by decide) rfl dX4_takeNewName_9 ?_
  refine a_aload_n rfl dX4_takeNewName_10 ?_
  refine a_geta dX4_takeNewName_11 fX4_11 (by decide) rfl rfl ?_
  refine a_aload_n rfl dX4_takeNewName_14 ?_
  refine g_i hC.2.1 (by decide) rfl fX4_62 rfl dX4_takeNewName_15 ?_
  refine v_iald (by omega) (show M.1 11 c.1 = nI (kd tk c) from (hT.2.2.2.2.2 _ hC.1).1) (by decide) rfl (by decide) dX4_takeNewName_18 ?_
  refine n_iconst 2 rfl dX4_takeNewName_19 ?_
  refine n_icmp_eq 31 (by omega) (by omega) dX4_takeNewName_20 (by decide) (fun h_20 => ?_) (fun h_20 => ?_)
  · refine a_aload_n rfl dX4_takeNewName_31 ?_
    refine a_lload_n rfl dX4_takeNewName_32 ?_
    refine n_callV (mi' := miX6_matterNamed) dX4_takeNewName_33 lX4_88 mX6_matterNamed (isW_lt hw (i := 0) (by decide)) (layW_0 hw) rfl rfl (c_X6_matterNamed hw hV hF hN (fun i_33 hi_33 he_33 hm_33 => ?_) (fun hn_33 => ?_) d) rfl rfl (by omega) (by decide) (Nat.le_of_ble_eq_true rfl)
    · show AW _ _ _ _ _ _ _
      refine a_iconst (-1) rfl dX4_takeNewName_36 ?_
      refine s_icmp_ne 49 (by omega) dX4_takeNewName_37 (by decide) (fun h_37 => ?_) (fun h_37 => absurd h_37 (by rw [show (-1 : Int32).toInt = -1 from by decide]; omega))
      refine a_aload_n rfl dX4_takeNewName_49 ?_
      refine n_iconst 3 rfl dX4_takeNewName_50 ?_
      refine n_callV (mi' := miX4_fail) dX4_takeNewName_51 lX4_79 mX4_fail (by decide) rfl rfl rfl (c_X4_fail hK hT hC (by omega) (fun M_51 hc_51 hf_51 => ?_) d) rfl rfl (by omega) (by decide) (Nat.le_of_ble_eq_true rfl)
      show AW _ _ _ _ _ _ _
      have hT_51 := TX_fr hT hf_51 (fun k j h => by unfold cuP; omega)
      refine a_aload_n rfl dX4_takeNewName_54 ?_
      refine n_callV (mi' := miX4_step) dX4_takeNewName_55 lX4_83 mX4_step (by decide) rfl rfl rfl (c_X4_step hK hT_51 hc_51 (fun M_55 hc_55 hf_55 => ?_) d) rfl rfl (by omega) (by decide) (Nat.le_of_ble_eq_true rfl)
      show AW _ _ _ _ _ _ _
      have hT_55 := TX_fr hT_51 hf_55 (fun k j h => by unfold cuP; omega)
      refine a_lload_n rfl dX4_takeNewName_58 ?_
      refine a_lret dX4_takeNewName_59 rfl ?_
      rw [show newC tk S N c = spC tk (flC tk 3 c) from congrArg (spC tk) ((if_pos h_20).trans (if_neg (fun q => by have e := (show nmM tk S N c = some i_33 from nmI_s hi_33 (he_33.trans (hxn h_20)) (fun j hj => by have := hm_33 j hj; rw [hxn h_20] at this; exact this)); rw [e] at q; cases q.1)))] at hQ
      exact hQ _ _ hc_55 (fun _ => hxn h_20) (hf_51.t hf_55)
    · show AW _ _ _ _ _ _ _
      refine a_iconst (-1) rfl dX4_takeNewName_36 ?_
      refine u_icmp_ne 49 dX4_takeNewName_37 (by decide) (fun h_37 => absurd rfl h_37) (fun h_37 => ?_)
      refine a_aload_n rfl dX4_takeNewName_40 ?_
      refine a_lload_n rfl dX4_takeNewName_41 ?_
      refine n_callV (mi' := miX6_sitterNamed) dX4_takeNewName_42 lX4_93 mX6_sitterNamed (isW_lt hw (i := 0) (by decide)) (layW_0 hw) rfl rfl (c_X6_sitterNamed hw hV hF hN (fun i_42 hi_42 he_42 hm_42 => ?_) (fun hn_42 => ?_) d) rfl rfl (by omega) (by decide) (Nat.le_of_ble_eq_true rfl)
      · show AW _ _ _ _ _ _ _
        refine a_iconst (-1) rfl dX4_takeNewName_45 ?_
        refine s_icmp_eq 54 (by omega) dX4_takeNewName_46 (by decide) (fun h_46 => absurd h_46 (by rw [show (-1 : Int32).toInt = -1 from by decide]; omega)) (fun h_46 => ?_)
        refine a_aload_n rfl dX4_takeNewName_49 ?_
        refine n_iconst 3 rfl dX4_takeNewName_50 ?_
        refine n_callV (mi' := miX4_fail) dX4_takeNewName_51 lX4_79 mX4_fail (by decide) rfl rfl rfl (c_X4_fail hK hT hC (by omega) (fun M_51 hc_51 hf_51 => ?_) d) rfl rfl (by omega) (by decide) (Nat.le_of_ble_eq_true rfl)
        show AW _ _ _ _ _ _ _
        have hT_51 := TX_fr hT hf_51 (fun k j h => by unfold cuP; omega)
        refine a_aload_n rfl dX4_takeNewName_54 ?_
        refine n_callV (mi' := miX4_step) dX4_takeNewName_55 lX4_83 mX4_step (by decide) rfl rfl rfl (c_X4_step hK hT_51 hc_51 (fun M_55 hc_55 hf_55 => ?_) d) rfl rfl (by omega) (by decide) (Nat.le_of_ble_eq_true rfl)
        show AW _ _ _ _ _ _ _
        have hT_55 := TX_fr hT_51 hf_55 (fun k j h => by unfold cuP; omega)
        refine a_lload_n rfl dX4_takeNewName_58 ?_
        refine a_lret dX4_takeNewName_59 rfl ?_
        rw [show newC tk S N c = spC tk (flC tk 3 c) from congrArg (spC tk) ((if_pos h_20).trans (if_neg (fun q => by have e := (show nmS tk S N c = some i_42 from nmI_s hi_42 (he_42.trans (hxn h_20)) (fun j hj => by have := hm_42 j hj; rw [hxn h_20] at this; exact this)); rw [e] at q; cases q.2)))] at hQ
        exact hQ _ _ hc_55 (fun _ => hxn h_20) (hf_51.t hf_55)
      · show AW _ _ _ _ _ _ _
        refine a_iconst (-1) rfl dX4_takeNewName_45 ?_
        refine u_icmp_eq 54 dX4_takeNewName_46 (by decide) (fun h_46 => ?_) (fun h_46 => absurd rfl h_46)
        refine a_aload_n rfl dX4_takeNewName_54 ?_
        refine n_callV (mi' := miX4_step) dX4_takeNewName_55 lX4_83 mX4_step (by decide) rfl rfl rfl (c_X4_step hK hT hC (fun M_55 hc_55 hf_55 => ?_) d) rfl rfl (by omega) (by decide) (Nat.le_of_ble_eq_true rfl)
        show AW _ _ _ _ _ _ _
        have hT_55 := TX_fr hT hf_55 (fun k j h => by unfold cuP; omega)
        refine a_lload_n rfl dX4_takeNewName_58 ?_
        refine a_lret dX4_takeNewName_59 rfl ?_
        rw [show newC tk S N c = spC tk (c) from congrArg (spC tk) ((if_pos h_20).trans (if_pos ⟨(show nmM tk S N c = none from nmI_n (fun j hj => by have := hn_33 j hj; rw [hxn h_20] at this; exact this)), (show nmS tk S N c = none from nmI_n (fun j hj => by have := hn_42 j hj; rw [hxn h_20] at this; exact this))⟩))] at hQ
        exact hQ _ _ hc_55 (fun _ => hxn h_20) hf_55
  · refine a_aload_n rfl dX4_takeNewName_23 ?_
    refine n_iconst 2 rfl dX4_takeNewName_24 ?_
    refine n_callV (mi' := miX4_fail) dX4_takeNewName_25 lX4_79 mX4_fail (by decide) rfl rfl rfl (c_X4_fail hK hT hC (by omega) (fun M_25 hc_25 hf_25 => ?_) d) rfl rfl (by omega) (by decide) (Nat.le_of_ble_eq_true rfl)
    show AW _ _ _ _ _ _ _
    have hT_25 := TX_fr hT hf_25 (fun k j h => by unfold cuP; omega)
    refine a_goto 54 dX4_takeNewName_28 (by decide) ?_
    refine a_aload_n rfl dX4_takeNewName_54 ?_
    refine n_callV (mi' := miX4_step) dX4_takeNewName_55 lX4_83 mX4_step (by decide) rfl rfl rfl (c_X4_step hK hT_25 hc_25 (fun M_55 hc_55 hf_55 => ?_) d) rfl rfl (by omega) (by decide) (Nat.le_of_ble_eq_true rfl)
    show AW _ _ _ _ _ _ _
    have hT_55 := TX_fr hT_25 hf_55 (fun k j h => by unfold cuP; omega)
    refine a_lload_n rfl dX4_takeNewName_58 ?_
    refine a_lret dX4_takeNewName_59 rfl ?_
    rw [show newC tk S N c = spC tk (flC tk 2 c) from congrArg (spC tk) (if_neg h_20)] at hQ
    exact hQ _ _ hc_55 (fun q => absurd (sp_f (tk := tk) (c := flC tk 2 c) ▸ q) (fl_z (by decide))) (hf_25.t hf_55)

set_option maxRecDepth 100000 in
set_option maxHeartbeats 800000 in
theorem c_X4_matterHere {M : Mm} {tk : Nat → TK} {n : Nat} {c : CC} (hK : TKG tk) (hT : TX M tk n) (hC : CU M n c) {w : Nat} (hw : isW w) {S : ST} {N : NM} (hV : VX w M S) (hF : WF S) (hN : VN w M S N) {Q : Option Value → Mm → Prop} (hQ : ∀ M' v, CU M' n (refC tk (nmM tk S N c) c) → ((refC tk (nmM tk S N c) c).2.1 = 0 → ∃ j, nmM tk S N c = some j ∧ v = nI j) → fr cuP M M' → Q (some (.int v)) M') (d : Nat) : AMt miX4_matterHere (d + 2) [.ref 10, .ref w] M Q := by
  refine AMt.of (by decide) (Nat.le_of_ble_eq_true rfl) ?_
  show AW miX4_matterHere (d + 2) (mxA Q) 0 [(0, some (.ref 10)), (1, some (.ref w))] [] M
  have hc1 := hC.1
  have hn1 := hT.2.1
  have hn9 := hT.2.2.1
  have hf7 := hC.2.2.2.2
  have hkd : kd tk c ≤ 6 := (hK c.1).1
  have hst := (hK c.1).2.1
  have htx := tx_kd hT hC
  have hm := WF_m hF
  have hs := WF_s hF
  refine a_aload_n rfl dX4_matterHere_0 ?_
  refine a_geta dX4_matterHere_1 fX4_11 (by decide) rfl rfl ?_
  refine a_aload_n rfl dX4_matterHere_4 ?_
  refine g_i hC.2.1 (by decide) rfl fX4_62 rfl dX4_matterHere_5 ?_
  refine v_iald (by omega) (show M.1 11 c.1 = nI (kd tk c) from (hT.2.2.2.2.2 _ hC.1).1) (by decide) rfl (by decide) dX4_matterHere_8 ?_
  refine n_iconst 2 rfl dX4_matterHere_9 ?_
  refine n_icmp_eq 20 (by omega) (by omega) dX4_matterHere_10 (by decide) (fun h_10 => ?_) (fun h_10 => ?_)
  · refine a_aload_n rfl dX4_matterHere_20 ?_
    refine a_aload_n rfl dX4_matterHere_21 ?_
    refine a_geta dX4_matterHere_22 fX4_18 (by decide) rfl rfl ?_
    refine a_aload_n rfl dX4_matterHere_25 ?_
    refine g_i hC.2.1 (by decide) rfl fX4_62 rfl dX4_matterHere_26 ?_
    refine n_lald (by omega) (by decide) rfl (by decide) dX4_matterHere_29 ?_
    generalize hx : M.2 13 c.1 = x
    have hxn : kd tk c = 2 → x = lN (cd tk c) := fun h => by rw [← hx]; exact (hT.2.2.2.2.2 _ hC.1).2.2 (Or.inr (Or.inl h))
    refine n_callV (mi' := miX6_matterNamed) dX4_matterHere_30 lX4_88 mX6_matterNamed (isW_lt hw (i := 0) (by decide)) (layW_0 hw) rfl rfl (c_X6_matterNamed hw hV hF hN (fun i_30 hi_30 he_30 hm_30 => ?_) (fun hn_30 => ?_) d) rfl rfl (by omega) (by decide) (Nat.le_of_ble_eq_true rfl)
    · show AW _ _ _ _ _ _ _
      refine a_istore_n (by decide) rfl dX4_matterHere_33 ?_
      refine a_iload_n rfl dX4_matterHere_34 ?_
      refine a_iconst (-1) rfl dX4_matterHere_35 ?_
      refine s_icmp_ne 44 (by omega) dX4_matterHere_36 (by decide) (fun h_36 => ?_) (fun h_36 => absurd h_36 (by rw [show (-1 : Int32).toInt = -1 from by decide]; omega))
      refine a_iload_n rfl dX4_matterHere_44 ?_
      refine a_iret dX4_matterHere_45 rfl ?_
      rw [show refC tk (nmM tk S N c) c = c from ((if_pos h_10).trans (if_neg (fun q => by have e := (show nmM tk S N c = some i_30 from nmI_s hi_30 (he_30.trans (hxn h_10)) (fun j hj => by have := hm_30 j hj; rw [hxn h_10] at this; exact this)); rw [e] at q; cases q)))] at hQ
      exact hQ _ _ hC (fun _ => ⟨_, (show nmM tk S N c = some i_30 from nmI_s hi_30 (he_30.trans (hxn h_10)) (fun j hj => by have := hm_30 j hj; rw [hxn h_10] at this; exact this)), rfl⟩) fr.r
    · show AW _ _ _ _ _ _ _
      refine a_istore_n (by decide) rfl dX4_matterHere_33 ?_
      refine a_iload_n rfl dX4_matterHere_34 ?_
      refine a_iconst (-1) rfl dX4_matterHere_35 ?_
      refine u_icmp_ne 44 dX4_matterHere_36 (by decide) (fun h_36 => absurd rfl h_36) (fun h_36 => ?_)
      refine a_aload_n rfl dX4_matterHere_39 ?_
      refine n_iconst 3 rfl dX4_matterHere_40 ?_
      refine n_callV (mi' := miX4_fail) dX4_matterHere_41 lX4_79 mX4_fail (by decide) rfl rfl rfl (c_X4_fail hK hT hC (by omega) (fun M_41 hc_41 hf_41 => ?_) d) rfl rfl (by omega) (by decide) (Nat.le_of_ble_eq_true rfl)
      show AW _ _ _ _ _ _ _
      have hT_41 := TX_fr hT hf_41 (fun k j h => by unfold cuP; omega)
      refine a_iload_n rfl dX4_matterHere_44 ?_
      refine a_iret dX4_matterHere_45 rfl ?_
      rw [show refC tk (nmM tk S N c) c = flC tk 3 c from ((if_pos h_10).trans (if_pos (show nmM tk S N c = none from nmI_n (fun j hj => by have := hn_30 j hj; rw [hxn h_10] at this; exact this))))] at hQ
      exact hQ _ _ hc_41 (fun q => absurd q (fl_z (by decide))) hf_41
  · refine a_aload_n rfl dX4_matterHere_13 ?_
    refine n_iconst 2 rfl dX4_matterHere_14 ?_
    refine n_callV (mi' := miX4_fail) dX4_matterHere_15 lX4_79 mX4_fail (by decide) rfl rfl rfl (c_X4_fail hK hT hC (by omega) (fun M_15 hc_15 hf_15 => ?_) d) rfl rfl (by omega) (by decide) (Nat.le_of_ble_eq_true rfl)
    show AW _ _ _ _ _ _ _
    have hT_15 := TX_fr hT hf_15 (fun k j h => by unfold cuP; omega)
    refine a_iconst (-1) rfl dX4_matterHere_18 ?_
    refine a_iret dX4_matterHere_19 rfl ?_
    rw [show refC tk (nmM tk S N c) c = flC tk 2 c from (if_neg h_10)] at hQ
    exact hQ _ _ hc_15 (fun q => absurd q (fl_z (by decide))) hf_15

set_option maxRecDepth 100000 in
set_option maxHeartbeats 800000 in
theorem c_X4_takeSitter {M : Mm} {tk : Nat → TK} {n : Nat} {c : CC} (hK : TKG tk) (hT : TX M tk n) (hC : CU M n c) {w : Nat} (hw : isW w) {S : ST} {N : NM} (hV : VX w M S) (hF : WF S) (hN : VN w M S N) {Q : Option Value → Mm → Prop} (hQ : ∀ M' v, CU M' n (spC tk (refC tk (nmS tk S N c) c)) → ((spC tk (refC tk (nmS tk S N c) c)).2.1 = 0 → ∃ j, nmS tk S N c = some j ∧ v = nI j) → fr cuP M M' → Q (some (.int v)) M') (d : Nat) : AMt miX4_takeSitter (d + 2) [.ref 10, .ref w] M Q := by
  refine AMt.of (by decide) (Nat.le_of_ble_eq_true rfl) ?_
  show AW miX4_takeSitter (d + 2) (mxA Q) 0 [(0, some (.ref 10)), (1, some (.ref w))] [] M
  have hc1 := hC.1
  have hn1 := hT.2.1
  have hn9 := hT.2.2.1
  have hf7 := hC.2.2.2.2
  have hkd : kd tk c ≤ 6 := (hK c.1).1
  have hst := (hK c.1).2.1
  have htx := tx_kd hT hC
  have hm := WF_m hF
  have hs := WF_s hF
  refine a_aload_n rfl dX4_takeSitter_0 ?_
  refine a_geta dX4_takeSitter_1 fX4_11 (by decide) rfl rfl ?_
  refine a_aload_n rfl dX4_takeSitter_4 ?_
  refine g_i hC.2.1 (by decide) rfl fX4_62 rfl dX4_takeSitter_5 ?_
  refine v_iald (by omega) (show M.1 11 c.1 = nI (kd tk c) from (hT.2.2.2.2.2 _ hC.1).1) (by decide) rfl (by decide) dX4_takeSitter_8 ?_
  refine n_iconst 2 rfl dX4_takeSitter_9 ?_
  refine n_icmp_eq 20 (by omega) (by omega) dX4_takeSitter_10 (by decide) (fun h_10 => ?_) (fun h_10 => ?_)
  · refine a_aload_n rfl dX4_takeSitter_20 ?_
    refine a_aload_n rfl dX4_takeSitter_21 ?_
    refine a_geta dX4_takeSitter_22 fX4_18 (by decide) rfl rfl ?_
    refine a_aload_n rfl dX4_takeSitter_25 ?_
    refine g_i hC.2.1 (by decide) rfl fX4_62 rfl dX4_takeSitter_26 ?_
    refine n_lald (by omega) (by decide) rfl (by decide) dX4_takeSitter_29 ?_
    generalize hx : M.2 13 c.1 = x
    have hxn : kd tk c = 2 → x = lN (cd tk c) := fun h => by rw [← hx]; exact (hT.2.2.2.2.2 _ hC.1).2.2 (Or.inr (Or.inl h))
    refine n_callV (mi' := miX6_sitterNamed) dX4_takeSitter_30 lX4_93 mX6_sitterNamed (isW_lt hw (i := 0) (by decide)) (layW_0 hw) rfl rfl (c_X6_sitterNamed hw hV hF hN (fun i_30 hi_30 he_30 hm_30 => ?_) (fun hn_30 => ?_) d) rfl rfl (by omega) (by decide) (Nat.le_of_ble_eq_true rfl)
    · show AW _ _ _ _ _ _ _
      refine a_istore_n (by decide) rfl dX4_takeSitter_33 ?_
      refine a_iload_n rfl dX4_takeSitter_34 ?_
      refine a_iconst (-1) rfl dX4_takeSitter_35 ?_
      refine s_icmp_ne 44 (by omega) dX4_takeSitter_36 (by decide) (fun h_36 => ?_) (fun h_36 => absurd h_36 (by rw [show (-1 : Int32).toInt = -1 from by decide]; omega))
      refine a_aload_n rfl dX4_takeSitter_44 ?_
      refine n_callV (mi' := miX4_step) dX4_takeSitter_45 lX4_83 mX4_step (by decide) rfl rfl rfl (c_X4_step hK hT hC (fun M_45 hc_45 hf_45 => ?_) d) rfl rfl (by omega) (by decide) (Nat.le_of_ble_eq_true rfl)
      show AW _ _ _ _ _ _ _
      have hT_45 := TX_fr hT hf_45 (fun k j h => by unfold cuP; omega)
      refine a_iload_n rfl dX4_takeSitter_48 ?_
      refine a_iret dX4_takeSitter_49 rfl ?_
      rw [show spC tk (refC tk (nmS tk S N c) c) = spC tk (c) from congrArg (spC tk) ((if_pos h_10).trans (if_neg (fun q => by have e := (show nmS tk S N c = some i_30 from nmI_s hi_30 (he_30.trans (hxn h_10)) (fun j hj => by have := hm_30 j hj; rw [hxn h_10] at this; exact this)); rw [e] at q; cases q)))] at hQ
      exact hQ _ _ hc_45 (fun _ => ⟨_, (show nmS tk S N c = some i_30 from nmI_s hi_30 (he_30.trans (hxn h_10)) (fun j hj => by have := hm_30 j hj; rw [hxn h_10] at this; exact this)), rfl⟩) hf_45
    · show AW _ _ _ _ _ _ _
      refine a_istore_n (by decide) rfl dX4_takeSitter_33 ?_
      refine a_iload_n rfl dX4_takeSitter_34 ?_
      refine a_iconst (-1) rfl dX4_takeSitter_35 ?_
      refine u_icmp_ne 44 dX4_takeSitter_36 (by decide) (fun h_36 => absurd rfl h_36) (fun h_36 => ?_)
      refine a_aload_n rfl dX4_takeSitter_39 ?_
      refine n_iconst 3 rfl dX4_takeSitter_40 ?_
      refine n_callV (mi' := miX4_fail) dX4_takeSitter_41 lX4_79 mX4_fail (by decide) rfl rfl rfl (c_X4_fail hK hT hC (by omega) (fun M_41 hc_41 hf_41 => ?_) d) rfl rfl (by omega) (by decide) (Nat.le_of_ble_eq_true rfl)
      show AW _ _ _ _ _ _ _
      have hT_41 := TX_fr hT hf_41 (fun k j h => by unfold cuP; omega)
      refine a_aload_n rfl dX4_takeSitter_44 ?_
      refine n_callV (mi' := miX4_step) dX4_takeSitter_45 lX4_83 mX4_step (by decide) rfl rfl rfl (c_X4_step hK hT_41 hc_41 (fun M_45 hc_45 hf_45 => ?_) d) rfl rfl (by omega) (by decide) (Nat.le_of_ble_eq_true rfl)
      show AW _ _ _ _ _ _ _
      have hT_45 := TX_fr hT_41 hf_45 (fun k j h => by unfold cuP; omega)
      refine a_iload_n rfl dX4_takeSitter_48 ?_
      refine a_iret dX4_takeSitter_49 rfl ?_
      rw [show spC tk (refC tk (nmS tk S N c) c) = spC tk (flC tk 3 c) from congrArg (spC tk) ((if_pos h_10).trans (if_pos (show nmS tk S N c = none from nmI_n (fun j hj => by have := hn_30 j hj; rw [hxn h_10] at this; exact this))))] at hQ
      exact hQ _ _ hc_45 (fun q => absurd (sp_f (tk := tk) (c := flC tk 3 c) ▸ q) (fl_z (by decide))) (hf_41.t hf_45)
  · refine a_aload_n rfl dX4_takeSitter_13 ?_
    refine n_iconst 2 rfl dX4_takeSitter_14 ?_
    refine n_callV (mi' := miX4_fail) dX4_takeSitter_15 lX4_79 mX4_fail (by decide) rfl rfl rfl (c_X4_fail hK hT hC (by omega) (fun M_15 hc_15 hf_15 => ?_) d) rfl rfl (by omega) (by decide) (Nat.le_of_ble_eq_true rfl)
    show AW _ _ _ _ _ _ _
    have hT_15 := TX_fr hT hf_15 (fun k j h => by unfold cuP; omega)
    refine a_iconst (-1) rfl dX4_takeSitter_18 ?_
    refine a_iret dX4_takeSitter_19 rfl ?_
    rw [show spC tk (refC tk (nmS tk S N c) c) = flC tk 2 c from (congrArg (spC tk) (if_neg h_10)).trans (sp_fl (by decide))] at hQ
    exact hQ _ _ hc_15 (fun q => absurd q (fl_z (by decide))) hf_15

set_option maxRecDepth 100000 in
set_option maxHeartbeats 800000 in
theorem c_X4_takeMatter {M : Mm} {tk : Nat → TK} {n : Nat} {c : CC} (hK : TKG tk) (hT : TX M tk n) (hC : CU M n c) {w : Nat} (hw : isW w) {S : ST} {N : NM} (hV : VX w M S) (hF : WF S) (hN : VN w M S N) {Q : Option Value → Mm → Prop} (hQ : ∀ M' v, CU M' n (spC tk (refC tk (nmM tk S N c) c)) → ((spC tk (refC tk (nmM tk S N c) c)).2.1 = 0 → ∃ j, nmM tk S N c = some j ∧ v = nI j) → fr cuP M M' → Q (some (.int v)) M') (d : Nat) : AMt miX4_takeMatter (d + 3) [.ref 10, .ref w] M Q := by
  refine AMt.of (by decide) (Nat.le_of_ble_eq_true rfl) ?_
  show AW miX4_takeMatter (d + 3) (mxA Q) 0 [(0, some (.ref 10)), (1, some (.ref w))] [] M
  have hc1 := hC.1
  have hn1 := hT.2.1
  have hn9 := hT.2.2.1
  have hf7 := hC.2.2.2.2
  have hkd : kd tk c ≤ 6 := (hK c.1).1
  have hst := (hK c.1).2.1
  have htx := tx_kd hT hC
  have hm := WF_m hF
  have hs := WF_s hF
  refine a_aload_n rfl dX4_takeMatter_0 ?_
  refine a_aload_n rfl dX4_takeMatter_1 ?_
  refine n_callV (mi' := miX4_matterHere) dX4_takeMatter_2 lX4_96 mX4_matterHere (by decide) rfl rfl rfl (c_X4_matterHere hK hT hC hw hV hF hN (fun M_2 v_2 hc_2 hv_2 hf_2 => ?_) d) rfl rfl (by omega) (by decide) (Nat.le_of_ble_eq_true rfl)
  show AW _ _ _ _ _ _ _
  have hT_2 := TX_fr hT hf_2 (fun k j h => by unfold cuP; omega)
  refine a_istore_n (by decide) rfl dX4_takeMatter_5 ?_
  refine a_aload_n rfl dX4_takeMatter_6 ?_
  refine n_callV (mi' := miX4_step) dX4_takeMatter_7 lX4_83 mX4_step (by decide) rfl rfl rfl (c_X4_step hK hT_2 hc_2 (fun M_7 hc_7 hf_7 => ?_) d) rfl rfl (by omega) (by decide) (Nat.le_of_ble_eq_true rfl)
  show AW _ _ _ _ _ _ _
  have hT_7 := TX_fr hT_2 hf_7 (fun k j h => by unfold cuP; omega)
  refine a_iload_n rfl dX4_takeMatter_10 ?_
  refine a_iret dX4_takeMatter_11 rfl ?_
  exact hQ _ _ hc_7 (fun q => hv_2 (sp_f (tk := tk) (c := refC tk (nmM tk S N c) c) ▸ q)) (hf_2.t hf_7)

theorem hg_i {M M' : Mm} (h : fr cuP M M') {v : Int32} (e : M.1 50 2 = v) : M'.1 50 2 = v := h.i e (by unfold cuP; omega)
theorem hg_i1 {M M' : Mm} (h : fr cuP M M') {v : Int32} (e : M.1 50 1 = v) : M'.1 50 1 = v := h.i e (by unfold cuP; omega)

set_option maxRecDepth 100000 in
set_option maxHeartbeats 800000 in
theorem c_X10_readTest {M : Mm} {tk : Nat → TK} {n : Nat} {c : CC} (hK : TKG tk) (hT : TX M tk n) (hC : CU M n c) {S : ST} {N : NM} (hV : VX 17 M S) (hF : WF S) (hN : VN 17 M S N) {L : Nat} {s : Nat → Nat → Nat} (hY : YX 50 M (1, L, s)) (hL : M.1 50 2 = nI L) (hl : L < 60) (hs60 : scN s L ≤ 60) {Q : Option Value → Mm → Prop} (hQ : ∀ M', CU M' n (yTc tk S N c) → ((yTc tk S N c).2.1 = 0 → YX 50 M' (1, L + 1, itA L s 18 (yWho tk S N 18 c) (yNum tk S N 18 c) (yTst tk 18 c) (yCmp tk S N 18 c))) → fr (fun k j => cuP k j ∨ (50 ≤ k ∧ k < 57)) M M' → Q none M') (d : Nat) : AMt miX10_readTest (d + 4) [.ref 50, .ref 10, .ref 17] M Q := by
  refine AMt.of (by decide) (Nat.le_of_ble_eq_true rfl) ?_
  show AW miX10_readTest (d + 4) (mxA Q) 0 [(0, some (.ref 50)), (1, some (.ref 10)), (2, some (.ref 17))] [] M
  have hc1 := hC.1
  have hn1 := hT.2.1
  have hn9 := hT.2.2.1
  have hf7 := hC.2.2.2.2
  have hkd : kd tk c ≤ 6 := (hK c.1).1
  have hst := (hK c.1).2.1
  have htx := tx_kd hT hC
  have hS1 : M.1 50 1 = nI (scN s L) := hY.2.1
  refine a_aload_n rfl dX10_readTest_0 ?_
  refine n_callV (mi' := miX4_keyword) dX10_readTest_1 lX10_34 mX4_keyword (by decide) rfl rfl rfl (c_kwv hK hT hC (fun x_1 hx_1 => ?_) d) rfl rfl (by omega) (by decide) (Nat.le_of_ble_eq_true rfl)
  show AW _ _ _ _ _ _ _
  refine a_istore_n (by decide) rfl dX10_readTest_4 ?_
  refine a_iload_n rfl dX10_readTest_5 ?_
  refine n_bipush 19 rfl dX10_readTest_6 ?_
  refine r_icmp_eq 28 (by omega) dX10_readTest_8 (by decide) (fun h_8 => ?_) (fun h_8 => ?_)
  · refine a_aload_n rfl dX10_readTest_28 ?_
    refine n_callV (mi' := miX4_step) dX10_readTest_29 lX10_68 mX4_step (by decide) rfl rfl rfl (c_X4_step hK hT hC (fun M_29 hc_29 hf_29 => ?_) d) rfl rfl (by omega) (by decide) (Nat.le_of_ble_eq_true rfl)
    show AW _ _ _ _ _ _ _
    have ha_29 : CU M_29 n (yTa tk c) := by unfold yTa; rw [if_pos (by omega)]; exact hc_29
    have hg_29 : fr cuP M M_29 := hf_29
    have hy_29 : yv tk c = 19 := by omega
    refine a_iload_n rfl dX10_readTest_32 ?_
    refine n_bipush 20 rfl dX10_readTest_33 ?_
    refine r_icmp_ne 46 (by omega) dX10_readTest_35 (by decide) (fun h_35 => ?_) (fun h_35 => absurd h_35 (by omega))
    refine a_aload_n rfl dX10_readTest_46 ?_
    refine a_aload_n rfl dX10_readTest_47 ?_
    refine n_callV (mi' := miX4_takeSitter) dX10_readTest_48 lX10_83 mX4_takeSitter (by decide) rfl rfl rfl (c_X4_takeSitter (c := yTa tk c) hK (TX_cu hT hg_29) ha_29 isW17 (VX_cu isW17 hV hg_29) hF (VN_cu isW17 hN hg_29) (fun M_48 v_48 hc_48 hv_48 hf_48 => ?_) d) rfl rfl (by omega) (by decide) (Nat.le_of_ble_eq_true rfl)
    show AW _ _ _ _ _ _ _
    have hn20 : ¬ yv tk c = 20 := by omega
    have hb_51 : CU M_48 n (yTb tk S N c) := by unfold yTb; rw [if_neg hn20]; exact hc_48
    have hg_51 : fr cuP M M_48 := hg_29.t hf_48
    have hw_51 : (yTb tk S N c).2.1 = 0 → v_48 = nI (yWho tk S N 18 c) := fun q => by
      unfold yTb at q; rw [if_neg hn20] at q
      obtain ⟨j, hj, hv⟩ := hv_48 q
      rw [hv, show yWho tk S N 18 c = (nmS tk S N (yTa tk c)).getD 0 from if_neg hn20, hj]; rfl
    refine a_istore (by decide) rfl dX10_readTest_51 ?_
    refine a_iconst (-1) rfl dX10_readTest_53 ?_
    refine a_istore (by decide) rfl dX10_readTest_54 ?_
    refine n_iconst 0 rfl dX10_readTest_56 ?_
    refine a_istore (by decide) rfl dX10_readTest_57 ?_
    refine a_iload_n rfl dX10_readTest_59 ?_
    refine n_bipush 21 rfl dX10_readTest_60 ?_
    refine r_icmp_ne 80 (by omega) dX10_readTest_62 (by decide) (fun h_62 => ?_) (fun h_62 => absurd h_62 (by omega))
    refine a_aload_n rfl dX10_readTest_80 ?_
    refine a_iload_n rfl dX10_readTest_81 ?_
    refine a_iload rfl dX10_readTest_82 ?_
    refine a_iload rfl dX10_readTest_84 ?_
    refine a_iload rfl dX10_readTest_86 ?_
    refine n_callV (mi' := miX9_addWhen) dX10_readTest_88 lX10_106 mX9_addWhen (by decide) rfl rfl rfl (c_X9_addWhen (hg_i hg_51 hL) hl (hg_i1 hg_51 hS1) (by omega) ?_ d) rfl rfl (by omega) (by decide) (Nat.le_of_ble_eq_true rfl)
    show AW _ _ _ _ _ _ _
    refine a_vret dX10_readTest_91 rfl ?_
    have hn21 : ¬ yv tk c = 21 := by omega
    have e : yTc tk S N c = yTb tk S N c := if_neg hn21
    rw [e] at hQ
    have hg : fr cuP M M_48 := hg_51
    exact hQ _ (CU_yr hb_51 aw_fr) (fun q => aw_YX (YX_cu hY hg) (kv_e (by rw [hy_29] at hx_1; rw [show yTst tk 18 c = 19 from hy_29]; exact hx_1) (by rw [show yTst tk 18 c = 19 from hy_29]; omega)) (hw_51 q) (by rw [show yTst tk 18 c = 19 from hy_29]; rfl) (by rw [show yNum tk S N 18 c = 0 from if_neg hn21])) ((hg.mo (fun _ _ h => Or.inl h)).t (aw_fr.mo (fun _ _ h => Or.inr h)))
  · refine a_iload_n rfl dX10_readTest_11 ?_
    refine n_bipush 20 rfl dX10_readTest_12 ?_
    refine r_icmp_eq 28 (by omega) dX10_readTest_14 (by decide) (fun h_14 => ?_) (fun h_14 => ?_)
    · refine a_aload_n rfl dX10_readTest_28 ?_
      refine n_callV (mi' := miX4_step) dX10_readTest_29 lX10_68 mX4_step (by decide) rfl rfl rfl (c_X4_step hK hT hC (fun M_29 hc_29 hf_29 => ?_) d) rfl rfl (by omega) (by decide) (Nat.le_of_ble_eq_true rfl)
      show AW _ _ _ _ _ _ _
      have ha_29 : CU M_29 n (yTa tk c) := by unfold yTa; rw [if_pos (by omega)]; exact hc_29
      have hg_29 : fr cuP M M_29 := hf_29
      have hy_29 : yv tk c = 20 := by omega
      refine a_iload_n rfl dX10_readTest_32 ?_
      refine n_bipush 20 rfl dX10_readTest_33 ?_
      refine r_icmp_ne 46 (by omega) dX10_readTest_35 (by decide) (fun h_35 => absurd h_35 (by omega)) (fun h_35 => ?_)
      refine a_aload_n rfl dX10_readTest_38 ?_
      refine a_aload_n rfl dX10_readTest_39 ?_
      refine n_callV (mi' := miX4_takeMatter) dX10_readTest_40 lX10_79 mX4_takeMatter (by decide) rfl rfl rfl (c_X4_takeMatter (c := yTa tk c) hK (TX_cu hT hg_29) ha_29 isW17 (VX_cu isW17 hV hg_29) hF (VN_cu isW17 hN hg_29) (fun M_40 v_40 hc_40 hv_40 hf_40 => ?_) d) rfl rfl (by omega) (by decide) (Nat.le_of_ble_eq_true rfl)
      show AW _ _ _ _ _ _ _
      have hb_51 : CU M_40 n (yTb tk S N c) := by unfold yTb; rw [if_pos hy_29]; exact hc_40
      have hg_51 : fr cuP M M_40 := hg_29.t hf_40
      have hw_51 : (yTb tk S N c).2.1 = 0 → v_40 = nI (yWho tk S N 18 c) := fun q => by
        unfold yTb at q; rw [if_pos hy_29] at q
        obtain ⟨j, hj, hv⟩ := hv_40 q
        rw [hv, show yWho tk S N 18 c = (nmM tk S N (yTa tk c)).getD 0 from if_pos hy_29, hj]; rfl
      refine a_goto 51 dX10_readTest_43 (by decide) ?_
      refine a_istore (by decide) rfl dX10_readTest_51 ?_
      refine a_iconst (-1) rfl dX10_readTest_53 ?_
      refine a_istore (by decide) rfl dX10_readTest_54 ?_
      refine n_iconst 0 rfl dX10_readTest_56 ?_
      refine a_istore (by decide) rfl dX10_readTest_57 ?_
      refine a_iload_n rfl dX10_readTest_59 ?_
      refine n_bipush 21 rfl dX10_readTest_60 ?_
      refine r_icmp_ne 80 (by omega) dX10_readTest_62 (by decide) (fun h_62 => ?_) (fun h_62 => absurd h_62 (by omega))
      refine a_aload_n rfl dX10_readTest_80 ?_
      refine a_iload_n rfl dX10_readTest_81 ?_
      refine a_iload rfl dX10_readTest_82 ?_
      refine a_iload rfl dX10_readTest_84 ?_
      refine a_iload rfl dX10_readTest_86 ?_
      refine n_callV (mi' := miX9_addWhen) dX10_readTest_88 lX10_106 mX9_addWhen (by decide) rfl rfl rfl (c_X9_addWhen (hg_i hg_51 hL) hl (hg_i1 hg_51 hS1) (by omega) ?_ d) rfl rfl (by omega) (by decide) (Nat.le_of_ble_eq_true rfl)
      show AW _ _ _ _ _ _ _
      refine a_vret dX10_readTest_91 rfl ?_
      have hn21 : ¬ yv tk c = 21 := by omega
      have e : yTc tk S N c = yTb tk S N c := if_neg hn21
      rw [e] at hQ
      have hg : fr cuP M M_40 := hg_51
      exact hQ _ (CU_yr hb_51 aw_fr) (fun q => aw_YX (YX_cu hY hg) (kv_e (by rw [hy_29] at hx_1; rw [show yTst tk 18 c = 20 from hy_29]; exact hx_1) (by rw [show yTst tk 18 c = 20 from hy_29]; omega)) (hw_51 q) (by rw [show yTst tk 18 c = 20 from hy_29]; rfl) (by rw [show yNum tk S N 18 c = 0 from if_neg hn21])) ((hg.mo (fun _ _ h => Or.inl h)).t (aw_fr.mo (fun _ _ h => Or.inr h)))
    · refine a_iload_n rfl dX10_readTest_17 ?_
      refine n_bipush 21 rfl dX10_readTest_18 ?_
      refine r_icmp_eq 28 (by omega) dX10_readTest_20 (by decide) (fun h_20 => ?_) (fun h_20 => ?_)
      · refine a_aload_n rfl dX10_readTest_28 ?_
        refine n_callV (mi' := miX4_step) dX10_readTest_29 lX10_68 mX4_step (by decide) rfl rfl rfl (c_X4_step hK hT hC (fun M_29 hc_29 hf_29 => ?_) d) rfl rfl (by omega) (by decide) (Nat.le_of_ble_eq_true rfl)
        show AW _ _ _ _ _ _ _
        have ha_29 : CU M_29 n (yTa tk c) := by unfold yTa; rw [if_pos (by omega)]; exact hc_29
        have hg_29 : fr cuP M M_29 := hf_29
        have hy_29 : yv tk c = 21 := by omega
        refine a_iload_n rfl dX10_readTest_32 ?_
        refine n_bipush 20 rfl dX10_readTest_33 ?_
        refine r_icmp_ne 46 (by omega) dX10_readTest_35 (by decide) (fun h_35 => ?_) (fun h_35 => absurd h_35 (by omega))
        refine a_aload_n rfl dX10_readTest_46 ?_
        refine a_aload_n rfl dX10_readTest_47 ?_
        refine n_callV (mi' := miX4_takeSitter) dX10_readTest_48 lX10_83 mX4_takeSitter (by decide) rfl rfl rfl (c_X4_takeSitter (c := yTa tk c) hK (TX_cu hT hg_29) ha_29 isW17 (VX_cu isW17 hV hg_29) hF (VN_cu isW17 hN hg_29) (fun M_48 v_48 hc_48 hv_48 hf_48 => ?_) d) rfl rfl (by omega) (by decide) (Nat.le_of_ble_eq_true rfl)
        show AW _ _ _ _ _ _ _
        have hn20 : ¬ yv tk c = 20 := by omega
        have hb_51 : CU M_48 n (yTb tk S N c) := by unfold yTb; rw [if_neg hn20]; exact hc_48
        have hg_51 : fr cuP M M_48 := hg_29.t hf_48
        have hw_51 : (yTb tk S N c).2.1 = 0 → v_48 = nI (yWho tk S N 18 c) := fun q => by
          unfold yTb at q; rw [if_neg hn20] at q
          obtain ⟨j, hj, hv⟩ := hv_48 q
          rw [hv, show yWho tk S N 18 c = (nmS tk S N (yTa tk c)).getD 0 from if_neg hn20, hj]; rfl
        refine a_istore (by decide) rfl dX10_readTest_51 ?_
        refine a_iconst (-1) rfl dX10_readTest_53 ?_
        refine a_istore (by decide) rfl dX10_readTest_54 ?_
        refine n_iconst 0 rfl dX10_readTest_56 ?_
        refine a_istore (by decide) rfl dX10_readTest_57 ?_
        refine a_iload_n rfl dX10_readTest_59 ?_
        refine n_bipush 21 rfl dX10_readTest_60 ?_
        refine r_icmp_ne 80 (by omega) dX10_readTest_62 (by decide) (fun h_62 => absurd h_62 (by omega)) (fun h_62 => ?_)
        refine a_aload_n rfl dX10_readTest_65 ?_
        refine n_callV (mi' := miX4_takeCompare) dX10_readTest_66 lX10_103 mX4_takeCompare (by decide) rfl rfl rfl (c_X4_takeCompare (c := yTb tk S N c) hK (TX_cu hT hg_51) hb_51 (fun M_66 v_66 hc_66 hv_66 hf_66 => ?_) d) rfl rfl (by omega) (by decide) (Nat.le_of_ble_eq_true rfl)
        show AW _ _ _ _ _ _ _
        refine a_istore (by decide) rfl dX10_readTest_69 ?_
        refine a_aload_n rfl dX10_readTest_71 ?_
        refine n_iconst 0 rfl dX10_readTest_72 ?_
        refine n_bipush 99 rfl dX10_readTest_73 ?_
        refine n_callV (mi' := miX4_takeNumber) dX10_readTest_75 lX10_71 mX4_takeNumber (by decide) rfl rfl rfl (c_X4_takeNumber (c := cmpC tk (yTb tk S N c)) hK (TX_cu hT (hg_51.t hf_66)) hc_66 (by omega) (by omega) (fun M_75 v_75 hc_75 hv_75 hf_75 => ?_) d) rfl rfl (by omega) (by decide) (Nat.le_of_ble_eq_true rfl)
        show AW _ _ _ _ _ _ _
        refine a_istore (by decide) rfl dX10_readTest_78 ?_
        refine a_aload_n rfl dX10_readTest_80 ?_
        refine a_iload_n rfl dX10_readTest_81 ?_
        refine a_iload rfl dX10_readTest_82 ?_
        refine a_iload rfl dX10_readTest_84 ?_
        refine a_iload rfl dX10_readTest_86 ?_
        refine n_callV (mi' := miX9_addWhen) dX10_readTest_88 lX10_106 mX9_addWhen (by decide) rfl rfl rfl (c_X9_addWhen (hg_i (hg_51.t (hf_66.t hf_75)) hL) hl (hg_i1 (hg_51.t (hf_66.t hf_75)) hS1) (by omega) ?_ d) rfl rfl (by omega) (by decide) (Nat.le_of_ble_eq_true rfl)
        show AW _ _ _ _ _ _ _
        refine a_vret dX10_readTest_91 rfl ?_
        have e : yTc tk S N c = numC tk 0 99 (cmpC tk (yTb tk S N c)) := if_pos hy_29
        have hg : fr cuP M M_75 := hg_51.t (hf_66.t hf_75)
        rw [e] at hQ
        exact hQ _ (CU_yr hc_75 aw_fr) (fun q => aw_YX (YX_cu hY hg) (kv_e (by rw [hy_29] at hx_1; rw [show yTst tk 18 c = 21 from hy_29]; exact hx_1) (by rw [show yTst tk 18 c = 21 from hy_29]; omega)) (hw_51 (cmp_0 (num_0 q).1).1) ((hv_66 (num_0 q).1).trans (by rw [show yTst tk 18 c = 21 from hy_29, if_pos rfl, show yCmp tk S N 18 c = cd tk (yTb tk S N c) from if_pos ⟨rfl, hy_29⟩])) ((hv_75 q).trans (by rw [show yNum tk S N 18 c = cd tk (cmpC tk (yTb tk S N c)) from if_pos hy_29]))) ((hg.mo (fun _ _ h => Or.inl h)).t (aw_fr.mo (fun _ _ h => Or.inr h)))
      · refine a_aload_n rfl dX10_readTest_23 ?_
        refine n_iconst 2 rfl dX10_readTest_24 ?_
        refine n_callV (mi' := miX4_fail) dX10_readTest_25 lX10_52 mX4_fail (by decide) rfl rfl rfl (c_X4_fail (w := 2) hK hT hC (by omega) (fun M_25 hc_25 hf_25 => ?_) d) rfl rfl (by omega) (by decide) (Nat.le_of_ble_eq_true rfl)
        show AW _ _ _ _ _ _ _
        have hg_25 : fr cuP M M_25 := hf_25
        refine a_aload_n rfl dX10_readTest_28 ?_
        refine n_callV (mi' := miX4_step) dX10_readTest_29 lX10_68 mX4_step (by decide) rfl rfl rfl (c_X4_step hK (TX_cu hT hf_25) hc_25 (fun M_29 hc_29 hf_29 => ?_) d) rfl rfl (by omega) (by decide) (Nat.le_of_ble_eq_true rfl)
        show AW _ _ _ _ _ _ _
        have ha_29 : CU M_29 n (yTa tk c) := by unfold yTa; rw [if_neg (by omega)]; exact hc_29
        have hg_29 : fr cuP M M_29 := hf_25.t hf_29
        have hy_29 : yv tk c ≠ 20 ∧ yv tk c ≠ 21 := by omega
        refine a_iload_n rfl dX10_readTest_32 ?_
        refine n_bipush 20 rfl dX10_readTest_33 ?_
        refine r_icmp_ne 46 (by omega) dX10_readTest_35 (by decide) (fun h_35 => ?_) (fun h_35 => absurd h_35 (by omega))
        refine a_aload_n rfl dX10_readTest_46 ?_
        refine a_aload_n rfl dX10_readTest_47 ?_
        refine n_callV (mi' := miX4_takeSitter) dX10_readTest_48 lX10_83 mX4_takeSitter (by decide) rfl rfl rfl (c_X4_takeSitter (c := yTa tk c) hK (TX_cu hT hg_29) ha_29 isW17 (VX_cu isW17 hV hg_29) hF (VN_cu isW17 hN hg_29) (fun M_48 v_48 hc_48 hv_48 hf_48 => ?_) d) rfl rfl (by omega) (by decide) (Nat.le_of_ble_eq_true rfl)
        show AW _ _ _ _ _ _ _
        have hn20 : ¬ yv tk c = 20 := by omega
        have hb_51 : CU M_48 n (yTb tk S N c) := by unfold yTb; rw [if_neg hn20]; exact hc_48
        have hg_51 : fr cuP M M_48 := hg_29.t hf_48
        have hw_51 : (yTb tk S N c).2.1 = 0 → v_48 = nI (yWho tk S N 18 c) := fun q => by
          unfold yTb at q; rw [if_neg hn20] at q
          obtain ⟨j, hj, hv⟩ := hv_48 q
          rw [hv, show yWho tk S N 18 c = (nmS tk S N (yTa tk c)).getD 0 from if_neg hn20, hj]; rfl
        refine a_istore (by decide) rfl dX10_readTest_51 ?_
        refine a_iconst (-1) rfl dX10_readTest_53 ?_
        refine a_istore (by decide) rfl dX10_readTest_54 ?_
        refine n_iconst 0 rfl dX10_readTest_56 ?_
        refine a_istore (by decide) rfl dX10_readTest_57 ?_
        refine a_iload_n rfl dX10_readTest_59 ?_
        refine n_bipush 21 rfl dX10_readTest_60 ?_
        refine r_icmp_ne 80 (by omega) dX10_readTest_62 (by decide) (fun h_62 => ?_) (fun h_62 => absurd h_62 (by omega))
        refine a_aload_n rfl dX10_readTest_80 ?_
        refine a_iload_n rfl dX10_readTest_81 ?_
        refine a_iload rfl dX10_readTest_82 ?_
        refine a_iload rfl dX10_readTest_84 ?_
        refine a_iload rfl dX10_readTest_86 ?_
        refine n_callV (mi' := miX9_addWhen) dX10_readTest_88 lX10_106 mX9_addWhen (by decide) rfl rfl rfl (c_X9_addWhen (hg_i hg_51 hL) hl (hg_i1 hg_51 hS1) (by omega) ?_ d) rfl rfl (by omega) (by decide) (Nat.le_of_ble_eq_true rfl)
        show AW _ _ _ _ _ _ _
        refine a_vret dX10_readTest_91 rfl ?_
        have hn21 : ¬ yv tk c = 21 := by omega
        have e : yTc tk S N c = yTb tk S N c := if_neg hn21
        rw [e] at hQ
        have hg : fr cuP M M_48 := hg_51
        exact hQ _ (CU_yr hb_51 aw_fr) (fun q => absurd (yTb_0 q).1 (fun z => by have := (yTa_0 z).2.1; omega)) ((hg.mo (fun _ _ h => Or.inl h)).t (aw_fr.mo (fun _ _ h => Or.inr h)))

theorem ad_o {M : Mm} {L : Nat} {v a b : Int32} {k j : Nat} (h : k < 50 ∨ 57 ≤ k) : (adM M L v a b).1 k j = M.1 k j := (ad_fr k j (by omega)).1
theorem VN_fr0 {w : Nat} {M M' : Mm} {S : ST} {N : NM} {P : Nat → Nat → Prop} (h : VN w M S N) (hf : fr P M M') (hp : ∀ k j, w ≤ k → k ≤ w + 6 → ¬ P k j) : VN w M' S N := ⟨fun j hj => (hf _ j (hp _ j (by omega) (by omega))).2.trans (h.1 j hj), fun j hj => (hf _ j (hp _ j (by omega) (by omega))).2.trans (h.2 j hj)⟩

set_option maxRecDepth 100000 in
set_option maxHeartbeats 800000 in
theorem c_X10_readRest {M : Mm} {tk : Nat → TK} {n : Nat} {c : CC} (hK : TKG tk) (hT : TX M tk n) (hC : CU M n c) {S : ST} {N : NM} (hV : VX 17 M S) (hF : WF S) (hN : VN 17 M S N) {v D L : Nat} {s : Nat → Nat → Nat} {O : Nat → Nat} (hY : YX 50 M (1, L, s)) (hD : M.1 15 1 = nI D) (hO : ∀ j, j < D → M.1 16 j = nI (O j)) (hw : wfS S L s D O) (hv : yMay v D) (hs : yStp v → scN s L < 30) (hd : yOp v → D < 3) {Q : Option Value → Mm → Prop} (hQ : ∀ M', CU M' n (yC tk S N v c) → M'.1 15 1 = nI (yDp v L D O).1 → ((yC tk S N v c).2.1 = 0 → YX 50 M' (1, L + 1, yIt tk S N v c L s D O) ∧ ∀ j, j < (yDp v L D O).1 → M'.1 16 j = nI ((yDp v L D O).2 j)) → fr ryP M M' → Q none M') (d : Nat) : AMt miX10_readRest (d + 5) [.ref 15, .int (nI v), .ref 50, .ref 10, .ref 17] M Q := by
  refine AMt.of (by decide) (Nat.le_of_ble_eq_true rfl) ?_
  show AW miX10_readRest (d + 5) (mxA Q) 0 [(0, some (.ref 15)), (1, some (.int (nI v))), (2, some (.ref 50)), (3, some (.ref 10)), (4, some (.ref 17))] [] M
  have hc1 := hC.1
  have hn1 := hT.2.1
  have hn9 := hT.2.2.1
  have hf7 := hC.2.2.2.2
  have hkd : kd tk c ≤ 6 := (hK c.1).1
  have hst := (hK c.1).2.1
  have htx := tx_kd hT hC
  have hL : M.1 50 2 = nI L := hY.2.2.1
  have hS1 : M.1 50 1 = nI (scN s L) := hY.2.1
  have hw1 := hw.1
  have hD3 : D ≤ 3 := hw1.2.2
  refine a_iload_n rfl dX10_readRest_0 ?_
  have hx_1 : (nI v).toInt = ((v : Nat) : Int) := nI_toInt (by omega)
  by_cases hs_1_13 : (nI v).toInt = 13
  · refine a_tabIn 60 dX10_readRest_1 (by omega) (by omega) (by rw [hs_1_13]; rfl) (by decide) ?_
    refine a_aload_n rfl dX10_readRest_60 ?_
    refine a_iload_n rfl dX10_readRest_61 ?_
    refine a_iconst (-1) rfl dX10_readRest_62 ?_
    refine a_aload_n rfl dX10_readRest_63 ?_
    refine n_iconst 1 rfl dX10_readRest_64 ?_
    refine n_bipush 40 rfl dX10_readRest_65 ?_
    refine n_callV (mi' := miX4_takeNumber) dX10_readRest_67 lX10_71 mX4_takeNumber (by decide) rfl rfl rfl (c_X4_takeNumber (c := c) (lo := 1) (hi := 40) hK hT hC (by omega) (by omega) (fun M_67 v_67 hc_67 hv_67 hf_67 => ?_) d) rfl rfl (by omega) (by decide) (Nat.le_of_ble_eq_true rfl)
    show AW _ _ _ _ _ _ _
    have hg_67 : fr cuP M M_67 := hf_67
    refine n_callV (mi' := miX9_addStep) dX10_readRest_70 lX10_75 mX9_addStep (by decide) rfl rfl rfl (c_X9_addStep (v := v) (hg_i hg_67 hL) (by omega) (hg_i1 hg_67 hS1) (by omega) ?_ d) rfl rfl (by omega) (by decide) (Nat.le_of_ble_eq_true rfl)
    show AW _ _ _ _ _ _ _
    refine a_goto 184 dX10_readRest_73 (by decide) ?_
    refine a_vret dX10_readRest_184 rfl ?_
    obtain rfl : v = 13 := by omega
    have hst : ∀ k j, (k = 15 ∨ k = 16) → (asM M_67 L (scN s L) (nI 13) (-1) v_67).1 k j = M.1 k j := fun k j z => (siN (ad_o (by omega)) (by omega)).trans (hg_67 k j (by unfold cuP; omega)).1
    exact hQ _ (CU_yr hc_67 as_fr) ((hst _ _ (Or.inl rfl)).trans hD) (fun q => ⟨as_YX (YX_cu hY hg_67) (by decide) (by decide) (fun z => absurd z (by decide)) (hv_67 q), fun j hj => (hst _ _ (Or.inr rfl)).trans (hO j hj)⟩) ((hg_67.mo (fun _ _ h => Or.inl h)).t (as_fr.mo (fun _ _ h => Or.inr (Or.inl h))))
  by_cases hs_1_14 : (nI v).toInt = 14
  · refine a_tabIn 76 dX10_readRest_1 (by omega) (by omega) (by rw [hs_1_14]; rfl) (by decide) ?_
    refine a_aload_n rfl dX10_readRest_76 ?_
    refine a_iload_n rfl dX10_readRest_77 ?_
    refine a_iconst (-1) rfl dX10_readRest_78 ?_
    refine a_aload_n rfl dX10_readRest_79 ?_
    refine n_iconst 0 rfl dX10_readRest_80 ?_
    refine n_bipush 7 rfl dX10_readRest_81 ?_
    refine n_callV (mi' := miX4_takeNumber) dX10_readRest_83 lX10_71 mX4_takeNumber (by decide) rfl rfl rfl (c_X4_takeNumber (c := c) (lo := 0) (hi := 7) hK hT hC (by omega) (by omega) (fun M_83 v_83 hc_83 hv_83 hf_83 => ?_) d) rfl rfl (by omega) (by decide) (Nat.le_of_ble_eq_true rfl)
    show AW _ _ _ _ _ _ _
    have hg_83 : fr cuP M M_83 := hf_83
    refine n_callV (mi' := miX9_addStep) dX10_readRest_86 lX10_75 mX9_addStep (by decide) rfl rfl rfl (c_X9_addStep (v := v) (hg_i hg_83 hL) (by omega) (hg_i1 hg_83 hS1) (by omega) ?_ d) rfl rfl (by omega) (by decide) (Nat.le_of_ble_eq_true rfl)
    show AW _ _ _ _ _ _ _
    refine a_goto 184 dX10_readRest_89 (by decide) ?_
    refine a_vret dX10_readRest_184 rfl ?_
    obtain rfl : v = 14 := by omega
    have hst : ∀ k j, (k = 15 ∨ k = 16) → (asM M_83 L (scN s L) (nI 14) (-1) v_83).1 k j = M.1 k j := fun k j z => (siN (ad_o (by omega)) (by omega)).trans (hg_83 k j (by unfold cuP; omega)).1
    exact hQ _ (CU_yr hc_83 as_fr) ((hst _ _ (Or.inl rfl)).trans hD) (fun q => ⟨as_YX (YX_cu hY hg_83) (by decide) (by decide) (fun z => absurd z (by decide)) (hv_83 q), fun j hj => (hst _ _ (Or.inr rfl)).trans (hO j hj)⟩) ((hg_83.mo (fun _ _ h => Or.inl h)).t (as_fr.mo (fun _ _ h => Or.inr (Or.inl h))))
  by_cases hs_1_15 : (nI v).toInt = 15
  · refine a_tabIn 92 dX10_readRest_1 (by omega) (by omega) (by rw [hs_1_15]; rfl) (by decide) ?_
    refine a_aload_n rfl dX10_readRest_92 ?_
    refine a_iload_n rfl dX10_readRest_93 ?_
    refine a_aload_n rfl dX10_readRest_94 ?_
    refine a_aload rfl dX10_readRest_95 ?_
    refine n_callV (mi' := miX4_takeMatter) dX10_readRest_97 lX10_79 mX4_takeMatter (by decide) rfl rfl rfl (c_X4_takeMatter hK hT hC isW17 hV hF hN (fun M_97 v_97 hc_97 hv_97 hf_97 => ?_) d) rfl rfl (by omega) (by decide) (Nat.le_of_ble_eq_true rfl)
    show AW _ _ _ _ _ _ _
    refine a_aload_n rfl dX10_readRest_100 ?_
    refine n_iconst 1 rfl dX10_readRest_101 ?_
    refine n_bipush 100 rfl dX10_readRest_102 ?_
    refine n_callV (mi' := miX4_takeNumber) dX10_readRest_104 lX10_71 mX4_takeNumber (by decide) rfl rfl rfl (c_X4_takeNumber (c := yM tk S N c) (lo := 1) (hi := 100) hK (TX_cu hT hf_97) hc_97 (by omega) (by omega) (fun M_104 v_104 hc_104 hv_104 hf_104 => ?_) d) rfl rfl (by omega) (by decide) (Nat.le_of_ble_eq_true rfl)
    show AW _ _ _ _ _ _ _
    have hg_104 : fr cuP M M_104 := hf_97.t hf_104
    refine n_callV (mi' := miX9_addStep) dX10_readRest_107 lX10_75 mX9_addStep (by decide) rfl rfl rfl (c_X9_addStep (v := v) (hg_i hg_104 hL) (by omega) (hg_i1 hg_104 hS1) (by omega) ?_ d) rfl rfl (by omega) (by decide) (Nat.le_of_ble_eq_true rfl)
    show AW _ _ _ _ _ _ _
    refine a_goto 184 dX10_readRest_110 (by decide) ?_
    refine a_vret dX10_readRest_184 rfl ?_
    obtain rfl : v = 15 := by omega
    have hst : ∀ k j, (k = 15 ∨ k = 16) → (asM M_104 L (scN s L) (nI 15) v_97 v_104).1 k j = M.1 k j := fun k j z => (siN (ad_o (by omega)) (by omega)).trans (hg_104 k j (by unfold cuP; omega)).1
    exact hQ _ (CU_yr hc_104 as_fr) ((hst _ _ (Or.inl rfl)).trans hD) (fun q => ⟨as_YX (YX_cu hY hg_104) (by decide) (by decide) (fun _ => by obtain ⟨j, hj, hv⟩ := hv_97 (num_0 q).1; rw [hv, show yWho tk S N 15 c = (nmM tk S N c).getD 0 from rfl, hj]; rfl) (hv_104 q), fun j hj => (hst _ _ (Or.inr rfl)).trans (hO j hj)⟩) ((hg_104.mo (fun _ _ h => Or.inl h)).t (as_fr.mo (fun _ _ h => Or.inr (Or.inl h))))
  by_cases hs_1_16 : (nI v).toInt = 16
  · refine a_tabIn 113 dX10_readRest_1 (by omega) (by omega) (by rw [hs_1_16]; rfl) (by decide) ?_
    refine a_aload_n rfl dX10_readRest_113 ?_
    refine a_iload_n rfl dX10_readRest_114 ?_
    refine a_aload_n rfl dX10_readRest_115 ?_
    refine a_aload rfl dX10_readRest_116 ?_
    refine n_callV (mi' := miX4_takeSitter) dX10_readRest_118 lX10_83 mX4_takeSitter (by decide) rfl rfl rfl (c_X4_takeSitter hK hT hC isW17 hV hF hN (fun M_118 v_118 hc_118 hv_118 hf_118 => ?_) d) rfl rfl (by omega) (by decide) (Nat.le_of_ble_eq_true rfl)
    show AW _ _ _ _ _ _ _
    refine a_aload_n rfl dX10_readRest_121 ?_
    refine a_aload rfl dX10_readRest_122 ?_
    refine n_callV (mi' := miX4_takeMatter) dX10_readRest_124 lX10_79 mX4_takeMatter (by decide) rfl rfl rfl (c_X4_takeMatter (c := ySi tk S N c) hK (TX_cu hT hf_118) hc_118 isW17 (VX_cu isW17 hV hf_118) hF (VN_cu isW17 hN hf_118) (fun M_124 v_124 hc_124 hv_124 hf_124 => ?_) d) rfl rfl (by omega) (by decide) (Nat.le_of_ble_eq_true rfl)
    show AW _ _ _ _ _ _ _
    have hg_124 : fr cuP M M_124 := hf_118.t hf_124
    refine n_callV (mi' := miX9_addStep) dX10_readRest_127 lX10_75 mX9_addStep (by decide) rfl rfl rfl (c_X9_addStep (v := v) (hg_i hg_124 hL) (by omega) (hg_i1 hg_124 hS1) (by omega) ?_ d) rfl rfl (by omega) (by decide) (Nat.le_of_ble_eq_true rfl)
    show AW _ _ _ _ _ _ _
    refine a_goto 184 dX10_readRest_130 (by decide) ?_
    refine a_vret dX10_readRest_184 rfl ?_
    obtain rfl : v = 16 := by omega
    have hst : ∀ k j, (k = 15 ∨ k = 16) → (asM M_124 L (scN s L) (nI 16) v_118 v_124).1 k j = M.1 k j := fun k j z => (siN (ad_o (by omega)) (by omega)).trans (hg_124 k j (by unfold cuP; omega)).1
    exact hQ _ (CU_yr hc_124 as_fr) ((hst _ _ (Or.inl rfl)).trans hD) (fun q => ⟨as_YX (YX_cu hY hg_124) (by decide) (by decide) (fun _ => by obtain ⟨j, hj, hv⟩ := hv_118 (yM_0 q).1; rw [hv, show yWho tk S N 16 c = (nmS tk S N c).getD 0 from rfl, hj]; rfl) (by obtain ⟨j, hj, hv⟩ := hv_124 q; rw [hv, show yNum tk S N 16 c = (nmM tk S N (ySi tk S N c)).getD 0 from rfl, hj]; rfl), fun j hj => (hst _ _ (Or.inr rfl)).trans (hO j hj)⟩) ((hg_124.mo (fun _ _ h => Or.inl h)).t (as_fr.mo (fun _ _ h => Or.inr (Or.inl h))))
  by_cases hs_1_17 : (nI v).toInt = 17
  · refine a_tabIn 177 dX10_readRest_1 (by omega) (by omega) (by rw [hs_1_17]; rfl) (by decide) ?_
    refine a_aload_n rfl dX10_readRest_177 ?_
    refine a_iload_n rfl dX10_readRest_178 ?_
    refine a_iconst (-1) rfl dX10_readRest_179 ?_
    refine n_iconst 0 rfl dX10_readRest_180 ?_
    refine n_callV (mi' := miX9_addStep) dX10_readRest_181 lX10_75 mX9_addStep (by decide) rfl rfl rfl (c_X9_addStep (v := v) (hg_i (fr.r (P := cuP) (M := M)) hL) (by omega) (hg_i1 (fr.r (P := cuP) (M := M)) hS1) (by omega) ?_ d) rfl rfl (by omega) (by decide) (Nat.le_of_ble_eq_true rfl)
    show AW _ _ _ _ _ _ _
    refine a_vret dX10_readRest_184 rfl ?_
    obtain rfl : v = 17 := by omega
    have hst : ∀ k j, (k = 15 ∨ k = 16) → (asM M L (scN s L) (nI 17) (-1) (nI 0)).1 k j = M.1 k j := fun k j z => (siN (ad_o (by omega)) (by omega)).trans ((fr.r (P := cuP) (M := M)) k j (by unfold cuP; omega)).1
    exact hQ _ (CU_yr hC as_fr) ((hst _ _ (Or.inl rfl)).trans hD) (fun q => ⟨as_YX (YX_cu hY (fr.r (P := cuP) (M := M))) (by decide) (by decide) (fun z => absurd z (by decide)) rfl, fun j hj => (hst _ _ (Or.inr rfl)).trans (hO j hj)⟩) (((fr.r (P := cuP) (M := M)).mo (fun _ _ h => Or.inl h)).t (as_fr.mo (fun _ _ h => Or.inr (Or.inl h))))
  by_cases hs_1_18 : (nI v).toInt = 18
  · refine a_tabIn 133 dX10_readRest_1 (by omega) (by omega) (by rw [hs_1_18]; rfl) (by decide) ?_
    refine a_aload_n rfl dX10_readRest_133 ?_
    refine a_aload_n rfl dX10_readRest_134 ?_
    refine n_callV (mi' := miX10_goIn) dX10_readRest_135 lX10_86 mX10_goIn (by decide) rfl rfl rfl (c_X10_goIn hL (by omega) hD (by omega) ?_ d) rfl rfl (by omega) (by decide) (Nat.le_of_ble_eq_true rfl)
    show AW _ _ _ _ _ _ _
    have hi0 : fr (fun k _ => k = 15 ∨ k = 16) M (siM (siM M 16 D (nI L)) 15 1 (nI (D + 1))) := (fr.r.si (by omega)).si (by omega)
    have hYi : YX 50 (siM (siM M 16 D (nI L)) 15 1 (nI (D + 1))) (1, L, s) := YX_eq hY (fun k a b => funext fun j => (hi0 k j (by omega)).1)
    have hTi : TX (siM (siM M 16 D (nI L)) 15 1 (nI (D + 1))) tk n := TX_fr hT hi0 (fun k j z => by omega)
    have hCi : CU (siM (siM M 16 D (nI L)) 15 1 (nI (D + 1))) n c := CU_fr hC hi0 (fun j a b => by omega)
    have hLi : ((siM (siM M 16 D (nI L)) 15 1 (nI (D + 1)))).1 50 2 = nI L := siN (siN hL (by omega)) (by omega)
    refine a_aload_n rfl dX10_readRest_138 ?_
    refine a_aload_n rfl dX10_readRest_139 ?_
    refine a_aload rfl dX10_readRest_140 ?_
    refine n_callS (mi' := miX10_readTest) dX10_readRest_142 lX10_90 mX10_readTest (c_X10_readTest (S := S) (N := N) hK hTi hCi (VX_fr hV (fun k j a b => (hi0 k j (by omega)).1)) hF (VN_fr0 hN hi0 (fun k j a b => by omega)) hYi hLi (by omega) (by omega) (fun M_142 hc_142 hy_142 hf_142 => ?_) d) rfl rfl (by omega) (by decide) (Nat.le_of_ble_eq_true rfl)
    show AW _ _ _ _ _ _ _
    refine a_goto 184 dX10_readRest_145 (by decide) ?_
    refine a_vret dX10_readRest_184 rfl ?_
    obtain rfl : v = 18 := by omega
    have hs0 : ∀ k j, (k = 15 ∨ k = 16) → M_142.1 k j = (siM (siM M 16 D (nI L)) 15 1 (nI (D + 1))).1 k j := fun k j z => (hf_142 k j (by unfold cuP; omega)).1
    exact hQ _ hc_142 ((hs0 _ _ (Or.inl rfl)).trans siS) (fun q => ⟨hy_142 q, fun j hj => by
      have hj : j < D + 1 := hj
      show _ = nI (if j = D then L else O j)
      by_cases e : j = D
      · rw [if_pos e, e]; exact (hs0 _ _ (Or.inr rfl)).trans (siN siS (by omega))
      · rw [if_neg e]; exact (hs0 _ _ (Or.inr rfl)).trans (siN (siN (hO j (by omega)) (by omega)) (by omega))⟩) ((hi0.mo (fun _ _ h => Or.inr (Or.inr h))).t (hf_142.mo (fun _ _ h => h.elim Or.inl (fun z => Or.inr (Or.inl z)))))
  by_cases hs_1_22 : (nI v).toInt = 22
  · refine a_tabIn 148 dX10_readRest_1 (by omega) (by omega) (by rw [hs_1_22]; rfl) (by decide) ?_
    refine a_aload_n rfl dX10_readRest_148 ?_
    refine a_aload_n rfl dX10_readRest_149 ?_
    refine n_callV (mi' := miX10_goIn) dX10_readRest_150 lX10_86 mX10_goIn (by decide) rfl rfl rfl (c_X10_goIn hL (by omega) hD (by omega) ?_ d) rfl rfl (by omega) (by decide) (Nat.le_of_ble_eq_true rfl)
    show AW _ _ _ _ _ _ _
    have hi0 : fr (fun k _ => k = 15 ∨ k = 16) M (siM (siM M 16 D (nI L)) 15 1 (nI (D + 1))) := (fr.r.si (by omega)).si (by omega)
    have hYi : YX 50 (siM (siM M 16 D (nI L)) 15 1 (nI (D + 1))) (1, L, s) := YX_eq hY (fun k a b => funext fun j => (hi0 k j (by omega)).1)
    have hTi : TX (siM (siM M 16 D (nI L)) 15 1 (nI (D + 1))) tk n := TX_fr hT hi0 (fun k j z => by omega)
    have hCi : CU (siM (siM M 16 D (nI L)) 15 1 (nI (D + 1))) n c := CU_fr hC hi0 (fun j a b => by omega)
    have hLi : ((siM (siM M 16 D (nI L)) 15 1 (nI (D + 1)))).1 50 2 = nI L := siN (siN hL (by omega)) (by omega)
    refine a_aload_n rfl dX10_readRest_153 ?_
    refine a_iload_n rfl dX10_readRest_154 ?_
    refine a_iconst (-1) rfl dX10_readRest_155 ?_
    refine a_aload_n rfl dX10_readRest_156 ?_
    refine n_iconst 1 rfl dX10_readRest_157 ?_
    refine n_bipush 99 rfl dX10_readRest_158 ?_
    refine n_callV (mi' := miX4_takeNumber) dX10_readRest_160 lX10_71 mX4_takeNumber (by decide) rfl rfl rfl (c_X4_takeNumber (c := c) (lo := 1) (hi := 99) hK hTi hCi (by omega) (by omega) (fun M_160 v_160 hc_160 hv_160 hf_160 => ?_) d) rfl rfl (by omega) (by decide) (Nat.le_of_ble_eq_true rfl)
    show AW _ _ _ _ _ _ _
    have hg_160 : fr cuP (siM (siM M 16 D (nI L)) 15 1 (nI (D + 1))) M_160 := hf_160
    refine n_callV (mi' := miX9_addStep) dX10_readRest_163 lX10_75 mX9_addStep (by decide) rfl rfl rfl (c_X9_addStep (v := v) (hg_i hg_160 hLi) (by omega) (hg_i1 hg_160 (show _ = nI (scN s L) from hYi.2.1)) (by omega) ?_ d) rfl rfl (by omega) (by decide) (Nat.le_of_ble_eq_true rfl)
    show AW _ _ _ _ _ _ _
    refine a_goto 184 dX10_readRest_166 (by decide) ?_
    refine a_vret dX10_readRest_184 rfl ?_
    obtain rfl : v = 22 := by omega
    have hst : ∀ k j, (k = 15 ∨ k = 16) → (asM M_160 L (scN s L) (nI 22) (-1) v_160).1 k j = (siM (siM M 16 D (nI L)) 15 1 (nI (D + 1))).1 k j := fun k j z => (siN (ad_o (by omega)) (by omega)).trans (hg_160 k j (by unfold cuP; omega)).1
    exact hQ _ (CU_yr hc_160 as_fr) ((hst _ _ (Or.inl rfl)).trans siS) (fun q => ⟨as_YX (YX_cu hYi hg_160) (by decide) (by decide) (fun z => absurd z (by decide)) (hv_160 q), fun j hj => by
      have hj : j < D + 1 := hj
      show _ = nI (if j = D then L else O j)
      by_cases e : j = D
      · rw [if_pos e, e]; exact (hst _ _ (Or.inr rfl)).trans (siN siS (by omega))
      · rw [if_neg e]; exact (hst _ _ (Or.inr rfl)).trans (siN (siN (hO j (by omega)) (by omega)) (by omega))⟩) (((hi0.mo (fun _ _ h => Or.inr (Or.inr h))).t (hg_160.mo (fun _ _ h => Or.inl h))).t (as_fr.mo (fun _ _ h => Or.inr (Or.inl h))))
  by_cases hs_1_23 : (nI v).toInt = 23
  · refine a_tabIn 169 dX10_readRest_1 (by omega) (by omega) (by rw [hs_1_23]; rfl) (by decide) ?_
    refine a_aload_n rfl dX10_readRest_169 ?_
    have hD0 : 0 < D := by omega
    have hOl : O (D - 1) < L := (hw.2.2.1 (D - 1) (by omega)).1
    refine a_aload_n rfl dX10_readRest_170 ?_
    refine n_callV (mi' := miX10_goOut) dX10_readRest_171 lX10_94 mX10_goOut (by decide) rfl rfl rfl (c_X10_goOut hL (by omega) hD hD0 hD3 (hO (D - 1) (by omega)) hOl ?_ d) rfl rfl (by omega) (by decide) (Nat.le_of_ble_eq_true rfl)
    show AW _ _ _ _ _ _ _
    refine a_goto 184 dX10_readRest_174 (by decide) ?_
    refine a_vret dX10_readRest_184 rfl ?_
    obtain rfl : v = 23 := by omega
    have h1f : fr (fun k j => k = 15 ∧ j = 1) M (siM M 15 1 (nI (D - 1))) := fr.r.si ⟨rfl, rfl⟩
    have hst : ∀ k j, (k = 15 ∨ k = 16) → (aeM (siM M 15 1 (nI (D - 1))) L (O (D - 1))).1 k j = (siM M 15 1 (nI (D - 1))).1 k j := fun k j z => siN (siN (ad_o (by omega)) (by omega)) (by omega)
    exact hQ _ (CU_yr (CU_fr hC h1f (fun j a b => by omega)) ae_fr) ((hst _ _ (Or.inl rfl)).trans siS) (fun q => ⟨ae_YX (YX_eq hY (fun k a b => funext fun j => (h1f k j (by omega)).1)) hOl, fun j hj => (hst _ _ (Or.inr rfl)).trans (siN (hO j (by have hj : j < D - 1 := hj; omega)) (by omega))⟩) ((h1f.mo (fun k j h => Or.inr (Or.inr (Or.inl h.1)))).t (ae_fr.mo (fun _ _ h => Or.inr (Or.inl h))))
  refine a_tabOut 177 dX10_readRest_1 (by omega) (by decide) ?_
  refine a_aload_n rfl dX10_readRest_177 ?_
  refine a_iload_n rfl dX10_readRest_178 ?_
  refine a_iconst (-1) rfl dX10_readRest_179 ?_
  refine n_iconst 0 rfl dX10_readRest_180 ?_
  refine n_callV (mi' := miX9_addStep) dX10_readRest_181 lX10_75 mX9_addStep (by decide) rfl rfl rfl (c_X9_addStep (v := v) (hg_i (fr.r (P := cuP) (M := M)) hL) (by omega) (hg_i1 (fr.r (P := cuP) (M := M)) hS1) (by omega) ?_ d) rfl rfl (by omega) (by decide) (Nat.le_of_ble_eq_true rfl)
  show AW _ _ _ _ _ _ _
  refine a_vret dX10_readRest_184 rfl ?_
  obtain rfl : v = 24 := by omega
  have hst : ∀ k j, (k = 15 ∨ k = 16) → (asM M L (scN s L) (nI 24) (-1) (nI 0)).1 k j = M.1 k j := fun k j z => (siN (ad_o (by omega)) (by omega)).trans ((fr.r (P := cuP) (M := M)) k j (by unfold cuP; omega)).1
  exact hQ _ (CU_yr hC as_fr) ((hst _ _ (Or.inl rfl)).trans hD) (fun q => ⟨as_YX (YX_cu hY (fr.r (P := cuP) (M := M))) (by decide) (by decide) (fun z => absurd z (by decide)) rfl, fun j hj => (hst _ _ (Or.inr rfl)).trans (hO j hj)⟩) (((fr.r (P := cuP) (M := M)).mo (fun _ _ h => Or.inl h)).t (as_fr.mo (fun _ _ h => Or.inr (Or.inl h))))

set_option maxRecDepth 100000 in
set_option maxHeartbeats 800000 in
theorem c_X7_readPart {M : Mm} {tk : Nat → TK} {n : Nat} {c : CC} (hK : TKG tk) (hT : TX M tk n) (hC : CU M n c) {S : ST} {N : NM} (hV : VX 37 M S) (hF : WF S) (hN : VN 37 M S N) {t : Nat} (ht : M.1 14 0 = nI t) (ht1 : t ≤ 1) {Q : Option Value → Mm → Prop} (hQ : ∀ M', CU M' n (ptA tk t S N c).1 → ((ptA tk t S N c).1.2.1 = 0 → VX 37 M' (ptA tk t S N c).2.1 ∧ VN 37 M' (ptA tk t S N c).2.1 (ptA tk t S N c).2.2) → M'.1 14 0 = nI (if isK tk c 0 = true then 1 else t) → fr rwP M M' → Q none M') (d : Nat) : AMt miX7_readPart (d + 6) [.ref 14, .ref 37, .ref 10] M Q := by
  refine AMt.of (by decide) (Nat.le_of_ble_eq_true rfl) ?_
  show AW miX7_readPart (d + 6) (mxA Q) 0 [(0, some (.ref 14)), (1, some (.ref 37)), (2, some (.ref 10))] [] M
  have hc1 := hC.1
  have hn1 := hT.2.1
  have hn9 := hT.2.2.1
  have hf7 := hC.2.2.2.2
  have hkd : kd tk c ≤ 6 := (hK c.1).1
  have hst := (hK c.1).2.1
  have htx := tx_kd hT hC
  have hm := WF_m hF
  have hh := WF_h hF
  have hs := WF_s hF
  have hn := WF_n hF
  refine a_aload_n rfl dX7_readPart_0 ?_
  refine n_callV (mi' := miX4_keyword) dX7_readPart_1 lX7_33 mX4_keyword (by decide) rfl rfl rfl (c_X4_keyword hK hT hC (fun h_1 hl_1 => ?_) (fun h_1 => ?_) d) rfl rfl (by omega) (by decide) (Nat.le_of_ble_eq_true rfl)
  · show AW _ _ _ _ _ _ _
    have hx_4 : (nI (cd tk c)).toInt = ((cd tk c : Nat) : Int) := nI_toInt (by omega)
    by_cases hs_4_0 : (nI (cd tk c)).toInt = 0
    · refine a_tabIn 68 dX7_readPart_4 (by omega) (by omega) (by rw [hs_4_0]; rfl) (by decide) ?_
      refine a_aload_n rfl dX7_readPart_68 ?_
      refine a_aload_n rfl dX7_readPart_69 ?_
      refine a_aload_n rfl dX7_readPart_70 ?_
      refine n_callV (mi' := miX7_readOdds) dX7_readPart_71 lX7_37 mX7_readOdds (by decide) rfl rfl rfl (c_X7_readOdds hK hT hC hV hF hN ht ht1 (fun M_71 hc_71 hv_71 ht_71 hf_71 => ?_) d) rfl rfl (by omega) (by decide) (Nat.le_of_ble_eq_true rfl)
      show AW _ _ _ _ _ _ _
      refine a_goto 114 dX7_readPart_74 (by decide) ?_
      refine a_vret dX7_readPart_114 rfl ?_
      have hk : isK tk c 0 = true := isK_i.mpr ⟨h_1, by omega⟩
      have e : ptA tk t S N c = ptO tk t S N c := if_pos hk
      rw [e] at hQ
      exact hQ _ hc_71 hv_71 (ht_71.trans (congrArg nI (if_pos hk)).symm) hf_71
    by_cases hs_4_1 : (nI (cd tk c)).toInt = 1
    · refine a_tabIn 77 dX7_readPart_4 (by omega) (by omega) (by rw [hs_4_1]; rfl) (by decide) ?_
      refine a_aload_n rfl dX7_readPart_77 ?_
      refine a_aload_n rfl dX7_readPart_78 ?_
      refine n_callS (mi' := miX7_readMatter) dX7_readPart_79 lX7_40 mX7_readMatter (c_X7_readMatter hK hT hC hV hF hN (fun M_79 hc_79 hv_79 hf_79 => ?_) d) rfl rfl (by omega) (by decide) (Nat.le_of_ble_eq_true rfl)
      show AW _ _ _ _ _ _ _
      refine a_goto 114 dX7_readPart_82 (by decide) ?_
      refine a_vret dX7_readPart_114 rfl ?_
      have hk : isK tk c 1 = true := isK_i.mpr ⟨h_1, by omega⟩
      have n0 : ¬ isK tk c 0 = true := fun q => by have := (isK_i.mp q).2; omega
      have e : ptA tk t S N c = ptM tk S N c := (if_neg n0).trans (if_pos hk)
      rw [e] at hQ
      exact hQ _ hc_79 hv_79 (((hf_79 14 0 (by unfold rvP cuP; omega)).1.trans ht).trans (congrArg nI (if_neg n0)).symm) (hf_79.mo (fun _ _ h => rv_rw h))
    by_cases hs_4_2 : (nI (cd tk c)).toInt = 2
    · refine a_tabIn 109 dX7_readPart_4 (by omega) (by omega) (by rw [hs_4_2]; rfl) (by decide) ?_
      refine a_aload_n rfl dX7_readPart_109 ?_
      refine n_iconst 2 rfl dX7_readPart_110 ?_
      refine n_callV (mi' := miX4_fail) dX7_readPart_111 lX7_52 mX4_fail (by decide) rfl rfl rfl (c_X4_fail hK hT hC (by omega) (fun M_111 hc_111 hf_111 => ?_) d) rfl rfl (by omega) (by decide) (Nat.le_of_ble_eq_true rfl)
      show AW _ _ _ _ _ _ _
      refine a_vret dX7_readPart_114 rfl ?_
      have n0 : ¬ isK tk c 0 = true := fun q => by have := (isK_i.mp q).2; omega
      have n1 : ¬ isK tk c 1 = true := fun q => by have := (isK_i.mp q).2; omega
      have n4 : ¬ isK tk c 4 = true := fun q => by have := (isK_i.mp q).2; omega
      have n6 : ¬ isK tk c 6 = true := fun q => by have := (isK_i.mp q).2; omega
      have n11 : ¬ isK tk c 11 = true := fun q => by have := (isK_i.mp q).2; omega
      have e : ptA tk t S N c = (flC tk 2 c, S, N) := (if_neg n0).trans ((if_neg n1).trans ((if_neg n4).trans ((if_neg n6).trans (if_neg n11))))
      rw [e] at hQ
      exact hQ _ hc_111 (fun _ => ⟨VX_cu isW37 hV hf_111, VN_cu isW37 hN hf_111⟩) (((hf_111 14 0 (by unfold cuP; omega)).1.trans ht).trans (congrArg nI (if_neg n0)).symm) (hf_111.mo (fun _ _ h => cu_rd h))
    by_cases hs_4_3 : (nI (cd tk c)).toInt = 3
    · refine a_tabIn 109 dX7_readPart_4 (by omega) (by omega) (by rw [hs_4_3]; rfl) (by decide) ?_
      refine a_aload_n rfl dX7_readPart_109 ?_
      refine n_iconst 2 rfl dX7_readPart_110 ?_
      refine n_callV (mi' := miX4_fail) dX7_readPart_111 lX7_52 mX4_fail (by decide) rfl rfl rfl (c_X4_fail hK hT hC (by omega) (fun M_111 hc_111 hf_111 => ?_) d) rfl rfl (by omega) (by decide) (Nat.le_of_ble_eq_true rfl)
      show AW _ _ _ _ _ _ _
      refine a_vret dX7_readPart_114 rfl ?_
      have n0 : ¬ isK tk c 0 = true := fun q => by have := (isK_i.mp q).2; omega
      have n1 : ¬ isK tk c 1 = true := fun q => by have := (isK_i.mp q).2; omega
      have n4 : ¬ isK tk c 4 = true := fun q => by have := (isK_i.mp q).2; omega
      have n6 : ¬ isK tk c 6 = true := fun q => by have := (isK_i.mp q).2; omega
      have n11 : ¬ isK tk c 11 = true := fun q => by have := (isK_i.mp q).2; omega
      have e : ptA tk t S N c = (flC tk 2 c, S, N) := (if_neg n0).trans ((if_neg n1).trans ((if_neg n4).trans ((if_neg n6).trans (if_neg n11))))
      rw [e] at hQ
      exact hQ _ hc_111 (fun _ => ⟨VX_cu isW37 hV hf_111, VN_cu isW37 hN hf_111⟩) (((hf_111 14 0 (by unfold cuP; omega)).1.trans ht).trans (congrArg nI (if_neg n0)).symm) (hf_111.mo (fun _ _ h => cu_rd h))
    by_cases hs_4_4 : (nI (cd tk c)).toInt = 4
    · refine a_tabIn 85 dX7_readPart_4 (by omega) (by omega) (by rw [hs_4_4]; rfl) (by decide) ?_
      refine a_aload_n rfl dX7_readPart_85 ?_
      refine a_aload_n rfl dX7_readPart_86 ?_
      refine n_callS (mi' := miX7_readHold) dX7_readPart_87 lX7_43 mX7_readHold (c_X7_readHold hK hT hC hV hF hN (fun M_87 hc_87 hv_87 hf_87 => ?_) d) rfl rfl (by omega) (by decide) (Nat.le_of_ble_eq_true rfl)
      show AW _ _ _ _ _ _ _
      refine a_goto 114 dX7_readPart_90 (by decide) ?_
      refine a_vret dX7_readPart_114 rfl ?_
      have hk : isK tk c 4 = true := isK_i.mpr ⟨h_1, by omega⟩
      have n0 : ¬ isK tk c 0 = true := fun q => by have := (isK_i.mp q).2; omega
      have n1 : ¬ isK tk c 1 = true := fun q => by have := (isK_i.mp q).2; omega
      have e : ptA tk t S N c = ptH tk S N c := (if_neg n0).trans ((if_neg n1).trans (if_pos hk))
      rw [e] at hQ
      exact hQ _ hc_87 hv_87 (((hf_87 14 0 (by unfold rvP cuP; omega)).1.trans ht).trans (congrArg nI (if_neg n0)).symm) (hf_87.mo (fun _ _ h => rv_rw h))
    by_cases hs_4_5 : (nI (cd tk c)).toInt = 5
    · refine a_tabIn 109 dX7_readPart_4 (by omega) (by omega) (by rw [hs_4_5]; rfl) (by decide) ?_
      refine a_aload_n rfl dX7_readPart_109 ?_
      refine n_iconst 2 rfl dX7_readPart_110 ?_
      refine n_callV (mi' := miX4_fail) dX7_readPart_111 lX7_52 mX4_fail (by decide) rfl rfl rfl (c_X4_fail hK hT hC (by omega) (fun M_111 hc_111 hf_111 => ?_) d) rfl rfl (by omega) (by decide) (Nat.le_of_ble_eq_true rfl)
      show AW _ _ _ _ _ _ _
      refine a_vret dX7_readPart_114 rfl ?_
      have n0 : ¬ isK tk c 0 = true := fun q => by have := (isK_i.mp q).2; omega
      have n1 : ¬ isK tk c 1 = true := fun q => by have := (isK_i.mp q).2; omega
      have n4 : ¬ isK tk c 4 = true := fun q => by have := (isK_i.mp q).2; omega
      have n6 : ¬ isK tk c 6 = true := fun q => by have := (isK_i.mp q).2; omega
      have n11 : ¬ isK tk c 11 = true := fun q => by have := (isK_i.mp q).2; omega
      have e : ptA tk t S N c = (flC tk 2 c, S, N) := (if_neg n0).trans ((if_neg n1).trans ((if_neg n4).trans ((if_neg n6).trans (if_neg n11))))
      rw [e] at hQ
      exact hQ _ hc_111 (fun _ => ⟨VX_cu isW37 hV hf_111, VN_cu isW37 hN hf_111⟩) (((hf_111 14 0 (by unfold cuP; omega)).1.trans ht).trans (congrArg nI (if_neg n0)).symm) (hf_111.mo (fun _ _ h => cu_rd h))
    by_cases hs_4_6 : (nI (cd tk c)).toInt = 6
    · refine a_tabIn 93 dX7_readPart_4 (by omega) (by omega) (by rw [hs_4_6]; rfl) (by decide) ?_
      refine a_aload_n rfl dX7_readPart_93 ?_
      refine a_aload_n rfl dX7_readPart_94 ?_
      refine n_callS (mi' := miX7_readSitter) dX7_readPart_95 lX7_46 mX7_readSitter (c_X7_readSitter hK hT hC hV hF hN (fun M_95 hc_95 hv_95 hf_95 => ?_) d) rfl rfl (by omega) (by decide) (Nat.le_of_ble_eq_true rfl)
      show AW _ _ _ _ _ _ _
      refine a_goto 114 dX7_readPart_98 (by decide) ?_
      refine a_vret dX7_readPart_114 rfl ?_
      have hk : isK tk c 6 = true := isK_i.mpr ⟨h_1, by omega⟩
      have n0 : ¬ isK tk c 0 = true := fun q => by have := (isK_i.mp q).2; omega
      have n1 : ¬ isK tk c 1 = true := fun q => by have := (isK_i.mp q).2; omega
      have n4 : ¬ isK tk c 4 = true := fun q => by have := (isK_i.mp q).2; omega
      have e : ptA tk t S N c = ptS tk S N c := (if_neg n0).trans ((if_neg n1).trans ((if_neg n4).trans (if_pos hk)))
      rw [e] at hQ
      exact hQ _ hc_95 hv_95 (((hf_95 14 0 (by unfold rvP cuP; omega)).1.trans ht).trans (congrArg nI (if_neg n0)).symm) (hf_95.mo (fun _ _ h => rv_rw h))
    by_cases hs_4_7 : (nI (cd tk c)).toInt = 7
    · refine a_tabIn 109 dX7_readPart_4 (by omega) (by omega) (by rw [hs_4_7]; rfl) (by decide) ?_
      refine a_aload_n rfl dX7_readPart_109 ?_
      refine n_iconst 2 rfl dX7_readPart_110 ?_
      refine n_callV (mi' := miX4_fail) dX7_readPart_111 lX7_52 mX4_fail (by decide) rfl rfl rfl (c_X4_fail hK hT hC (by omega) (fun M_111 hc_111 hf_111 => ?_) d) rfl rfl (by omega) (by decide) (Nat.le_of_ble_eq_true rfl)
      show AW _ _ _ _ _ _ _
      refine a_vret dX7_readPart_114 rfl ?_
      have n0 : ¬ isK tk c 0 = true := fun q => by have := (isK_i.mp q).2; omega
      have n1 : ¬ isK tk c 1 = true := fun q => by have := (isK_i.mp q).2; omega
      have n4 : ¬ isK tk c 4 = true := fun q => by have := (isK_i.mp q).2; omega
      have n6 : ¬ isK tk c 6 = true := fun q => by have := (isK_i.mp q).2; omega
      have n11 : ¬ isK tk c 11 = true := fun q => by have := (isK_i.mp q).2; omega
      have e : ptA tk t S N c = (flC tk 2 c, S, N) := (if_neg n0).trans ((if_neg n1).trans ((if_neg n4).trans ((if_neg n6).trans (if_neg n11))))
      rw [e] at hQ
      exact hQ _ hc_111 (fun _ => ⟨VX_cu isW37 hV hf_111, VN_cu isW37 hN hf_111⟩) (((hf_111 14 0 (by unfold cuP; omega)).1.trans ht).trans (congrArg nI (if_neg n0)).symm) (hf_111.mo (fun _ _ h => cu_rd h))
    by_cases hs_4_8 : (nI (cd tk c)).toInt = 8
    · refine a_tabIn 109 dX7_readPart_4 (by omega) (by omega) (by rw [hs_4_8]; rfl) (by decide) ?_
      refine a_aload_n rfl dX7_readPart_109 ?_
      refine n_iconst 2 rfl dX7_readPart_110 ?_
      refine n_callV (mi' := miX4_fail) dX7_readPart_111 lX7_52 mX4_fail (by decide) rfl rfl rfl (c_X4_fail hK hT hC (by omega) (fun M_111 hc_111 hf_111 => ?_) d) rfl rfl (by omega) (by decide) (Nat.le_of_ble_eq_true rfl)
      show AW _ _ _ _ _ _ _
      refine a_vret dX7_readPart_114 rfl ?_
      have n0 : ¬ isK tk c 0 = true := fun q => by have := (isK_i.mp q).2; omega
      have n1 : ¬ isK tk c 1 = true := fun q => by have := (isK_i.mp q).2; omega
      have n4 : ¬ isK tk c 4 = true := fun q => by have := (isK_i.mp q).2; omega
      have n6 : ¬ isK tk c 6 = true := fun q => by have := (isK_i.mp q).2; omega
      have n11 : ¬ isK tk c 11 = true := fun q => by have := (isK_i.mp q).2; omega
      have e : ptA tk t S N c = (flC tk 2 c, S, N) := (if_neg n0).trans ((if_neg n1).trans ((if_neg n4).trans ((if_neg n6).trans (if_neg n11))))
      rw [e] at hQ
      exact hQ _ hc_111 (fun _ => ⟨VX_cu isW37 hV hf_111, VN_cu isW37 hN hf_111⟩) (((hf_111 14 0 (by unfold cuP; omega)).1.trans ht).trans (congrArg nI (if_neg n0)).symm) (hf_111.mo (fun _ _ h => cu_rd h))
    by_cases hs_4_9 : (nI (cd tk c)).toInt = 9
    · refine a_tabIn 109 dX7_readPart_4 (by omega) (by omega) (by rw [hs_4_9]; rfl) (by decide) ?_
      refine a_aload_n rfl dX7_readPart_109 ?_
      refine n_iconst 2 rfl dX7_readPart_110 ?_
      refine n_callV (mi' := miX4_fail) dX7_readPart_111 lX7_52 mX4_fail (by decide) rfl rfl rfl (c_X4_fail hK hT hC (by omega) (fun M_111 hc_111 hf_111 => ?_) d) rfl rfl (by omega) (by decide) (Nat.le_of_ble_eq_true rfl)
      show AW _ _ _ _ _ _ _
      refine a_vret dX7_readPart_114 rfl ?_
      have n0 : ¬ isK tk c 0 = true := fun q => by have := (isK_i.mp q).2; omega
      have n1 : ¬ isK tk c 1 = true := fun q => by have := (isK_i.mp q).2; omega
      have n4 : ¬ isK tk c 4 = true := fun q => by have := (isK_i.mp q).2; omega
      have n6 : ¬ isK tk c 6 = true := fun q => by have := (isK_i.mp q).2; omega
      have n11 : ¬ isK tk c 11 = true := fun q => by have := (isK_i.mp q).2; omega
      have e : ptA tk t S N c = (flC tk 2 c, S, N) := (if_neg n0).trans ((if_neg n1).trans ((if_neg n4).trans ((if_neg n6).trans (if_neg n11))))
      rw [e] at hQ
      exact hQ _ hc_111 (fun _ => ⟨VX_cu isW37 hV hf_111, VN_cu isW37 hN hf_111⟩) (((hf_111 14 0 (by unfold cuP; omega)).1.trans ht).trans (congrArg nI (if_neg n0)).symm) (hf_111.mo (fun _ _ h => cu_rd h))
    by_cases hs_4_10 : (nI (cd tk c)).toInt = 10
    · refine a_tabIn 109 dX7_readPart_4 (by omega) (by omega) (by rw [hs_4_10]; rfl) (by decide) ?_
      refine a_aload_n rfl dX7_readPart_109 ?_
      refine n_iconst 2 rfl dX7_readPart_110 ?_
      refine n_callV (mi' := miX4_fail) dX7_readPart_111 lX7_52 mX4_fail (by decide) rfl rfl rfl (c_X4_fail hK hT hC (by omega) (fun M_111 hc_111 hf_111 => ?_) d) rfl rfl (by omega) (by decide) (Nat.le_of_ble_eq_true rfl)
      show AW _ _ _ _ _ _ _
      refine a_vret dX7_readPart_114 rfl ?_
      have n0 : ¬ isK tk c 0 = true := fun q => by have := (isK_i.mp q).2; omega
      have n1 : ¬ isK tk c 1 = true := fun q => by have := (isK_i.mp q).2; omega
      have n4 : ¬ isK tk c 4 = true := fun q => by have := (isK_i.mp q).2; omega
      have n6 : ¬ isK tk c 6 = true := fun q => by have := (isK_i.mp q).2; omega
      have n11 : ¬ isK tk c 11 = true := fun q => by have := (isK_i.mp q).2; omega
      have e : ptA tk t S N c = (flC tk 2 c, S, N) := (if_neg n0).trans ((if_neg n1).trans ((if_neg n4).trans ((if_neg n6).trans (if_neg n11))))
      rw [e] at hQ
      exact hQ _ hc_111 (fun _ => ⟨VX_cu isW37 hV hf_111, VN_cu isW37 hN hf_111⟩) (((hf_111 14 0 (by unfold cuP; omega)).1.trans ht).trans (congrArg nI (if_neg n0)).symm) (hf_111.mo (fun _ _ h => cu_rd h))
    by_cases hs_4_11 : (nI (cd tk c)).toInt = 11
    · refine a_tabIn 101 dX7_readPart_4 (by omega) (by omega) (by rw [hs_4_11]; rfl) (by decide) ?_
      refine a_aload_n rfl dX7_readPart_101 ?_
      refine a_aload_n rfl dX7_readPart_102 ?_
      refine n_callS (mi' := miX7_readNews) dX7_readPart_103 lX7_49 mX7_readNews (c_X7_readNews hK hT hC hV hF hN (fun M_103 hc_103 hv_103 hf_103 => ?_) d) rfl rfl (by omega) (by decide) (Nat.le_of_ble_eq_true rfl)
      show AW _ _ _ _ _ _ _
      refine a_goto 114 dX7_readPart_106 (by decide) ?_
      refine a_vret dX7_readPart_114 rfl ?_
      have hk : isK tk c 11 = true := isK_i.mpr ⟨h_1, by omega⟩
      have n0 : ¬ isK tk c 0 = true := fun q => by have := (isK_i.mp q).2; omega
      have n1 : ¬ isK tk c 1 = true := fun q => by have := (isK_i.mp q).2; omega
      have n4 : ¬ isK tk c 4 = true := fun q => by have := (isK_i.mp q).2; omega
      have n6 : ¬ isK tk c 6 = true := fun q => by have := (isK_i.mp q).2; omega
      have e : ptA tk t S N c = ptN tk S N c := (if_neg n0).trans ((if_neg n1).trans ((if_neg n4).trans ((if_neg n6).trans (if_pos hk))))
      rw [e] at hQ
      exact hQ _ hc_103 hv_103 (((hf_103 14 0 (by unfold rvP cuP; omega)).1.trans ht).trans (congrArg nI (if_neg n0)).symm) (hf_103.mo (fun _ _ h => rv_rw h))
    refine a_tabOut 109 dX7_readPart_4 (by omega) (by decide) ?_
    refine a_aload_n rfl dX7_readPart_109 ?_
    refine n_iconst 2 rfl dX7_readPart_110 ?_
    refine n_callV (mi' := miX4_fail) dX7_readPart_111 lX7_52 mX4_fail (by decide) rfl rfl rfl (c_X4_fail hK hT hC (by omega) (fun M_111 hc_111 hf_111 => ?_) d) rfl rfl (by omega) (by decide) (Nat.le_of_ble_eq_true rfl)
    show AW _ _ _ _ _ _ _
    refine a_vret dX7_readPart_114 rfl ?_
    have n0 : ¬ isK tk c 0 = true := fun q => by have := (isK_i.mp q).2; omega
    have n1 : ¬ isK tk c 1 = true := fun q => by have := (isK_i.mp q).2; omega
    have n4 : ¬ isK tk c 4 = true := fun q => by have := (isK_i.mp q).2; omega
    have n6 : ¬ isK tk c 6 = true := fun q => by have := (isK_i.mp q).2; omega
    have n11 : ¬ isK tk c 11 = true := fun q => by have := (isK_i.mp q).2; omega
    have e : ptA tk t S N c = (flC tk 2 c, S, N) := (if_neg n0).trans ((if_neg n1).trans ((if_neg n4).trans ((if_neg n6).trans (if_neg n11))))
    rw [e] at hQ
    exact hQ _ hc_111 (fun _ => ⟨VX_cu isW37 hV hf_111, VN_cu isW37 hN hf_111⟩) (((hf_111 14 0 (by unfold cuP; omega)).1.trans ht).trans (congrArg nI (if_neg n0)).symm) (hf_111.mo (fun _ _ h => cu_rd h))
  · show AW _ _ _ _ _ _ _
    refine a_tabOut 109 dX7_readPart_4 (by decide) (by decide) ?_
    refine a_aload_n rfl dX7_readPart_109 ?_
    refine n_iconst 2 rfl dX7_readPart_110 ?_
    refine n_callV (mi' := miX4_fail) dX7_readPart_111 lX7_52 mX4_fail (by decide) rfl rfl rfl (c_X4_fail hK hT hC (by omega) (fun M_111 hc_111 hf_111 => ?_) d) rfl rfl (by omega) (by decide) (Nat.le_of_ble_eq_true rfl)
    show AW _ _ _ _ _ _ _
    refine a_vret dX7_readPart_114 rfl ?_
    have n0 : ¬ isK tk c 0 = true := fun q => h_1 (isK_i.mp q).1
    have n1 : ¬ isK tk c 1 = true := fun q => h_1 (isK_i.mp q).1
    have n4 : ¬ isK tk c 4 = true := fun q => h_1 (isK_i.mp q).1
    have n6 : ¬ isK tk c 6 = true := fun q => h_1 (isK_i.mp q).1
    have n11 : ¬ isK tk c 11 = true := fun q => h_1 (isK_i.mp q).1
    have e : ptA tk t S N c = (flC tk 2 c, S, N) := (if_neg n0).trans ((if_neg n1).trans ((if_neg n4).trans ((if_neg n6).trans (if_neg n11))))
    rw [e] at hQ
    exact hQ _ hc_111 (fun _ => ⟨VX_cu isW37 hV hf_111, VN_cu isW37 hN hf_111⟩) (((hf_111 14 0 (by unfold cuP; omega)).1.trans ht).trans (congrArg nI (if_neg n0)).symm) (hf_111.mo (fun _ _ h => cu_rd h))

theorem pt_WF {tk : Nat → TK} {t : Nat} {S : ST} {N : NM} {c : CC} (h : (ptA tk t S N c).1.2.1 = 0) (hF : WF S) : WF (ptA tk t S N c).2.1 ∧ c.2.1 = 0 ∧ c.1 < (ptA tk t S N c).1.1 := by
  unfold ptA at h ⊢
  have spi : ∀ q : CC, q.1 ≤ (spC tk q).1 := fun q => by unfold spC; split <;> (first | exact Nat.le_succ _ | exact Nat.le_refl _)
  have spz : ∀ q : CC, q.2.1 = 0 → kd tk q ≠ 0 → (spC tk q).1 = q.1 + 1 := fun q a b => by unfold spC; rw [if_pos ⟨a, b⟩]
  split at h
  · rename_i k
    rw [if_pos k]
    have z2 := num_0 (show (numC tk 0 16 (odA tk t c)).2.1 = 0 from h)
    have z1 := bg_0 (by decide) (show (bgC tk (decide (t = 1)) 5 c).2.1 = 0 from z2.1)
    refine ⟨WF_odd hF z2.2.2.2.1, z1.1, ?_⟩
    show c.1 < (numC tk 0 16 (odA tk t c)).1
    rw [z2.2.2.2.2, spz _ z2.1 (by rw [z2.2.1]; decide)]
    have : (odA tk t c).1 = (spC tk c).1 := congrArg Prod.fst z1.2.2
    have := spi c
    omega
  · rename_i k0
    rw [if_neg k0]
    split at h
    · rename_i k
      rw [if_pos k]
      have z5 := opn_0 (show (opN tk 3 0 100 (maD tk S N c)).2.1 = 0 from h)
      have v5 := opv_le (v := 0) (show (opN tk 3 0 100 (maD tk S N c)).2.1 = 0 from h) ⟨by omega, by omega⟩
      have z4 := num_0 (show (numC tk 0 20 (maC tk S N c)).2.1 = 0 from z5.1)
      have z3 := kwd_0 (show (kwdC tk 2 (maB tk S N c)).2.1 = 0 from z4.1)
      have z2 := new_0 (show (newC tk S N (maA tk S c)).2.1 = 0 from z3.1)
      have z1 := bg_0 (by decide) (show (bgC tk (decide (6 ≤ S 0 2)) 6 c).2.1 = 0 from z2.1)
      refine ⟨WF_addM hF (Nat.not_le.mp (of_decide_eq_false z1.2.1)) z4.2.2.2.1 v5.2, z1.1, ?_⟩
      show c.1 < (opN tk 3 0 100 (maD tk S N c)).1
      have a1 : (maA tk S c).1 = (spC tk c).1 := congrArg Prod.fst z1.2.2
      have a2 : (maB tk S N c).1 = (maA tk S c).1 + 1 := (congrArg Prod.fst z2.2.2.2.2).trans (spz _ z2.1 (by rw [z2.2.1]; decide))
      have a3 : (maC tk S N c).1 = (maB tk S N c).1 + 1 := (congrArg Prod.fst z3.2.2.2).trans (spz _ z3.1 (by rw [z3.2.1]; decide))
      have a4 : (maD tk S N c).1 = (maC tk S N c).1 + 1 := (congrArg Prod.fst z4.2.2.2.2).trans (spz _ z4.1 (by rw [z4.2.1]; decide))
      have a5 : (maD tk S N c).1 ≤ (opN tk 3 0 100 (maD tk S N c)).1 := by
        unfold opN
        split
        · rename_i e
          have z6 := num_0 (show (numC tk 0 100 (spC tk (maD tk S N c))).2.1 = 0 from by have h2 : (opN tk 3 0 100 (maD tk S N c)).2.1 = 0 := h; unfold opN at h2; rw [if_pos e] at h2; exact h2)
          rw [z6.2.2.2.2]
          exact Nat.le_trans (spi _) (spi _)
        · exact Nat.le_refl _
      have := spi c
      omega
    · rename_i k1
      rw [if_neg k1]
      split at h
      · rename_i k
        rw [if_pos k]
        have hE : (hoE tk S N c).2.1 = 0 := h
        have hcond : ¬ (hoX tk S N c = hoY tk S N c ∨ boundN S (hoX tk S N c) (hoY tk S N c) = true) := fun q => by
          unfold hoE at hE
          rw [if_pos q] at hE
          exact absurd (sp_0 hE) (fl_z (by decide))
        have eE : hoE tk S N c = spC tk (hoD tk S N c) := by unfold hoE; rw [if_neg hcond]
        have zD : (hoD tk S N c).2.1 = 0 := by rw [eE] at hE; exact sp_0 hE
        have z4 := ref_0 (show (refC tk (nmM tk S N (hoC tk S N c)) (hoC tk S N c)).2.1 = 0 from zD)
        have z3 := kwd_0 (show (kwdC tk 5 (hoB tk S N c)).2.1 = 0 from z4.1)
        have z2 := ref_0 (sp_0 (show (spC tk (refC tk (nmM tk S N (hoA tk S c)) (hoA tk S c))).2.1 = 0 from z3.1))
        have z1 := bg_0 (by decide) (show (bgC tk (decide (10 ≤ S 0 3)) 6 c).2.1 = 0 from z2.1)
        refine ⟨WF_addH hF (Nat.not_le.mp (of_decide_eq_false z1.2.1)) (nmM_lt z2.2.2.1) (nmM_lt z4.2.2.1) (fun e => hcond (Or.inl e)), z1.1, ?_⟩
        show c.1 < (hoE tk S N c).1
        have a1 : (hoA tk S c).1 = (spC tk c).1 := congrArg Prod.fst z1.2.2
        have a2 : (hoA tk S c).1 ≤ (hoB tk S N c).1 := by
          show _ ≤ (spC tk (refC tk (nmM tk S N (hoA tk S c)) (hoA tk S c))).1
          rw [z2.2.2.2]; exact spi _
        have a3 : (hoC tk S N c).1 = (hoB tk S N c).1 + 1 := (congrArg Prod.fst z3.2.2.2).trans (spz _ z3.1 (by rw [z3.2.1]; decide))
        have a4 : (hoD tk S N c).1 = (hoC tk S N c).1 := congrArg Prod.fst z4.2.2.2
        have a5 : (hoD tk S N c).1 ≤ (hoE tk S N c).1 := by rw [eE]; exact spi _
        have := spi c
        omega
      · rename_i k4
        rw [if_neg k4]
        split at h
        · rename_i k
          rw [if_pos k]
          have z9 := opn_0 (show (opN tk 10 1 9 (siH tk S N c)).2.1 = 0 from h)
          have v9 := opv_le (v := 1) (show (opN tk 10 1 9 (siH tk S N c)).2.1 = 0 from h) ⟨by omega, by omega⟩
          have z8 := ref_0 (sp_0 (show (spC tk (refC tk (nmM tk S N (siG tk S N c)) (siG tk S N c))).2.1 = 0 from z9.1))
          have z7 := kwd_0 (show (kwdC tk 9 (siF tk S N c)).2.1 = 0 from z8.1)
          have z6 := num_0 (show (numC tk 1 99 (siE tk S N c)).2.1 = 0 from z7.1)
          have z5 := kwd_0 (show (kwdC tk 8 (siD tk S N c)).2.1 = 0 from z6.1)
          have z4 := num_0 (show (numC tk 0 59 (siC tk S N c)).2.1 = 0 from z5.1)
          have z3 := kwd_0 (show (kwdC tk 7 (siB tk S N c)).2.1 = 0 from z4.1)
          have z2 := new_0 (show (newC tk S N (siA tk S c)).2.1 = 0 from z3.1)
          have z1 := bg_0 (by decide) (show (bgC tk (decide (7 ≤ S 0 4)) 6 c).2.1 = 0 from z2.1)
          refine ⟨WF_addS hF (Nat.not_le.mp (of_decide_eq_false z1.2.1)) z4.2.2.2.1 ⟨z6.2.2.1, z6.2.2.2.1⟩ (nmM_lt z8.2.2.1) v9, z1.1, ?_⟩
          show c.1 < (opN tk 10 1 9 (siH tk S N c)).1
          have a1 : (siA tk S c).1 = (spC tk c).1 := congrArg Prod.fst z1.2.2
          have a2 : (siB tk S N c).1 = (siA tk S c).1 + 1 := (congrArg Prod.fst z2.2.2.2.2).trans (spz _ z2.1 (by rw [z2.2.1]; decide))
          have a3 : (siC tk S N c).1 = (siB tk S N c).1 + 1 := (congrArg Prod.fst z3.2.2.2).trans (spz _ z3.1 (by rw [z3.2.1]; decide))
          have a4 : (siD tk S N c).1 = (siC tk S N c).1 + 1 := (congrArg Prod.fst z4.2.2.2.2).trans (spz _ z4.1 (by rw [z4.2.1]; decide))
          have a5 : (siE tk S N c).1 = (siD tk S N c).1 + 1 := (congrArg Prod.fst z5.2.2.2).trans (spz _ z5.1 (by rw [z5.2.1]; decide))
          have a6 : (siF tk S N c).1 = (siE tk S N c).1 + 1 := (congrArg Prod.fst z6.2.2.2.2).trans (spz _ z6.1 (by rw [z6.2.1]; decide))
          have a7 : (siG tk S N c).1 = (siF tk S N c).1 + 1 := (congrArg Prod.fst z7.2.2.2).trans (spz _ z7.1 (by rw [z7.2.1]; decide))
          have a8 : (siG tk S N c).1 ≤ (siH tk S N c).1 := by
            show _ ≤ (spC tk (refC tk (nmM tk S N (siG tk S N c)) (siG tk S N c))).1
            rw [z8.2.2.2]; exact spi _
          have a9 : (siH tk S N c).1 ≤ (opN tk 10 1 9 (siH tk S N c)).1 := by
            unfold opN
            split
            · rename_i e
              have z6 := num_0 (show (numC tk 1 9 (spC tk (siH tk S N c))).2.1 = 0 from by have h2 : (opN tk 10 1 9 (siH tk S N c)).2.1 = 0 := h; unfold opN at h2; rw [if_pos e] at h2; exact h2)
              rw [z6.2.2.2.2]
              exact Nat.le_trans (spi _) (spi _)
            · exact Nat.le_refl _
          have := spi c
          omega
        · rename_i k6
          rw [if_neg k6]
          split at h
          · rename_i k
            rw [if_pos k]
            have z4 := num_0 (show (numC tk 1 100 (neC tk S N c)).2.1 = 0 from h)
            have z3 := kwd_0 (show (kwdC tk 12 (neB tk S N c)).2.1 = 0 from z4.1)
            have z2 := ref_0 (sp_0 (show (spC tk (refC tk (nmM tk S N (neA tk S c)) (neA tk S c))).2.1 = 0 from z3.1))
            have z1 := bg_0 (by decide) (show (bgC tk (decide (8 ≤ S 0 5)) 6 c).2.1 = 0 from z2.1)
            refine ⟨WF_addN hF (Nat.not_le.mp (of_decide_eq_false z1.2.1)) (nmM_lt z2.2.2.1) ⟨z4.2.2.1, z4.2.2.2.1⟩, z1.1, ?_⟩
            show c.1 < (numC tk 1 100 (neC tk S N c)).1
            have a1 : (neA tk S c).1 = (spC tk c).1 := congrArg Prod.fst z1.2.2
            have a2 : (neA tk S c).1 ≤ (neB tk S N c).1 := by
              show _ ≤ (spC tk (refC tk (nmM tk S N (neA tk S c)) (neA tk S c))).1
              rw [z2.2.2.2]; exact spi _
            have a3 : (neC tk S N c).1 = (neB tk S N c).1 + 1 := (congrArg Prod.fst z3.2.2.2).trans (spz _ z3.1 (by rw [z3.2.1]; decide))
            have a4 : (numC tk 1 100 (neC tk S N c)).1 = (neC tk S N c).1 + 1 := (congrArg Prod.fst z4.2.2.2.2).trans (spz _ z4.1 (by rw [z4.2.1]; decide))
            have := spi c
            omega
          · exact absurd (show (flC tk 2 c).2.1 = 0 from h) (fl_z (by decide))
theorem ptW_0 {tk : Nat → TK} {x : PW} (h : (ptW tk x).1.2.1 = 0) (hF : WF x.2.1) : WF (ptW tk x).2.1 ∧ x.1.2.1 = 0 ∧ x.1.1 < (ptW tk x).1.1 := by
  have z1 := end_0 (show (endC tk (ptA tk x.2.2.2 x.2.1 x.2.2.1 x.1).1).2.1 = 0 from h)
  have z2 := pt_WF z1.1 hF
  refine ⟨z2.1, z2.2.1, ?_⟩
  show x.1.1 < (endC tk (ptA tk x.2.2.2 x.2.1 x.2.2.1 x.1).1).1
  rw [z1.2.2.2]
  have : ∀ q : CC, q.1 ≤ (spC tk q).1 := fun q => by unfold spC; split <;> (first | exact Nat.le_succ _ | exact Nat.le_refl _)
  exact Nat.lt_of_lt_of_le z2.2.2 (this _)
theorem ptW_t {tk : Nat → TK} {x : PW} (h : x.2.2.2 ≤ 1) : (ptW tk x).2.2.2 ≤ 1 := by
  show (if isK tk x.1 0 = true then 1 else x.2.2.2) ≤ 1
  split
  · exact Nat.le_refl _
  · exact h
theorem lpW_e {tk : Nat → TK} {f : Nat} {x : PW} (h : ¬ (x.1.2.1 = 0 ∧ kd tk x.1 ≠ 0)) : lpW tk f x = x := by
  cases f with
  | zero => rfl
  | succ f => rw [lpW, if_neg h]
theorem lpW_s {tk : Nat → TK} {f : Nat} {x : PW} (h : x.1.2.1 = 0) (hk : kd tk x.1 ≠ 0) : lpW tk (f + 1) x = lpW tk f (ptW tk x) := by rw [lpW, if_pos ⟨h, hk⟩]

set_option maxRecDepth 100000 in
set_option maxHeartbeats 800000 in
theorem c_allS {S0 : ST} {Y : YR} {g : Nat} (hY : WFY S0 Y) (hD : ∀ k, k < g → DAc S0 Y k) {a b : Nat} {M : Mm} {F : FN} (hM : MF M F) (hG : GF S0 F) (hYM : YM 0 M Y) (hl : lvl Y.2.2 a b) (hab : a ≤ b) (hbL : b ≤ Y.2.1) (hba : b - a ≤ g) {Q : Option Value → Mm → Prop} (hQ : ∀ M', MF M' (doA Y.2.2 g a b F) → FQ M M' → Q none M') (d : Nat) : AMt miX12_doAll (d + 2 * g + 9) [.ref 132, .int (nI (scN Y.2.2 a)), .int (nI (scN Y.2.2 b))] M Q := by
  refine AMt.of (by decide) (Nat.le_of_ble_eq_true rfl) ?_
  show AW miX12_doAll (d + 2 * g + 9) (mxA Q) 0 [(0, some (.ref 132)), (1, some (.int (nI (scN Y.2.2 a)))), (2, some (.int (nI (scN Y.2.2 b))))] [] M
  have hb := WFY_blk hY
  refine a_iload_n rfl dX12_doAll_0 ?_
  refine a_istore_n (by decide) rfl dX12_doAll_1 ?_
  have loop_2 : ∀ k, k ≤ g → ∀ (a1 : Nat) (F1 : FN) (M1 : Mm), MF M1 F1 → GF S0 F1 → YM 0 M1 Y → lvl Y.2.2 a1 b → a1 ≤ b → b - a1 ≤ k → (∀ M', MF M' (doA Y.2.2 k a1 b F1) → FQ M1 M' → Q none M') → AW miX12_doAll (d + 2 * g + 9) (mxA Q) 2 [(0, some (.ref 132)), (2, some (.int (nI (scN Y.2.2 b)))), (3, some (.int (nI (scN Y.2.2 a1))))] [] M1 := by
    intro k
    induction k with
    | zero =>
      intro hk a1 F1 M1 hM1 hG1 hY1 hl1 hab1 hba1 hq
      have hsb := Nat.le_trans (scN_mono Y.2.2 _ _ hbL) hY.2.2.1
      have hsa := scN_mono Y.2.2 _ _ hab1
      have hlt : a1 < b → scN Y.2.2 a1 + 1 ≤ scN Y.2.2 b := fun h => scN_lt h (lvl_no hb hl1 hbL h)
      have hov : F1.2.2.1 ≤ 1 := hG1.2.2.2.1
      have hz0 : scN Y.2.2 a1 = scN Y.2.2 b := by rw [show a1 = b by omega]
      refine a_iload_n rfl dX12_doAll_2 ?_
      refine a_iload_n rfl dX12_doAll_3 ?_
      refine n_icmp_ge 38 (by omega) (by omega) dX12_doAll_4 (by decide) (fun h_4 => ?_) (fun h_4 => absurd h_4 (by omega))
      refine a_vret dX12_doAll_38 rfl ?_
      exact hq M1 (by rw [doA_e (fun h => by have := hlt h; omega)]; exact hM1) fr.r
    | succ k ih =>
      intro hk a1 F1 M1 hM1 hG1 hY1 hl1 hab1 hba1 hq
      have hsb := Nat.le_trans (scN_mono Y.2.2 _ _ hbL) hY.2.2.1
      have hsa := scN_mono Y.2.2 _ _ hab1
      have hlt : a1 < b → scN Y.2.2 a1 + 1 ≤ scN Y.2.2 b := fun h => scN_lt h (lvl_no hb hl1 hbL h)
      have hov : F1.2.2.1 ≤ 1 := hG1.2.2.2.1
      refine a_iload_n rfl dX12_doAll_2 ?_
      refine a_iload_n rfl dX12_doAll_3 ?_
      refine n_icmp_ge 38 (by omega) (by omega) dX12_doAll_4 (by decide) (fun h_4 => ?_) (fun h_4 => ?_)
      · refine a_vret dX12_doAll_38 rfl ?_
        exact hq M1 (by rw [doA_e (fun h => by have := hlt h; omega)]; exact hM1) fr.r
      · refine a_aload_n rfl dX12_doAll_7 ?_
        refine g_i hM1.2.2.1 (by decide) rfl fX12_560 rfl dX12_doAll_8 ?_
        refine n_if_ne 38 (by omega) dX12_doAll_11 (by decide) (fun h_11 => ?_) (fun h_11 => ?_)
        · refine a_vret dX12_doAll_38 rfl ?_
          exact hq M1 (by rw [doA_o h_11]; exact hM1) fr.r
        · have h0 : F1.2.2.1 = 0 := by omega
          have ha1 : a1 < b := Nat.lt_of_le_of_ne hab1 (fun e => h_4 (Nat.le_of_eq (by rw [e])))
          have haL : a1 < Y.2.1 := by omega
          have hv1 := lvl_no hb hl1 hbL ha1
          have hnx := lvl_nx hb hl1 hbL ha1
          have hgt := nx_gt (s := Y.2.2) hb haL
          have hga1 : Y.2.2 a1 0 = 18 ∨ Y.2.2 a1 0 = 22 → Y.2.2 a1 5 - (a1 + 1) ≤ k := fun z => by have := hl1.2 a1 (Nat.le_refl _) ha1 z; omega
          refine a_aload_n rfl dX12_doAll_14 ?_
          refine a_iload_n rfl dX12_doAll_15 ?_
          refine n_callV (mi' := miX12_doOne) dX12_doAll_16 lX12_578 mX12_doOne (by decide) rfl rfl rfl (c_oneV (g := k) hY (hD k (by omega)) haL hv1 hga1 hM1 hG1 h0 hY1 (fun M_16 hm_16 hf_16 => ?_) d) rfl rfl (by omega) (by decide) (Nat.le_of_ble_eq_true rfl)
          show AW _ _ _ _ _ _ _
          have hnx8 : M_16.1 137 (92 + 9 * scN Y.2.2 a1 + 8) = nI (scN Y.2.2 (nxA Y.2.2 a1)) := ((YM_st (YM_fq hY1 hf_16) haL hv1).2.2.2.2.2).trans (congrArg nI (sc_nx hv1 hb haL))
          refine a_aload_n rfl dX12_doAll_19 ?_
          refine a_geta dX12_doAll_20 fX12_35 (by decide) rfl rfl ?_
          refine n_bipush 92 rfl dX12_doAll_23 ?_
          refine n_bipush 9 rfl dX12_doAll_25 ?_
          refine a_iload_n rfl dX12_doAll_27 ?_
          refine n_imul dX12_doAll_28 ?_
          refine n_iadd dX12_doAll_29 ?_
          refine n_bipush 8 rfl dX12_doAll_30 ?_
          refine n_iadd dX12_doAll_32 ?_
          refine v_iald (by omega) hnx8 (by decide) rfl (by decide) dX12_doAll_33 ?_
          refine a_istore_n (by decide) rfl dX12_doAll_34 ?_
          refine a_goto 2 dX12_doAll_35 (by decide) ?_
          have hgo := (GF_o (rec := doA Y.2.2 k) (L := Y.2.1) (fun a b F z q => GF_a hb (WFY_ok hY) k a b F z q) (WFY_ok hY a1 haL) (fun z => Nat.le_of_lt (hb.1 a1 haL z).2.1) hG1 h0).1
          exact a_bk (ih (by omega) (nxA Y.2.2 a1) _ M_16 hm_16 hgo (YM_fq hY1 hf_16) hnx.1 hnx.2 (by omega) (fun M2 q f => hq M2 (by rw [doA_s ha1 h0]; exact q) (hf_16.t f))) ⟨rfl, rfl, rfl, trivial⟩
  exact a_bk (loop_2 g (Nat.le_refl _) a F M hM hG hYM hl hab hba hQ) ⟨rfl, rfl, rfl, trivial⟩

theorem c_all {S0 : ST} {Y : YR} (hY : WFY S0 Y) (g : Nat) : DAc S0 Y g := by
  induction g using Nat.strongRecOn with
  | ind g ih =>
    intro a b M F hM hG hYM hl hab hbL hba Q hQ d
    exact c_allS hY ih hM hG hYM hl hab hbL hba hQ d

/-- a DAY behind which all is counted -/
def passN (S : ST) : ST := fun a b => if a = 2 then pdN S (S 2) b else if a = 0 ∧ b = 1 then S 0 1 + 1 else S a b
theorem passN_day (S : ST) (i : Nat) : passN (dayN S i) = dayN S (i + 1) := by
  funext a b
  unfold passN
  by_cases h2 : a = 2
  · rw [if_pos h2]
    subst h2
    rfl
  · rw [if_neg h2]
    by_cases h0 : a = 0 ∧ b = 1
    · rw [if_pos h0]
      obtain ⟨rfl, rfl⟩ := h0
      rfl
    · rw [if_neg h0]
      unfold dayN
      rw [if_neg h2, if_neg h0, if_neg h2, if_neg h0]
theorem dayN_0 (S : ST) : dayN S 0 = S := by
  funext a b
  unfold dayN
  by_cases h2 : a = 2
  · rw [if_pos h2]; subst h2; rfl
  · rw [if_neg h2]
    by_cases h0 : a = 0 ∧ b = 1
    · rw [if_pos h0]; obtain ⟨rfl, rfl⟩ := h0; rfl
    · rw [if_neg h0]
theorem pd_stuck {S : ST} (hF : WF S) {i : Nat} (hi : i < S 0 2) (h : (stkM S).testBit i = true) : pdN S (S 2) i = S 2 i := by
  rw [stk_eq hF] at h
  unfold pdN pdB
  rw [h]; simp
theorem pd_free {S : ST} (hF : WF S) {i : Nat} (hi : i < S 0 2) (h : (stkM S).testBit i = false) : pdN S (S 2) i = min 100 (S 2 i + S 1 i) := by
  rw [stk_eq hF] at h
  have hc := WF_clear hF i hi
  unfold pdN pdB
  rw [h]
  by_cases h1 : 0 < S 1 i
  · by_cases h2 : S 2 i < 100
    · simp [h1, h2]
    · simp [h1, h2]; omega
  · simp [h1]; omega
def psM (M : Mm) (S : ST) (i : Nat) : Mm := srM M 137 (fun b => if 6 ≤ b ∧ b < 6 + i then nI (pdN S (S 2) (b - 6)) else M.1 137 b)
theorem ps_o {M : Mm} {S : ST} {i a j : Nat} {v : Int32} (h : M.1 a j = v) (hn : a ≠ 137 ∨ ¬ (6 ≤ j ∧ j < 6 + i)) : (psM M S i).1 a j = v := by
  unfold psM
  by_cases ha : a = 137
  · subst ha
    rw [srM_at, if_neg (by omega)]; exact h
  · exact srN h ha
theorem ps_0 (M : Mm) (S : ST) : psM M S 0 = M := by
  refine Prod.ext (funext fun a => funext fun b => ?_) rfl
  by_cases ha : a = 137
  · subst ha
    exact (srM_at M 137 _ b).trans (by rw [if_neg (by omega)])
  · exact srN rfl ha
theorem ps_st (M : Mm) (S : ST) (i : Nat) {v : Int32} (hv : v = nI (pdN S (S 2) i)) : siM (psM M S i) 137 (6 + i) v = psM M S (i + 1) := by
  refine Prod.ext (funext fun a => funext fun b => ?_) rfl
  by_cases ha : a = 137
  · subst ha
    by_cases hb : b = 6 + i
    · subst hb
      rw [siS, hv]
      unfold psM
      rw [srM_at, if_pos (by omega), show 6 + i - 6 = i by omega]
    · rw [siN rfl (by omega)]
      unfold psM
      rw [srM_at, srM_at]
      by_cases c1 : 6 ≤ b ∧ b < 6 + i
      · have e1 : 6 ≤ b ∧ b < 6 + (i + 1) := by omega
        rw [if_pos c1, if_pos e1]
      · have e1 : ¬ (6 ≤ b ∧ b < 6 + (i + 1)) := by omega
        rw [if_neg c1, if_neg e1]
  · exact (siN (show (psM M S i).1 a b = M.1 a b from srN rfl ha) (by omega)).trans (show (psM M S (i + 1)).1 a b = M.1 a b from srN rfl ha).symm
theorem ps_sk {M : Mm} {S : ST} {i : Nat} (h : M.1 137 (6 + i) = nI (pdN S (S 2) i)) : psM M S i = psM M S (i + 1) := by
  refine Prod.ext (funext fun a => funext fun b => ?_) rfl
  by_cases ha : a = 137
  · subst ha
    unfold psM
    rw [srM_at, srM_at]
    by_cases hb : b = 6 + i
    · subst hb
      rw [if_neg (by omega), if_pos (by omega), show 6 + i - 6 = i by omega]; exact h
    · by_cases c1 : 6 ≤ b ∧ b < 6 + i
      · have e1 : 6 ≤ b ∧ b < 6 + (i + 1) := by omega
        rw [if_pos c1, if_pos e1]
      · have e1 : ¬ (6 ≤ b ∧ b < 6 + (i + 1)) := by omega
        rw [if_neg c1, if_neg e1]
  · exact (show (psM M S i).1 a b = M.1 a b from srN rfl ha).trans (show (psM M S (i + 1)).1 a b = M.1 a b from srN rfl ha).symm
theorem VM_pass {M : Mm} {S : ST} (hM : VM 0 M S) (hF : WF S) : VM 0 (siM (psM M S (S 0 2)) 137 5 (nI (S 0 1 + 1))) (passN S) := by
  obtain ⟨h0, h1, h2, h3, h4, h5, b2, b1, b3, b4, b5, b6, b7, b8, b9, b10, b11⟩ := VM_elim hM
  have hm := WF_m hF
  have hh := WF_h hF
  have hs := WF_s hF
  have hn := WF_n hF
  refine VM_intro (siN (ps_o h0 (by omega)) (by omega)) (siN (ps_o h1 (by omega)) (by omega)) (siN (ps_o h2 (by omega)) (by omega)) (siN (ps_o h3 (by omega)) (by omega)) (siN (ps_o h4 (by omega)) (by omega)) siS (fun j hj => ?_) (fun j hj => ?_) (fun j hj => ?_) (fun j hj => ?_) (fun j hj => ?_) (fun j hj => ?_) (fun j hj => ?_) (fun j hj => ?_) (fun j hj => ?_) (fun j hj => ?_) (fun j hj => ?_)
  · have hj : j < S 0 2 := hj
    refine siN ?_ (by omega)
    unfold psM
    rw [srM_at, if_pos (by omega), show 6 + j - 6 = j by omega]; rfl
  · have hj : j < S 0 2 := hj
    exact siN (ps_o (b1 j hj) (by omega)) (by omega)
  · have hj : j < S 0 3 := hj
    exact siN (ps_o (b3 j hj) (by omega)) (by omega)
  · have hj : j < S 0 3 := hj
    exact siN (ps_o (b4 j hj) (by omega)) (by omega)
  · have hj : j < S 0 4 := hj
    exact siN (ps_o (b5 j hj) (by omega)) (by omega)
  · have hj : j < S 0 4 := hj
    exact siN (ps_o (b6 j hj) (by omega)) (by omega)
  · have hj : j < S 0 4 := hj
    exact siN (ps_o (b7 j hj) (by omega)) (by omega)
  · have hj : j < S 0 4 := hj
    exact siN (ps_o (b8 j hj) (by omega)) (by omega)
  · have hj : j < S 0 5 := hj
    exact siN (ps_o (b9 j hj) (by omega)) (by omega)
  · have hj : j < S 0 5 := hj
    exact siN (ps_o (b10 j hj) (by omega)) (by omega)
  · have hj : j < S 0 5 := hj
    exact siN (ps_o (b11 j hj) (by omega)) (by omega)

set_option maxRecDepth 100000 in
set_option maxHeartbeats 800000 in
theorem c_X12_passes {M : Mm} {S : ST} (hM : VM 0 M S) (hF : WF S) {Q : Option Value → Mm → Prop} (hQ : ∀ M', VM 0 M' (passN S) → (∀ k j, ¬ (k = 137 ∧ j < 90) → M'.1 k j = M.1 k j) → M'.2 = M.2 → Q none M') (d : Nat) : AMt miX12_passes (d + 3) [.ref 132] M Q := by
  refine AMt.of (by decide) (Nat.le_of_ble_eq_true rfl) ?_
  show AW miX12_passes (d + 3) (mxA Q) 0 [(0, some (.ref 132))] [] M
  have hm := WF_m hF
  have hh := WF_h hF
  have hs := WF_s hF
  have hn := WF_n hF
  have hdy := WF_day hF
  have hsl := stkN_lt hF (S 2)
  rw [← stk_eq hF] at hsl
  refine a_aload_n rfl dX12_passes_0 ?_
  refine n_callV (mi' := miX12_stuckOnes) dX12_passes_1 lX12_348 mX12_stuckOnes (by decide) rfl rfl rfl (c_X12_stuckOnes hM hF ?_ d) rfl rfl (by omega) (by decide) (Nat.le_of_ble_eq_true rfl)
  show AW _ _ _ _ _ _ _
  refine a_istore_n (by decide) rfl dX12_passes_4 ?_
  refine n_iconst 0 rfl dX12_passes_5 ?_
  refine a_istore_n (by decide) rfl dX12_passes_6 ?_
  have loop_7 : ∀ i, i ≤ S 0 2 → AW miX12_passes (d + 3) (mxA Q) 7 [(0, some (.ref 132)), (1, some (.int (nI (stkM S)))), (2, some (.int (nI i)))] [] (psM M S i) := by
    refine up (S 0 2) ?_ (fun i hi_7 ih_7 => ?_)
    · refine a_iload_n rfl dX12_passes_7 ?_
      refine a_aload_n rfl dX12_passes_8 ?_
      refine a_geta dX12_passes_9 fX12_35 (by decide) rfl rfl ?_
      refine n_iconst 0 rfl dX12_passes_12 ?_
      refine v_iald (by omega) (ps_o (VM_s0 hM) (by omega)) (by decide) rfl (by decide) dX12_passes_13 ?_
      refine n_icmp_ge 45 (by omega) (by omega) dX12_passes_14 (by decide) (fun h_14 => ?_) (fun h_14 => absurd h_14 (by omega))
      refine a_aload_n rfl dX12_passes_45 ?_
      refine a_geta dX12_passes_46 fX12_35 (by decide) rfl rfl ?_
      refine n_iconst 5 rfl dX12_passes_49 ?_
      refine a_dup2i rfl rfl dX12_passes_50 ?_
      refine v_iald (by omega) (ps_o (VM_s5 hM) (by omega)) (by decide) rfl (by decide) dX12_passes_51 ?_
      refine n_iconst 1 rfl dX12_passes_52 ?_
      refine n_iadd dX12_passes_53 ?_
      refine n_iast (by omega) (by decide) rfl (by decide) dX12_passes_54 ?_
      refine a_vret dX12_passes_55 rfl ?_
      exact hQ _ (VM_pass hM hF) (fun k j h => siN (ps_o rfl (by omega)) (by omega)) rfl
    · have h1 := WF_clear hF i hi_7
      have h2 := WF_pace hF i hi_7
      refine a_iload_n rfl dX12_passes_7 ?_
      refine a_aload_n rfl dX12_passes_8 ?_
      refine a_geta dX12_passes_9 fX12_35 (by decide) rfl rfl ?_
      refine n_iconst 0 rfl dX12_passes_12 ?_
      refine v_iald (by omega) (ps_o (VM_s0 hM) (by omega)) (by decide) rfl (by decide) dX12_passes_13 ?_
      refine n_icmp_ge 45 (by omega) (by omega) dX12_passes_14 (by decide) (fun h_14 => absurd h_14 (by omega)) (fun h_14 => ?_)
      refine a_iload_n rfl dX12_passes_17 ?_
      refine a_iload_n rfl dX12_passes_18 ?_
      refine n_callS (mi' := miX12_has) dX12_passes_19 lX12_108 mX12_has (c_X12_has (by omega) (by omega) (fun h_19 => ?_) (fun h_19 => ?_) d) rfl rfl (by omega) (by decide) (Nat.le_of_ble_eq_true rfl)
      · show AW _ _ _ _ _ _ _
        refine n_if_ne 39 (by decide) dX12_passes_22 (by decide) (fun _ => ?_) (fun h => absurd h (by decide))
        refine n_iinc (c := 1) rfl rfl (by decide) rfl dX12_passes_39 ?_
        refine a_goto 7 dX12_passes_42 (by decide) ?_
        rw [← ps_sk (M := M) (S := S) (i := i) (by rw [VM_a6 hM hi_7, pd_stuck hF hi_7 h_19])] at ih_7
        exact a_bk ih_7 ⟨rfl, rfl, rfl, trivial⟩
      · show AW _ _ _ _ _ _ _
        refine n_if_ne 39 (by decide) dX12_passes_22 (by decide) (fun h => absurd h (by decide)) (fun _ => ?_)
        refine a_aload_n rfl dX12_passes_25 ?_
        refine a_iload_n rfl dX12_passes_26 ?_
        refine a_aload_n rfl dX12_passes_27 ?_
        refine a_geta dX12_passes_28 fX12_35 (by decide) rfl rfl ?_
        refine n_bipush 12 rfl dX12_passes_31 ?_
        refine a_iload_n rfl dX12_passes_33 ?_
        refine n_iadd dX12_passes_34 ?_
        refine v_iald (by omega) (ps_o (VM_a12 hM (j := i) (by omega)) (by omega)) (by decide) rfl (by decide) dX12_passes_35 ?_
        refine n_callV (mi' := miX12_clears) dX12_passes_36 lX12_389 mX12_clears (by decide) rfl rfl rfl (c_X12_clears (by omega) (ps_o (VM_a6 hM (j := i) (by omega)) (by omega)) (by omega) (by omega) ?_ d) rfl rfl (by omega) (by decide) (Nat.le_of_ble_eq_true rfl)
        show AW _ _ _ _ _ _ _
        refine n_iinc (c := 1) rfl rfl (by decide) rfl dX12_passes_39 ?_
        refine a_goto 7 dX12_passes_42 (by decide) ?_
        rw [← ps_st M S i (v := nI (min 100 (S 2 i + S 1 i))) (by rw [pd_free hF hi_7 h_19])] at ih_7
        exact a_bk ih_7 ⟨rfl, rfl, rfl, trivial⟩
  have l0 := loop_7 0 (by omega)
  rw [ps_0] at l0
  exact a_bk l0 ⟨rfl, rfl, rfl, trivial⟩

set_option maxRecDepth 100000 in
set_option maxHeartbeats 800000 in
theorem c_X12_day {M : Mm} {T : TT} (hI : IM M T) (hG : TG T) {x : Int32} {Q : Option Value → Mm → Prop} (hQ : ∀ M', IM M' (sp_day x T).2 → keX M M' → Q (some (.int (sp_day x T).1)) M') (d : Nat) : AMt miX12_day (d + 4) [.ref 132, .int x] M Q := by
  refine AMt.of (by decide) (Nat.le_of_ble_eq_true rfl) ?_
  show AW miX12_day (d + 4) (mxA Q) 0 [(0, some (.ref 132)), (1, some (.int x))] [] M
  have hF : WF (tS T) := hG.1.1
  have hM : VM 0 M (tS T) := hI.1.1
  have hM1 := m0_VM hM hF
  have hm := WF_m hF
  have hh := WF_h hF
  have hs := WF_s hF
  have hn := WF_n hF
  have hdy := WF_day hF
  refine a_aload_n rfl dX12_day_0 ?_
  refine n_iconst 0 rfl dX12_day_1 ?_
  refine a_puti dX12_day_2 pX12_69 (by decide) rfl rfl ?_
  refine a_aload_n rfl dX12_day_5 ?_
  refine n_iconst 0 rfl dX12_day_6 ?_
  refine a_puti dX12_day_7 pX12_72 (by decide) rfl rfl ?_
  show AW miX12_day (d + 4) (mxA Q) 10 [(0, some (.ref 132)), (1, some (.int x))] [] (m0 M)
  refine a_iload_n rfl dX12_day_10 ?_
  refine a_i2l dX12_day_11 ?_
  refine a_lconst 1 rfl dX12_day_12 ?_
  refine a_ldc2 kX12_392 dX12_day_13 ?_
  refine n_callS (mi' := miX12_isIn) dX12_day_16 lX12_104 mX12_isIn (c_X12_isIn (fun h_16 => ?_) (fun h_16 => ?_) d) rfl rfl (by omega) (by decide) (Nat.le_of_ble_eq_true rfl)
  · show AW _ _ _ _ _ _ _
    have h_16 := isIn4 (x := x) (a := 1) (b := 999) (by decide) (by decide) h_16
    refine n_if_ne 28 (by decide) dX12_day_19 (by decide) (fun _ => ?_) (fun h => absurd h (by decide))
    obtain ⟨j1, hj1, rfl⟩ := inR_of (x := x) (m := 1000) (by omega) (by omega) (by omega)
    have t_j1 : (nI j1).toInt = (j1 : Int) := nI_toInt (by omega)
    refine a_aload_n rfl dX12_day_28 ?_
    refine a_geta dX12_day_29 fX12_35 (by decide) rfl rfl ?_
    refine n_iconst 5 rfl dX12_day_32 ?_
    refine v_iald (by omega) (VM_s5 hM1) (by decide) rfl (by decide) dX12_day_33 ?_
    refine a_iload_n rfl dX12_day_34 ?_
    refine n_iadd dX12_day_35 ?_
    refine n_sipush 9999 rfl dX12_day_36 ?_
    refine n_icmp_le 49 (by omega) (by omega) dX12_day_39 (by decide) (fun h_39 => ?_) (fun h_39 => ?_)
    · refine n_iconst 0 rfl dX12_day_49 ?_
      refine a_istore_n (by decide) rfl dX12_day_50 ?_
      have loop_51 : ∀ i, i ≤ j1 → ∀ M1, (VM 0 M1 (dayN (tS T) i) ∧ (∀ k j, ¬ (k = 137 ∧ j < 90) → (M1).1 k j = (m0 M).1 k j) ∧ (M1).2 = (m0 M).2) → AW miX12_day (d + 4) (mxA Q) 51 [(0, some (.ref 132)), (1, some (.int (nI j1))), (2, some (.int (nI i)))] [] M1 := by
        refine up (W := fun i => ∀ M1, (VM 0 M1 (dayN (tS T) i) ∧ (∀ k j, ¬ (k = 137 ∧ j < 90) → (M1).1 k j = (m0 M).1 k j) ∧ (M1).2 = (m0 M).2) → AW miX12_day (d + 4) (mxA Q) 51 [(0, some (.ref 132)), (1, some (.int (nI j1))), (2, some (.int (nI i)))] [] M1) j1 (fun M1 hI_51 => ?_) (fun i hi_51 ih_51 M1 hI_51 => ?_)
        · refine a_iload_n rfl dX12_day_51 ?_
          refine a_iload_n rfl dX12_day_52 ?_
          refine n_icmp_ge 66 (by omega) (by omega) dX12_day_53 (by decide) (fun h_53 => ?_) (fun h_53 => absurd h_53 (by omega))
          refine a_aload_n rfl dX12_day_66 ?_
          refine n_callV (mi' := miX12_downOnes) dX12_day_67 lX12_351 mX12_downOnes (by decide) rfl rfl rfl (c_X12_downOnes hI_51.1 (WF_day2 hF (by omega)) ?_ d) rfl rfl (by omega) (by decide) (Nat.le_of_ble_eq_true rfl)
          show AW _ _ _ _ _ _ _
          refine a_iret dX12_day_70 rfl ?_
          exact finM hQ hI hG (S' := dayN (tS T) j1) (by unfold sp_day; rw [if_pos (by omega), if_pos (by omega), idx_nI (show j1 < 2 ^ 31 by omega)]; rfl) hI_51.1 rfl rfl ((hI_51.2.1 132 0 (by omega)).trans m0_s) (fun k j h h0 hw => (hI_51.2.1 k j hw).trans (m0_o (by unfold coM at h; omega))) (fun k j h => by rw [hI_51.2.2]; rfl) ⟨fun k hk => funext fun j => (hI_51.2.1 k j (by omega)).trans (m0_o (by omega)), fun k hk => by rw [hI_51.2.2]; rfl⟩
        · refine a_iload_n rfl dX12_day_51 ?_
          refine a_iload_n rfl dX12_day_52 ?_
          refine n_icmp_ge 66 (by omega) (by omega) dX12_day_53 (by decide) (fun h_53 => absurd h_53 (by omega)) (fun h_53 => ?_)
          refine a_aload_n rfl dX12_day_56 ?_
          refine n_callV (mi' := miX12_passes) dX12_day_57 lX12_394 mX12_passes (by decide) rfl rfl rfl (c_X12_passes (S := dayN (tS T) i) hI_51.1 (WF_day2 hF (by omega)) (fun M_57 hV_57 hfr_57 hf2_57 => ?_) d) rfl rfl (by omega) (by decide) (Nat.le_of_ble_eq_true rfl)
          show AW _ _ _ _ _ _ _
          refine n_iinc (c := 1) rfl rfl (by decide) rfl dX12_day_60 ?_
          refine a_goto 51 dX12_day_63 (by decide) ?_
          exact a_bk (ih_51 _ ⟨by rw [← passN_day]; exact hV_57, fun k j h => (hfr_57 k j h).trans (hI_51.2.1 k j h), hf2_57.trans hI_51.2.2⟩) ⟨rfl, rfl, rfl, trivial⟩
      exact a_bk (loop_51 0 (by omega) _ ⟨by rw [dayN_0]; exact hM1, fun _ _ _ => rfl, rfl⟩) ⟨rfl, rfl, rfl, trivial⟩
    · refine a_aload_n rfl dX12_day_42 ?_
      refine n_bipush 7 rfl dX12_day_43 ?_
      refine n_callV (mi' := miX12_refuse) dX12_day_45 lX12_345 mX12_refuse (by decide) rfl rfl rfl (c_X12_refuse ?_ d) rfl rfl (by omega) (by decide) (Nat.le_of_ble_eq_true rfl)
      show AW _ _ _ _ _ _ _
      refine a_iret dX12_day_48 rfl ?_
      exact finM hQ hI hG (S' := (tS T)) (by unfold sp_day; rw [if_pos (by omega), if_neg (by omega)]) (VM_e hM (fun j hj => (siN (m0_o (by omega)) (by omega))) hF) rfl rfl siS (fun k j h h0 hw => (siN (m0_o (by unfold coM at h; omega)) (by unfold coM at h; omega))) (fun k j h => rfl) ⟨fun k hk => funext fun j => (siN (m0_o (by omega)) (by omega)), fun k hk => funext fun j => rfl⟩
  · show AW _ _ _ _ _ _ _
    have h_16 := isIn4n (x := x) (a := 1) (b := 999) (by decide) (by decide) h_16
    refine n_if_ne 28 (by decide) dX12_day_19 (by decide) (fun h => absurd h (by decide)) (fun _ => ?_)
    refine a_aload_n rfl dX12_day_22 ?_
    refine n_iconst 5 rfl dX12_day_23 ?_
    refine n_callV (mi' := miX12_refuse) dX12_day_24 lX12_345 mX12_refuse (by decide) rfl rfl rfl (c_X12_refuse ?_ d) rfl rfl (by omega) (by decide) (Nat.le_of_ble_eq_true rfl)
    show AW _ _ _ _ _ _ _
    refine a_iret dX12_day_27 rfl ?_
    exact finM hQ hI hG (S' := (tS T)) (by unfold sp_day; rw [if_neg (by omega)]) (VM_e hM (fun j hj => (siN (m0_o (by omega)) (by omega))) hF) rfl rfl siS (fun k j h h0 hw => (siN (m0_o (by unfold coM at h; omega)) (by unfold coM at h; omega))) (fun k j h => rfl) ⟨fun k hk => funext fun j => (siN (m0_o (by omega)) (by omega)), fun k hk => funext fun j => rfl⟩

/-- what a question leaves: thrown is 0 -/
theorem IM_th {M : Mm} {T : TT} (h : IM M T) {v : Int32} : IM (siM M 132 1 v) T := by
  obtain ⟨h1, h2, h3, h4, h5, h6, h7, h8⟩ := h
  have e : ∀ k, 132 < k → (siM M 132 1 v).1 k = M.1 k := fun k hk => funext fun j => siN rfl (by omega)
  have wm : ∀ b W, WM b M W → WM b (siM M 132 1 v) W := fun b W hw => by
    unfold WM VM VNM YM at hw ⊢
    rw [e 137 (by omega)]
    exact hw
  refine ⟨wm 0 _ h1, ?_, ?_, ?_, ?_, ?_, ?_, fun i hi => wm _ _ (h8 i hi)⟩
  · unfold RM at h2 ⊢
    rw [e 133 (by omega), e 134 (by omega)]; exact h2
  · rw [e 136 (by omega)]; exact ⟨siN h3.1 (by omega), h3.2⟩
  · exact ⟨siN h4.1 (by omega), h4.2⟩
  · exact ⟨siN h5.1 (by omega), siN h5.2 (by omega)⟩
  · rw [e 146 (by omega)]; exact ⟨siN h6.1 (by omega), h6.2⟩
  · exact siN h7 (by omega)
theorem keX_th {M : Mm} {v : Int32} : keX M (siM M 132 1 v) := ⟨fun k hk => funext fun j => siN rfl (by omega), fun _ _ => rfl⟩

set_option maxRecDepth 100000 in
set_option maxHeartbeats 800000 in
theorem c_X12_status {M : Mm} {T : TT} (hI : IM M T) {Q : Option Value → Mm → Prop} (hQ : Q (some (.int (nI (tE T).1))) (siM M 132 1 (nI 0))) (d : Nat) : AMt miX12_status (d) [.ref 132] M Q := by
  refine AMt.of (by decide) (Nat.le_of_ble_eq_true rfl) ?_
  show AW miX12_status (d) (mxA Q) 0 [(0, some (.ref 132))] [] M
  refine a_aload_n rfl dX12_status_0 ?_
  refine n_iconst 0 rfl dX12_status_1 ?_
  refine a_puti dX12_status_2 pX12_69 (by decide) rfl rfl ?_
  refine a_aload_n rfl dX12_status_5 ?_
  refine a_geti dX12_status_6 fX12_72 (by decide) rfl rfl ?_
  refine a_iret dX12_status_9 rfl ?_
  rw [show (siM M 132 1 (nI 0)).1 132 0 = _ from siN hI.2.2.2.1.1 (by omega)]
  exact hQ

set_option maxRecDepth 100000 in
set_option maxHeartbeats 800000 in
theorem c_X12_top {M : Mm} {T : TT} (hI : IM M T) {Q : Option Value → Mm → Prop} (hQ : Q (some (.long (tE T).2.1)) (siM M 132 1 (nI 0))) (d : Nat) : AMt miX12_top (d) [.ref 132] M Q := by
  refine AMt.of (by decide) (Nat.le_of_ble_eq_true rfl) ?_
  show AW miX12_top (d) (mxA Q) 0 [(0, some (.ref 132))] [] M
  refine a_aload_n rfl dX12_top_0 ?_
  refine n_iconst 0 rfl dX12_top_1 ?_
  refine a_puti dX12_top_2 pX12_69 (by decide) rfl rfl ?_
  refine a_aload_n rfl dX12_top_5 ?_
  refine a_getl dX12_top_6 fX12_75 (by decide) rfl rfl ?_
  refine a_lret dX12_top_9 rfl ?_
  rw [show (siM M 132 1 (nI 0)).2 132 2 = _ from hI.2.2.2.1.2.1]
  exact hQ

set_option maxRecDepth 100000 in
set_option maxHeartbeats 800000 in
theorem c_X12_bottom {M : Mm} {T : TT} (hI : IM M T) {Q : Option Value → Mm → Prop} (hQ : Q (some (.long (tE T).2.2)) (siM M 132 1 (nI 0))) (d : Nat) : AMt miX12_bottom (d) [.ref 132] M Q := by
  refine AMt.of (by decide) (Nat.le_of_ble_eq_true rfl) ?_
  show AW miX12_bottom (d) (mxA Q) 0 [(0, some (.ref 132))] [] M
  refine a_aload_n rfl dX12_bottom_0 ?_
  refine n_iconst 0 rfl dX12_bottom_1 ?_
  refine a_puti dX12_bottom_2 pX12_69 (by decide) rfl rfl ?_
  refine a_aload_n rfl dX12_bottom_5 ?_
  refine a_getl dX12_bottom_6 fX12_7 (by decide) rfl rfl ?_
  refine a_lret dX12_bottom_9 rfl ?_
  rw [show (siM M 132 1 (nI 0)).2 132 3 = _ from hI.2.2.2.1.2.2]
  exact hQ

set_option maxRecDepth 100000 in
set_option maxHeartbeats 800000 in
theorem c_X12_fault {M : Mm} {T : TT} (hI : IM M T) {x : Int32} {Q : Option Value → Mm → Prop} (hQ : Q (some (.int (sp_fault x T).1)) (siM M 132 1 (nI 0))) (d : Nat) : AMt miX12_fault (d) [.ref 132, .int x] M Q := by
  refine AMt.of (by decide) (Nat.le_of_ble_eq_true rfl) ?_
  show AW miX12_fault (d) (mxA Q) 0 [(0, some (.ref 132)), (1, some (.int x))] [] M
  refine a_aload_n rfl dX12_fault_0 ?_
  refine n_iconst 0 rfl dX12_fault_1 ?_
  refine a_puti dX12_fault_2 pX12_69 (by decide) rfl rfl ?_
  refine a_iload_n rfl dX12_fault_5 ?_
  refine r_if_ne 16 dX12_fault_6 (by decide) (fun h_6 => ?_) (fun h_6 => ?_)
  · refine a_iload_n rfl dX12_fault_16 ?_
    refine n_iconst 1 rfl dX12_fault_17 ?_
    refine r_icmp_ne 28 (by omega) dX12_fault_18 (by decide) (fun h_18 => ?_) (fun h_18 => ?_)
    · refine a_iconst (-1) rfl dX12_fault_28 ?_
      refine a_iret dX12_fault_29 rfl ?_
      rw [show (sp_fault x T).1 = -1 by unfold sp_fault; rw [if_neg (by omega), if_neg (by omega)]] at hQ
      exact hQ
    · refine a_aload_n rfl dX12_fault_21 ?_
      refine a_geti dX12_fault_22 fX12_32 (by decide) rfl rfl ?_
      refine a_goto 29 dX12_fault_25 (by decide) ?_
      refine a_iret dX12_fault_29 rfl ?_
      rw [show (siM M 132 1 (nI 0)).1 132 11 = _ from siN hI.2.2.2.2.1.2 (by omega)]
      rw [show (sp_fault x T).1 = (tF T).2 by unfold sp_fault; rw [if_neg (by omega), if_pos (by omega)]] at hQ
      exact hQ
  · refine a_aload_n rfl dX12_fault_9 ?_
    refine a_geti dX12_fault_10 fX12_28 (by decide) rfl rfl ?_
    refine a_goto 29 dX12_fault_13 (by decide) ?_
    refine a_iret dX12_fault_29 rfl ?_
    rw [show (siM M 132 1 (nI 0)).1 132 10 = _ from siN hI.2.2.2.2.1.1 (by omega)]
    rw [show (sp_fault x T).1 = (tF T).1 by unfold sp_fault; rw [if_pos (by omega)]] at hQ
    exact hQ

set_option maxRecDepth 100000 in
set_option maxHeartbeats 800000 in
theorem c_X12_heights {M : Mm} {S : ST} (hM : VM 0 M S) (hF : WF S) {Q : Option Value → Mm → Prop} (hQ : Q (some (.int (nI (sumN (fun p => hgt (S 6 p) (S 2 (S 7 p))) (S 0 4))))) M) (d : Nat) : AMt miX12_heights (d + 2) [.ref 132] M Q := by
  refine AMt.of (by decide) (Nat.le_of_ble_eq_true rfl) ?_
  show AW miX12_heights (d + 2) (mxA Q) 0 [(0, some (.ref 132))] [] M
  have hm := WF_m hF
  have hh := WF_h hF
  have hs := WF_s hF
  have hn := WF_n hF
  refine n_iconst 0 rfl dX12_heights_0 ?_
  refine a_istore_n (by decide) rfl dX12_heights_1 ?_
  refine n_iconst 0 rfl dX12_heights_2 ?_
  refine a_istore_n (by decide) rfl dX12_heights_3 ?_
  have loop_4 : ∀ i, i ≤ S 0 4 → AW miX12_heights (d + 2) (mxA Q) 4 [(0, some (.ref 132)), (1, some (.int (nI (sumN (fun p => hgt (S 6 p) (S 2 (S 7 p))) i)))), (2, some (.int (nI i)))] [] M := by
    refine up (S 0 4) ?_ (fun i hi_4 ih_4 => ?_)
    · refine a_iload_n rfl dX12_heights_4 ?_
      refine a_aload_n rfl dX12_heights_5 ?_
      refine a_geta dX12_heights_6 fX12_35 (by decide) rfl rfl ?_
      refine n_iconst 2 rfl dX12_heights_9 ?_
      refine v_iald (by omega) (VM_s2 hM) (by decide) rfl (by decide) dX12_heights_10 ?_
      refine n_icmp_ge 28 (by omega) (by omega) dX12_heights_11 (by decide) (fun h_11 => ?_) (fun h_11 => absurd h_11 (by omega))
      refine a_iload_n rfl dX12_heights_28 ?_
      refine a_iret dX12_heights_29 rfl ?_
      exact hQ
    · refine a_iload_n rfl dX12_heights_4 ?_
      refine a_aload_n rfl dX12_heights_5 ?_
      refine a_geta dX12_heights_6 fX12_35 (by decide) rfl rfl ?_
      refine n_iconst 2 rfl dX12_heights_9 ?_
      refine v_iald (by omega) (VM_s2 hM) (by decide) rfl (by decide) dX12_heights_10 ?_
      refine n_icmp_ge 28 (by omega) (by omega) dX12_heights_11 (by decide) (fun h_11 => absurd h_11 (by omega)) (fun h_11 => ?_)
      refine a_iload_n rfl dX12_heights_14 ?_
      refine a_aload_n rfl dX12_heights_15 ?_
      refine a_iload_n rfl dX12_heights_16 ?_
      refine n_callV (mi' := miX12_heightOf) dX12_heights_17 lX12_340 mX12_heightOf (by decide) rfl rfl rfl (c_X12_heightOf hM hF (by omega) ?_ d) rfl rfl (by omega) (by decide) (Nat.le_of_ble_eq_true rfl)
      show AW _ _ _ _ _ _ _
      refine n_iadd dX12_heights_20 ?_
      refine a_istore_n (by decide) rfl dX12_heights_21 ?_
      refine n_iinc (c := 1) rfl rfl (by decide) rfl dX12_heights_22 ?_
      refine a_goto 4 dX12_heights_25 (by decide) ?_
      exact a_bk ih_4 ⟨rfl, rfl, rfl, trivial⟩
  exact a_bk (loop_4 0 (by omega)) ⟨rfl, rfl, rfl, trivial⟩

set_option maxRecDepth 100000 in
set_option maxHeartbeats 800000 in
theorem c_X12_weightsFor {M : Mm} {S : ST} (hM : VM 0 M S) (hF : WF S) {k : Nat} (hk : k < S 0 2) {Q : Option Value → Mm → Prop} (hQ : Q (some (.int (nI (sumN (fun p => if S 7 p = k then S 8 p else 0) (S 0 4))))) M) (d : Nat) : AMt miX12_weightsFor (d) [.ref 132, .int (nI k)] M Q := by
  refine AMt.of (by decide) (Nat.le_of_ble_eq_true rfl) ?_
  show AW miX12_weightsFor (d) (mxA Q) 0 [(0, some (.ref 132)), (1, some (.int (nI k)))] [] M
  have hm := WF_m hF
  have hh := WF_h hF
  have hs := WF_s hF
  have hn := WF_n hF
  refine n_iconst 0 rfl dX12_weightsFor_0 ?_
  refine a_istore_n (by decide) rfl dX12_weightsFor_1 ?_
  refine n_iconst 0 rfl dX12_weightsFor_2 ?_
  refine a_istore_n (by decide) rfl dX12_weightsFor_3 ?_
  have loop_4 : ∀ i, i ≤ S 0 4 → AW miX12_weightsFor (d) (mxA Q) 4 [(0, some (.ref 132)), (1, some (.int (nI k))), (2, some (.int (nI (sumN (fun p => if S 7 p = k then S 8 p else 0) i)))), (3, some (.int (nI i)))] [] M := by
    refine up (S 0 4) ?_ (fun i hi_4 ih_4 => ?_)
    · refine a_iload_n rfl dX12_weightsFor_4 ?_
      refine a_aload_n rfl dX12_weightsFor_5 ?_
      refine a_geta dX12_weightsFor_6 fX12_35 (by decide) rfl rfl ?_
      refine n_iconst 2 rfl dX12_weightsFor_9 ?_
      refine v_iald (by omega) (VM_s2 hM) (by decide) rfl (by decide) dX12_weightsFor_10 ?_
      refine n_icmp_ge 49 (by omega) (by omega) dX12_weightsFor_11 (by decide) (fun h_11 => ?_) (fun h_11 => absurd h_11 (by omega))
      refine a_iload_n rfl dX12_weightsFor_49 ?_
      refine a_iret dX12_weightsFor_50 rfl ?_
      exact hQ
    · have hw := WF_wt hF i hi_4
      have hfo := WF_for hF i hi_4
      refine a_iload_n rfl dX12_weightsFor_4 ?_
      refine a_aload_n rfl dX12_weightsFor_5 ?_
      refine a_geta dX12_weightsFor_6 fX12_35 (by decide) rfl rfl ?_
      refine n_iconst 2 rfl dX12_weightsFor_9 ?_
      refine v_iald (by omega) (VM_s2 hM) (by decide) rfl (by decide) dX12_weightsFor_10 ?_
      refine n_icmp_ge 49 (by omega) (by omega) dX12_weightsFor_11 (by decide) (fun h_11 => absurd h_11 (by omega)) (fun h_11 => ?_)
      refine a_iload_n rfl dX12_weightsFor_14 ?_
      refine a_aload_n rfl dX12_weightsFor_15 ?_
      refine a_geta dX12_weightsFor_16 fX12_35 (by decide) rfl rfl ?_
      refine n_bipush 52 rfl dX12_weightsFor_19 ?_
      refine a_iload_n rfl dX12_weightsFor_21 ?_
      refine n_iadd dX12_weightsFor_22 ?_
      refine v_iald (by omega) (VM_a52 hM (j := i) (by omega)) (by decide) rfl (by decide) dX12_weightsFor_23 ?_
      refine a_iload_n rfl dX12_weightsFor_24 ?_
      refine n_icmp_ne 40 (by omega) (by omega) dX12_weightsFor_25 (by decide) (fun h_25 => ?_) (fun h_25 => ?_)
      · refine n_iconst 0 rfl dX12_weightsFor_40 ?_
        refine n_iadd dX12_weightsFor_41 ?_
        refine a_istore_n (by decide) rfl dX12_weightsFor_42 ?_
        refine n_iinc (c := 1) rfl rfl (by decide) rfl dX12_weightsFor_43 ?_
        refine a_goto 4 dX12_weightsFor_46 (by decide) ?_
        rw [show sumN (fun p => if S 7 p = k then S 8 p else 0) (i + 1) = (sumN (fun p => if S 7 p = k then S 8 p else 0) i) + 0 by simp [sumN, h_25]] at ih_4
        exact a_bk ih_4 ⟨rfl, rfl, rfl, rfl, trivial⟩
      · refine a_aload_n rfl dX12_weightsFor_28 ?_
        refine a_geta dX12_weightsFor_29 fX12_35 (by decide) rfl rfl ?_
        refine n_bipush 59 rfl dX12_weightsFor_32 ?_
        refine a_iload_n rfl dX12_weightsFor_34 ?_
        refine n_iadd dX12_weightsFor_35 ?_
        refine v_iald (by omega) (VM_a59 hM (j := i) (by omega)) (by decide) rfl (by decide) dX12_weightsFor_36 ?_
        refine a_goto 41 dX12_weightsFor_37 (by decide) ?_
        refine n_iadd dX12_weightsFor_41 ?_
        refine a_istore_n (by decide) rfl dX12_weightsFor_42 ?_
        refine n_iinc (c := 1) rfl rfl (by decide) rfl dX12_weightsFor_43 ?_
        refine a_goto 4 dX12_weightsFor_46 (by decide) ?_
        rw [show sumN (fun p => if S 7 p = k then S 8 p else 0) (i + 1) = (sumN (fun p => if S 7 p = k then S 8 p else 0) i) + (S 8 i) by simp [sumN, h_25]] at ih_4
        exact a_bk ih_4 ⟨rfl, rfl, rfl, rfl, trivial⟩
  exact a_bk (loop_4 0 (by omega)) ⟨rfl, rfl, rfl, rfl, trivial⟩

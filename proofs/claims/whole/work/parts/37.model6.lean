/-- what a question leaves: thrown is 0 -/
theorem IM_th {M : Mm} {T : TT} (h : IM M T) {v : Int32} : IM (siM M 132 1 v) T := by
  obtain ⟨h1, h2, h3, h4, h5, h6, h7, h8⟩ := h
  have e : ∀ k, 132 < k → (siM M 132 1 v).1 k = M.1 k := fun k hk => funext fun j => siN rfl (by omega)
  have wm : ∀ b W, WM b M W → WM b (siM M 132 1 v) W := fun b W hw => by
    unfold WM VM VNM YM at hw ⊢
    rw [e 137 (by omega)]
    exact hw
  refine ⟨wm 0 _ h1, ?_, ?_, ?_, ?_, ?_, ?_, fun i hi => wm _ _ (h8 i hi)⟩
  · unfold RM at h2 ⊢
    rw [e 133 (by omega), e 134 (by omega)]; exact h2
  · rw [e 136 (by omega)]; exact ⟨siN h3.1 (by omega), h3.2⟩
  · exact ⟨siN h4.1 (by omega), h4.2⟩
  · exact ⟨siN h5.1 (by omega), siN h5.2 (by omega)⟩
  · rw [e 146 (by omega)]; exact ⟨siN h6.1 (by omega), h6.2⟩
  · exact siN h7 (by omega)
theorem keX_th {M : Mm} {v : Int32} : keX M (siM M 132 1 v) := ⟨fun k hk => funext fun j => siN rfl (by omega), fun _ _ => rfl⟩

set_option maxRecDepth 100000 in
set_option maxHeartbeats 800000 in
theorem c_X12_status {M : Mm} {T : TT} (hI : IM M T) {Q : Option Value → Mm → Prop} (hQ : Q (some (.int (nI (tE T).1))) (siM M 132 1 (nI 0))) (d : Nat) : AMt miX12_status (d) [.ref 132] M Q := by
  refine AMt.of (by decide) (Nat.le_of_ble_eq_true rfl) ?_
  show AW miX12_status (d) (mxA Q) 0 [(0, some (.ref 132))] [] M
  refine a_aload_n rfl dX12_status_0 ?_
  refine n_iconst 0 rfl dX12_status_1 ?_
  refine a_puti dX12_status_2 pX12_69 (by decide) rfl rfl ?_
  refine a_aload_n rfl dX12_status_5 ?_
  refine a_geti dX12_status_6 fX12_72 (by decide) rfl rfl ?_
  refine a_iret dX12_status_9 rfl ?_
  rw [show (siM M 132 1 (nI 0)).1 132 0 = _ from siN hI.2.2.2.1.1 (by omega)]
  exact hQ

set_option maxRecDepth 100000 in
set_option maxHeartbeats 800000 in
theorem c_X12_top {M : Mm} {T : TT} (hI : IM M T) {Q : Option Value → Mm → Prop} (hQ : Q (some (.long (tE T).2.1)) (siM M 132 1 (nI 0))) (d : Nat) : AMt miX12_top (d) [.ref 132] M Q := by
  refine AMt.of (by decide) (Nat.le_of_ble_eq_true rfl) ?_
  show AW miX12_top (d) (mxA Q) 0 [(0, some (.ref 132))] [] M
  refine a_aload_n rfl dX12_top_0 ?_
  refine n_iconst 0 rfl dX12_top_1 ?_
  refine a_puti dX12_top_2 pX12_69 (by decide) rfl rfl ?_
  refine a_aload_n rfl dX12_top_5 ?_
  refine a_getl dX12_top_6 fX12_75 (by decide) rfl rfl ?_
  refine a_lret dX12_top_9 rfl ?_
  rw [show (siM M 132 1 (nI 0)).2 132 2 = _ from hI.2.2.2.1.2.1]
  exact hQ

set_option maxRecDepth 100000 in
set_option maxHeartbeats 800000 in
theorem c_X12_bottom {M : Mm} {T : TT} (hI : IM M T) {Q : Option Value → Mm → Prop} (hQ : Q (some (.long (tE T).2.2)) (siM M 132 1 (nI 0))) (d : Nat) : AMt miX12_bottom (d) [.ref 132] M Q := by
  refine AMt.of (by decide) (Nat.le_of_ble_eq_true rfl) ?_
  show AW miX12_bottom (d) (mxA Q) 0 [(0, some (.ref 132))] [] M
  refine a_aload_n rfl dX12_bottom_0 ?_
  refine n_iconst 0 rfl dX12_bottom_1 ?_
  refine a_puti dX12_bottom_2 pX12_69 (by decide) rfl rfl ?_
  refine a_aload_n rfl dX12_bottom_5 ?_
  refine a_getl dX12_bottom_6 fX12_7 (by decide) rfl rfl ?_
  refine a_lret dX12_bottom_9 rfl ?_
  rw [show (siM M 132 1 (nI 0)).2 132 3 = _ from hI.2.2.2.1.2.2]
  exact hQ

set_option maxRecDepth 100000 in
set_option maxHeartbeats 800000 in
theorem c_X12_fault {M : Mm} {T : TT} (hI : IM M T) {x : Int32} {Q : Option Value → Mm → Prop} (hQ : Q (some (.int (sp_fault x T).1)) (siM M 132 1 (nI 0))) (d : Nat) : AMt miX12_fault (d) [.ref 132, .int x] M Q := by
  refine AMt.of (by decide) (Nat.le_of_ble_eq_true rfl) ?_
  show AW miX12_fault (d) (mxA Q) 0 [(0, some (.ref 132)), (1, some (.int x))] [] M
  refine a_aload_n rfl dX12_fault_0 ?_
  refine n_iconst 0 rfl dX12_fault_1 ?_
  refine a_puti dX12_fault_2 pX12_69 (by decide) rfl rfl ?_
  refine a_iload_n rfl dX12_fault_5 ?_
  refine r_if_ne 16 dX12_fault_6 (by decide) (fun h_6 => ?_) (fun h_6 => ?_)
  · refine a_iload_n rfl dX12_fault_16 ?_
    refine n_iconst 1 rfl dX12_fault_17 ?_
    refine r_icmp_ne 28 (by omega) dX12_fault_18 (by decide) (fun h_18 => ?_) (fun h_18 => ?_)
    · refine a_iconst (-1) rfl dX12_fault_28 ?_
      refine a_iret dX12_fault_29 rfl ?_
      rw [show (sp_fault x T).1 = -1 by unfold sp_fault; rw [if_neg (by omega), if_neg (by omega)]] at hQ
      exact hQ
    · refine a_aload_n rfl dX12_fault_21 ?_
      refine a_geti dX12_fault_22 fX12_32 (by decide) rfl rfl ?_
      refine a_goto 29 dX12_fault_25 (by decide) ?_
      refine a_iret dX12_fault_29 rfl ?_
      rw [show (siM M 132 1 (nI 0)).1 132 11 = _ from siN hI.2.2.2.2.1.2 (by omega)]
      rw [show (sp_fault x T).1 = (tF T).2 by unfold sp_fault; rw [if_neg (by omega), if_pos (by omega)]] at hQ
      exact hQ
  · refine a_aload_n rfl dX12_fault_9 ?_
    refine a_geti dX12_fault_10 fX12_28 (by decide) rfl rfl ?_
    refine a_goto 29 dX12_fault_13 (by decide) ?_
    refine a_iret dX12_fault_29 rfl ?_
    rw [show (siM M 132 1 (nI 0)).1 132 10 = _ from siN hI.2.2.2.2.1.1 (by omega)]
    rw [show (sp_fault x T).1 = (tF T).1 by unfold sp_fault; rw [if_pos (by omega)]] at hQ
    exact hQ

set_option maxRecDepth 100000 in
set_option maxHeartbeats 800000 in
theorem c_X12_heights {M : Mm} {S : ST} (hM : VM 0 M S) (hF : WF S) {Q : Option Value → Mm → Prop} (hQ : Q (some (.int (nI (sumN (fun p => hgt (S 6 p) (S 2 (S 7 p))) (S 0 4))))) M) (d : Nat) : AMt miX12_heights (d + 2) [.ref 132] M Q := by
  refine AMt.of (by decide) (Nat.le_of_ble_eq_true rfl) ?_
  show AW miX12_heights (d + 2) (mxA Q) 0 [(0, some (.ref 132))] [] M
  have hm := WF_m hF
  have hh := WF_h hF
  have hs := WF_s hF
  have hn := WF_n hF
  refine n_iconst 0 rfl dX12_heights_0 ?_
  refine a_istore_n (by decide) rfl dX12_heights_1 ?_
  refine n_iconst 0 rfl dX12_heights_2 ?_
  refine a_istore_n (by decide) rfl dX12_heights_3 ?_
  have loop_4 : ∀ i, i ≤ S 0 4 → AW miX12_heights (d + 2) (mxA Q) 4 [(0, some (.ref 132)), (1, some (.int (nI (sumN (fun p => hgt (S 6 p) (S 2 (S 7 p))) i)))), (2, some (.int (nI i)))] [] M := by
    refine up (S 0 4) ?_ (fun i hi_4 ih_4 => ?_)
    · refine a_iload_n rfl dX12_heights_4 ?_
      refine a_aload_n rfl dX12_heights_5 ?_
      refine a_geta dX12_heights_6 fX12_35 (by decide) rfl rfl ?_
      refine n_iconst 2 rfl dX12_heights_9 ?_
      refine v_iald (by omega) (VM_s2 hM) (by decide) rfl (by decide) dX12_heights_10 ?_
      refine n_icmp_ge 28 (by omega) (by omega) dX12_heights_11 (by decide) (fun h_11 => ?_) (fun h_11 => absurd h_11 (by omega))
      refine a_iload_n rfl dX12_heights_28 ?_
      refine a_iret dX12_heights_29 rfl ?_
      exact hQ
    · refine a_iload_n rfl dX12_heights_4 ?_
      refine a_aload_n rfl dX12_heights_5 ?_
      refine a_geta dX12_heights_6 fX12_35 (by decide) rfl rfl ?_
      refine n_iconst 2 rfl dX12_heights_9 ?_
      refine v_iald (by omega) (VM_s2 hM) (by decide) rfl (by decide) dX12_heights_10 ?_
      refine n_icmp_ge 28 (by omega) (by omega) dX12_heights_11 (by decide) (fun h_11 => absurd h_11 (by omega)) (fun h_11 => ?_)
      refine a_iload_n rfl dX12_heights_14 ?_
      refine a_aload_n rfl dX12_heights_15 ?_
      refine a_iload_n rfl dX12_heights_16 ?_
      refine n_callV (mi' := miX12_heightOf) dX12_heights_17 lX12_340 mX12_heightOf (by decide) rfl rfl rfl (c_X12_heightOf hM hF (by omega) ?_ d) rfl rfl (by omega) (by decide) (Nat.le_of_ble_eq_true rfl)
      show AW _ _ _ _ _ _ _
      refine n_iadd dX12_heights_20 ?_
      refine a_istore_n (by decide) rfl dX12_heights_21 ?_
      refine n_iinc (c := 1) rfl rfl (by decide) rfl dX12_heights_22 ?_
      refine a_goto 4 dX12_heights_25 (by decide) ?_
      exact a_bk ih_4 ⟨rfl, rfl, rfl, trivial⟩
  exact a_bk (loop_4 0 (by omega)) ⟨rfl, rfl, rfl, trivial⟩

set_option maxRecDepth 100000 in
set_option maxHeartbeats 800000 in
theorem c_X12_weightsFor {M : Mm} {S : ST} (hM : VM 0 M S) (hF : WF S) {k : Nat} (hk : k < S 0 2) {Q : Option Value → Mm → Prop} (hQ : Q (some (.int (nI (sumN (fun p => if S 7 p = k then S 8 p else 0) (S 0 4))))) M) (d : Nat) : AMt miX12_weightsFor (d) [.ref 132, .int (nI k)] M Q := by
  refine AMt.of (by decide) (Nat.le_of_ble_eq_true rfl) ?_
  show AW miX12_weightsFor (d) (mxA Q) 0 [(0, some (.ref 132)), (1, some (.int (nI k)))] [] M
  have hm := WF_m hF
  have hh := WF_h hF
  have hs := WF_s hF
  have hn := WF_n hF
  refine n_iconst 0 rfl dX12_weightsFor_0 ?_
  refine a_istore_n (by decide) rfl dX12_weightsFor_1 ?_
  refine n_iconst 0 rfl dX12_weightsFor_2 ?_
  refine a_istore_n (by decide) rfl dX12_weightsFor_3 ?_
  have loop_4 : ∀ i, i ≤ S 0 4 → AW miX12_weightsFor (d) (mxA Q) 4 [(0, some (.ref 132)), (1, some (.int (nI k))), (2, some (.int (nI (sumN (fun p => if S 7 p = k then S 8 p else 0) i)))), (3, some (.int (nI i)))] [] M := by
    refine up (S 0 4) ?_ (fun i hi_4 ih_4 => ?_)
    · refine a_iload_n rfl dX12_weightsFor_4 ?_
      refine a_aload_n rfl dX12_weightsFor_5 ?_
      refine a_geta dX12_weightsFor_6 fX12_35 (by decide) rfl rfl ?_
      refine n_iconst 2 rfl dX12_weightsFor_9 ?_
      refine v_iald (by omega) (VM_s2 hM) (by decide) rfl (by decide) dX12_weightsFor_10 ?_
      refine n_icmp_ge 49 (by omega) (by omega) dX12_weightsFor_11 (by decide) (fun h_11 => ?_) (fun h_11 => absurd h_11 (by omega))
      refine a_iload_n rfl dX12_weightsFor_49 ?_
      refine a_iret dX12_weightsFor_50 rfl ?_
      exact hQ
    · have hw := WF_wt hF i hi_4
      have hfo := WF_for hF i hi_4
      refine a_iload_n rfl dX12_weightsFor_4 ?_
      refine a_aload_n rfl dX12_weightsFor_5 ?_
      refine a_geta dX12_weightsFor_6 fX12_35 (by decide) rfl rfl ?_
      refine n_iconst 2 rfl dX12_weightsFor_9 ?_
      refine v_iald (by omega) (VM_s2 hM) (by decide) rfl (by decide) dX12_weightsFor_10 ?_
      refine n_icmp_ge 49 (by omega) (by omega) dX12_weightsFor_11 (by decide) (fun h_11 => absurd h_11 (by omega)) (fun h_11 => ?_)
      refine a_iload_n rfl dX12_weightsFor_14 ?_
      refine a_aload_n rfl dX12_weightsFor_15 ?_
      refine a_geta dX12_weightsFor_16 fX12_35 (by decide) rfl rfl ?_
      refine n_bipush 52 rfl dX12_weightsFor_19 ?_
      refine a_iload_n rfl dX12_weightsFor_21 ?_
      refine n_iadd dX12_weightsFor_22 ?_
      refine v_iald (by omega) (VM_a52 hM (j := i) (by omega)) (by decide) rfl (by decide) dX12_weightsFor_23 ?_
      refine a_iload_n rfl dX12_weightsFor_24 ?_
      refine n_icmp_ne 40 (by omega) (by omega) dX12_weightsFor_25 (by decide) (fun h_25 => ?_) (fun h_25 => ?_)
      · refine n_iconst 0 rfl dX12_weightsFor_40 ?_
        refine n_iadd dX12_weightsFor_41 ?_
        refine a_istore_n (by decide) rfl dX12_weightsFor_42 ?_
        refine n_iinc (c := 1) rfl rfl (by decide) rfl dX12_weightsFor_43 ?_
        refine a_goto 4 dX12_weightsFor_46 (by decide) ?_
        rw [show sumN (fun p => if S 7 p = k then S 8 p else 0) (i + 1) = (sumN (fun p => if S 7 p = k then S 8 p else 0) i) + 0 by simp [sumN, h_25]] at ih_4
        exact a_bk ih_4 ⟨rfl, rfl, rfl, rfl, trivial⟩
      · refine a_aload_n rfl dX12_weightsFor_28 ?_
        refine a_geta dX12_weightsFor_29 fX12_35 (by decide) rfl rfl ?_
        refine n_bipush 59 rfl dX12_weightsFor_32 ?_
        refine a_iload_n rfl dX12_weightsFor_34 ?_
        refine n_iadd dX12_weightsFor_35 ?_
        refine v_iald (by omega) (VM_a59 hM (j := i) (by omega)) (by decide) rfl (by decide) dX12_weightsFor_36 ?_
        refine a_goto 41 dX12_weightsFor_37 (by decide) ?_
        refine n_iadd dX12_weightsFor_41 ?_
        refine a_istore_n (by decide) rfl dX12_weightsFor_42 ?_
        refine n_iinc (c := 1) rfl rfl (by decide) rfl dX12_weightsFor_43 ?_
        refine a_goto 4 dX12_weightsFor_46 (by decide) ?_
        rw [show sumN (fun p => if S 7 p = k then S 8 p else 0) (i + 1) = (sumN (fun p => if S 7 p = k then S 8 p else 0) i) + (S 8 i) by simp [sumN, h_25]] at ih_4
        exact a_bk ih_4 ⟨rfl, rfl, rfl, rfl, trivial⟩
  exact a_bk (loop_4 0 (by omega)) ⟨rfl, rfl, rfl, rfl, trivial⟩

theorem slS {M : Mm} {k j : Nat} {x : Int64} : (slM M k j x).2 k j = x := by
  unfold slM; simp
theorem YM_eq {o : Nat} {M M1 : Mm} {Y : YR} (hy : YM o M Y) (h30 : scN Y.2.2 Y.2.1 ≤ 30) (he : ∀ j, o + 90 ≤ j → j < o + 362 → M1.1 137 j = M.1 137 j) : YM o M1 Y := by
  obtain ⟨y0, y1, y2⟩ := hy
  refine ⟨by rw [he _ (by omega) (by omega)]; exact y0, by rw [he _ (by omega) (by omega)]; exact y1, fun i hi hv => ?_⟩
  have hsc : scN Y.2.2 i + 1 ≤ scN Y.2.2 Y.2.1 := scN_lt hi hv
  have q := y2 i hi hv
  refine ⟨?_, ?_, ?_, ?_, ?_, ?_⟩
  · rw [he _ (by omega) (by omega)]; exact q.1
  · rw [he _ (by omega) (by omega)]; exact q.2.1
  · rw [he _ (by omega) (by omega)]; exact q.2.2.1
  · rw [he _ (by omega) (by omega)]; exact q.2.2.2.1
  · rw [he _ (by omega) (by omega), he (o + 92 + 9 * scN Y.2.2 i + 6) (by omega) (by omega), he (o + 92 + 9 * scN Y.2.2 i + 7) (by omega) (by omega)]; exact q.2.2.2.2.1
  · rw [he _ (by omega) (by omega)]; exact q.2.2.2.2.2
/-- as IM, with another wood in block 0 -/
theorem IM_wd {M M1 : Mm} {T : TT} {W' : WD} {n : Nat} (h : IM M T) (hG : TG T) (hW : WM 0 M1 W') (hst : M1.1 132 0 = nI n) (he : ∀ k j, coM k j → ¬ (k = 132 ∧ j = 0) → ¬ (k = 137 ∧ j < 362) → M1.1 k j = M.1 k j) (he2 : ∀ k j, coM k j → ¬ (k = 139 ∧ j < 13) → M1.2 k j = M.2 k j) : IM M1 (st' (sW T W') n) := by
  obtain ⟨h1, h2, h3, h4, h5, h6, h7, h8⟩ := h
  refine ⟨hW, fun t ht => ?_, ?_, ?_, ?_, ?_, ?_, fun i hi => ?_⟩
  · have hr : (tR T).1 t ≤ 3 ∧ ∀ n, (tR T).2.1 t = some n → n ≤ 60 := hG.2.1 t ht
    rw [he 133 t (by unfold coM; omega) (by omega) (by omega), he 134 t (by unfold coM; omega) (by omega) (by omega)]
    refine ⟨(h2 t ht).1, (h2 t ht).2.1, fun q hq => ⟨((h2 t ht).2.2 q hq).1, fun j hj => ?_⟩⟩
    have hq60 := hr.2 q hq
    rw [he2 135 _ (by unfold coM; omega) (by omega)]
    exact ((h2 t ht).2.2 q hq).2 j hj
  · exact ⟨by rw [he _ _ (by unfold coM; omega) (by omega) (by omega)]; exact h3.1, fun j hj => by rw [he _ _ (by unfold coM; omega) (by omega) (by omega)]; exact h3.2 j hj⟩
  · exact ⟨hst, by rw [he2 _ _ (by unfold coM; omega) (by omega)]; exact h4.2.1, by rw [he2 _ _ (by unfold coM; omega) (by omega)]; exact h4.2.2⟩
  · exact ⟨by rw [he _ _ (by unfold coM; omega) (by omega) (by omega)]; exact h5.1, by rw [he _ _ (by unfold coM; omega) (by omega) (by omega)]; exact h5.2⟩
  · exact ⟨by rw [he _ _ (by unfold coM; omega) (by omega) (by omega)]; exact h6.1, fun q j hj => by rw [he _ _ (by unfold coM; omega) (by omega) (by omega)]; exact h6.2 q j hj⟩
  · rw [he _ _ (by unfold coM; omega) (by omega) (by omega)]; exact h7
  · have hk : (tK T).1 ≤ 3 := hG.2.2.2.2.2.1
    have hi : i < (tK T).1 := hi
    exact WM_eq (h8 i hi) (hG.2.2.2.2.2.2.1 i hi) (fun j a b => he 137 j (by unfold coM; omega) (by omega) (by omega)) (fun j a b => he2 139 j (by unfold coM; omega) (by omega))
theorem finMw {Q : Option Value → Mm → Prop} {M M1 : Mm} {T : TT} {p : AN} {v : Int32} {n : Nat} {W' : WD} (hQ : ∀ M', IM M' p.2 → keX M M' → Q (some (.int p.1)) M') (hI : IM M T) (hG : TG T) (e : p = (v, st' (sW T W') n)) (hW : WM 0 M1 W') (hst : M1.1 132 0 = nI n) (he : ∀ k j, coM k j → ¬ (k = 132 ∧ j = 0) → ¬ (k = 137 ∧ j < 362) → M1.1 k j = M.1 k j) (he2 : ∀ k j, coM k j → ¬ (k = 139 ∧ j < 13) → M1.2 k j = M.2 k j) (hk : keX M M1) : Q (some (.int v)) M1 := by
  subst e
  exact hQ _ (IM_wd hI hG hW hst he he2) hk
/-- the end of a call of the class's that changes the wood, its names or its YEARS -/
theorem fin_w {Q : Option Value → Mm → Prop} {M M1 : Mm} {T : TT} {p : AN} {v : Int32} {n : Nat} {W' : WD} (hQ : ∀ M', IX M' p.2 → keM M M' → Q (some (.int p.1)) M') (hI : IX M T) (hG : TG T) (e : p = (v, st' (sW T W') n)) (hW : WX 17 M1 W') (he : ∀ k, (k < 17 ∨ 37 ≤ k) → M1.1 k = M.1 k) (he2 : ∀ k, (k < 17 ∨ 37 ≤ k) → M1.2 k = M.2 k) : Q (some (.int v)) (siM M1 0 0 (nI n)) := by
  subst e
  refine hQ _ (IX_st (IX_w hI hG.2.2.2.2.2.1 hW he he2) n) ⟨fun k hk => ?_, fun k hk => he2 k (by omega)⟩
  rw [(keM_st M1 0 (nI n)).1 k hk]
  exact he k (by omega)

set_option maxRecDepth 100000 in
set_option maxHeartbeats 800000 in
theorem c_X11_sit {M : Mm} {T : TT} (hI : IX M T) (hG : TG T) {a : Int32} {b : Int32} {k : Int32} {Q : Option Value → Mm → Prop} (hQ : ∀ M', IX M' (sp_sit a b k T).2 → keM M M' → Q (some (.int (sp_sit a b k T).1)) M') (d : Nat) : AMt miX11_sit (d + 3) [.ref 0, .int a, .int b, .int k] M Q := by
  refine AMt.of (by decide) (Nat.le_of_ble_eq_true rfl) ?_
  show AW miX11_sit (d + 3) (mxA Q) 0 [(0, some (.ref 0)), (1, some (.int a)), (2, some (.int b)), (3, some (.int k))] [] M
  have hV : VX 17 M (tS T) := hI.1.1
  have hF : WF (tS T) := hG.1.1
  have hm := WF_m hF
  have hh := WF_h hF
  have hs := WF_s hF
  have hn := WF_n hF
  refine a_aload_n rfl dX11_sit_0 ?_
  refine a_geta dX11_sit_1 fX11_58 (by decide) rfl rfl ?_
  refine a_iload_n rfl dX11_sit_4 ?_
  refine n_callV (mi' := miX6_hasMatter) dX11_sit_5 lX11_232 mX6_hasMatter (by decide) rfl rfl rfl (c_X6_hasMatter isW17 hV hF (fun j_5 h_5 e_5 => ?_) (fun h_5 => ?_) d) rfl rfl (by omega) (by decide) (Nat.le_of_ble_eq_true rfl)
  · show AW _ _ _ _ _ _ _
    subst e_5
    have t_5 : (nI j_5).toInt = (j_5 : Int) := nI_toInt (by omega)
    refine n_if_ne 17 (by decide) dX11_sit_8 (by decide) (fun _ => ?_) (fun h => absurd h (by decide))
    refine a_iload_n rfl dX11_sit_17 ?_
    refine r_if_lt 38 dX11_sit_18 (by decide) (fun h_18 => ?_) (fun h_18 => ?_)
    · refine a_aload_n rfl dX11_sit_38 ?_
      refine n_iconst 5 rfl dX11_sit_39 ?_
      refine n_callV (mi' := miX11_none) dX11_sit_40 lX11_131 mX11_none (by decide) rfl rfl rfl (c_X11_none ?_ d) rfl rfl (by omega) (by decide) (Nat.le_of_ble_eq_true rfl)
      show AW _ _ _ _ _ _ _
      refine a_iret dX11_sit_43 rfl ?_
      exact fin_st hQ hI (by unfold sp_sit; rw [if_pos (by omega), if_neg (by omega)])
    · refine a_iload_n rfl dX11_sit_21 ?_
      refine n_bipush 59 rfl dX11_sit_22 ?_
      refine r_icmp_gt 38 (by omega) dX11_sit_24 (by decide) (fun h_24 => ?_) (fun h_24 => ?_)
      · refine a_aload_n rfl dX11_sit_38 ?_
        refine n_iconst 5 rfl dX11_sit_39 ?_
        refine n_callV (mi' := miX11_none) dX11_sit_40 lX11_131 mX11_none (by decide) rfl rfl rfl (c_X11_none ?_ d) rfl rfl (by omega) (by decide) (Nat.le_of_ble_eq_true rfl)
        show AW _ _ _ _ _ _ _
        refine a_iret dX11_sit_43 rfl ?_
        exact fin_st hQ hI (by unfold sp_sit; rw [if_pos (by omega), if_neg (by omega)])
      · refine a_iload_n rfl dX11_sit_27 ?_
        refine n_iconst 1 rfl dX11_sit_28 ?_
        refine r_icmp_lt 38 (by omega) dX11_sit_29 (by decide) (fun h_29 => ?_) (fun h_29 => ?_)
        · refine a_aload_n rfl dX11_sit_38 ?_
          refine n_iconst 5 rfl dX11_sit_39 ?_
          refine n_callV (mi' := miX11_none) dX11_sit_40 lX11_131 mX11_none (by decide) rfl rfl rfl (c_X11_none ?_ d) rfl rfl (by omega) (by decide) (Nat.le_of_ble_eq_true rfl)
          show AW _ _ _ _ _ _ _
          refine a_iret dX11_sit_43 rfl ?_
          exact fin_st hQ hI (by unfold sp_sit; rw [if_pos (by omega), if_neg (by omega)])
        · refine a_iload_n rfl dX11_sit_32 ?_
          refine n_bipush 99 rfl dX11_sit_33 ?_
          refine r_icmp_le 44 (by omega) dX11_sit_35 (by decide) (fun h_35 => ?_) (fun h_35 => ?_)
          · refine a_aload_n rfl dX11_sit_44 ?_
            refine a_geta dX11_sit_45 fX11_58 (by decide) rfl rfl ?_
            refine g_i (VX_4 hV) (by decide) rfl fX11_174 rfl dX11_sit_48 ?_
            refine n_bipush 7 rfl dX11_sit_51 ?_
            refine n_icmp_lt 63 (by omega) (by omega) dX11_sit_53 (by decide) (fun h_53 => ?_) (fun h_53 => ?_)
            · refine a_aload_n rfl dX11_sit_63 ?_
              refine a_geta dX11_sit_64 fX11_58 (by decide) rfl rfl ?_
              obtain ⟨ja, hja, rfl⟩ := inR_of (x := a) (m := 60) (by omega) (by omega) (by omega)
              have t_ja : (nI ja).toInt = (ja : Int) := nI_toInt (by omega)
              obtain ⟨jb, hjb, rfl⟩ := inR_of (x := b) (m := 100) (by omega) (by omega) (by omega)
              have t_jb : (nI jb).toInt = (jb : Int) := nI_toInt (by omega)
              refine a_lconst 0 rfl dX11_sit_67 ?_
              refine a_iload_n rfl dX11_sit_68 ?_
              refine a_iload_n rfl dX11_sit_69 ?_
              refine a_iload_n rfl dX11_sit_70 ?_
              refine n_iconst 1 rfl dX11_sit_71 ?_
              refine n_callV (mi' := miX6_addSitter) dX11_sit_72 lX11_302 mX6_addSitter (by decide) rfl rfl rfl (c_X6_addSitter isW17 hV hF (by omega) (fun hV_72 => ?_) d) rfl rfl (by omega) (by decide) (Nat.le_of_ble_eq_true rfl)
              show AW _ _ _ _ _ _ _
              have c04 : (addSN (tS T) ja jb j_5 1) 0 4 = tS T 0 4 + 1 := rfl
              refine a_aload_n rfl dX11_sit_75 ?_
              refine a_aload_n rfl dX11_sit_76 ?_
              refine a_geta dX11_sit_77 fX11_58 (by decide) rfl rfl ?_
              refine g_i (VX_4 hV_72) (by decide) rfl fX11_174 rfl dX11_sit_80 ?_
              refine n_iconst 1 rfl dX11_sit_83 ?_
              refine n_isub (by omega) dX11_sit_84 ?_
              refine n_callV (mi' := miX11_answer) dX11_sit_85 lX11_177 mX11_answer (by decide) rfl rfl rfl (c_X11_answer ?_ d) rfl rfl (by omega) (by decide) (Nat.le_of_ble_eq_true rfl)
              show AW _ _ _ _ _ _ _
              refine a_iret dX11_sit_88 rfl ?_
              refine fin_w hQ hI hG (W' := (addSN (tS T) ja jb j_5 1, upN (tN T) 1 (tS T 0 4) 0, tY T)) (by unfold sp_sit; rw [if_pos (by omega), if_pos (by omega), if_neg (by omega), idx_nI (show ja < 2 ^ 31 by omega), idx_nI (show jb < 2 ^ 31 by omega), idx_nI (show j_5 < 2 ^ 31 by omega)]; rfl) ⟨hV_72, ⟨fun j hj => hI.1.2.1.1 j hj, fun j hj => ?_⟩, YX_eq hI.1.2.2 (fun k a b => funext fun j => siN (siN (siN (siN (siN rfl (by omega)) (by omega)) (by omega)) (by omega)) (by omega))⟩ (fun k hk => funext fun j => siN (siN (siN (siN (siN rfl (by omega)) (by omega)) (by omega)) (by omega)) (by omega)) (fun k hk => funext fun j => slN rfl (by omega))
              have hj : j < tS T 0 4 + 1 := hj
              by_cases ej : j = tS T 0 4
              · subst ej; exact slS.trans (by simp [upN])
              · have hj2 : j < tS T 0 4 := by omega
                exact (slN (hI.1.2.1.2 j hj2) (by omega)).trans (by simp [upN, ej])
            · refine a_aload_n rfl dX11_sit_56 ?_
              refine n_bipush 7 rfl dX11_sit_57 ?_
              refine n_callV (mi' := miX11_none) dX11_sit_59 lX11_131 mX11_none (by decide) rfl rfl rfl (c_X11_none ?_ d) rfl rfl (by omega) (by decide) (Nat.le_of_ble_eq_true rfl)
              show AW _ _ _ _ _ _ _
              refine a_iret dX11_sit_62 rfl ?_
              exact fin_st hQ hI (by unfold sp_sit; rw [if_pos (by omega), if_pos (by omega), if_pos (by omega)])
          · refine a_aload_n rfl dX11_sit_38 ?_
            refine n_iconst 5 rfl dX11_sit_39 ?_
            refine n_callV (mi' := miX11_none) dX11_sit_40 lX11_131 mX11_none (by decide) rfl rfl rfl (c_X11_none ?_ d) rfl rfl (by omega) (by decide) (Nat.le_of_ble_eq_true rfl)
            show AW _ _ _ _ _ _ _
            refine a_iret dX11_sit_43 rfl ?_
            exact fin_st hQ hI (by unfold sp_sit; rw [if_pos (by omega), if_neg (by omega)])
  · show AW _ _ _ _ _ _ _
    have h_5 := not_inR h_5 (by omega)
    refine n_if_ne 17 (by decide) dX11_sit_8 (by decide) (fun h => absurd h (by decide)) (fun _ => ?_)
    refine a_aload_n rfl dX11_sit_11 ?_
    refine n_iconst 2 rfl dX11_sit_12 ?_
    refine n_callV (mi' := miX11_none) dX11_sit_13 lX11_131 mX11_none (by decide) rfl rfl rfl (c_X11_none ?_ d) rfl rfl (by omega) (by decide) (Nat.le_of_ble_eq_true rfl)
    show AW _ _ _ _ _ _ _
    refine a_iret dX11_sit_16 rfl ?_
    exact fin_st hQ hI (by unfold sp_sit; rw [if_neg (by omega)])

set_option maxRecDepth 100000 in
set_option maxHeartbeats 800000 in
theorem c_X12_sit {M : Mm} {T : TT} (hI : IM M T) (hG : TG T) {a : Int32} {b : Int32} {k : Int32} {Q : Option Value → Mm → Prop} (hQ : ∀ M', IM M' (sp_sit a b k T).2 → keX M M' → Q (some (.int (sp_sit a b k T).1)) M') (d : Nat) : AMt miX12_sit (d + 4) [.ref 132, .int a, .int b, .int k] M Q := by
  refine AMt.of (by decide) (Nat.le_of_ble_eq_true rfl) ?_
  show AW miX12_sit (d + 4) (mxA Q) 0 [(0, some (.ref 132)), (1, some (.int a)), (2, some (.int b)), (3, some (.int k))] [] M
  have hF : WF (tS T) := hG.1.1
  have hM : VM 0 M (tS T) := hI.1.1
  have hM1 := m0_VM hM hF
  have hm := WF_m hF
  have hh := WF_h hF
  have hs := WF_s hF
  have hn := WF_n hF
  refine a_aload_n rfl dX12_sit_0 ?_
  refine n_iconst 0 rfl dX12_sit_1 ?_
  refine a_puti dX12_sit_2 pX12_69 (by decide) rfl rfl ?_
  refine a_aload_n rfl dX12_sit_5 ?_
  refine n_iconst 0 rfl dX12_sit_6 ?_
  refine a_puti dX12_sit_7 pX12_72 (by decide) rfl rfl ?_
  show AW miX12_sit (d + 4) (mxA Q) 10 [(0, some (.ref 132)), (1, some (.int a)), (2, some (.int b)), (3, some (.int k))] [] (m0 M)
  refine a_aload_n rfl dX12_sit_10 ?_
  refine a_iload_n rfl dX12_sit_11 ?_
  refine n_callV (mi' := miX12_isMatterAt) dX12_sit_12 lX12_357 mX12_isMatterAt (by decide) rfl rfl rfl (c_X12_isMatterAt hM1 hF (fun j_12 h_12 e_12 => ?_) (fun h_12 => ?_) d) rfl rfl (by omega) (by decide) (Nat.le_of_ble_eq_true rfl)
  · show AW _ _ _ _ _ _ _
    subst e_12
    have t_12 : (nI j_12).toInt = (j_12 : Int) := nI_toInt (by omega)
    refine n_if_ne 24 (by decide) dX12_sit_15 (by decide) (fun _ => ?_) (fun h => absurd h (by decide))
    refine a_iload_n rfl dX12_sit_24 ?_
    refine a_i2l dX12_sit_25 ?_
    refine a_lconst 0 rfl dX12_sit_26 ?_
    refine a_ldc2 kX12_409 dX12_sit_27 ?_
    refine n_callS (mi' := miX12_isIn) dX12_sit_30 lX12_104 mX12_isIn (c_X12_isIn (fun h_30 => ?_) (fun h_30 => ?_) d) rfl rfl (by omega) (by decide) (Nat.le_of_ble_eq_true rfl)
    · show AW _ _ _ _ _ _ _
      have h_30 := isIn4 (x := a) (a := 0) (b := 59) (by decide) (by decide) h_30
      refine n_if_eq 48 (by decide) dX12_sit_33 (by decide) (fun h => absurd h (by decide)) (fun _ => ?_)
      refine a_iload_n rfl dX12_sit_36 ?_
      refine a_i2l dX12_sit_37 ?_
      refine a_lconst 1 rfl dX12_sit_38 ?_
      refine a_ldc2 kX12_411 dX12_sit_39 ?_
      refine n_callS (mi' := miX12_isIn) dX12_sit_42 lX12_104 mX12_isIn (c_X12_isIn (fun h_42 => ?_) (fun h_42 => ?_) d) rfl rfl (by omega) (by decide) (Nat.le_of_ble_eq_true rfl)
      · show AW _ _ _ _ _ _ _
        have h_42 := isIn4 (x := b) (a := 1) (b := 99) (by decide) (by decide) h_42
        refine n_if_ne 54 (by decide) dX12_sit_45 (by decide) (fun _ => ?_) (fun h => absurd h (by decide))
        refine a_aload_n rfl dX12_sit_54 ?_
        refine a_geta dX12_sit_55 fX12_35 (by decide) rfl rfl ?_
        refine n_iconst 2 rfl dX12_sit_58 ?_
        refine v_iald (by omega) (VM_s2 hM1) (by decide) rfl (by decide) dX12_sit_59 ?_
        refine a_istore (by decide) rfl dX12_sit_60 ?_
        refine a_iload rfl dX12_sit_62 ?_
        refine n_bipush 7 rfl dX12_sit_64 ?_
        refine n_icmp_ne 76 (by omega) (by omega) dX12_sit_66 (by decide) (fun h_66 => ?_) (fun h_66 => ?_)
        · obtain ⟨ja, hja, rfl⟩ := inR_of (x := a) (m := 60) (by omega) (by omega) (by omega)
          have t_ja : (nI ja).toInt = (ja : Int) := nI_toInt (by omega)
          obtain ⟨jb, hjb, rfl⟩ := inR_of (x := b) (m := 100) (by omega) (by omega) (by omega)
          have t_jb : (nI jb).toInt = (jb : Int) := nI_toInt (by omega)
          refine a_aload_n rfl dX12_sit_76 ?_
          refine a_geta dX12_sit_77 fX12_41 (by decide) rfl rfl ?_
          refine n_bipush 6 rfl dX12_sit_80 ?_
          refine a_iload rfl dX12_sit_82 ?_
          refine n_iadd dX12_sit_84 ?_
          refine a_lconst 0 rfl dX12_sit_85 ?_
          refine n_last (by omega) (by decide) rfl (by decide) dX12_sit_86 ?_
          refine a_aload_n rfl dX12_sit_87 ?_
          refine n_iconst 0 rfl dX12_sit_88 ?_
          refine a_iload_n rfl dX12_sit_89 ?_
          refine a_iload_n rfl dX12_sit_90 ?_
          refine a_iload_n rfl dX12_sit_91 ?_
          refine n_iconst 1 rfl dX12_sit_92 ?_
          have hM2 : VM 0 (slM (m0 M) 139 (6 + tS T 0 4) 0) (tS T) := hM1
          refine n_callV (mi' := miX12_sits) dX12_sit_93 lX12_279 mX12_sits (by decide) rfl rfl rfl (c_X12_sits (b := 0) (by omega) hM2 hF (by omega) (fun hV_93 => ?_) d) rfl rfl (by omega) (by decide) (Nat.le_of_ble_eq_true rfl)
          show AW _ _ _ _ _ _ _
          have c04 : (addSN (tS T) ja jb j_12 1) 0 4 = tS T 0 4 + 1 := rfl
          refine a_iload rfl dX12_sit_96 ?_
          refine a_iret dX12_sit_98 rfl ?_
          have hz : ∀ k j, (k ≠ 132 ∨ (j ≠ 0 ∧ j ≠ 1)) → (slM (m0 M) 139 (6 + tS T 0 4) 0).1 k j = M.1 k j := fun k j h => m0_o h
          have hzs : (slM (m0 M) 139 (6 + tS T 0 4) 0).1 132 0 = nI 0 := m0_s (M := M)
          refine finMw hQ hI hG (W' := (addSN (tS T) ja jb j_12 1, upN (tN T) 1 (tS T 0 4) 0, tY T)) (by unfold sp_sit; rw [if_pos (by omega), if_pos (by omega), if_neg (by omega), idx_nI (show ja < 2 ^ 31 by omega), idx_nI (show jb < 2 ^ 31 by omega), idx_nI (show j_12 < 2 ^ 31 by omega)]) ⟨hV_93, ⟨fun j hj => ?_, fun j hj => ?_⟩, YM_eq hI.1.2.2 hG.1.2.2.2.1 (fun j h1 h2 => (siN (siN (siN (siN (siN (hz _ _ (by omega)) (by omega)) (by omega)) (by omega)) (by omega)) (by omega)))⟩ (siN (siN (siN (siN (siN hzs (by omega)) (by omega)) (by omega)) (by omega)) (by omega)) (fun k j h h0 hw => (siN (siN (siN (siN (siN (hz _ _ (by unfold coM at h; omega)) (by omega)) (by omega)) (by omega)) (by omega)) (by omega))) (fun k j h hw => slN rfl (by omega)) ⟨fun k hk => funext fun j => (siN (siN (siN (siN (siN (hz _ _ (by omega)) (by omega)) (by omega)) (by omega)) (by omega)) (by omega)), fun k hk => funext fun j => slN rfl (by omega)⟩
          · have hj2 : j < tS T 0 2 := hj
            exact slN (hI.1.2.1.1 j hj2) (by omega)
          · have hj : j < tS T 0 4 + 1 := hj
            by_cases ej : j = tS T 0 4
            · subst ej; exact slS.trans (by simp [upN])
            · have hj2 : j < tS T 0 4 := by omega
              exact (slN (hI.1.2.1.2 j hj2) (by omega)).trans (by simp [upN, ej])
        · refine a_aload_n rfl dX12_sit_69 ?_
          refine n_bipush 7 rfl dX12_sit_70 ?_
          refine n_callV (mi' := miX12_refuse) dX12_sit_72 lX12_345 mX12_refuse (by decide) rfl rfl rfl (c_X12_refuse ?_ d) rfl rfl (by omega) (by decide) (Nat.le_of_ble_eq_true rfl)
          show AW _ _ _ _ _ _ _
          refine a_iret dX12_sit_75 rfl ?_
          exact finM hQ hI hG (S' := (tS T)) (by unfold sp_sit; rw [if_pos (by omega), if_pos (by omega), if_pos (by omega)]) (VM_e hM (fun j hj => (siN (m0_o (by omega)) (by omega))) hF) rfl rfl siS (fun k j h h0 hw => (siN (m0_o (by unfold coM at h; omega)) (by unfold coM at h; omega))) (fun k j h => rfl) ⟨fun k hk => funext fun j => (siN (m0_o (by omega)) (by omega)), fun k hk => funext fun j => rfl⟩
      · show AW _ _ _ _ _ _ _
        have h_42 := isIn4n (x := b) (a := 1) (b := 99) (by decide) (by decide) h_42
        refine n_if_ne 54 (by decide) dX12_sit_45 (by decide) (fun h => absurd h (by decide)) (fun _ => ?_)
        refine a_aload_n rfl dX12_sit_48 ?_
        refine n_iconst 5 rfl dX12_sit_49 ?_
        refine n_callV (mi' := miX12_refuse) dX12_sit_50 lX12_345 mX12_refuse (by decide) rfl rfl rfl (c_X12_refuse ?_ d) rfl rfl (by omega) (by decide) (Nat.le_of_ble_eq_true rfl)
        show AW _ _ _ _ _ _ _
        refine a_iret dX12_sit_53 rfl ?_
        exact finM hQ hI hG (S' := (tS T)) (by unfold sp_sit; rw [if_pos (by omega), if_neg (by omega)]) (VM_e hM (fun j hj => (siN (m0_o (by omega)) (by omega))) hF) rfl rfl siS (fun k j h h0 hw => (siN (m0_o (by unfold coM at h; omega)) (by unfold coM at h; omega))) (fun k j h => rfl) ⟨fun k hk => funext fun j => (siN (m0_o (by omega)) (by omega)), fun k hk => funext fun j => rfl⟩
    · show AW _ _ _ _ _ _ _
      have h_30 := isIn4n (x := a) (a := 0) (b := 59) (by decide) (by decide) h_30
      refine n_if_eq 48 (by decide) dX12_sit_33 (by decide) (fun _ => ?_) (fun h => absurd h (by decide))
      refine a_aload_n rfl dX12_sit_48 ?_
      refine n_iconst 5 rfl dX12_sit_49 ?_
      refine n_callV (mi' := miX12_refuse) dX12_sit_50 lX12_345 mX12_refuse (by decide) rfl rfl rfl (c_X12_refuse ?_ d) rfl rfl (by omega) (by decide) (Nat.le_of_ble_eq_true rfl)
      show AW _ _ _ _ _ _ _
      refine a_iret dX12_sit_53 rfl ?_
      exact finM hQ hI hG (S' := (tS T)) (by unfold sp_sit; rw [if_pos (by omega), if_neg (by omega)]) (VM_e hM (fun j hj => (siN (m0_o (by omega)) (by omega))) hF) rfl rfl siS (fun k j h h0 hw => (siN (m0_o (by unfold coM at h; omega)) (by unfold coM at h; omega))) (fun k j h => rfl) ⟨fun k hk => funext fun j => (siN (m0_o (by omega)) (by omega)), fun k hk => funext fun j => rfl⟩
  · show AW _ _ _ _ _ _ _
    have h_12 := not_inR h_12 (by omega)
    refine n_if_ne 24 (by decide) dX12_sit_15 (by decide) (fun h => absurd h (by decide)) (fun _ => ?_)
    refine a_aload_n rfl dX12_sit_18 ?_
    refine n_iconst 2 rfl dX12_sit_19 ?_
    refine n_callV (mi' := miX12_refuse) dX12_sit_20 lX12_345 mX12_refuse (by decide) rfl rfl rfl (c_X12_refuse ?_ d) rfl rfl (by omega) (by decide) (Nat.le_of_ble_eq_true rfl)
    show AW _ _ _ _ _ _ _
    refine a_iret dX12_sit_23 rfl ?_
    exact finM hQ hI hG (S' := (tS T)) (by unfold sp_sit; rw [if_neg (by omega)]) (VM_e hM (fun j hj => (siN (m0_o (by omega)) (by omega))) hF) rfl rfl siS (fun k j h h0 hw => (siN (m0_o (by unfold coM at h; omega)) (by unfold coM at h; omega))) (fun k j h => rfl) ⟨fun k hk => funext fun j => (siN (m0_o (by omega)) (by omega)), fun k hk => funext fun j => rfl⟩

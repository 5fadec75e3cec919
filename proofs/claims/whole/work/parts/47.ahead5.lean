theorem frM.r {P : Nat → Nat → Prop} {M : Mm} : frM P M M := ⟨fun _ _ _ => rfl, rfl⟩
theorem frM.t {P : Nat → Nat → Prop} {M M1 M2 : Mm} (a : frM P M M1) (b : frM P M1 M2) : frM P M M2 := ⟨fun k j h => (b.1 k j h).trans (a.1 k j h), b.2.trans a.2⟩
theorem frM.mo {P R : Nat → Nat → Prop} {M M1 : Mm} (a : frM R M M1) (h : ∀ k j, R k j → P k j) : frM P M M1 := ⟨fun k j hp => a.1 k j (fun hr => hp (h k j hr)), a.2⟩
theorem frM.si {P : Nat → Nat → Prop} {M M1 : Mm} {k j : Nat} {x : Int32} (a : frM P M M1) (hp : P k j) : frM P M (siM M1 k j x) := ⟨fun k' j' h => (siN rfl (fr_ne hp h)).trans (a.1 k' j' h), a.2⟩
theorem frM.i {P : Nat → Nat → Prop} {M M1 : Mm} (a : frM P M M1) {k j : Nat} {v : Int32} (h : M.1 k j = v) (hp : ¬ P k j) : M1.1 k j = v := (a.1 k j hp).trans h
theorem frM.f {P : Nat → Nat → Prop} {M M1 : Mm} (a : frM P M M1) : fr P M M1 := fun k j h => ⟨a.1 k j h, by rw [a.2]⟩
theorem VM_frM {M M1 : Mm} {S : ST} {P : Nat → Nat → Prop} (h : VM 0 M S) (hF : WF S) (hf : frM P M M1) (hp : ∀ j, j < 90 → ¬ P 137 j) : VM 0 M1 S := VM_e h (fun j hj => hf.1 137 j (hp j hj)) hF
theorem c_pass {M : Mm} {S : ST} (hM : VM 0 M S) (hF : WF S) {Q : Option Value → Mm → Prop} (hQ : ∀ M', VM 0 M' (passN S) → frM (fun k j => k = 137 ∧ j < 90) M M' → Q none M') (d : Nat) : AMt miX12_passes (d + 3) [.ref 132] M Q := c_X12_passes hM hF (fun M' a b c => hQ M' a ⟨b, c⟩) d
theorem si_cp {M M1 : Mm} {k0 k1 i : Nat} (h : ∀ j, j < i → M1.1 k1 j = M.1 k0 j) (h2 : M1.1 k0 i = M.1 k0 i) : ∀ j, j < i + 1 → (siM M1 k1 i (M1.1 k0 i)).1 k1 j = M.1 k0 j := by
  intro j hj
  by_cases e : j = i
  · subst e; rw [siS]; exact h2
  · exact siN (h j (by omega)) (by omega)

set_option maxRecDepth 100000 in
set_option maxHeartbeats 800000 in
theorem c_X12_keeps {M : Mm} {Q : Option Value → Mm → Prop} (hQ : ∀ M', (∀ j, j < 90 → M'.1 138 j = M.1 137 j) → frM (fun k _ => k = 138) M M' → Q none M') (d : Nat) : AMt miX12_keeps (d) [.ref 132] M Q := by
  refine AMt.of (by decide) (Nat.le_of_ble_eq_true rfl) ?_
  show AW miX12_keeps (d) (mxA Q) 0 [(0, some (.ref 132))] [] M
  refine n_iconst 0 rfl dX12_keeps_0 ?_
  refine a_istore_n (by decide) rfl dX12_keeps_1 ?_
  have loop_2 : ∀ i, i ≤ 90 → ∀ M1, ((∀ j, j < i → (M1).1 138 j = M.1 137 j) ∧ frM (fun k _ => k = 138) M M1) → AW miX12_keeps (d) (mxA Q) 2 [(0, some (.ref 132)), (1, some (.int (nI i)))] [] M1 := by
    refine up (W := fun i => ∀ M1, ((∀ j, j < i → (M1).1 138 j = M.1 137 j) ∧ frM (fun k _ => k = 138) M M1) → AW miX12_keeps (d) (mxA Q) 2 [(0, some (.ref 132)), (1, some (.int (nI i)))] [] M1) 90 (fun M1 hI_2 => ?_) (fun i hi_2 ih_2 M1 hI_2 => ?_)
    · refine a_iload_n rfl dX12_keeps_2 ?_
      refine n_bipush 90 rfl dX12_keeps_3 ?_
      refine n_icmp_ge 26 (by omega) (by omega) dX12_keeps_5 (by decide) (fun h_5 => ?_) (fun h_5 => absurd h_5 (by omega))
      refine a_vret dX12_keeps_26 rfl ?_
      exact hQ _ hI_2.1 hI_2.2
    · refine a_iload_n rfl dX12_keeps_2 ?_
      refine n_bipush 90 rfl dX12_keeps_3 ?_
      refine n_icmp_ge 26 (by omega) (by omega) dX12_keeps_5 (by decide) (fun h_5 => absurd h_5 (by omega)) (fun h_5 => ?_)
      refine a_aload_n rfl dX12_keeps_8 ?_
      refine a_geta dX12_keeps_9 fX12_38 (by decide) rfl rfl ?_
      refine a_iload_n rfl dX12_keeps_12 ?_
      refine a_aload_n rfl dX12_keeps_13 ?_
      refine a_geta dX12_keeps_14 fX12_35 (by decide) rfl rfl ?_
      refine a_iload_n rfl dX12_keeps_17 ?_
      refine n_iald (by omega) (by decide) rfl (by decide) dX12_keeps_18 ?_
      refine n_iast (by omega) (by decide) rfl (by decide) dX12_keeps_19 ?_
      refine n_iinc (c := 1) rfl rfl (by decide) rfl dX12_keeps_20 ?_
      refine a_goto 2 dX12_keeps_23 (by decide) ?_
      exact a_bk (ih_2 _ ⟨si_cp hI_2.1 (hI_2.2.1 _ _ (by omega)), hI_2.2.si rfl⟩) ⟨rfl, rfl, trivial⟩
  exact a_bk (loop_2 0 (by omega) _ ⟨fun j hj => absurd hj (by omega), frM.r⟩) ⟨rfl, rfl, trivial⟩

set_option maxRecDepth 100000 in
set_option maxHeartbeats 800000 in
theorem c_X12_restores {M : Mm} {Q : Option Value → Mm → Prop} (hQ : ∀ M', (∀ j, j < 90 → M'.1 137 j = M.1 138 j) → frM (fun k j => k = 137 ∧ j < 90) M M' → Q none M') (d : Nat) : AMt miX12_restores (d) [.ref 132] M Q := by
  refine AMt.of (by decide) (Nat.le_of_ble_eq_true rfl) ?_
  show AW miX12_restores (d) (mxA Q) 0 [(0, some (.ref 132))] [] M
  refine n_iconst 0 rfl dX12_restores_0 ?_
  refine a_istore_n (by decide) rfl dX12_restores_1 ?_
  have loop_2 : ∀ i, i ≤ 90 → ∀ M1, ((∀ j, j < i → (M1).1 137 j = M.1 138 j) ∧ frM (fun k j => k = 137 ∧ j < 90) M M1) → AW miX12_restores (d) (mxA Q) 2 [(0, some (.ref 132)), (1, some (.int (nI i)))] [] M1 := by
    refine up (W := fun i => ∀ M1, ((∀ j, j < i → (M1).1 137 j = M.1 138 j) ∧ frM (fun k j => k = 137 ∧ j < 90) M M1) → AW miX12_restores (d) (mxA Q) 2 [(0, some (.ref 132)), (1, some (.int (nI i)))] [] M1) 90 (fun M1 hI_2 => ?_) (fun i hi_2 ih_2 M1 hI_2 => ?_)
    · refine a_iload_n rfl dX12_restores_2 ?_
      refine n_bipush 90 rfl dX12_restores_3 ?_
      refine n_icmp_ge 26 (by omega) (by omega) dX12_restores_5 (by decide) (fun h_5 => ?_) (fun h_5 => absurd h_5 (by omega))
      refine a_vret dX12_restores_26 rfl ?_
      exact hQ _ hI_2.1 hI_2.2
    · refine a_iload_n rfl dX12_restores_2 ?_
      refine n_bipush 90 rfl dX12_restores_3 ?_
      refine n_icmp_ge 26 (by omega) (by omega) dX12_restores_5 (by decide) (fun h_5 => absurd h_5 (by omega)) (fun h_5 => ?_)
      refine a_aload_n rfl dX12_restores_8 ?_
      refine a_geta dX12_restores_9 fX12_35 (by decide) rfl rfl ?_
      refine a_iload_n rfl dX12_restores_12 ?_
      refine a_aload_n rfl dX12_restores_13 ?_
      refine a_geta dX12_restores_14 fX12_38 (by decide) rfl rfl ?_
      refine a_iload_n rfl dX12_restores_17 ?_
      refine n_iald (by omega) (by decide) rfl (by decide) dX12_restores_18 ?_
      refine n_iast (by omega) (by decide) rfl (by decide) dX12_restores_19 ?_
      refine n_iinc (c := 1) rfl rfl (by decide) rfl dX12_restores_20 ?_
      refine a_goto 2 dX12_restores_23 (by decide) ?_
      exact a_bk (ih_2 _ ⟨si_cp hI_2.1 (hI_2.2.1 _ _ (by omega)), hI_2.2.si (by omega)⟩) ⟨rfl, rfl, trivial⟩
  exact a_bk (loop_2 0 (by omega) _ ⟨fun j hj => absurd hj (by omega), frM.r⟩) ⟨rfl, rfl, trivial⟩

/-- in the midst of what would be: i DAYS on, all kept beside -/
def wbI (M : Mm) (S : ST) (P : Nat → Nat → Prop) (i : Nat) (M1 : Mm) : Prop := VM 0 M1 (dayN S i) ∧ frM (fun k j => P k j ∨ k = 138 ∨ (k = 137 ∧ j < 90)) M M1 ∧ ∀ j, j < 90 → M1.1 138 j = M.1 137 j
theorem wb_0 {M M1 : Mm} {S : ST} {P : Nat → Nat → Prop} (hM : VM 0 M S) (hF : WF S) (hk : ∀ j, j < 90 → M1.1 138 j = M.1 137 j) (hf : frM (fun k _ => k = 138) M M1) : wbI M S P 0 M1 := ⟨by rw [dayN_0]; exact VM_frM hM hF hf (fun j _ => by omega), hf.mo (fun k j h => Or.inr (Or.inl h)), hk⟩
theorem wb_s {M M1 M2 : Mm} {S : ST} {P : Nat → Nat → Prop} {i : Nat} (h : wbI M S P i M1) (hV : VM 0 M2 (passN (dayN S i))) (hf : frM (fun k j => k = 137 ∧ j < 90) M1 M2) : wbI M S P (i + 1) M2 := ⟨by rw [← passN_day]; exact hV, h.2.1.t (hf.mo (fun k j h => Or.inr (Or.inr h))), fun j hj => (hf.1 138 j (by omega)).trans (h.2.2 j hj)⟩
theorem wb_e {M M1 M2 : Mm} {S : ST} {P : Nat → Nat → Prop} {i : Nat} (h : wbI M S P i M1) (hk : ∀ j, j < 90 → M2.1 137 j = M1.1 138 j) (hf : frM (fun k j => k = 137 ∧ j < 90) M1 M2) : frM (fun k j => P k j ∨ k = 138) M M2 := by
  refine ⟨fun k j hp => ?_, hf.2.trans h.2.1.2⟩
  by_cases e : k = 137 ∧ j < 90
  · obtain ⟨rfl, hj⟩ := e
    exact (hk j hj).trans (h.2.2 j hj)
  · exact (hf.1 k j e).trans (h.2.1.1 k j (fun q => q.elim (fun z => hp (Or.inl z)) (fun z => z.elim (fun z => hp (Or.inr z)) e)))

set_option maxRecDepth 100000 in
set_option maxHeartbeats 800000 in
theorem c_X12_clearBehind {M : Mm} {S : ST} (hM : VM 0 M S) (hF : WF S) (hd9 : S 0 1 ≤ 9999) {k n : Nat} (hk : k < S 0 2) (hn2 : n ≤ 200) {Q : Option Value → Mm → Prop} (hQ : ∀ M', frM (fun k _ => k = 138) M M' → Q (some (.int (nI (pdI S (S 2) n k)))) M') (d : Nat) : AMt miX12_clearBehind (d + 4) [.ref 132, .int (nI k), .int (nI n)] M Q := by
  refine AMt.of (by decide) (Nat.le_of_ble_eq_true rfl) ?_
  show AW miX12_clearBehind (d + 4) (mxA Q) 0 [(0, some (.ref 132)), (1, some (.int (nI k))), (2, some (.int (nI n)))] [] M
  have hm := WF_m hF
  have hh := WF_h hF
  have hs := WF_s hF
  have hn := WF_n hF
  refine a_aload_n rfl dX12_clearBehind_0 ?_
  refine n_callV (mi' := miX12_keeps) dX12_clearBehind_1 lX12_417 mX12_keeps (by decide) rfl rfl rfl (c_X12_keeps (fun M_1 hk_1 hf_1 => ?_) d) rfl rfl (by omega) (by decide) (Nat.le_of_ble_eq_true rfl)
  show AW _ _ _ _ _ _ _
  refine n_iconst 0 rfl dX12_clearBehind_4 ?_
  refine a_istore_n (by decide) rfl dX12_clearBehind_5 ?_
  have loop_6 : ∀ i, i ≤ n → ∀ M1, (wbI M S (fun _ _ => False) i M1) → AW miX12_clearBehind (d + 4) (mxA Q) 6 [(0, some (.ref 132)), (1, some (.int (nI k))), (2, some (.int (nI n))), (3, some (.int (nI i)))] [] M1 := by
    refine up (W := fun i => ∀ M1, (wbI M S (fun _ _ => False) i M1) → AW miX12_clearBehind (d + 4) (mxA Q) 6 [(0, some (.ref 132)), (1, some (.int (nI k))), (2, some (.int (nI n))), (3, some (.int (nI i)))] [] M1) n (fun M1 hI_6 => ?_) (fun i hi_6 ih_6 M1 hI_6 => ?_)
    · refine a_iload_n rfl dX12_clearBehind_6 ?_
      refine a_iload_n rfl dX12_clearBehind_7 ?_
      refine n_icmp_ge 21 (by omega) (by omega) dX12_clearBehind_8 (by decide) (fun h_8 => ?_) (fun h_8 => absurd h_8 (by omega))
      refine a_aload_n rfl dX12_clearBehind_21 ?_
      refine a_geta dX12_clearBehind_22 fX12_35 (by decide) rfl rfl ?_
      refine n_bipush 6 rfl dX12_clearBehind_25 ?_
      refine a_iload_n rfl dX12_clearBehind_27 ?_
      refine n_iadd dX12_clearBehind_28 ?_
      have hc0 : (dayN S n) 0 2 = S 0 2 := rfl
      refine v_iald (by omega) (VM_a6 hI_6.1 (j := k) (by omega)) (by decide) rfl (by decide) dX12_clearBehind_29 ?_
      refine a_istore_n (by decide) rfl dX12_clearBehind_30 ?_
      refine a_aload_n rfl dX12_clearBehind_31 ?_
      refine n_callV (mi' := miX12_restores) dX12_clearBehind_32 lX12_420 mX12_restores (by decide) rfl rfl rfl (c_X12_restores (fun M_32 hk_32 hf_32 => ?_) d) rfl rfl (by omega) (by decide) (Nat.le_of_ble_eq_true rfl)
      show AW _ _ _ _ _ _ _
      refine a_iload_n rfl dX12_clearBehind_35 ?_
      refine a_iret dX12_clearBehind_36 rfl ?_
      exact hQ _ ((wb_e hI_6 hk_32 hf_32).mo (fun k j h => h.elim (fun z => z.elim) id))
    · refine a_iload_n rfl dX12_clearBehind_6 ?_
      refine a_iload_n rfl dX12_clearBehind_7 ?_
      refine n_icmp_ge 21 (by omega) (by omega) dX12_clearBehind_8 (by decide) (fun h_8 => absurd h_8 (by omega)) (fun h_8 => ?_)
      refine a_aload_n rfl dX12_clearBehind_11 ?_
      refine n_callV (mi' := miX12_passes) dX12_clearBehind_12 lX12_394 mX12_passes (by decide) rfl rfl rfl (c_pass (S := dayN S i) hI_6.1 (WF_day2 hF (by omega)) (fun M_12 hV_12 hf_12 => ?_) d) rfl rfl (by omega) (by decide) (Nat.le_of_ble_eq_true rfl)
      show AW _ _ _ _ _ _ _
      refine n_iinc (c := 1) rfl rfl (by decide) rfl dX12_clearBehind_15 ?_
      refine a_goto 6 dX12_clearBehind_18 (by decide) ?_
      exact a_bk (ih_6 _ (wb_s hI_6 hV_12 hf_12)) ⟨rfl, rfl, rfl, rfl, trivial⟩
  exact a_bk (loop_6 0 (by omega) _ (wb_0 hM hF hk_1 hf_1)) ⟨rfl, rfl, rfl, rfl, trivial⟩

set_option maxRecDepth 100000 in
set_option maxHeartbeats 800000 in
theorem c_X12_clearIn {M : Mm} {T : TT} (hI : IM M T) (hG : TG T) {k : Int32} {n : Int32} {Q : Option Value → Mm → Prop} (hQ : ∀ M', IM M' (sp_clearIn k n T).2 → keX M M' → Q (some (.int (sp_clearIn k n T).1)) M') (d : Nat) : AMt miX12_clearIn (d + 5) [.ref 132, .int k, .int n] M Q := by
  refine AMt.of (by decide) (Nat.le_of_ble_eq_true rfl) ?_
  show AW miX12_clearIn (d + 5) (mxA Q) 0 [(0, some (.ref 132)), (1, some (.int k)), (2, some (.int n))] [] M
  have hF : WF (tS T) := hG.1.1
  have hM : VM 0 M (tS T) := hI.1.1
  have hM1 := m0_VM hM hF
  have hm : tS T 0 2 ≤ 6 := WF_m hF
  have hh : tS T 0 3 ≤ 10 := WF_h hF
  have hs : tS T 0 4 ≤ 7 := WF_s hF
  have hn : tS T 0 5 ≤ 8 := WF_n hF
  have hd9 : tS T 0 1 ≤ 9999 := hG.1.2.2.2.2.1
  refine a_aload_n rfl dX12_clearIn_0 ?_
  refine n_iconst 0 rfl dX12_clearIn_1 ?_
  refine a_puti dX12_clearIn_2 pX12_69 (by decide) rfl rfl ?_
  refine a_aload_n rfl dX12_clearIn_5 ?_
  refine n_iconst 0 rfl dX12_clearIn_6 ?_
  refine a_puti dX12_clearIn_7 pX12_72 (by decide) rfl rfl ?_
  show AW miX12_clearIn (d + 5) (mxA Q) 10 [(0, some (.ref 132)), (1, some (.int k)), (2, some (.int n))] [] (m0 M)
  refine a_aload_n rfl dX12_clearIn_10 ?_
  refine a_iload_n rfl dX12_clearIn_11 ?_
  refine n_callV (mi' := miX12_isMatterAt) dX12_clearIn_12 lX12_357 mX12_isMatterAt (by decide) rfl rfl rfl (c_X12_isMatterAt hM1 hF (fun j_12 h_12 e_12 => ?_) (fun h_12 => ?_) d) rfl rfl (by omega) (by decide) (Nat.le_of_ble_eq_true rfl)
  · show AW _ _ _ _ _ _ _
    subst e_12
    have t_12 : (nI j_12).toInt = (j_12 : Int) := nI_toInt (by omega)
    refine n_if_ne 24 (by decide) dX12_clearIn_15 (by decide) (fun _ => ?_) (fun h => absurd h (by decide))
    refine a_iload_n rfl dX12_clearIn_24 ?_
    refine a_i2l dX12_clearIn_25 ?_
    refine a_lconst 0 rfl dX12_clearIn_26 ?_
    refine a_ldc2 kX12_423 dX12_clearIn_27 ?_
    refine n_callS (mi' := miX12_isIn) dX12_clearIn_30 lX12_104 mX12_isIn (c_X12_isIn (fun h_30 => ?_) (fun h_30 => ?_) d) rfl rfl (by omega) (by decide) (Nat.le_of_ble_eq_true rfl)
    · show AW _ _ _ _ _ _ _
      have h_30 := isIn4 (x := n) (a := 0) (b := 200) (by decide) (by decide) h_30
      refine n_if_eq 45 (by decide) dX12_clearIn_33 (by decide) (fun h => absurd h (by decide)) (fun _ => ?_)
      obtain ⟨q, hq, rfl⟩ := inR_of (x := n) (m := 201) (by omega) (by omega) (by omega)
      have t_q : (nI q).toInt = (q : Int) := nI_toInt (by omega)
      have i_q : idx (nI q) = q := idx_nI (by omega)
      refine a_aload_n rfl dX12_clearIn_36 ?_
      refine a_iload_n rfl dX12_clearIn_37 ?_
      refine a_iload_n rfl dX12_clearIn_38 ?_
      refine n_callV (mi' := miX12_clearBehind) dX12_clearIn_39 lX12_425 mX12_clearBehind (by decide) rfl rfl rfl (c_X12_clearBehind (S := tS T) hM1 hF hd9 (by omega) (by omega) (fun M_39 hf_39 => ?_) d) rfl rfl (by omega) (by decide) (Nat.le_of_ble_eq_true rfl)
      show AW _ _ _ _ _ _ _
      refine a_goto 50 dX12_clearIn_42 (by decide) ?_
      refine a_iret dX12_clearIn_50 rfl ?_
      exact fin_qM hQ hI hG (by unfold sp_clearIn; rw [if_pos (by omega), if_pos (by omega), idx_nI (show j_12 < 2 ^ 31 by omega), i_q]) (hf_39.f.i m0_s (by omega)) (m0_fr.t (hf_39.f.mo (fun k j h => by unfold scM coM; omega)))
    · show AW _ _ _ _ _ _ _
      have h_30 := isIn4n (x := n) (a := 0) (b := 200) (by decide) (by decide) h_30
      refine n_if_eq 45 (by decide) dX12_clearIn_33 (by decide) (fun _ => ?_) (fun h => absurd h (by decide))
      refine a_aload_n rfl dX12_clearIn_45 ?_
      refine n_iconst 5 rfl dX12_clearIn_46 ?_
      refine n_callV (mi' := miX12_refuse) dX12_clearIn_47 lX12_345 mX12_refuse (by decide) rfl rfl rfl (c_X12_refuse ?_ d) rfl rfl (by omega) (by decide) (Nat.le_of_ble_eq_true rfl)
      show AW _ _ _ _ _ _ _
      refine a_iret dX12_clearIn_50 rfl ?_
      exact fin_qM hQ hI hG (by unfold sp_clearIn; rw [if_pos (by omega), if_neg (by omega)]) siS (m0_fr.si (by unfold scM coM; omega))
  · show AW _ _ _ _ _ _ _
    have h_12 := not_inR h_12 (by omega)
    refine n_if_ne 24 (by decide) dX12_clearIn_15 (by decide) (fun h => absurd h (by decide)) (fun _ => ?_)
    refine a_aload_n rfl dX12_clearIn_18 ?_
    refine n_iconst 2 rfl dX12_clearIn_19 ?_
    refine n_callV (mi' := miX12_refuse) dX12_clearIn_20 lX12_345 mX12_refuse (by decide) rfl rfl rfl (c_X12_refuse ?_ d) rfl rfl (by omega) (by decide) (Nat.le_of_ble_eq_true rfl)
    show AW _ _ _ _ _ _ _
    refine a_iret dX12_clearIn_23 rfl ?_
    exact fin_qM hQ hI hG (by unfold sp_clearIn; rw [if_neg (by omega)]) siS (m0_fr.si (by unfold scM coM; omega))

set_option maxRecDepth 100000 in
set_option maxHeartbeats 800000 in
theorem c_X12_heightIn {M : Mm} {T : TT} (hI : IM M T) (hG : TG T) {p : Int32} {n : Int32} {Q : Option Value → Mm → Prop} (hQ : ∀ M', IM M' (sp_heightIn p n T).2 → keX M M' → Q (some (.int (sp_heightIn p n T).1)) M') (d : Nat) : AMt miX12_heightIn (d + 5) [.ref 132, .int p, .int n] M Q := by
  refine AMt.of (by decide) (Nat.le_of_ble_eq_true rfl) ?_
  show AW miX12_heightIn (d + 5) (mxA Q) 0 [(0, some (.ref 132)), (1, some (.int p)), (2, some (.int n))] [] M
  have hF : WF (tS T) := hG.1.1
  have hM : VM 0 M (tS T) := hI.1.1
  have hM1 := m0_VM hM hF
  have hm : tS T 0 2 ≤ 6 := WF_m hF
  have hh : tS T 0 3 ≤ 10 := WF_h hF
  have hs : tS T 0 4 ≤ 7 := WF_s hF
  have hn : tS T 0 5 ≤ 8 := WF_n hF
  have hd9 : tS T 0 1 ≤ 9999 := hG.1.2.2.2.2.1
  refine a_aload_n rfl dX12_heightIn_0 ?_
  refine n_iconst 0 rfl dX12_heightIn_1 ?_
  refine a_puti dX12_heightIn_2 pX12_69 (by decide) rfl rfl ?_
  refine a_aload_n rfl dX12_heightIn_5 ?_
  refine n_iconst 0 rfl dX12_heightIn_6 ?_
  refine a_puti dX12_heightIn_7 pX12_72 (by decide) rfl rfl ?_
  show AW miX12_heightIn (d + 5) (mxA Q) 10 [(0, some (.ref 132)), (1, some (.int p)), (2, some (.int n))] [] (m0 M)
  refine a_aload_n rfl dX12_heightIn_10 ?_
  refine a_iload_n rfl dX12_heightIn_11 ?_
  refine n_callV (mi' := miX12_isSitterAt) dX12_heightIn_12 lX12_371 mX12_isSitterAt (by decide) rfl rfl rfl (c_X12_isSitterAt hM1 hF (fun j_12 h_12 e_12 => ?_) (fun h_12 => ?_) d) rfl rfl (by omega) (by decide) (Nat.le_of_ble_eq_true rfl)
  · show AW _ _ _ _ _ _ _
    subst e_12
    have t_12 : (nI j_12).toInt = (j_12 : Int) := nI_toInt (by omega)
    refine n_if_ne 24 (by decide) dX12_heightIn_15 (by decide) (fun _ => ?_) (fun h => absurd h (by decide))
    refine a_iload_n rfl dX12_heightIn_24 ?_
    refine a_i2l dX12_heightIn_25 ?_
    refine a_lconst 0 rfl dX12_heightIn_26 ?_
    refine a_ldc2 kX12_423 dX12_heightIn_27 ?_
    refine n_callS (mi' := miX12_isIn) dX12_heightIn_30 lX12_104 mX12_isIn (c_X12_isIn (fun h_30 => ?_) (fun h_30 => ?_) d) rfl rfl (by omega) (by decide) (Nat.le_of_ble_eq_true rfl)
    · show AW _ _ _ _ _ _ _
      have h_30 := isIn4 (x := n) (a := 0) (b := 200) (by decide) (by decide) h_30
      refine n_if_eq 65 (by decide) dX12_heightIn_33 (by decide) (fun h => absurd h (by decide)) (fun _ => ?_)
      obtain ⟨q, hq, rfl⟩ := inR_of (x := n) (m := 201) (by omega) (by omega) (by omega)
      have t_q : (nI q).toInt = (q : Int) := nI_toInt (by omega)
      have i_q : idx (nI q) = q := idx_nI (by omega)
      have hfo := WF_for hF j_12 (by omega)
      have htl := WF_tall hF j_12 (by omega)
      refine a_aload_n rfl dX12_heightIn_36 ?_
      refine a_geta dX12_heightIn_37 fX12_35 (by decide) rfl rfl ?_
      refine n_bipush 45 rfl dX12_heightIn_40 ?_
      refine a_iload_n rfl dX12_heightIn_42 ?_
      refine n_iadd dX12_heightIn_43 ?_
      refine v_iald (by omega) (VM_a45 hM1 (j := j_12) (by omega)) (by decide) rfl (by decide) dX12_heightIn_44 ?_
      refine a_aload_n rfl dX12_heightIn_45 ?_
      refine a_aload_n rfl dX12_heightIn_46 ?_
      refine a_geta dX12_heightIn_47 fX12_35 (by decide) rfl rfl ?_
      refine n_bipush 52 rfl dX12_heightIn_50 ?_
      refine a_iload_n rfl dX12_heightIn_52 ?_
      refine n_iadd dX12_heightIn_53 ?_
      refine v_iald (by omega) (VM_a52 hM1 (j := j_12) (by omega)) (by decide) rfl (by decide) dX12_heightIn_54 ?_
      refine a_iload_n rfl dX12_heightIn_55 ?_
      refine n_callV (mi' := miX12_clearBehind) dX12_heightIn_56 lX12_425 mX12_clearBehind (by decide) rfl rfl rfl (c_X12_clearBehind (S := tS T) hM1 hF hd9 (by omega) (by omega) (fun M_56 hf_56 => ?_) d) rfl rfl (by omega) (by decide) (Nat.le_of_ble_eq_true rfl)
      show AW _ _ _ _ _ _ _
      refine n_callS (mi' := miX12_heightBy) dX12_heightIn_59 lX12_337 mX12_heightBy (c_X12_heightBy (by omega) (pdI_le (fun j hj => WF_clear hF j hj) _ _ (by omega)) ?_ d) rfl rfl (by omega) (by decide) (Nat.le_of_ble_eq_true rfl)
      show AW _ _ _ _ _ _ _
      refine a_goto 70 dX12_heightIn_62 (by decide) ?_
      refine a_iret dX12_heightIn_70 rfl ?_
      exact fin_qM hQ hI hG (by unfold sp_heightIn; rw [if_pos (by omega), if_pos (by omega), idx_nI (show j_12 < 2 ^ 31 by omega), i_q]; rfl) (hf_56.f.i m0_s (by omega)) (m0_fr.t (hf_56.f.mo (fun k j h => by unfold scM coM; omega)))
    · show AW _ _ _ _ _ _ _
      have h_30 := isIn4n (x := n) (a := 0) (b := 200) (by decide) (by decide) h_30
      refine n_if_eq 65 (by decide) dX12_heightIn_33 (by decide) (fun _ => ?_) (fun h => absurd h (by decide))
      refine a_aload_n rfl dX12_heightIn_65 ?_
      refine n_iconst 5 rfl dX12_heightIn_66 ?_
      refine n_callV (mi' := miX12_refuse) dX12_heightIn_67 lX12_345 mX12_refuse (by decide) rfl rfl rfl (c_X12_refuse ?_ d) rfl rfl (by omega) (by decide) (Nat.le_of_ble_eq_true rfl)
      show AW _ _ _ _ _ _ _
      refine a_iret dX12_heightIn_70 rfl ?_
      exact fin_qM hQ hI hG (by unfold sp_heightIn; rw [if_pos (by omega), if_neg (by omega)]) siS (m0_fr.si (by unfold scM coM; omega))
  · show AW _ _ _ _ _ _ _
    have h_12 := not_inR h_12 (by omega)
    refine n_if_ne 24 (by decide) dX12_heightIn_15 (by decide) (fun h => absurd h (by decide)) (fun _ => ?_)
    refine a_aload_n rfl dX12_heightIn_18 ?_
    refine n_iconst 2 rfl dX12_heightIn_19 ?_
    refine n_callV (mi' := miX12_refuse) dX12_heightIn_20 lX12_345 mX12_refuse (by decide) rfl rfl rfl (c_X12_refuse ?_ d) rfl rfl (by omega) (by decide) (Nat.le_of_ble_eq_true rfl)
    show AW _ _ _ _ _ _ _
    refine a_iret dX12_heightIn_23 rfl ?_
    exact fin_qM hQ hI hG (by unfold sp_heightIn; rw [if_neg (by omega)]) siS (m0_fr.si (by unfold scM coM; omega))

def optI (o : Option Nat) : Int32 := match o with
  | some v => nI v
  | none => -1
theorem fiN_ss {p : Nat → Bool} {i v : Nat} (h : fiN p i = some v) : ∀ {n : Nat}, i ≤ n → fiN p n = some v
  | 0, hn => by rw [show i = 0 by omega] at h; exact h
  | n + 1, hn => by
    by_cases e : i = n + 1
    · rw [← e]; exact h
    · simp only [fiN, fiN_ss h (n := n) (by omega)]
theorem fiN_s0 {p : Nat → Bool} {i : Nat} (h : fiN p i = none) (h2 : p i = true) : fiN p (i + 1) = some i := by simp only [fiN, h, h2]; rfl
theorem fiN_s1 {p : Nat → Bool} {i : Nat} (h : fiN p i = none) (h2 : p i = false) : fiN p (i + 1) = none := by simp only [fiN, h, h2]; rfl
theorem optI_no {p : Nat → Bool} {n : Nat} (hn : n ≤ 1000) (h : ¬ 0 ≤ (optI (fiN p n)).toInt) : fiN p n = none := by
  cases e : fiN p n with
  | none => rfl
  | some v =>
    have := fiN_lt e
    rw [e] at h
    exact absurd (by show 0 ≤ (nI v).toInt; rw [nI_toInt (by omega)]; omega) h
theorem optI_yes {p : Nat → Bool} {n : Nat} (h : 0 ≤ (optI (fiN p n)).toInt) : ∃ v, fiN p n = some v := by
  cases e : fiN p n with
  | none => rw [e] at h; exact absurd h (by decide)
  | some v => exact ⟨v, rfl⟩

set_option maxRecDepth 100000 in
set_option maxHeartbeats 800000 in
theorem c_X12_downIn {M : Mm} {T : TT} (hI : IM M T) (hG : TG T) {p : Int32} {Q : Option Value → Mm → Prop} (hQ : ∀ M', IM M' (sp_downIn p T).2 → keX M M' → Q (some (.int (sp_downIn p T).1)) M') (d : Nat) : AMt miX12_downIn (d + 5) [.ref 132, .int p] M Q := by
  refine AMt.of (by decide) (Nat.le_of_ble_eq_true rfl) ?_
  show AW miX12_downIn (d + 5) (mxA Q) 0 [(0, some (.ref 132)), (1, some (.int p))] [] M
  have hF : WF (tS T) := hG.1.1
  have hM : VM 0 M (tS T) := hI.1.1
  have hM1 := m0_VM hM hF
  have hm : tS T 0 2 ≤ 6 := WF_m hF
  have hh : tS T 0 3 ≤ 10 := WF_h hF
  have hs : tS T 0 4 ≤ 7 := WF_s hF
  have hn : tS T 0 5 ≤ 8 := WF_n hF
  have hd9 : tS T 0 1 ≤ 9999 := hG.1.2.2.2.2.1
  refine a_aload_n rfl dX12_downIn_0 ?_
  refine n_iconst 0 rfl dX12_downIn_1 ?_
  refine a_puti dX12_downIn_2 pX12_69 (by decide) rfl rfl ?_
  refine a_aload_n rfl dX12_downIn_5 ?_
  refine n_iconst 0 rfl dX12_downIn_6 ?_
  refine a_puti dX12_downIn_7 pX12_72 (by decide) rfl rfl ?_
  show AW miX12_downIn (d + 5) (mxA Q) 10 [(0, some (.ref 132)), (1, some (.int p))] [] (m0 M)
  refine a_aload_n rfl dX12_downIn_10 ?_
  refine a_iload_n rfl dX12_downIn_11 ?_
  refine n_callV (mi' := miX12_isSitterAt) dX12_downIn_12 lX12_371 mX12_isSitterAt (by decide) rfl rfl rfl (c_X12_isSitterAt hM1 hF (fun j_12 h_12 e_12 => ?_) (fun h_12 => ?_) d) rfl rfl (by omega) (by decide) (Nat.le_of_ble_eq_true rfl)
  · show AW _ _ _ _ _ _ _
    subst e_12
    have t_12 : (nI j_12).toInt = (j_12 : Int) := nI_toInt (by omega)
    refine n_if_ne 24 (by decide) dX12_downIn_15 (by decide) (fun _ => ?_) (fun h => absurd h (by decide))
    refine a_iconst (-1) rfl dX12_downIn_24 ?_
    refine a_istore_n (by decide) rfl dX12_downIn_25 ?_
    have hfo := WF_for hF j_12 (by omega)
    refine a_aload_n rfl dX12_downIn_26 ?_
    refine n_callV (mi' := miX12_keeps) dX12_downIn_27 lX12_417 mX12_keeps (by decide) rfl rfl rfl (c_X12_keeps (fun M_27 hk_27 hf_27 => ?_) d) rfl rfl (by omega) (by decide) (Nat.le_of_ble_eq_true rfl)
    show AW _ _ _ _ _ _ _
    refine n_iconst 0 rfl dX12_downIn_30 ?_
    refine a_istore_n (by decide) rfl dX12_downIn_31 ?_
    have loop_32 : ∀ i, i ≤ 201 → ∀ M1, (wbI (m0 M) (tS T) (fun _ _ => False) i M1) → AW miX12_downIn (d + 5) (mxA Q) 32 [(0, some (.ref 132)), (1, some (.int (nI j_12))), (2, some (.int ((optI (fiN (fun d => hiN (tS T) j_12 d (tS T 7 j_12) == 0) i))))), (3, some (.int (nI i)))] [] M1 := by
      refine up (W := fun i => ∀ M1, (wbI (m0 M) (tS T) (fun _ _ => False) i M1) → AW miX12_downIn (d + 5) (mxA Q) 32 [(0, some (.ref 132)), (1, some (.int (nI j_12))), (2, some (.int ((optI (fiN (fun d => hiN (tS T) j_12 d (tS T 7 j_12) == 0) i))))), (3, some (.int (nI i)))] [] M1) 201 (fun M1 hI_32 => ?_) (fun i hi_32 ih_32 M1 hI_32 => ?_)
      · refine a_iload_n rfl dX12_downIn_32 ?_
        refine n_sipush 200 rfl dX12_downIn_33 ?_
        refine n_icmp_gt 63 (by omega) (by omega) dX12_downIn_36 (by decide) (fun h_36 => ?_) (fun h_36 => absurd h_36 (by omega))
        refine a_aload_n rfl dX12_downIn_63 ?_
        refine n_callV (mi' := miX12_restores) dX12_downIn_64 lX12_420 mX12_restores (by decide) rfl rfl rfl (c_X12_restores (fun M_64 hk_64 hf_64 => ?_) d) rfl rfl (by omega) (by decide) (Nat.le_of_ble_eq_true rfl)
        show AW _ _ _ _ _ _ _
        have hfd := (wb_e hI_32 hk_64 hf_64).mo (fun k j h => h.elim (fun z => z.elim) (fun z => z) : ∀ k j, (False ∨ k = 138) → k = 138)
        refine a_aload_n rfl dX12_downIn_67 ?_
        refine a_iload_n rfl dX12_downIn_68 ?_
        refine n_callV (mi' := miX12_answer) dX12_downIn_69 lX12_368 mX12_answer (by decide) rfl rfl rfl (c_X12_answer (fun h_69 => ?_) (fun h_69 => ?_) d) rfl rfl (by omega) (by decide) (Nat.le_of_ble_eq_true rfl)
        · show AW _ _ _ _ _ _ _
          refine a_iret dX12_downIn_72 rfl ?_
          obtain ⟨v, hv⟩ := optI_yes h_69
          exact fin_qM hQ hI hG (by unfold sp_downIn; rw [if_pos (by omega), idx_nI (show j_12 < 2 ^ 31 by omega), show dwN (tS T) j_12 = some v from fiN_ss hv (by omega), hv]; rfl) (hfd.f.i m0_s (by omega)) (m0_fr.t (hfd.f.mo (fun k j h => by unfold scM coM; omega)))
        · show AW _ _ _ _ _ _ _
          refine a_iret dX12_downIn_72 rfl ?_
          exact fin_qM hQ hI hG (by unfold sp_downIn; rw [if_pos (by omega), idx_nI (show j_12 < 2 ^ 31 by omega), show dwN (tS T) j_12 = none from optI_no (by omega) h_69]) siS ((m0_fr.t (hfd.f.mo (fun k j h => by unfold scM coM; omega))).si (by unfold scM coM; omega))
      · refine a_iload_n rfl dX12_downIn_32 ?_
        refine n_sipush 200 rfl dX12_downIn_33 ?_
        refine n_icmp_gt 63 (by omega) (by omega) dX12_downIn_36 (by decide) (fun h_36 => absurd h_36 (by omega)) (fun h_36 => ?_)
        refine a_iload_n rfl dX12_downIn_39 ?_
        refine r_if_ge 63 dX12_downIn_40 (by decide) (fun h_40 => ?_) (fun h_40 => ?_)
        · refine a_aload_n rfl dX12_downIn_63 ?_
          refine n_callV (mi' := miX12_restores) dX12_downIn_64 lX12_420 mX12_restores (by decide) rfl rfl rfl (c_X12_restores (fun M_64 hk_64 hf_64 => ?_) d) rfl rfl (by omega) (by decide) (Nat.le_of_ble_eq_true rfl)
          show AW _ _ _ _ _ _ _
          have hfd := (wb_e hI_32 hk_64 hf_64).mo (fun k j h => h.elim (fun z => z.elim) (fun z => z) : ∀ k j, (False ∨ k = 138) → k = 138)
          refine a_aload_n rfl dX12_downIn_67 ?_
          refine a_iload_n rfl dX12_downIn_68 ?_
          refine n_callV (mi' := miX12_answer) dX12_downIn_69 lX12_368 mX12_answer (by decide) rfl rfl rfl (c_X12_answer (fun h_69 => ?_) (fun h_69 => ?_) d) rfl rfl (by omega) (by decide) (Nat.le_of_ble_eq_true rfl)
          · show AW _ _ _ _ _ _ _
            refine a_iret dX12_downIn_72 rfl ?_
            obtain ⟨v, hv⟩ := optI_yes h_69
            exact fin_qM hQ hI hG (by unfold sp_downIn; rw [if_pos (by omega), idx_nI (show j_12 < 2 ^ 31 by omega), show dwN (tS T) j_12 = some v from fiN_ss hv (by omega), hv]; rfl) (hfd.f.i m0_s (by omega)) (m0_fr.t (hfd.f.mo (fun k j h => by unfold scM coM; omega)))
          · show AW _ _ _ _ _ _ _
            refine a_iret dX12_downIn_72 rfl ?_
            exact absurd h_40 h_69
        · refine a_aload_n rfl dX12_downIn_43 ?_
          refine a_iload_n rfl dX12_downIn_44 ?_
          have htl := WF_tall hF j_12 (by omega)
          refine n_callV (mi' := miX12_heightOf) dX12_downIn_45 lX12_340 mX12_heightOf (by decide) rfl rfl rfl (c_X12_heightOf (S := dayN (tS T) i) hI_32.1 (WF_day2 hF (by omega)) (by show j_12 < tS T 0 4; omega) ?_ d) rfl rfl (by omega) (by decide) (Nat.le_of_ble_eq_true rfl)
          show AW _ _ _ _ _ _ _
          refine a_eqi (y := nI (hgt (tS T 6 j_12) (pdI (tS T) (tS T 2) i (tS T 7 j_12)))) rfl ?_
          have hh1 := hgt_le (tS T 6 j_12) (pdI (tS T) (tS T 2) i (tS T 7 j_12))
          refine n_if_ne 53 (by omega) dX12_downIn_48 (by decide) (fun h_48 => ?_) (fun h_48 => ?_)
          · refine a_aload_n rfl dX12_downIn_53 ?_
            refine n_callV (mi' := miX12_passes) dX12_downIn_54 lX12_394 mX12_passes (by decide) rfl rfl rfl (c_pass (S := dayN (tS T) i) hI_32.1 (WF_day2 hF (by omega)) (fun M_54 hV_54 hf_54 => ?_) d) rfl rfl (by omega) (by decide) (Nat.le_of_ble_eq_true rfl)
            show AW _ _ _ _ _ _ _
            refine n_iinc (c := 1) rfl rfl (by decide) rfl dX12_downIn_57 ?_
            refine a_goto 32 dX12_downIn_60 (by decide) ?_
            rw [show optI (fiN (fun d => hiN (tS T) j_12 d (tS T 7 j_12) == 0) i) = optI (fiN (fun d => hiN (tS T) j_12 d (tS T 7 j_12) == 0) (i + 1)) by rw [optI_no (by omega) h_40, fiN_s1 (optI_no (by omega) h_40) (by simp only [hiN]; simpa using h_48)]]
            exact a_bk (ih_32 _ (wb_s hI_32 hV_54 hf_54)) ⟨rfl, rfl, rfl, rfl, trivial⟩
          · refine a_iload_n rfl dX12_downIn_51 ?_
            refine a_istore_n (by decide) rfl dX12_downIn_52 ?_
            refine a_aload_n rfl dX12_downIn_53 ?_
            refine n_callV (mi' := miX12_passes) dX12_downIn_54 lX12_394 mX12_passes (by decide) rfl rfl rfl (c_pass (S := dayN (tS T) i) hI_32.1 (WF_day2 hF (by omega)) (fun M_54 hV_54 hf_54 => ?_) d) rfl rfl (by omega) (by decide) (Nat.le_of_ble_eq_true rfl)
            show AW _ _ _ _ _ _ _
            refine n_iinc (c := 1) rfl rfl (by decide) rfl dX12_downIn_57 ?_
            refine a_goto 32 dX12_downIn_60 (by decide) ?_
            rw [show fiN (fun d => hiN (tS T) j_12 d (tS T 7 j_12) == 0) (i + 1) = some i from fiN_s0 (optI_no (by omega) h_40) (by simp only [hiN]; simpa using h_48)] at ih_32
            exact a_bk (ih_32 _ (wb_s hI_32 hV_54 hf_54)) ⟨rfl, rfl, rfl, rfl, trivial⟩
    exact a_bk (loop_32 0 (by omega) _ (wb_0 hM1 hF hk_27 hf_27)) ⟨rfl, rfl, rfl, rfl, trivial⟩
  · show AW _ _ _ _ _ _ _
    have h_12 := not_inR h_12 (by omega)
    refine n_if_ne 24 (by decide) dX12_downIn_15 (by decide) (fun h => absurd h (by decide)) (fun _ => ?_)
    refine a_aload_n rfl dX12_downIn_18 ?_
    refine n_iconst 2 rfl dX12_downIn_19 ?_
    refine n_callV (mi' := miX12_refuse) dX12_downIn_20 lX12_345 mX12_refuse (by decide) rfl rfl rfl (c_X12_refuse ?_ d) rfl rfl (by omega) (by decide) (Nat.le_of_ble_eq_true rfl)
    show AW _ _ _ _ _ _ _
    refine a_iret dX12_downIn_23 rfl ?_
    exact fin_qM hQ hI hG (by unfold sp_downIn; rw [if_neg (by omega)]) siS (m0_fr.si (by unfold scM coM; omega))

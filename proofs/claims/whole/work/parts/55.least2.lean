def sp_least (x : Int32) (T : TT) : AN := if inN x (2 ^ tS T 0 4) then (match leN (tS T) (idx x) with
  | some v => (nI (szN v), st' T 0)
  | none => (-1, st' T 8)) else (-1, st' T 5)
def sp_leastSet (x : Int32) (T : TT) : AN := if inN x (2 ^ tS T 0 4) then (match leN (tS T) (idx x) with
  | some v => (nI v, st' T 0)
  | none => (-1, st' T 8)) else (-1, st' T 5)

set_option maxRecDepth 100000 in
set_option maxHeartbeats 800000 in
theorem c_X11_least {M : Mm} {T : TT} (hI : IX M T) (hG : TG T) {x : Int32} {Q : Option Value → Mm → Prop} (hQ : ∀ M', IX M' (sp_least x T).2 → keM M M' → Q (some (.int (sp_least x T).1)) M') (d : Nat) : AMt miX11_least (d + 4) [.ref 0, .int x] M Q := by
  refine AMt.of (by decide) (Nat.le_of_ble_eq_true rfl) ?_
  show AW miX11_least (d + 4) (mxA Q) 0 [(0, some (.ref 0)), (1, some (.int x))] [] M
  have hV : VX 17 M (tS T) := hI.1.1
  have hF : WF (tS T) := hG.1.1
  have hm : tS T 0 2 ≤ 6 := WF_m hF
  have hh : tS T 0 3 ≤ 10 := WF_h hF
  have hs : tS T 0 4 ≤ 7 := WF_s hF
  have hn : tS T 0 5 ≤ 8 := WF_n hF
  have hp4 := pow_le hs
  refine a_aload_n rfl dX11_least_0 ?_
  refine a_geta dX11_least_1 fX11_58 (by decide) rfl rfl ?_
  refine a_iload_n rfl dX11_least_4 ?_
  refine n_callV (mi' := miX6_isSitterSet) dX11_least_5 lX11_334 mX6_isSitterSet (by decide) rfl rfl rfl (c_X6_isSitterSet isW17 hV hF (fun j_5 h_5 e_5 => ?_) (fun h_5 => ?_) d) rfl rfl (by omega) (by decide) (Nat.le_of_ble_eq_true rfl)
  · show AW _ _ _ _ _ _ _
    subst e_5
    have t_5 : (nI j_5).toInt = (j_5 : Int) := nI_toInt (by omega)
    have i_5 : idx (nI j_5) = j_5 := idx_nI (by omega)
    refine n_if_ne 17 (by decide) dX11_least_8 (by decide) (fun _ => ?_) (fun h => absurd h (by decide))
    refine a_aload_n rfl dX11_least_17 ?_
    refine a_geta dX11_least_18 fX11_97 (by decide) rfl rfl ?_
    refine a_aload_n rfl dX11_least_21 ?_
    refine a_geta dX11_least_22 fX11_58 (by decide) rfl rfl ?_
    refine a_iload_n rfl dX11_least_25 ?_
    refine n_callV (mi' := miX3_fewestNews) dX11_least_26 lX11_337 mX3_fewestNews (by decide) rfl rfl rfl (c_X3_fewestNews hV hF (by omega) (fun v_26 hv_26 he_26 M_26 hf_26 => ?_) (fun he_26 M_26 hf_26 => ?_) d) rfl rfl (by omega) (by decide) (Nat.le_of_ble_eq_true rfl)
    · show AW _ _ _ _ _ _ _
      refine a_istore_n (by decide) rfl dX11_least_29 ?_
      refine a_iload_n rfl dX11_least_30 ?_
      refine a_iconst (-1) rfl dX11_least_31 ?_
      refine s_icmp_ne 44 (by omega) dX11_least_32 (by decide) (fun h_32 => ?_) (fun h_32 => absurd h_32 (by rw [show (-1 : Int32).toInt = -1 by decide]; omega))
      refine a_aload_n rfl dX11_least_44 ?_
      refine a_iload_n rfl dX11_least_45 ?_
      refine n_callS (mi' := miJ6_bitCount_0f7a4) dX11_least_46 lX11_340 mJ6_bitCount_0f7a4 (c_J6_bitCount_0f7a4 (by omega) ?_ d) rfl rfl (by omega) (by decide) (Nat.le_of_ble_eq_true rfl)
      show AW _ _ _ _ _ _ _
      refine n_callV (mi' := miX11_answer) dX11_least_49 lX11_177 mX11_answer (by decide) rfl rfl rfl (c_X11_answer ?_ d) rfl rfl (by omega) (by decide) (Nat.le_of_ble_eq_true rfl)
      show AW _ _ _ _ _ _ _
      refine a_iret dX11_least_52 rfl ?_
      exact fin_q hQ hI hG (by unfold sp_least; rw [if_pos (by omega), i_5, he_26]) (hf_26.mo (fun k j h => by unfold scX coX; omega))
    · show AW _ _ _ _ _ _ _
      refine a_istore_n (by decide) rfl dX11_least_29 ?_
      refine a_iload_n rfl dX11_least_30 ?_
      refine a_iconst (-1) rfl dX11_least_31 ?_
      refine u_icmp_ne 44 dX11_least_32 (by decide) (fun h_32 => absurd rfl h_32) (fun h_32 => ?_)
      refine a_aload_n rfl dX11_least_35 ?_
      refine n_bipush 8 rfl dX11_least_36 ?_
      refine n_callV (mi' := miX11_none) dX11_least_38 lX11_131 mX11_none (by decide) rfl rfl rfl (c_X11_none ?_ d) rfl rfl (by omega) (by decide) (Nat.le_of_ble_eq_true rfl)
      show AW _ _ _ _ _ _ _
      refine a_goto 52 dX11_least_41 (by decide) ?_
      refine a_iret dX11_least_52 rfl ?_
      exact fin_q hQ hI hG (by unfold sp_least; rw [if_pos (by omega), i_5, he_26]) (hf_26.mo (fun k j h => by unfold scX coX; omega))
  · show AW _ _ _ _ _ _ _
    have h_5 := not_inR h_5 (by omega)
    refine n_if_ne 17 (by decide) dX11_least_8 (by decide) (fun h => absurd h (by decide)) (fun _ => ?_)
    refine a_aload_n rfl dX11_least_11 ?_
    refine n_iconst 5 rfl dX11_least_12 ?_
    refine n_callV (mi' := miX11_none) dX11_least_13 lX11_131 mX11_none (by decide) rfl rfl rfl (c_X11_none ?_ d) rfl rfl (by omega) (by decide) (Nat.le_of_ble_eq_true rfl)
    show AW _ _ _ _ _ _ _
    refine a_iret dX11_least_16 rfl ?_
    exact fin_q hQ hI hG (by unfold sp_least; rw [if_neg (by omega)]) fr.r

set_option maxRecDepth 100000 in
set_option maxHeartbeats 800000 in
theorem c_X11_leastSet {M : Mm} {T : TT} (hI : IX M T) (hG : TG T) {x : Int32} {Q : Option Value → Mm → Prop} (hQ : ∀ M', IX M' (sp_leastSet x T).2 → keM M M' → Q (some (.int (sp_leastSet x T).1)) M') (d : Nat) : AMt miX11_leastSet (d + 4) [.ref 0, .int x] M Q := by
  refine AMt.of (by decide) (Nat.le_of_ble_eq_true rfl) ?_
  show AW miX11_leastSet (d + 4) (mxA Q) 0 [(0, some (.ref 0)), (1, some (.int x))] [] M
  have hV : VX 17 M (tS T) := hI.1.1
  have hF : WF (tS T) := hG.1.1
  have hm : tS T 0 2 ≤ 6 := WF_m hF
  have hh : tS T 0 3 ≤ 10 := WF_h hF
  have hs : tS T 0 4 ≤ 7 := WF_s hF
  have hn : tS T 0 5 ≤ 8 := WF_n hF
  have hp4 := pow_le hs
  refine a_aload_n rfl dX11_leastSet_0 ?_
  refine a_geta dX11_leastSet_1 fX11_58 (by decide) rfl rfl ?_
  refine a_iload_n rfl dX11_leastSet_4 ?_
  refine n_callV (mi' := miX6_isSitterSet) dX11_leastSet_5 lX11_334 mX6_isSitterSet (by decide) rfl rfl rfl (c_X6_isSitterSet isW17 hV hF (fun j_5 h_5 e_5 => ?_) (fun h_5 => ?_) d) rfl rfl (by omega) (by decide) (Nat.le_of_ble_eq_true rfl)
  · show AW _ _ _ _ _ _ _
    subst e_5
    have t_5 : (nI j_5).toInt = (j_5 : Int) := nI_toInt (by omega)
    have i_5 : idx (nI j_5) = j_5 := idx_nI (by omega)
    refine n_if_ne 17 (by decide) dX11_leastSet_8 (by decide) (fun _ => ?_) (fun h => absurd h (by decide))
    refine a_aload_n rfl dX11_leastSet_17 ?_
    refine a_aload_n rfl dX11_leastSet_18 ?_
    refine a_geta dX11_leastSet_19 fX11_97 (by decide) rfl rfl ?_
    refine a_aload_n rfl dX11_leastSet_22 ?_
    refine a_geta dX11_leastSet_23 fX11_58 (by decide) rfl rfl ?_
    refine a_iload_n rfl dX11_leastSet_26 ?_
    refine n_callV (mi' := miX3_fewestNews) dX11_leastSet_27 lX11_337 mX3_fewestNews (by decide) rfl rfl rfl (c_X3_fewestNews hV hF (by omega) (fun v_27 hv_27 he_27 M_27 hf_27 => ?_) (fun he_27 M_27 hf_27 => ?_) d) rfl rfl (by omega) (by decide) (Nat.le_of_ble_eq_true rfl)
    · show AW _ _ _ _ _ _ _
      refine n_callV (mi' := miX11_answerIfThere) dX11_leastSet_30 lX11_247 mX11_answerIfThere (by decide) rfl rfl rfl (c_X11_answerIfThere (fun _ => ?_) (fun e => absurd e (nI_ne_m1 (by omega)))  d) rfl rfl (by omega) (by decide) (Nat.le_of_ble_eq_true rfl)
      show AW _ _ _ _ _ _ _
      refine a_iret dX11_leastSet_33 rfl ?_
      exact fin_q hQ hI hG (by unfold sp_leastSet; rw [if_pos (by omega), i_5, he_27]) (hf_27.mo (fun k j h => by unfold scX coX; omega))
    · show AW _ _ _ _ _ _ _
      refine n_callV (mi' := miX11_answerIfThere) dX11_leastSet_30 lX11_247 mX11_answerIfThere (by decide) rfl rfl rfl (c_X11_answerIfThere (fun e => absurd rfl e) (fun _ => ?_)  d) rfl rfl (by omega) (by decide) (Nat.le_of_ble_eq_true rfl)
      show AW _ _ _ _ _ _ _
      refine a_iret dX11_leastSet_33 rfl ?_
      exact fin_q hQ hI hG (by unfold sp_leastSet; rw [if_pos (by omega), i_5, he_27]) (hf_27.mo (fun k j h => by unfold scX coX; omega))
  · show AW _ _ _ _ _ _ _
    have h_5 := not_inR h_5 (by omega)
    refine n_if_ne 17 (by decide) dX11_leastSet_8 (by decide) (fun h => absurd h (by decide)) (fun _ => ?_)
    refine a_aload_n rfl dX11_leastSet_11 ?_
    refine n_iconst 5 rfl dX11_leastSet_12 ?_
    refine n_callV (mi' := miX11_none) dX11_leastSet_13 lX11_131 mX11_none (by decide) rfl rfl rfl (c_X11_none ?_ d) rfl rfl (by omega) (by decide) (Nat.le_of_ble_eq_true rfl)
    show AW _ _ _ _ _ _ _
    refine a_iret dX11_leastSet_16 rfl ?_
    exact fin_q hQ hI hG (by unfold sp_leastSet; rw [if_neg (by omega)]) fr.r

set_option maxRecDepth 100000 in
set_option maxHeartbeats 800000 in
theorem c_X12_isEnough {M : Mm} {S : ST} (hM : VM 0 M S) (hF : WF S) {sit set : Nat} (hsit : sit < 128) (hset : set < 256) {Q : Option Value → Mm → Prop} (h1 : enB S sit set = true → ∀ M', frM (fun k _ => k = 140) M M' → Q (some (.int (nI 1))) M') (h0 : enB S sit set = false → ∀ M', frM (fun k _ => k = 140) M M' → Q (some (.int (nI 0))) M') (d : Nat) : AMt miX12_isEnough (d + 3) [.ref 132, .int (nI sit), .int (nI set)] M Q := by
  refine AMt.of (by decide) (Nat.le_of_ble_eq_true rfl) ?_
  show AW miX12_isEnough (d + 3) (mxA Q) 0 [(0, some (.ref 132)), (1, some (.int (nI sit))), (2, some (.int (nI set)))] [] M
  have hm := WF_m hF
  have hh := WF_h hF
  have hs := WF_s hF
  have hn := WF_n hF
  have hod := WF_odds hF
  refine n_iconst 0 rfl dX12_isEnough_0 ?_
  refine a_istore_n (by decide) rfl dX12_isEnough_1 ?_
  have loop_2 : ∀ i, i ≤ S 0 2 → ∀ M1, ((∀ k, k < i → (M1).1 140 k = nI (S 2 k)) ∧ frM (fun k _ => k = 140) M M1) → AW miX12_isEnough (d + 3) (mxA Q) 2 [(0, some (.ref 132)), (1, some (.int (nI sit))), (2, some (.int (nI set))), (3, some (.int (nI i)))] [] M1 := by
    refine up (W := fun i => ∀ M1, ((∀ k, k < i → (M1).1 140 k = nI (S 2 k)) ∧ frM (fun k _ => k = 140) M M1) → AW miX12_isEnough (d + 3) (mxA Q) 2 [(0, some (.ref 132)), (1, some (.int (nI sit))), (2, some (.int (nI set))), (3, some (.int (nI i)))] [] M1) (S 0 2) (fun M1 hI_2 => ?_) (fun i hi_2 ih_2 M1 hI_2 => ?_)
    · have hMi : VM 0 M1 S := VM_frM hM hF hI_2.2 (fun j _ => by omega)
      refine a_iload_n rfl dX12_isEnough_2 ?_
      refine a_aload_n rfl dX12_isEnough_3 ?_
      refine a_geta dX12_isEnough_4 fX12_35 (by decide) rfl rfl ?_
      refine n_iconst 0 rfl dX12_isEnough_7 ?_
      refine v_iald (by omega) (VM_s0 hMi) (by decide) rfl (by decide) dX12_isEnough_8 ?_
      refine n_icmp_ge 33 (by omega) (by omega) dX12_isEnough_9 (by decide) (fun h_9 => ?_) (fun h_9 => absurd h_9 (by omega))
      refine n_iconst 0 rfl dX12_isEnough_33 ?_
      refine a_istore_n (by decide) rfl dX12_isEnough_34 ?_
      have loop_35 : ∀ i, i ≤ S 0 5 → ∀ M2, ((∀ k, k < S 0 2 → (M2).1 140 k = nI (rowN S set i k)) ∧ alN (cbB S set) i = true ∧ frM (fun k _ => k = 140) M M2) → AW miX12_isEnough (d + 3) (mxA Q) 35 [(0, some (.ref 132)), (1, some (.int (nI sit))), (2, some (.int (nI set))), (3, some (.int (nI i)))] [] M2 := by
        refine up (W := fun i => ∀ M2, ((∀ k, k < S 0 2 → (M2).1 140 k = nI (rowN S set i k)) ∧ alN (cbB S set) i = true ∧ frM (fun k _ => k = 140) M M2) → AW miX12_isEnough (d + 3) (mxA Q) 35 [(0, some (.ref 132)), (1, some (.int (nI sit))), (2, some (.int (nI set))), (3, some (.int (nI i)))] [] M2) (S 0 5) (fun M2 hI_35 => ?_) (fun i hi_35 ih_35 M2 hI_35 => ?_)
        · have hMi : VM 0 M2 S := VM_frM hM hF hI_35.2.2 (fun j _ => by omega)
          refine a_iload_n rfl dX12_isEnough_35 ?_
          refine a_aload_n rfl dX12_isEnough_36 ?_
          refine a_geta dX12_isEnough_37 fX12_35 (by decide) rfl rfl ?_
          refine n_iconst 3 rfl dX12_isEnough_40 ?_
          refine v_iald (by omega) (VM_s3 hMi) (by decide) rfl (by decide) dX12_isEnough_41 ?_
          refine n_icmp_ge 115 (by omega) (by omega) dX12_isEnough_42 (by decide) (fun h_42 => ?_) (fun h_42 => absurd h_42 (by omega))
          refine n_iconst 0 rfl dX12_isEnough_115 ?_
          refine a_istore_n (by decide) rfl dX12_isEnough_116 ?_
          have loop_117 : ∀ i, i ≤ S 0 4 → (alN (dnB S sit set) i = true) → AW miX12_isEnough (d + 3) (mxA Q) 117 [(0, some (.ref 132)), (1, some (.int (nI sit))), (2, some (.int (nI set))), (3, some (.int (nI i)))] [] M2 := by
            refine up (W := fun i => (alN (dnB S sit set) i = true) → AW miX12_isEnough (d + 3) (mxA Q) 117 [(0, some (.ref 132)), (1, some (.int (nI sit))), (2, some (.int (nI set))), (3, some (.int (nI i)))] [] M2) (S 0 4) (fun hI_117 => ?_) (fun i hi_117 ih_117 hI_117 => ?_)
            · refine a_iload_n rfl dX12_isEnough_117 ?_
              refine a_aload_n rfl dX12_isEnough_118 ?_
              refine a_geta dX12_isEnough_119 fX12_35 (by decide) rfl rfl ?_
              refine n_iconst 2 rfl dX12_isEnough_122 ?_
              refine v_iald (by omega) (VM_s2 hMi) (by decide) rfl (by decide) dX12_isEnough_123 ?_
              refine n_icmp_ge 172 (by omega) (by omega) dX12_isEnough_124 (by decide) (fun h_124 => ?_) (fun h_124 => absurd h_124 (by omega))
              refine n_iconst 1 rfl dX12_isEnough_172 ?_
              refine a_zret dX12_isEnough_173 rfl (Or.inr rfl) ?_
              exact h1 (by unfold enB; rw [hI_35.2.1, hI_117]; rfl) _ hI_35.2.2
            · refine a_iload_n rfl dX12_isEnough_117 ?_
              refine a_aload_n rfl dX12_isEnough_118 ?_
              refine a_geta dX12_isEnough_119 fX12_35 (by decide) rfl rfl ?_
              refine n_iconst 2 rfl dX12_isEnough_122 ?_
              refine v_iald (by omega) (VM_s2 hMi) (by decide) rfl (by decide) dX12_isEnough_123 ?_
              refine n_icmp_ge 172 (by omega) (by omega) dX12_isEnough_124 (by decide) (fun h_124 => absurd h_124 (by omega)) (fun h_124 => ?_)
              refine a_iload_n rfl dX12_isEnough_127 ?_
              refine a_iload_n rfl dX12_isEnough_128 ?_
              refine n_callS (mi' := miX12_has) dX12_isEnough_129 lX12_108 mX12_has (c_X12_has (by omega) (by omega) (fun h_129 => ?_) (fun h_129 => ?_) d) rfl rfl (by omega) (by decide) (Nat.le_of_ble_eq_true rfl)
              · show AW _ _ _ _ _ _ _
                refine n_if_eq 166 (by decide) dX12_isEnough_132 (by decide) (fun h => absurd h (by decide)) (fun _ => ?_)
                have hfo := WF_for hF i hi_117
                have htl := WF_tall hF i hi_117
                refine a_aload_n rfl dX12_isEnough_135 ?_
                refine a_geta dX12_isEnough_136 fX12_35 (by decide) rfl rfl ?_
                refine n_bipush 45 rfl dX12_isEnough_139 ?_
                refine a_iload_n rfl dX12_isEnough_141 ?_
                refine n_iadd dX12_isEnough_142 ?_
                refine v_iald (by omega) (VM_a45 hMi (j := i) (by omega)) (by decide) rfl (by decide) dX12_isEnough_143 ?_
                refine a_aload_n rfl dX12_isEnough_144 ?_
                refine a_geta dX12_isEnough_145 fX12_44 (by decide) rfl rfl ?_
                refine a_aload_n rfl dX12_isEnough_148 ?_
                refine a_geta dX12_isEnough_149 fX12_35 (by decide) rfl rfl ?_
                refine n_bipush 52 rfl dX12_isEnough_152 ?_
                refine a_iload_n rfl dX12_isEnough_154 ?_
                refine n_iadd dX12_isEnough_155 ?_
                refine v_iald (by omega) (VM_a52 hMi (j := i) (by omega)) (by decide) rfl (by decide) dX12_isEnough_156 ?_
                refine v_iald (by omega) (hI_35.1 _ (by omega)) (by decide) rfl (by decide) dX12_isEnough_157 ?_
                refine n_callS (mi' := miX12_heightBy) dX12_isEnough_158 lX12_337 mX12_heightBy (c_X12_heightBy (by omega) (rowN_le (fun j hj => WF_clear hF j hj) _ _ (by omega)) ?_ d) rfl rfl (by omega) (by decide) (Nat.le_of_ble_eq_true rfl)
                show AW _ _ _ _ _ _ _
                have hh1 := hgt_le (S 6 i) (rowN S set (S 0 5) (S 7 i))
                refine n_if_le 166 (by omega) dX12_isEnough_161 (by decide) (fun h_161 => ?_) (fun h_161 => ?_)
                · refine n_iinc (c := 1) rfl rfl (by decide) rfl dX12_isEnough_166 ?_
                  refine a_goto 117 dX12_isEnough_169 (by decide) ?_
                  exact a_bk (ih_117 (al_step hI_117 (by unfold dnB; rw [h_161]; simp))) ⟨rfl, rfl, rfl, rfl, trivial⟩
                · refine n_iconst 0 rfl dX12_isEnough_164 ?_
                  refine a_zret dX12_isEnough_165 rfl (Or.inl rfl) ?_
                  exact h0 (by unfold enB; rw [al_no (p := dnB S sit set) (i := i) (by unfold dnB; rw [h_129]; simp; omega) hi_117]; simp) _ hI_35.2.2
              · show AW _ _ _ _ _ _ _
                refine n_if_eq 166 (by decide) dX12_isEnough_132 (by decide) (fun _ => ?_) (fun h => absurd h (by decide))
                refine n_iinc (c := 1) rfl rfl (by decide) rfl dX12_isEnough_166 ?_
                refine a_goto 117 dX12_isEnough_169 (by decide) ?_
                exact a_bk (ih_117 (al_step hI_117 (by unfold dnB; rw [h_129]; rfl))) ⟨rfl, rfl, rfl, rfl, trivial⟩
          exact a_bk (loop_117 0 (by omega) rfl) ⟨rfl, rfl, rfl, rfl, trivial⟩
        · have hMi : VM 0 M2 S := VM_frM hM hF hI_35.2.2 (fun j _ => by omega)
          refine a_iload_n rfl dX12_isEnough_35 ?_
          refine a_aload_n rfl dX12_isEnough_36 ?_
          refine a_geta dX12_isEnough_37 fX12_35 (by decide) rfl rfl ?_
          refine n_iconst 3 rfl dX12_isEnough_40 ?_
          refine v_iald (by omega) (VM_s3 hMi) (by decide) rfl (by decide) dX12_isEnough_41 ?_
          refine n_icmp_ge 115 (by omega) (by omega) dX12_isEnough_42 (by decide) (fun h_42 => absurd h_42 (by omega)) (fun h_42 => ?_)
          refine a_iload_n rfl dX12_isEnough_45 ?_
          refine a_iload_n rfl dX12_isEnough_46 ?_
          refine n_callS (mi' := miX12_has) dX12_isEnough_47 lX12_108 mX12_has (c_X12_has (by omega) (by omega) (fun h_47 => ?_) (fun h_47 => ?_) d) rfl rfl (by omega) (by decide) (Nat.le_of_ble_eq_true rfl)
          · show AW _ _ _ _ _ _ _
            refine n_if_ne 56 (by decide) dX12_isEnough_50 (by decide) (fun _ => ?_) (fun h => absurd h (by decide))
            refine a_aload_n rfl dX12_isEnough_56 ?_
            refine a_iload_n rfl dX12_isEnough_57 ?_
            refine n_callV (mi' := miX12_canBring) dX12_isEnough_58 lX12_397 mX12_canBring (by decide) rfl rfl rfl (c_X12_canBring hMi hF (by omega) (fun ha_58 hb_58 hc_58 => ?_) (fun h_58 => ?_) d) rfl rfl (by omega) (by decide) (Nat.le_of_ble_eq_true rfl)
            · show AW _ _ _ _ _ _ _
              refine n_if_ne 66 (by decide) dX12_isEnough_61 (by decide) (fun _ => ?_) (fun h => absurd h (by decide))
              have hab := WF_about hF i hi_35
              have hsz := WF_size hF i hi_35
              have hrl := rowN_le (S := S) (set := set) (fun j hj => WF_clear hF j hj) i (S 9 i) hab
              refine a_aload_n rfl dX12_isEnough_66 ?_
              refine a_geta dX12_isEnough_67 fX12_44 (by decide) rfl rfl ?_
              refine a_aload_n rfl dX12_isEnough_70 ?_
              refine a_geta dX12_isEnough_71 fX12_35 (by decide) rfl rfl ?_
              refine n_bipush 66 rfl dX12_isEnough_74 ?_
              refine a_iload_n rfl dX12_isEnough_76 ?_
              refine n_iadd dX12_isEnough_77 ?_
              refine v_iald (by omega) (VM_a66 hMi (j := i) (by omega)) (by decide) rfl (by decide) dX12_isEnough_78 ?_
              refine n_bipush 100 rfl dX12_isEnough_79 ?_
              refine a_aload_n rfl dX12_isEnough_81 ?_
              refine a_geta dX12_isEnough_82 fX12_44 (by decide) rfl rfl ?_
              refine a_aload_n rfl dX12_isEnough_85 ?_
              refine a_geta dX12_isEnough_86 fX12_35 (by decide) rfl rfl ?_
              refine n_bipush 66 rfl dX12_isEnough_89 ?_
              refine a_iload_n rfl dX12_isEnough_91 ?_
              refine n_iadd dX12_isEnough_92 ?_
              refine v_iald (by omega) (VM_a66 hMi (j := i) (by omega)) (by decide) rfl (by decide) dX12_isEnough_93 ?_
              refine v_iald (by omega) (hI_35.1 _ (by omega)) (by decide) rfl (by decide) dX12_isEnough_94 ?_
              refine a_aload_n rfl dX12_isEnough_95 ?_
              refine a_geta dX12_isEnough_96 fX12_35 (by decide) rfl rfl ?_
              refine n_bipush 74 rfl dX12_isEnough_99 ?_
              refine a_iload_n rfl dX12_isEnough_101 ?_
              refine n_iadd dX12_isEnough_102 ?_
              refine v_iald (by omega) (VM_a74 hMi (j := i) (by omega)) (by decide) rfl (by decide) dX12_isEnough_103 ?_
              refine n_iadd dX12_isEnough_104 ?_
              refine n_min (by omega) (by omega) dX12_isEnough_105 lX12_386 (Nat.le_of_ble_eq_true rfl) ?_
              refine n_iast (by omega) (by decide) rfl (by decide) dX12_isEnough_108 ?_
              refine n_iinc (c := 1) rfl rfl (by decide) rfl dX12_isEnough_109 ?_
              refine a_goto 35 dX12_isEnough_112 (by decide) ?_
              exact a_bk (ih_35 _ ⟨row_step hI_35.1 h_47, al_step hI_35.2.1 (by unfold cbB; rw [hb_58]; simp; right; have := WF_clear hF _ hab; omega), hI_35.2.2.si rfl⟩) ⟨rfl, rfl, rfl, rfl, trivial⟩
            · show AW _ _ _ _ _ _ _
              refine n_if_ne 66 (by decide) dX12_isEnough_61 (by decide) (fun h => absurd h (by decide)) (fun _ => ?_)
              refine n_iconst 0 rfl dX12_isEnough_64 ?_
              refine a_zret dX12_isEnough_65 rfl (Or.inl rfl) ?_
              exact h0 (by unfold enB; rw [al_no (p := cbB S set) (i := i) (by unfold cbB; rw [h_47]; simp; intro z; have := WF_clear hF _ (WF_about hF i hi_35); omega) hi_35]; rfl) _ hI_35.2.2
          · show AW _ _ _ _ _ _ _
            refine n_if_ne 56 (by decide) dX12_isEnough_50 (by decide) (fun h => absurd h (by decide)) (fun _ => ?_)
            refine a_goto 109 dX12_isEnough_53 (by decide) ?_
            refine n_iinc (c := 1) rfl rfl (by decide) rfl dX12_isEnough_109 ?_
            refine a_goto 35 dX12_isEnough_112 (by decide) ?_
            exact a_bk (ih_35 _ ⟨row_skip hI_35.1 h_47, al_step hI_35.2.1 (by unfold cbB; rw [h_47]; rfl), hI_35.2.2⟩) ⟨rfl, rfl, rfl, rfl, trivial⟩
      exact a_bk (loop_35 0 (by omega) _ ⟨hI_2.1, rfl, hI_2.2⟩) ⟨rfl, rfl, rfl, rfl, trivial⟩
    · have hMi : VM 0 M1 S := VM_frM hM hF hI_2.2 (fun j _ => by omega)
      refine a_iload_n rfl dX12_isEnough_2 ?_
      refine a_aload_n rfl dX12_isEnough_3 ?_
      refine a_geta dX12_isEnough_4 fX12_35 (by decide) rfl rfl ?_
      refine n_iconst 0 rfl dX12_isEnough_7 ?_
      refine v_iald (by omega) (VM_s0 hMi) (by decide) rfl (by decide) dX12_isEnough_8 ?_
      refine n_icmp_ge 33 (by omega) (by omega) dX12_isEnough_9 (by decide) (fun h_9 => absurd h_9 (by omega)) (fun h_9 => ?_)
      refine a_aload_n rfl dX12_isEnough_12 ?_
      refine a_geta dX12_isEnough_13 fX12_44 (by decide) rfl rfl ?_
      refine a_iload_n rfl dX12_isEnough_16 ?_
      refine a_aload_n rfl dX12_isEnough_17 ?_
      refine a_geta dX12_isEnough_18 fX12_35 (by decide) rfl rfl ?_
      refine n_bipush 6 rfl dX12_isEnough_21 ?_
      refine a_iload_n rfl dX12_isEnough_23 ?_
      refine n_iadd dX12_isEnough_24 ?_
      refine v_iald (by omega) (VM_a6 hMi (j := i) (by omega)) (by decide) rfl (by decide) dX12_isEnough_25 ?_
      refine n_iast (by omega) (by decide) rfl (by decide) dX12_isEnough_26 ?_
      refine n_iinc (c := 1) rfl rfl (by decide) rfl dX12_isEnough_27 ?_
      refine a_goto 2 dX12_isEnough_30 (by decide) ?_
      exact a_bk (ih_2 _ ⟨fun k hk => by
            by_cases e : k = i
            · subst e; exact siS
            · exact siN (hI_2.1 k (by omega)) (by omega), hI_2.2.si rfl⟩) ⟨rfl, rfl, rfl, rfl, trivial⟩
  exact a_bk (loop_2 0 (by omega) _ ⟨fun k hk => absurd hk (by omega), frM.r⟩) ⟨rfl, rfl, rfl, rfl, trivial⟩

set_option maxRecDepth 100000 in
set_option maxHeartbeats 800000 in
theorem c_X12_leastOf {M : Mm} {S : ST} (hM : VM 0 M S) (hF : WF S) {sit : Nat} (hsit : sit < 2 ^ S 0 4) {Q : Option Value → Mm → Prop} (h1 : ∀ v, v < 256 → leN S sit = some v → ∀ M', frM (fun k _ => k = 140) M M' → Q (some (.int (nI v))) M') (h0 : leN S sit = none → ∀ M', frM (fun k _ => k = 140) M M' → Q (some (.int (-1))) M') (d : Nat) : AMt miX12_leastOf (d + 4) [.ref 132, .int (nI sit)] M Q := by
  refine AMt.of (by decide) (Nat.le_of_ble_eq_true rfl) ?_
  show AW miX12_leastOf (d + 4) (mxA Q) 0 [(0, some (.ref 132)), (1, some (.int (nI sit)))] [] M
  have hm := WF_m hF
  have hh := WF_h hF
  have hs := WF_s hF
  have hn := WF_n hF
  have hp5 := pow_le hn
  have hp4 := pow_le hs
  have hp0 := Nat.two_pow_pos (S 0 5)
  refine a_iconst (-1) rfl dX12_leastOf_0 ?_
  refine a_istore_n (by decide) rfl dX12_leastOf_1 ?_
  refine n_iconst 0 rfl dX12_leastOf_2 ?_
  refine a_istore_n (by decide) rfl dX12_leastOf_3 ?_
  have loop_4 : ∀ i, i ≤ 2 ^ S 0 5 → ∀ M1, (frM (fun k _ => k = 140) M M1) → AW miX12_leastOf (d + 4) (mxA Q) 4 [(0, some (.ref 132)), (1, some (.int (nI sit))), (2, some (.int ((optI (lsN (enB S sit) i))))), (3, some (.int (nI i)))] [] M1 := by
    refine up (W := fun i => ∀ M1, (frM (fun k _ => k = 140) M M1) → AW miX12_leastOf (d + 4) (mxA Q) 4 [(0, some (.ref 132)), (1, some (.int (nI sit))), (2, some (.int ((optI (lsN (enB S sit) i))))), (3, some (.int (nI i)))] [] M1) (2 ^ S 0 5) (fun M1 hI_4 => ?_) (fun i hi_4 ih_4 M1 hI_4 => ?_)
    · have hMi : VM 0 M1 S := VM_frM hM hF hI_4 (fun j _ => by omega)
      refine a_iload_n rfl dX12_leastOf_4 ?_
      refine n_iconst 1 rfl dX12_leastOf_5 ?_
      refine a_aload_n rfl dX12_leastOf_6 ?_
      refine a_geta dX12_leastOf_7 fX12_35 (by decide) rfl rfl ?_
      refine n_iconst 3 rfl dX12_leastOf_10 ?_
      refine v_iald (by omega) (VM_s3 hMi) (by decide) rfl (by decide) dX12_leastOf_11 ?_
      refine n_bit (by omega) dX12_leastOf_12 ?_
      refine n_icmp_ge 48 (by omega) (by omega) dX12_leastOf_13 (by decide) (fun h_13 => ?_) (fun h_13 => absurd h_13 (by omega))
      cases ho : lsN (enB S sit) (2 ^ S 0 5) with
      | none =>
        show AW _ _ _ _ [(0, some (.ref 132)), (1, some (.int (nI sit))), (2, some (.int (-1))), (3, some (.int (nI (2 ^ S 0 5))))] [] _
        refine a_iload_n rfl dX12_leastOf_48 ?_
        refine a_iret dX12_leastOf_49 rfl ?_
        exact h0 ho _ hI_4
      | some b =>
        show AW _ _ _ _ [(0, some (.ref 132)), (1, some (.int (nI sit))), (2, some (.int (nI b))), (3, some (.int (nI (2 ^ S 0 5))))] [] _
        refine a_iload_n rfl dX12_leastOf_48 ?_
        refine a_iret dX12_leastOf_49 rfl ?_
        exact h1 b (by have := ls_lt ho; omega) ho _ hI_4
    · have hMi : VM 0 M1 S := VM_frM hM hF hI_4 (fun j _ => by omega)
      refine a_iload_n rfl dX12_leastOf_4 ?_
      refine n_iconst 1 rfl dX12_leastOf_5 ?_
      refine a_aload_n rfl dX12_leastOf_6 ?_
      refine a_geta dX12_leastOf_7 fX12_35 (by decide) rfl rfl ?_
      refine n_iconst 3 rfl dX12_leastOf_10 ?_
      refine v_iald (by omega) (VM_s3 hMi) (by decide) rfl (by decide) dX12_leastOf_11 ?_
      refine n_bit (by omega) dX12_leastOf_12 ?_
      refine n_icmp_ge 48 (by omega) (by omega) dX12_leastOf_13 (by decide) (fun h_13 => absurd h_13 (by omega)) (fun h_13 => ?_)
      cases ho : lsN (enB S sit) i with
      | none =>
        show AW _ _ _ _ [(0, some (.ref 132)), (1, some (.int (nI sit))), (2, some (.int (-1))), (3, some (.int (nI i)))] [] _
        refine a_iload_n rfl dX12_leastOf_16 ?_
        refine r_if_lt 31 dX12_leastOf_17 (by decide) (fun h_17 => ?_) (fun h_17 => absurd (by decide) h_17)
        refine a_aload_n rfl dX12_leastOf_31 ?_
        refine a_iload_n rfl dX12_leastOf_32 ?_
        refine a_iload_n rfl dX12_leastOf_33 ?_
        refine n_callV (mi' := miX12_isEnough) dX12_leastOf_34 lX12_431 mX12_isEnough (by decide) rfl rfl rfl (c_X12_isEnough hMi hF (by omega) (by omega) (fun h_34 M_34 hf_34 => ?_) (fun h_34 M_34 hf_34 => ?_) d) rfl rfl (by omega) (by decide) (Nat.le_of_ble_eq_true rfl)
        · show AW _ _ _ _ _ _ _
          refine n_if_eq 42 (by decide) dX12_leastOf_37 (by decide) (fun h => absurd h (by decide)) (fun _ => ?_)
          refine a_iload_n rfl dX12_leastOf_40 ?_
          refine a_istore_n (by decide) rfl dX12_leastOf_41 ?_
          refine n_iinc (c := 1) rfl rfl (by decide) rfl dX12_leastOf_42 ?_
          refine a_goto 4 dX12_leastOf_45 (by decide) ?_
          rw [ls_n1 ho h_34] at ih_4
          exact a_bk (ih_4 _ (hI_4.t hf_34)) ⟨rfl, rfl, rfl, rfl, trivial⟩
        · show AW _ _ _ _ _ _ _
          refine n_if_eq 42 (by decide) dX12_leastOf_37 (by decide) (fun _ => ?_) (fun h => absurd h (by decide))
          refine n_iinc (c := 1) rfl rfl (by decide) rfl dX12_leastOf_42 ?_
          refine a_goto 4 dX12_leastOf_45 (by decide) ?_
          rw [ls_n0 ho h_34] at ih_4
          exact a_bk (ih_4 _ (hI_4.t hf_34)) ⟨rfl, rfl, rfl, rfl, trivial⟩
      | some b =>
        show AW _ _ _ _ [(0, some (.ref 132)), (1, some (.int (nI sit))), (2, some (.int (nI b))), (3, some (.int (nI i)))] [] _
        have hbl := ls_lt ho
        refine a_iload_n rfl dX12_leastOf_16 ?_
        refine n_if_lt (tgt := 31) (by omega) dX12_leastOf_17 (by decide) ?_
        refine a_iload_n rfl dX12_leastOf_20 ?_
        refine n_callS (mi' := miX12_sizeOf) dX12_leastOf_21 lX12_428 mX12_sizeOf (c_X12_sizeOf (by omega) ?_ d) rfl rfl (by omega) (by decide) (Nat.le_of_ble_eq_true rfl)
        show AW _ _ _ _ _ _ _
        have hz1 := szN_le i
        refine a_iload_n rfl dX12_leastOf_24 ?_
        refine n_callS (mi' := miX12_sizeOf) dX12_leastOf_25 lX12_428 mX12_sizeOf (c_X12_sizeOf (by omega) ?_ d) rfl rfl (by omega) (by decide) (Nat.le_of_ble_eq_true rfl)
        show AW _ _ _ _ _ _ _
        have hz2 := szN_le b
        refine n_icmp_ge 42 (by omega) (by omega) dX12_leastOf_28 (by decide) (fun h_28 => ?_) (fun h_28 => ?_)
        · refine n_iinc (c := 1) rfl rfl (by decide) rfl dX12_leastOf_42 ?_
          refine a_goto 4 dX12_leastOf_45 (by decide) ?_
          rw [ls_s0 ho (by omega)] at ih_4
          exact a_bk (ih_4 _ hI_4) ⟨rfl, rfl, rfl, rfl, trivial⟩
        · refine a_aload_n rfl dX12_leastOf_31 ?_
          refine a_iload_n rfl dX12_leastOf_32 ?_
          refine a_iload_n rfl dX12_leastOf_33 ?_
          refine n_callV (mi' := miX12_isEnough) dX12_leastOf_34 lX12_431 mX12_isEnough (by decide) rfl rfl rfl (c_X12_isEnough hMi hF (by omega) (by omega) (fun h_34 M_34 hf_34 => ?_) (fun h_34 M_34 hf_34 => ?_) d) rfl rfl (by omega) (by decide) (Nat.le_of_ble_eq_true rfl)
          · show AW _ _ _ _ _ _ _
            refine n_if_eq 42 (by decide) dX12_leastOf_37 (by decide) (fun h => absurd h (by decide)) (fun _ => ?_)
            refine a_iload_n rfl dX12_leastOf_40 ?_
            refine a_istore_n (by decide) rfl dX12_leastOf_41 ?_
            refine n_iinc (c := 1) rfl rfl (by decide) rfl dX12_leastOf_42 ?_
            refine a_goto 4 dX12_leastOf_45 (by decide) ?_
            rw [ls_s1 ho (by omega) h_34] at ih_4
            exact a_bk (ih_4 _ (hI_4.t hf_34)) ⟨rfl, rfl, rfl, rfl, trivial⟩
          · show AW _ _ _ _ _ _ _
            refine n_if_eq 42 (by decide) dX12_leastOf_37 (by decide) (fun _ => ?_) (fun h => absurd h (by decide))
            refine n_iinc (c := 1) rfl rfl (by decide) rfl dX12_leastOf_42 ?_
            refine a_goto 4 dX12_leastOf_45 (by decide) ?_
            rw [ls_sf ho h_34] at ih_4
            exact a_bk (ih_4 _ (hI_4.t hf_34)) ⟨rfl, rfl, rfl, rfl, trivial⟩
  exact a_bk (loop_4 0 (by omega) _ frM.r) ⟨rfl, rfl, rfl, rfl, trivial⟩

set_option maxRecDepth 100000 in
set_option maxHeartbeats 800000 in
theorem c_X12_areSitters {M : Mm} {S : ST} (hM : VM 0 M S) (hF : WF S) {x : Int32} {Q : Option Value → Mm → Prop} (h1 : ∀ j, j < 2 ^ S 0 4 → x = nI j → Q (some (.int (nI 1))) M) (h0 : ¬ inR x (2 ^ S 0 4) → Q (some (.int (nI 0))) M) (d : Nat) : AMt miX12_areSitters (d + 1) [.ref 132, .int x] M Q := by
  refine AMt.of (by decide) (Nat.le_of_ble_eq_true rfl) ?_
  show AW miX12_areSitters (d + 1) (mxA Q) 0 [(0, some (.ref 132)), (1, some (.int x))] [] M
  have hm := WF_m hF
  have hh := WF_h hF
  have hs := WF_s hF
  have hn := WF_n hF
  have hp4 := pow_le hs
  have hp0 := Nat.two_pow_pos (S 0 4)
  refine a_iload_n rfl dX12_areSitters_0 ?_
  refine a_i2l dX12_areSitters_1 ?_
  refine a_lconst 0 rfl dX12_areSitters_2 ?_
  refine n_iconst 1 rfl dX12_areSitters_3 ?_
  refine a_aload_n rfl dX12_areSitters_4 ?_
  refine a_geta dX12_areSitters_5 fX12_35 (by decide) rfl rfl ?_
  refine n_iconst 2 rfl dX12_areSitters_8 ?_
  refine v_iald (by omega) (VM_s2 hM) (by decide) rfl (by decide) dX12_areSitters_9 ?_
  refine n_bit (by omega) dX12_areSitters_10 ?_
  refine n_iconst 1 rfl dX12_areSitters_11 ?_
  refine a_isub dX12_areSitters_12 ?_
  refine a_i2l dX12_areSitters_13 ?_
  refine n_callS (mi' := miX12_isIn) dX12_areSitters_14 lX12_104 mX12_isIn (c_X12_isIn (fun h_14 => ?_) (fun h_14 => ?_) d) rfl rfl (by omega) (by decide) (Nat.le_of_ble_eq_true rfl)
  · show AW _ _ _ _ _ _ _
    refine a_zret dX12_areSitters_17 rfl (Or.inr rfl) ?_
    obtain ⟨j, hj, e⟩ := isIn_idx (by omega) h_14
    exact h1 j hj e
  · show AW _ _ _ _ _ _ _
    refine a_zret dX12_areSitters_17 rfl (Or.inl rfl) ?_
    exact h0 (fun q => h_14 (isIn_idx' (by omega) q))

set_option maxRecDepth 100000 in
set_option maxHeartbeats 800000 in
theorem c_X12_least {M : Mm} {T : TT} (hI : IM M T) (hG : TG T) {x : Int32} {Q : Option Value → Mm → Prop} (hQ : ∀ M', IM M' (sp_least x T).2 → keX M M' → Q (some (.int (sp_least x T).1)) M') (d : Nat) : AMt miX12_least (d + 5) [.ref 132, .int x] M Q := by
  refine AMt.of (by decide) (Nat.le_of_ble_eq_true rfl) ?_
  show AW miX12_least (d + 5) (mxA Q) 0 [(0, some (.ref 132)), (1, some (.int x))] [] M
  have hF : WF (tS T) := hG.1.1
  have hM : VM 0 M (tS T) := hI.1.1
  have hM1 := m0_VM hM hF
  have hm : tS T 0 2 ≤ 6 := WF_m hF
  have hh : tS T 0 3 ≤ 10 := WF_h hF
  have hs : tS T 0 4 ≤ 7 := WF_s hF
  have hn : tS T 0 5 ≤ 8 := WF_n hF
  have hd9 : tS T 0 1 ≤ 9999 := hG.1.2.2.2.2.1
  have hp4 := pow_le hs
  refine a_aload_n rfl dX12_least_0 ?_
  refine n_iconst 0 rfl dX12_least_1 ?_
  refine a_puti dX12_least_2 pX12_69 (by decide) rfl rfl ?_
  refine a_aload_n rfl dX12_least_5 ?_
  refine n_iconst 0 rfl dX12_least_6 ?_
  refine a_puti dX12_least_7 pX12_72 (by decide) rfl rfl ?_
  show AW miX12_least (d + 5) (mxA Q) 10 [(0, some (.ref 132)), (1, some (.int x))] [] (m0 M)
  refine a_aload_n rfl dX12_least_10 ?_
  refine a_iload_n rfl dX12_least_11 ?_
  refine n_callV (mi' := miX12_areSitters) dX12_least_12 lX12_434 mX12_areSitters (by decide) rfl rfl rfl (c_X12_areSitters hM1 hF (fun j_12 h_12 e_12 => ?_) (fun h_12 => ?_) d) rfl rfl (by omega) (by decide) (Nat.le_of_ble_eq_true rfl)
  · show AW _ _ _ _ _ _ _
    subst e_12
    have t_12 : (nI j_12).toInt = (j_12 : Int) := nI_toInt (by omega)
    have i_12 : idx (nI j_12) = j_12 := idx_nI (by omega)
    refine n_if_ne 24 (by decide) dX12_least_15 (by decide) (fun _ => ?_) (fun h => absurd h (by decide))
    refine a_aload_n rfl dX12_least_24 ?_
    refine a_iload_n rfl dX12_least_25 ?_
    refine n_callV (mi' := miX12_leastOf) dX12_least_26 lX12_437 mX12_leastOf (by decide) rfl rfl rfl (c_X12_leastOf hM1 hF (by omega) (fun v_26 hv_26 he_26 M_26 hf_26 => ?_) (fun he_26 M_26 hf_26 => ?_) d) rfl rfl (by omega) (by decide) (Nat.le_of_ble_eq_true rfl)
    · show AW _ _ _ _ _ _ _
      refine a_istore_n (by decide) rfl dX12_least_29 ?_
      refine a_iload_n rfl dX12_least_30 ?_
      refine n_if_ge 43 (by omega) dX12_least_31 (by decide) ?_
      refine a_iload_n rfl dX12_least_43 ?_
      refine n_callS (mi' := miX12_sizeOf) dX12_least_44 lX12_428 mX12_sizeOf (c_X12_sizeOf (by omega) ?_ d) rfl rfl (by omega) (by decide) (Nat.le_of_ble_eq_true rfl)
      show AW _ _ _ _ _ _ _
      refine a_iret dX12_least_47 rfl ?_
      exact fin_qM hQ hI hG (by unfold sp_least; rw [if_pos (by omega), i_12, he_26]) (hf_26.f.i m0_s (by omega)) (m0_fr.t (hf_26.f.mo (fun k j h => by unfold scM coM; omega)))
    · show AW _ _ _ _ _ _ _
      refine a_istore_n (by decide) rfl dX12_least_29 ?_
      refine a_iload_n rfl dX12_least_30 ?_
      refine r_if_ge 43 dX12_least_31 (by decide) (fun h_31 => absurd h_31 (by decide)) (fun h_31 => ?_)
      refine a_aload_n rfl dX12_least_34 ?_
      refine n_bipush 8 rfl dX12_least_35 ?_
      refine n_callV (mi' := miX12_refuse) dX12_least_37 lX12_345 mX12_refuse (by decide) rfl rfl rfl (c_X12_refuse ?_ d) rfl rfl (by omega) (by decide) (Nat.le_of_ble_eq_true rfl)
      show AW _ _ _ _ _ _ _
      refine a_goto 47 dX12_least_40 (by decide) ?_
      refine a_iret dX12_least_47 rfl ?_
      exact fin_qM hQ hI hG (by unfold sp_least; rw [if_pos (by omega), i_12, he_26]) siS ((m0_fr.t (hf_26.f.mo (fun k j h => by unfold scM coM; omega))).si (by unfold scM coM; omega))
  · show AW _ _ _ _ _ _ _
    have h_12 := not_inR h_12 (by omega)
    refine n_if_ne 24 (by decide) dX12_least_15 (by decide) (fun h => absurd h (by decide)) (fun _ => ?_)
    refine a_aload_n rfl dX12_least_18 ?_
    refine n_iconst 5 rfl dX12_least_19 ?_
    refine n_callV (mi' := miX12_refuse) dX12_least_20 lX12_345 mX12_refuse (by decide) rfl rfl rfl (c_X12_refuse ?_ d) rfl rfl (by omega) (by decide) (Nat.le_of_ble_eq_true rfl)
    show AW _ _ _ _ _ _ _
    refine a_iret dX12_least_23 rfl ?_
    exact fin_qM hQ hI hG (by unfold sp_least; rw [if_neg (by omega)]) siS (m0_fr.si (by unfold scM coM; omega))

set_option maxRecDepth 100000 in
set_option maxHeartbeats 800000 in
theorem c_X12_leastSet {M : Mm} {T : TT} (hI : IM M T) (hG : TG T) {x : Int32} {Q : Option Value → Mm → Prop} (hQ : ∀ M', IM M' (sp_leastSet x T).2 → keX M M' → Q (some (.int (sp_leastSet x T).1)) M') (d : Nat) : AMt miX12_leastSet (d + 5) [.ref 132, .int x] M Q := by
  refine AMt.of (by decide) (Nat.le_of_ble_eq_true rfl) ?_
  show AW miX12_leastSet (d + 5) (mxA Q) 0 [(0, some (.ref 132)), (1, some (.int x))] [] M
  have hF : WF (tS T) := hG.1.1
  have hM : VM 0 M (tS T) := hI.1.1
  have hM1 := m0_VM hM hF
  have hm : tS T 0 2 ≤ 6 := WF_m hF
  have hh : tS T 0 3 ≤ 10 := WF_h hF
  have hs : tS T 0 4 ≤ 7 := WF_s hF
  have hn : tS T 0 5 ≤ 8 := WF_n hF
  have hd9 : tS T 0 1 ≤ 9999 := hG.1.2.2.2.2.1
  have hp4 := pow_le hs
  refine a_aload_n rfl dX12_leastSet_0 ?_
  refine n_iconst 0 rfl dX12_leastSet_1 ?_
  refine a_puti dX12_leastSet_2 pX12_69 (by decide) rfl rfl ?_
  refine a_aload_n rfl dX12_leastSet_5 ?_
  refine n_iconst 0 rfl dX12_leastSet_6 ?_
  refine a_puti dX12_leastSet_7 pX12_72 (by decide) rfl rfl ?_
  show AW miX12_leastSet (d + 5) (mxA Q) 10 [(0, some (.ref 132)), (1, some (.int x))] [] (m0 M)
  refine a_aload_n rfl dX12_leastSet_10 ?_
  refine a_iload_n rfl dX12_leastSet_11 ?_
  refine n_callV (mi' := miX12_areSitters) dX12_leastSet_12 lX12_434 mX12_areSitters (by decide) rfl rfl rfl (c_X12_areSitters hM1 hF (fun j_12 h_12 e_12 => ?_) (fun h_12 => ?_) d) rfl rfl (by omega) (by decide) (Nat.le_of_ble_eq_true rfl)
  · show AW _ _ _ _ _ _ _
    subst e_12
    have t_12 : (nI j_12).toInt = (j_12 : Int) := nI_toInt (by omega)
    have i_12 : idx (nI j_12) = j_12 := idx_nI (by omega)
    refine n_if_eq 30 (by decide) dX12_leastSet_15 (by decide) (fun h => absurd h (by decide)) (fun _ => ?_)
    refine a_aload_n rfl dX12_leastSet_18 ?_
    refine a_aload_n rfl dX12_leastSet_19 ?_
    refine a_iload_n rfl dX12_leastSet_20 ?_
    refine n_callV (mi' := miX12_leastOf) dX12_leastSet_21 lX12_437 mX12_leastOf (by decide) rfl rfl rfl (c_X12_leastOf hM1 hF (by omega) (fun v_21 hv_21 he_21 M_21 hf_21 => ?_) (fun he_21 M_21 hf_21 => ?_) d) rfl rfl (by omega) (by decide) (Nat.le_of_ble_eq_true rfl)
    · show AW _ _ _ _ _ _ _
      refine n_callV (mi' := miX12_answer) dX12_leastSet_24 lX12_368 mX12_answer (by decide) rfl rfl rfl (c_X12_answer (fun _ => ?_) (fun e => absurd (by rw [nI_toInt (by omega)]; omega) e)  d) rfl rfl (by omega) (by decide) (Nat.le_of_ble_eq_true rfl)
      show AW _ _ _ _ _ _ _
      refine a_goto 35 dX12_leastSet_27 (by decide) ?_
      refine a_iret dX12_leastSet_35 rfl ?_
      exact fin_qM hQ hI hG (by unfold sp_leastSet; rw [if_pos (by omega), i_12, he_21]) (hf_21.f.i m0_s (by omega)) (m0_fr.t (hf_21.f.mo (fun k j h => by unfold scM coM; omega)))
    · show AW _ _ _ _ _ _ _
      refine n_callV (mi' := miX12_answer) dX12_leastSet_24 lX12_368 mX12_answer (by decide) rfl rfl rfl (c_X12_answer (fun e => absurd e (by decide)) (fun _ => ?_)  d) rfl rfl (by omega) (by decide) (Nat.le_of_ble_eq_true rfl)
      show AW _ _ _ _ _ _ _
      refine a_goto 35 dX12_leastSet_27 (by decide) ?_
      refine a_iret dX12_leastSet_35 rfl ?_
      exact fin_qM hQ hI hG (by unfold sp_leastSet; rw [if_pos (by omega), i_12, he_21]) siS ((m0_fr.t (hf_21.f.mo (fun k j h => by unfold scM coM; omega))).si (by unfold scM coM; omega))
  · show AW _ _ _ _ _ _ _
    have h_12 := not_inR h_12 (by omega)
    refine n_if_eq 30 (by decide) dX12_leastSet_15 (by decide) (fun _ => ?_) (fun h => absurd h (by decide))
    refine a_aload_n rfl dX12_leastSet_30 ?_
    refine n_iconst 5 rfl dX12_leastSet_31 ?_
    refine n_callV (mi' := miX12_refuse) dX12_leastSet_32 lX12_345 mX12_refuse (by decide) rfl rfl rfl (c_X12_refuse ?_ d) rfl rfl (by omega) (by decide) (Nat.le_of_ble_eq_true rfl)
    show AW _ _ _ _ _ _ _
    refine a_iret dX12_leastSet_35 rfl ?_
    exact fin_qM hQ hI hG (by unfold sp_leastSet; rw [if_neg (by omega)]) siS (m0_fr.si (by unfold scM coM; omega))

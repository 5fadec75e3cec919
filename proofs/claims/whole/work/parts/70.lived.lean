def sp_lived (x : Int32) (T : TT) : AN := if inN x 5 then (if (tL T).1 = 1 then (nI ((tL T).2 (idx x)), st' T 0) else (-1, st' T 8)) else (-1, st' T 5)

set_option maxRecDepth 100000 in
set_option maxHeartbeats 800000 in
theorem c_X11_lived {M : Mm} {T : TT} (hI : IX M T) (hG : TG T) {x : Int32} {Q : Option Value → Mm → Prop} (hQ : ∀ M', IX M' (sp_lived x T).2 → keM M M' → Q (some (.int (sp_lived x T).1)) M') (d : Nat) : AMt miX11_lived (d + 3) [.ref 0, .int x] M Q := by
  refine AMt.of (by decide) (Nat.le_of_ble_eq_true rfl) ?_
  show AW miX11_lived (d + 3) (mxA Q) 0 [(0, some (.ref 0)), (1, some (.int x))] [] M
  have hV : VX 17 M (tS T) := hI.1.1
  have hF : WF (tS T) := hG.1.1
  have hm : tS T 0 2 ≤ 6 := WF_m hF
  have hh : tS T 0 3 ≤ 10 := WF_h hF
  have hs : tS T 0 4 ≤ 7 := WF_s hF
  have hn : tS T 0 5 ≤ 8 := WF_n hF
  have hl1 : (tL T).1 ≤ 1 := hG.2.2.2.2.1
  refine a_iload_n rfl dX11_lived_0 ?_
  refine r_if_lt 9 dX11_lived_1 (by decide) (fun h_1 => ?_) (fun h_1 => ?_)
  · refine a_aload_n rfl dX11_lived_9 ?_
    refine n_iconst 5 rfl dX11_lived_10 ?_
    refine n_callV (mi' := miX11_none) dX11_lived_11 lX11_131 mX11_none (by decide) rfl rfl rfl (c_X11_none ?_ d) rfl rfl (by omega) (by decide) (Nat.le_of_ble_eq_true rfl)
    show AW _ _ _ _ _ _ _
    refine a_iret dX11_lived_14 rfl ?_
    exact fin_q hQ hI hG (by unfold sp_lived; rw [if_neg (by omega)]) fr.r
  · refine a_iload_n rfl dX11_lived_4 ?_
    refine n_iconst 5 rfl dX11_lived_5 ?_
    refine r_icmp_lt 15 (by omega) dX11_lived_6 (by decide) (fun h_6 => ?_) (fun h_6 => ?_)
    · obtain ⟨q, hq, rfl⟩ := inR_of (x := x) (m := 5) (by omega) (by omega) (by omega)
      have t_q : (nI q).toInt = (q : Int) := nI_toInt (by omega)
      have i_q : idx (nI q) = q := idx_nI (by omega)
      refine a_aload_n rfl dX11_lived_15 ?_
      refine g_i hI.2.2.2.2.2.1.1 (by decide) rfl fX11_83 rfl dX11_lived_16 ?_
      refine n_if_eq 35 (by omega) dX11_lived_19 (by decide) (fun h_19 => ?_) (fun h_19 => ?_)
      · refine a_aload_n rfl dX11_lived_35 ?_
        refine n_bipush 8 rfl dX11_lived_36 ?_
        refine n_callV (mi' := miX11_none) dX11_lived_38 lX11_131 mX11_none (by decide) rfl rfl rfl (c_X11_none ?_ d) rfl rfl (by omega) (by decide) (Nat.le_of_ble_eq_true rfl)
        show AW _ _ _ _ _ _ _
        refine a_iret dX11_lived_41 rfl ?_
        exact fin_q hQ hI hG (by unfold sp_lived; rw [if_pos (by omega), if_neg (by omega)]) fr.r
      · refine a_aload_n rfl dX11_lived_22 ?_
        refine a_aload_n rfl dX11_lived_23 ?_
        refine a_geta dX11_lived_24 fX11_79 (by decide) rfl rfl ?_
        refine a_iload_n rfl dX11_lived_27 ?_
        refine v_iald (by omega) (hI.2.2.2.2.2.1.2 (by omega) _ (by omega)) (by decide) rfl (by decide) dX11_lived_28 ?_
        refine n_callV (mi' := miX11_answer) dX11_lived_29 lX11_177 mX11_answer (by decide) rfl rfl rfl (c_X11_answer ?_ d) rfl rfl (by omega) (by decide) (Nat.le_of_ble_eq_true rfl)
        show AW _ _ _ _ _ _ _
        refine a_goto 41 dX11_lived_32 (by decide) ?_
        refine a_iret dX11_lived_41 rfl ?_
        exact fin_q hQ hI hG (by unfold sp_lived; rw [if_pos (by omega), if_pos (by omega), i_q]) fr.r
    · refine a_aload_n rfl dX11_lived_9 ?_
      refine n_iconst 5 rfl dX11_lived_10 ?_
      refine n_callV (mi' := miX11_none) dX11_lived_11 lX11_131 mX11_none (by decide) rfl rfl rfl (c_X11_none ?_ d) rfl rfl (by omega) (by decide) (Nat.le_of_ble_eq_true rfl)
      show AW _ _ _ _ _ _ _
      refine a_iret dX11_lived_14 rfl ?_
      exact fin_q hQ hI hG (by unfold sp_lived; rw [if_neg (by omega)]) fr.r

set_option maxRecDepth 100000 in
set_option maxHeartbeats 800000 in
theorem c_X12_lived {M : Mm} {T : TT} (hI : IM M T) (hG : TG T) {x : Int32} {Q : Option Value → Mm → Prop} (hQ : ∀ M', IM M' (sp_lived x T).2 → keX M M' → Q (some (.int (sp_lived x T).1)) M') (d : Nat) : AMt miX12_lived (d + 5) [.ref 132, .int x] M Q := by
  refine AMt.of (by decide) (Nat.le_of_ble_eq_true rfl) ?_
  show AW miX12_lived (d + 5) (mxA Q) 0 [(0, some (.ref 132)), (1, some (.int x))] [] M
  have hF : WF (tS T) := hG.1.1
  have hM : VM 0 M (tS T) := hI.1.1
  have hM1 := m0_VM hM hF
  have hm : tS T 0 2 ≤ 6 := WF_m hF
  have hh : tS T 0 3 ≤ 10 := WF_h hF
  have hs : tS T 0 4 ≤ 7 := WF_s hF
  have hn : tS T 0 5 ≤ 8 := WF_n hF
  have hd9 : tS T 0 1 ≤ 9999 := hG.1.2.2.2.2.1
  have hl1 : (tL T).1 ≤ 1 := hG.2.2.2.2.1
  refine a_aload_n rfl dX12_lived_0 ?_
  refine n_iconst 0 rfl dX12_lived_1 ?_
  refine a_puti dX12_lived_2 pX12_69 (by decide) rfl rfl ?_
  refine a_aload_n rfl dX12_lived_5 ?_
  refine n_iconst 0 rfl dX12_lived_6 ?_
  refine a_puti dX12_lived_7 pX12_72 (by decide) rfl rfl ?_
  show AW miX12_lived (d + 5) (mxA Q) 10 [(0, some (.ref 132)), (1, some (.int x))] [] (m0 M)
  refine a_iload_n rfl dX12_lived_10 ?_
  refine a_i2l dX12_lived_11 ?_
  refine a_lconst 0 rfl dX12_lived_12 ?_
  refine a_ldc2 kX12_360 dX12_lived_13 ?_
  refine n_callS (mi' := miX12_isIn) dX12_lived_16 lX12_104 mX12_isIn (c_X12_isIn (fun h_16 => ?_) (fun h_16 => ?_) d) rfl rfl (by omega) (by decide) (Nat.le_of_ble_eq_true rfl)
  · show AW _ _ _ _ _ _ _
    have h_16 := isIn4 (x := x) (a := 0) (b := 4) (by decide) (by decide) h_16
    refine n_if_ne 28 (by decide) dX12_lived_19 (by decide) (fun _ => ?_) (fun h => absurd h (by decide))
    obtain ⟨q, hq, rfl⟩ := inR_of (x := x) (m := 5) (by omega) (by omega) (by omega)
    have t_q : (nI q).toInt = (q : Int) := nI_toInt (by omega)
    have i_q : idx (nI q) = q := idx_nI (by omega)
    refine a_aload_n rfl dX12_lived_28 ?_
    refine g_i ((m0_o (by omega)).trans hI.2.2.2.2.2.1.1) (by decide) rfl fX12_589 rfl dX12_lived_29 ?_
    refine n_if_eq 44 (by omega) dX12_lived_32 (by decide) (fun h_32 => ?_) (fun h_32 => ?_)
    · refine a_aload_n rfl dX12_lived_44 ?_
      refine n_bipush 8 rfl dX12_lived_45 ?_
      refine n_callV (mi' := miX12_refuse) dX12_lived_47 lX12_345 mX12_refuse (by decide) rfl rfl rfl (c_X12_refuse ?_ d) rfl rfl (by omega) (by decide) (Nat.le_of_ble_eq_true rfl)
      show AW _ _ _ _ _ _ _
      refine a_iret dX12_lived_50 rfl ?_
      exact fin_qM hQ hI hG (by unfold sp_lived; rw [if_pos (by omega), if_neg (by omega)]) siS (m0_fr.si (by unfold scM coM; omega))
    · refine a_aload_n rfl dX12_lived_35 ?_
      refine a_geta dX12_lived_36 fX12_62 (by decide) rfl rfl ?_
      refine a_iload_n rfl dX12_lived_39 ?_
      refine v_iald (by omega) ((m0_o (by omega)).trans (hI.2.2.2.2.2.1.2 (by omega) _ (by omega))) (by decide) rfl (by decide) dX12_lived_40 ?_
      refine a_goto 50 dX12_lived_41 (by decide) ?_
      refine a_iret dX12_lived_50 rfl ?_
      exact fin_qM hQ hI hG (by unfold sp_lived; rw [if_pos (by omega), if_pos (by omega), i_q]) m0_s m0_fr
  · show AW _ _ _ _ _ _ _
    have h_16 := isIn4n (x := x) (a := 0) (b := 4) (by decide) (by decide) h_16
    refine n_if_ne 28 (by decide) dX12_lived_19 (by decide) (fun h => absurd h (by decide)) (fun _ => ?_)
    refine a_aload_n rfl dX12_lived_22 ?_
    refine n_iconst 5 rfl dX12_lived_23 ?_
    refine n_callV (mi' := miX12_refuse) dX12_lived_24 lX12_345 mX12_refuse (by decide) rfl rfl rfl (c_X12_refuse ?_ d) rfl rfl (by omega) (by decide) (Nat.le_of_ble_eq_true rfl)
    show AW _ _ _ _ _ _ _
    refine a_iret dX12_lived_27 rfl ?_
    exact fin_qM hQ hI hG (by unfold sp_lived; rw [if_neg (by omega)]) siS (m0_fr.si (by unfold scM coM; omega))

set_option maxRecDepth 100000 in
set_option maxHeartbeats 800000 in
theorem c_X12_bring {M : Mm} {T : TT} (hI : IM M T) (hG : TG T) {k : Int32} {Q : Option Value → Mm → Prop} (hQ : ∀ M', IM M' (sp_bring k T).2 → keX M M' → Q (some (.int (sp_bring k T).1)) M') (d : Nat) : AMt miX12_bring (d + 5) [.ref 132, .int k] M Q := by
  refine AMt.of (by decide) (Nat.le_of_ble_eq_true rfl) ?_
  show AW miX12_bring (d + 5) (mxA Q) 0 [(0, some (.ref 132)), (1, some (.int k))] [] M
  have hF : WF (tS T) := hG.1.1
  have hM : VM 0 M (tS T) := hI.1.1
  have hM1 := m0_VM hM hF
  have hm := WF_m hF
  have hh := WF_h hF
  have hs := WF_s hF
  have hn := WF_n hF
  refine a_aload_n rfl dX12_bring_0 ?_
  refine n_iconst 0 rfl dX12_bring_1 ?_
  refine a_puti dX12_bring_2 pX12_69 (by decide) rfl rfl ?_
  refine a_aload_n rfl dX12_bring_5 ?_
  refine n_iconst 0 rfl dX12_bring_6 ?_
  refine a_puti dX12_bring_7 pX12_72 (by decide) rfl rfl ?_
  show AW miX12_bring (d + 5) (mxA Q) 10 [(0, some (.ref 132)), (1, some (.int k))] [] (m0 M)
  refine a_aload_n rfl dX12_bring_10 ?_
  refine a_iload_n rfl dX12_bring_11 ?_
  refine n_callV (mi' := miX12_isNewsAt) dX12_bring_12 lX12_374 mX12_isNewsAt (by decide) rfl rfl rfl (c_X12_isNewsAt hM1 hF (fun j_12 h_12 e_12 => ?_) (fun h_12 => ?_) d) rfl rfl (by omega) (by decide) (Nat.le_of_ble_eq_true rfl)
  · show AW _ _ _ _ _ _ _
    subst e_12
    have t_12 : (nI j_12).toInt = (j_12 : Int) := nI_toInt (by omega)
    refine n_if_ne 24 (by decide) dX12_bring_15 (by decide) (fun _ => ?_) (fun h => absurd h (by decide))
    have hab := WF_about hF j_12 (by omega)
    have hcl := WF_clear hF _ hab
    refine a_aload_n rfl dX12_bring_24 ?_
    refine a_iload_n rfl dX12_bring_25 ?_
    refine n_callV (mi' := miX12_brings) dX12_bring_26 lX12_400 mX12_brings (by decide) rfl rfl rfl (c_X12_brings hM1 hF (by omega) (fun h_26 ha_26 hb_26 hV_26 => ?_) (fun h_26 => ?_) d) rfl rfl (by omega) (by decide) (Nat.le_of_ble_eq_true rfl)
    · show AW _ _ _ _ _ _ _
      have c02 : (comeN (tS T) j_12) 0 2 = tS T 0 2 := rfl
      have c03 : (comeN (tS T) j_12) 0 3 = tS T 0 3 := rfl
      have c04 : (comeN (tS T) j_12) 0 4 = tS T 0 4 := rfl
      have c05 : (comeN (tS T) j_12) 0 5 = tS T 0 5 := rfl
      have c09 : (comeN (tS T) j_12) 9 j_12 = tS T 9 j_12 := rfl
      have hab := WF_about hF j_12 (by omega)
      refine n_if_eq 52 (by decide) dX12_bring_29 (by decide) (fun h => absurd h (by decide)) (fun _ => ?_)
      refine a_aload_n rfl dX12_bring_32 ?_
      refine a_geta dX12_bring_33 fX12_35 (by decide) rfl rfl ?_
      refine n_bipush 6 rfl dX12_bring_36 ?_
      refine a_aload_n rfl dX12_bring_38 ?_
      refine a_geta dX12_bring_39 fX12_35 (by decide) rfl rfl ?_
      refine n_bipush 66 rfl dX12_bring_42 ?_
      refine a_iload_n rfl dX12_bring_44 ?_
      refine n_iadd dX12_bring_45 ?_
      refine v_iald (by omega) (VM_a66 hV_26 (j := j_12) (by omega)) (by decide) rfl (by decide) dX12_bring_46 ?_
      refine n_iadd dX12_bring_47 ?_
      refine v_iald (by omega) (VM_a6 hV_26 (j := ((comeN (tS T) j_12) 9 j_12)) (by omega)) (by decide) rfl (by decide) dX12_bring_48 ?_
      refine a_goto 58 dX12_bring_49 (by decide) ?_
      refine a_iret dX12_bring_58 rfl ?_
      exact finM hQ hI hG (S' := (comeN (tS T) j_12)) (by unfold sp_bring; rw [if_pos (by omega), idx_nI (show j_12 < 2 ^ 31 by omega), if_pos ⟨ha_26, by omega⟩]; rfl) hV_26 rfl rfl (siN (siN m0_s (by omega)) (by omega)) (fun k j h h0 hw => (siN (siN (m0_o (by unfold coM at h; omega)) (by unfold coM at h; omega)) (by unfold coM at h; omega))) (fun k j h => rfl) ⟨fun k hk => funext fun j => (siN (siN (m0_o (by omega)) (by omega)) (by omega)), fun k hk => funext fun j => rfl⟩
    · show AW _ _ _ _ _ _ _
      refine n_if_eq 52 (by decide) dX12_bring_29 (by decide) (fun _ => ?_) (fun h => absurd h (by decide))
      refine a_aload_n rfl dX12_bring_52 ?_
      refine n_bipush 9 rfl dX12_bring_53 ?_
      refine n_callV (mi' := miX12_refuse) dX12_bring_55 lX12_345 mX12_refuse (by decide) rfl rfl rfl (c_X12_refuse ?_ d) rfl rfl (by omega) (by decide) (Nat.le_of_ble_eq_true rfl)
      show AW _ _ _ _ _ _ _
      refine a_iret dX12_bring_58 rfl ?_
      exact finM hQ hI hG (S' := (tS T)) (by unfold sp_bring; rw [if_pos (by omega), idx_nI (show j_12 < 2 ^ 31 by omega), if_neg (by omega)]) (VM_e hM (fun j hj => (siN (m0_o (by omega)) (by omega))) hF) rfl rfl siS (fun k j h h0 hw => (siN (m0_o (by unfold coM at h; omega)) (by unfold coM at h; omega))) (fun k j h => rfl) ⟨fun k hk => funext fun j => (siN (m0_o (by omega)) (by omega)), fun k hk => funext fun j => rfl⟩
  · show AW _ _ _ _ _ _ _
    have h_12 := not_inR h_12 (by omega)
    refine n_if_ne 24 (by decide) dX12_bring_15 (by decide) (fun h => absurd h (by decide)) (fun _ => ?_)
    refine a_aload_n rfl dX12_bring_18 ?_
    refine n_iconst 2 rfl dX12_bring_19 ?_
    refine n_callV (mi' := miX12_refuse) dX12_bring_20 lX12_345 mX12_refuse (by decide) rfl rfl rfl (c_X12_refuse ?_ d) rfl rfl (by omega) (by decide) (Nat.le_of_ble_eq_true rfl)
    show AW _ _ _ _ _ _ _
    refine a_iret dX12_bring_23 rfl ?_
    exact finM hQ hI hG (S' := (tS T)) (by unfold sp_bring; rw [if_neg (by omega)]) (VM_e hM (fun j hj => (siN (m0_o (by omega)) (by omega))) hF) rfl rfl siS (fun k j h h0 hw => (siN (m0_o (by unfold coM at h; omega)) (by unfold coM at h; omega))) (fun k j h => rfl) ⟨fun k hk => funext fun j => (siN (m0_o (by omega)) (by omega)), fun k hk => funext fun j => rfl⟩

set_option maxRecDepth 100000 in
set_option maxHeartbeats 800000 in
theorem c_X12_crisis {M : Mm} {T : TT} (hI : IM M T) (hG : TG T) {k : Int32} {x : Int32} {Q : Option Value → Mm → Prop} (hQ : ∀ M', IM M' (sp_crisis k x T).2 → keX M M' → Q (some (.int (sp_crisis k x T).1)) M') (d : Nat) : AMt miX12_crisis (d + 4) [.ref 132, .int k, .int x] M Q := by
  refine AMt.of (by decide) (Nat.le_of_ble_eq_true rfl) ?_
  show AW miX12_crisis (d + 4) (mxA Q) 0 [(0, some (.ref 132)), (1, some (.int k)), (2, some (.int x))] [] M
  have hF : WF (tS T) := hG.1.1
  have hM : VM 0 M (tS T) := hI.1.1
  have hM1 := m0_VM hM hF
  have hm := WF_m hF
  have hh := WF_h hF
  have hs := WF_s hF
  have hn := WF_n hF
  refine a_aload_n rfl dX12_crisis_0 ?_
  refine n_iconst 0 rfl dX12_crisis_1 ?_
  refine a_puti dX12_crisis_2 pX12_69 (by decide) rfl rfl ?_
  refine a_aload_n rfl dX12_crisis_5 ?_
  refine n_iconst 0 rfl dX12_crisis_6 ?_
  refine a_puti dX12_crisis_7 pX12_72 (by decide) rfl rfl ?_
  show AW miX12_crisis (d + 4) (mxA Q) 10 [(0, some (.ref 132)), (1, some (.int k)), (2, some (.int x))] [] (m0 M)
  refine a_aload_n rfl dX12_crisis_10 ?_
  refine a_iload_n rfl dX12_crisis_11 ?_
  refine n_callV (mi' := miX12_isMatterAt) dX12_crisis_12 lX12_357 mX12_isMatterAt (by decide) rfl rfl rfl (c_X12_isMatterAt hM1 hF (fun j_12 h_12 e_12 => ?_) (fun h_12 => ?_) d) rfl rfl (by omega) (by decide) (Nat.le_of_ble_eq_true rfl)
  · show AW _ _ _ _ _ _ _
    subst e_12
    have t_12 : (nI j_12).toInt = (j_12 : Int) := nI_toInt (by omega)
    refine n_if_ne 24 (by decide) dX12_crisis_15 (by decide) (fun _ => ?_) (fun h => absurd h (by decide))
    refine a_iload_n rfl dX12_crisis_24 ?_
    refine a_i2l dX12_crisis_25 ?_
    refine a_lconst 1 rfl dX12_crisis_26 ?_
    refine a_ldc2 kX12_157 dX12_crisis_27 ?_
    refine n_callS (mi' := miX12_isIn) dX12_crisis_30 lX12_104 mX12_isIn (c_X12_isIn (fun h_30 => ?_) (fun h_30 => ?_) d) rfl rfl (by omega) (by decide) (Nat.le_of_ble_eq_true rfl)
    · show AW _ _ _ _ _ _ _
      have h_30 := isIn4 (x := x) (a := 1) (b := 100) (by decide) (by decide) h_30
      refine n_if_ne 42 (by decide) dX12_crisis_33 (by decide) (fun _ => ?_) (fun h => absurd h (by decide))
      obtain ⟨j2, hj2, rfl⟩ := inR_of (x := x) (m := 101) (by omega) (by omega) (by omega)
      have t_j2 : (nI j2).toInt = (j2 : Int) := nI_toInt (by omega)
      refine a_aload_n rfl dX12_crisis_42 ?_
      refine a_iload_n rfl dX12_crisis_43 ?_
      refine a_iload_n rfl dX12_crisis_44 ?_
      refine n_callV (mi' := miX12_clouds) dX12_crisis_45 lX12_403 mX12_clouds (by decide) rfl rfl rfl (c_X12_clouds hM1 hF (by omega) (by omega) (fun h_45 hV_45 => ?_) (fun h_45 => ?_) d) rfl rfl (by omega) (by decide) (Nat.le_of_ble_eq_true rfl)
      · show AW _ _ _ _ _ _ _
        have c02 : (hupd (tS T) j_12 (tS T 2 j_12 - j2)) 0 2 = tS T 0 2 := rfl
        have c03 : (hupd (tS T) j_12 (tS T 2 j_12 - j2)) 0 3 = tS T 0 3 := rfl
        have c04 : (hupd (tS T) j_12 (tS T 2 j_12 - j2)) 0 4 = tS T 0 4 := rfl
        have c05 : (hupd (tS T) j_12 (tS T 2 j_12 - j2)) 0 5 = tS T 0 5 := rfl
        refine n_if_eq 63 (by decide) dX12_crisis_48 (by decide) (fun h => absurd h (by decide)) (fun _ => ?_)
        refine a_aload_n rfl dX12_crisis_51 ?_
        refine a_geta dX12_crisis_52 fX12_35 (by decide) rfl rfl ?_
        refine n_bipush 6 rfl dX12_crisis_55 ?_
        refine a_iload_n rfl dX12_crisis_57 ?_
        refine n_iadd dX12_crisis_58 ?_
        refine v_iald (by omega) (VM_a6 hV_45 (j := j_12) (by omega)) (by decide) rfl (by decide) dX12_crisis_59 ?_
        refine a_goto 69 dX12_crisis_60 (by decide) ?_
        refine a_iret dX12_crisis_69 rfl ?_
        exact finM hQ hI hG (S' := (hupd (tS T) j_12 (tS T 2 j_12 - j2))) (by unfold sp_crisis; rw [if_pos (by omega), if_pos (by omega), idx_nI (show j_12 < 2 ^ 31 by omega), idx_nI (show j2 < 2 ^ 31 by omega), if_neg h_45]; simp [hupd]) hV_45 rfl rfl (siN m0_s (by omega)) (fun k j h h0 hw => (siN (m0_o (by unfold coM at h; omega)) (by unfold coM at h; omega))) (fun k j h => rfl) ⟨fun k hk => funext fun j => (siN (m0_o (by omega)) (by omega)), fun k hk => funext fun j => rfl⟩
      · show AW _ _ _ _ _ _ _
        refine n_if_eq 63 (by decide) dX12_crisis_48 (by decide) (fun _ => ?_) (fun h => absurd h (by decide))
        refine a_aload_n rfl dX12_crisis_63 ?_
        refine n_bipush 9 rfl dX12_crisis_64 ?_
        refine n_callV (mi' := miX12_refuse) dX12_crisis_66 lX12_345 mX12_refuse (by decide) rfl rfl rfl (c_X12_refuse ?_ d) rfl rfl (by omega) (by decide) (Nat.le_of_ble_eq_true rfl)
        show AW _ _ _ _ _ _ _
        refine a_iret dX12_crisis_69 rfl ?_
        exact finM hQ hI hG (S' := (tS T)) (by unfold sp_crisis; rw [if_pos (by omega), if_pos (by omega), idx_nI (show j_12 < 2 ^ 31 by omega), if_pos h_45]) (VM_e hM (fun j hj => (siN (m0_o (by omega)) (by omega))) hF) rfl rfl siS (fun k j h h0 hw => (siN (m0_o (by unfold coM at h; omega)) (by unfold coM at h; omega))) (fun k j h => rfl) ⟨fun k hk => funext fun j => (siN (m0_o (by omega)) (by omega)), fun k hk => funext fun j => rfl⟩
    · show AW _ _ _ _ _ _ _
      have h_30 := isIn4n (x := x) (a := 1) (b := 100) (by decide) (by decide) h_30
      refine n_if_ne 42 (by decide) dX12_crisis_33 (by decide) (fun h => absurd h (by decide)) (fun _ => ?_)
      refine a_aload_n rfl dX12_crisis_36 ?_
      refine n_iconst 5 rfl dX12_crisis_37 ?_
      refine n_callV (mi' := miX12_refuse) dX12_crisis_38 lX12_345 mX12_refuse (by decide) rfl rfl rfl (c_X12_refuse ?_ d) rfl rfl (by omega) (by decide) (Nat.le_of_ble_eq_true rfl)
      show AW _ _ _ _ _ _ _
      refine a_iret dX12_crisis_41 rfl ?_
      exact finM hQ hI hG (S' := (tS T)) (by unfold sp_crisis; rw [if_pos (by omega), if_neg (by omega)]) (VM_e hM (fun j hj => (siN (m0_o (by omega)) (by omega))) hF) rfl rfl siS (fun k j h h0 hw => (siN (m0_o (by unfold coM at h; omega)) (by unfold coM at h; omega))) (fun k j h => rfl) ⟨fun k hk => funext fun j => (siN (m0_o (by omega)) (by omega)), fun k hk => funext fun j => rfl⟩
  · show AW _ _ _ _ _ _ _
    have h_12 := not_inR h_12 (by omega)
    refine n_if_ne 24 (by decide) dX12_crisis_15 (by decide) (fun h => absurd h (by decide)) (fun _ => ?_)
    refine a_aload_n rfl dX12_crisis_18 ?_
    refine n_iconst 2 rfl dX12_crisis_19 ?_
    refine n_callV (mi' := miX12_refuse) dX12_crisis_20 lX12_345 mX12_refuse (by decide) rfl rfl rfl (c_X12_refuse ?_ d) rfl rfl (by omega) (by decide) (Nat.le_of_ble_eq_true rfl)
    show AW _ _ _ _ _ _ _
    refine a_iret dX12_crisis_23 rfl ?_
    exact finM hQ hI hG (S' := (tS T)) (by unfold sp_crisis; rw [if_neg (by omega)]) (VM_e hM (fun j hj => (siN (m0_o (by omega)) (by omega))) hF) rfl rfl siS (fun k j h h0 hw => (siN (m0_o (by unfold coM at h; omega)) (by unfold coM at h; omega))) (fun k j h => rfl) ⟨fun k hk => funext fun j => (siN (m0_o (by omega)) (by omega)), fun k hk => funext fun j => rfl⟩

set_option maxRecDepth 100000 in
set_option maxHeartbeats 800000 in
theorem c_X12_turn {M : Mm} {T : TT} (hI : IM M T) (hG : TG T) {p : Int32} {k : Int32} {Q : Option Value → Mm → Prop} (hQ : ∀ M', IM M' (sp_turn p k T).2 → keX M M' → Q (some (.int (sp_turn p k T).1)) M') (d : Nat) : AMt miX12_turn (d + 4) [.ref 132, .int p, .int k] M Q := by
  refine AMt.of (by decide) (Nat.le_of_ble_eq_true rfl) ?_
  show AW miX12_turn (d + 4) (mxA Q) 0 [(0, some (.ref 132)), (1, some (.int p)), (2, some (.int k))] [] M
  have hF : WF (tS T) := hG.1.1
  have hM : VM 0 M (tS T) := hI.1.1
  have hM1 := m0_VM hM hF
  have hm := WF_m hF
  have hh := WF_h hF
  have hs := WF_s hF
  have hn := WF_n hF
  refine a_aload_n rfl dX12_turn_0 ?_
  refine n_iconst 0 rfl dX12_turn_1 ?_
  refine a_puti dX12_turn_2 pX12_69 (by decide) rfl rfl ?_
  refine a_aload_n rfl dX12_turn_5 ?_
  refine n_iconst 0 rfl dX12_turn_6 ?_
  refine a_puti dX12_turn_7 pX12_72 (by decide) rfl rfl ?_
  show AW miX12_turn (d + 4) (mxA Q) 10 [(0, some (.ref 132)), (1, some (.int p)), (2, some (.int k))] [] (m0 M)
  refine a_aload_n rfl dX12_turn_10 ?_
  refine a_iload_n rfl dX12_turn_11 ?_
  refine n_callV (mi' := miX12_isSitterAt) dX12_turn_12 lX12_371 mX12_isSitterAt (by decide) rfl rfl rfl (c_X12_isSitterAt hM1 hF (fun j_12 h_12 e_12 => ?_) (fun h_12 => ?_) d) rfl rfl (by omega) (by decide) (Nat.le_of_ble_eq_true rfl)
  · show AW _ _ _ _ _ _ _
    subst e_12
    have t_12 : (nI j_12).toInt = (j_12 : Int) := nI_toInt (by omega)
    refine n_if_eq 26 (by decide) dX12_turn_15 (by decide) (fun h => absurd h (by decide)) (fun _ => ?_)
    refine a_aload_n rfl dX12_turn_18 ?_
    refine a_iload_n rfl dX12_turn_19 ?_
    refine n_callV (mi' := miX12_isMatterAt) dX12_turn_20 lX12_357 mX12_isMatterAt (by decide) rfl rfl rfl (c_X12_isMatterAt hM1 hF (fun j_20 h_20 e_20 => ?_) (fun h_20 => ?_) d) rfl rfl (by omega) (by decide) (Nat.le_of_ble_eq_true rfl)
    · show AW _ _ _ _ _ _ _
      subst e_20
      have t_20 : (nI j_20).toInt = (j_20 : Int) := nI_toInt (by omega)
      refine n_if_ne 32 (by decide) dX12_turn_23 (by decide) (fun _ => ?_) (fun h => absurd h (by decide))
      refine a_aload_n rfl dX12_turn_32 ?_
      refine n_bipush 52 rfl dX12_turn_33 ?_
      refine a_iload_n rfl dX12_turn_35 ?_
      refine n_iadd dX12_turn_36 ?_
      refine a_iload_n rfl dX12_turn_37 ?_
      refine n_callV (mi' := miX12_becomes) dX12_turn_38 lX12_406 mX12_becomes (by decide) rfl rfl rfl (c_X12_becomes hM1 hF (p := j_12) (by omega) (by omega) (fun h_38 hV_38 => ?_) (fun h_38 => ?_) d) rfl rfl (by omega) (by decide) (Nat.le_of_ble_eq_true rfl)
      · show AW _ _ _ _ _ _ _
        have c02 : (upS2 (tS T) 7 j_12 j_20) 0 2 = tS T 0 2 := rfl
        have c03 : (upS2 (tS T) 7 j_12 j_20) 0 3 = tS T 0 3 := rfl
        have c04 : (upS2 (tS T) 7 j_12 j_20) 0 4 = tS T 0 4 := rfl
        have c05 : (upS2 (tS T) 7 j_12 j_20) 0 5 = tS T 0 5 := rfl
        have hF7 := WF_turn hF (p := j_12) (k := j_20) (by omega)
        refine n_if_eq 52 (by decide) dX12_turn_41 (by decide) (fun h => absurd h (by decide)) (fun _ => ?_)
        refine a_aload_n rfl dX12_turn_44 ?_
        refine a_iload_n rfl dX12_turn_45 ?_
        refine n_callV (mi' := miX12_heightOf) dX12_turn_46 lX12_340 mX12_heightOf (by decide) rfl rfl rfl (c_X12_heightOf hV_38 hF7 (by omega) ?_ d) rfl rfl (by omega) (by decide) (Nat.le_of_ble_eq_true rfl)
        show AW _ _ _ _ _ _ _
        refine a_goto 58 dX12_turn_49 (by decide) ?_
        refine a_iret dX12_turn_58 rfl ?_
        exact finM hQ hI hG (S' := (upS2 (tS T) 7 j_12 j_20)) (by unfold sp_turn; rw [if_pos (by omega), idx_nI (show j_12 < 2 ^ 31 by omega), idx_nI (show j_20 < 2 ^ 31 by omega), if_neg h_38]; rfl) hV_38 rfl rfl (siN m0_s (by omega)) (fun k j h h0 hw => (siN (m0_o (by unfold coM at h; omega)) (by unfold coM at h; omega))) (fun k j h => rfl) ⟨fun k hk => funext fun j => (siN (m0_o (by omega)) (by omega)), fun k hk => funext fun j => rfl⟩
      · show AW _ _ _ _ _ _ _
        refine n_if_eq 52 (by decide) dX12_turn_41 (by decide) (fun _ => ?_) (fun h => absurd h (by decide))
        refine a_aload_n rfl dX12_turn_52 ?_
        refine n_bipush 9 rfl dX12_turn_53 ?_
        refine n_callV (mi' := miX12_refuse) dX12_turn_55 lX12_345 mX12_refuse (by decide) rfl rfl rfl (c_X12_refuse ?_ d) rfl rfl (by omega) (by decide) (Nat.le_of_ble_eq_true rfl)
        show AW _ _ _ _ _ _ _
        refine a_iret dX12_turn_58 rfl ?_
        exact finM hQ hI hG (S' := (tS T)) (by unfold sp_turn; rw [if_pos (by omega), idx_nI (show j_12 < 2 ^ 31 by omega), idx_nI (show j_20 < 2 ^ 31 by omega), if_pos h_38]) (VM_e hM (fun j hj => (siN (m0_o (by omega)) (by omega))) hF) rfl rfl siS (fun k j h h0 hw => (siN (m0_o (by unfold coM at h; omega)) (by unfold coM at h; omega))) (fun k j h => rfl) ⟨fun k hk => funext fun j => (siN (m0_o (by omega)) (by omega)), fun k hk => funext fun j => rfl⟩
    · show AW _ _ _ _ _ _ _
      have h_20 := not_inR h_20 (by omega)
      refine n_if_ne 32 (by decide) dX12_turn_23 (by decide) (fun h => absurd h (by decide)) (fun _ => ?_)
      refine a_aload_n rfl dX12_turn_26 ?_
      refine n_iconst 2 rfl dX12_turn_27 ?_
      refine n_callV (mi' := miX12_refuse) dX12_turn_28 lX12_345 mX12_refuse (by decide) rfl rfl rfl (c_X12_refuse ?_ d) rfl rfl (by omega) (by decide) (Nat.le_of_ble_eq_true rfl)
      show AW _ _ _ _ _ _ _
      refine a_iret dX12_turn_31 rfl ?_
      exact finM hQ hI hG (S' := (tS T)) (by unfold sp_turn; rw [if_neg (by omega)]) (VM_e hM (fun j hj => (siN (m0_o (by omega)) (by omega))) hF) rfl rfl siS (fun k j h h0 hw => (siN (m0_o (by unfold coM at h; omega)) (by unfold coM at h; omega))) (fun k j h => rfl) ⟨fun k hk => funext fun j => (siN (m0_o (by omega)) (by omega)), fun k hk => funext fun j => rfl⟩
  · show AW _ _ _ _ _ _ _
    have h_12 := not_inR h_12 (by omega)
    refine n_if_eq 26 (by decide) dX12_turn_15 (by decide) (fun _ => ?_) (fun h => absurd h (by decide))
    refine a_aload_n rfl dX12_turn_26 ?_
    refine n_iconst 2 rfl dX12_turn_27 ?_
    refine n_callV (mi' := miX12_refuse) dX12_turn_28 lX12_345 mX12_refuse (by decide) rfl rfl rfl (c_X12_refuse ?_ d) rfl rfl (by omega) (by decide) (Nat.le_of_ble_eq_true rfl)
    show AW _ _ _ _ _ _ _
    refine a_iret dX12_turn_31 rfl ?_
    exact finM hQ hI hG (S' := (tS T)) (by unfold sp_turn; rw [if_neg (by omega)]) (VM_e hM (fun j hj => (siN (m0_o (by omega)) (by omega))) hF) rfl rfl siS (fun k j h h0 hw => (siN (m0_o (by unfold coM at h; omega)) (by unfold coM at h; omega))) (fun k j h => rfl) ⟨fun k hk => funext fun j => (siN (m0_o (by omega)) (by omega)), fun k hk => funext fun j => rfl⟩

set_option maxRecDepth 100000 in
set_option maxHeartbeats 800000 in
theorem c_X12_hear {M : Mm} {T : TT} (hI : IM M T) (hG : TG T) {k : Int32} {x : Int32} {Q : Option Value → Mm → Prop} (hQ : ∀ M', IM M' (sp_hear k x T).2 → keX M M' → Q (some (.int (sp_hear k x T).1)) M') (d : Nat) : AMt miX12_hear (d + 4) [.ref 132, .int k, .int x] M Q := by
  refine AMt.of (by decide) (Nat.le_of_ble_eq_true rfl) ?_
  show AW miX12_hear (d + 4) (mxA Q) 0 [(0, some (.ref 132)), (1, some (.int k)), (2, some (.int x))] [] M
  have hF : WF (tS T) := hG.1.1
  have hM : VM 0 M (tS T) := hI.1.1
  have hM1 := m0_VM hM hF
  have hm := WF_m hF
  have hh := WF_h hF
  have hs := WF_s hF
  have hn := WF_n hF
  refine a_aload_n rfl dX12_hear_0 ?_
  refine n_iconst 0 rfl dX12_hear_1 ?_
  refine a_puti dX12_hear_2 pX12_69 (by decide) rfl rfl ?_
  refine a_aload_n rfl dX12_hear_5 ?_
  refine n_iconst 0 rfl dX12_hear_6 ?_
  refine a_puti dX12_hear_7 pX12_72 (by decide) rfl rfl ?_
  show AW miX12_hear (d + 4) (mxA Q) 10 [(0, some (.ref 132)), (1, some (.int k)), (2, some (.int x))] [] (m0 M)
  refine a_aload_n rfl dX12_hear_10 ?_
  refine a_iload_n rfl dX12_hear_11 ?_
  refine n_callV (mi' := miX12_isMatterAt) dX12_hear_12 lX12_357 mX12_isMatterAt (by decide) rfl rfl rfl (c_X12_isMatterAt hM1 hF (fun j_12 h_12 e_12 => ?_) (fun h_12 => ?_) d) rfl rfl (by omega) (by decide) (Nat.le_of_ble_eq_true rfl)
  · show AW _ _ _ _ _ _ _
    subst e_12
    have t_12 : (nI j_12).toInt = (j_12 : Int) := nI_toInt (by omega)
    refine n_if_ne 24 (by decide) dX12_hear_15 (by decide) (fun _ => ?_) (fun h => absurd h (by decide))
    refine a_iload_n rfl dX12_hear_24 ?_
    refine a_i2l dX12_hear_25 ?_
    refine a_lconst 1 rfl dX12_hear_26 ?_
    refine a_ldc2 kX12_157 dX12_hear_27 ?_
    refine n_callS (mi' := miX12_isIn) dX12_hear_30 lX12_104 mX12_isIn (c_X12_isIn (fun h_30 => ?_) (fun h_30 => ?_) d) rfl rfl (by omega) (by decide) (Nat.le_of_ble_eq_true rfl)
    · show AW _ _ _ _ _ _ _
      have h_30 := isIn4 (x := x) (a := 1) (b := 100) (by decide) (by decide) h_30
      refine n_if_ne 42 (by decide) dX12_hear_33 (by decide) (fun _ => ?_) (fun h => absurd h (by decide))
      obtain ⟨j2, hj2, rfl⟩ := inR_of (x := x) (m := 101) (by omega) (by omega) (by omega)
      have t_j2 : (nI j2).toInt = (j2 : Int) := nI_toInt (by omega)
      refine a_aload_n rfl dX12_hear_42 ?_
      refine a_geta dX12_hear_43 fX12_35 (by decide) rfl rfl ?_
      refine n_iconst 3 rfl dX12_hear_46 ?_
      refine v_iald (by omega) (VM_s3 hM1) (by decide) rfl (by decide) dX12_hear_47 ?_
      refine n_bipush 8 rfl dX12_hear_48 ?_
      refine n_icmp_ne 60 (by omega) (by omega) dX12_hear_50 (by decide) (fun h_50 => ?_) (fun h_50 => ?_)
      · refine a_aload_n rfl dX12_hear_60 ?_
        refine n_iconst 0 rfl dX12_hear_61 ?_
        refine a_iload_n rfl dX12_hear_62 ?_
        refine a_iload_n rfl dX12_hear_63 ?_
        refine n_callV (mi' := miX12_hears) dX12_hear_64 lX12_283 mX12_hears (by decide) rfl rfl rfl (c_X12_hears (b := 0) (by omega) hM1 hF (by omega) (fun hV_64 => ?_) d) rfl rfl (by omega) (by decide) (Nat.le_of_ble_eq_true rfl)
        show AW _ _ _ _ _ _ _
        have c05 : (addNN (tS T) j_12 j2) 0 5 = tS T 0 5 + 1 := rfl
        refine a_aload_n rfl dX12_hear_67 ?_
        refine a_geta dX12_hear_68 fX12_35 (by decide) rfl rfl ?_
        refine n_iconst 3 rfl dX12_hear_71 ?_
        refine v_iald (by omega) (VM_s3 hV_64) (by decide) rfl (by decide) dX12_hear_72 ?_
        refine n_iconst 1 rfl dX12_hear_73 ?_
        refine n_isub (by omega) dX12_hear_74 ?_
        refine a_iret dX12_hear_75 rfl ?_
        exact finM hQ hI hG (S' := (addNN (tS T) j_12 j2)) (by unfold sp_hear; rw [if_pos (by omega), if_pos (by omega), if_neg (by omega), idx_nI (show j_12 < 2 ^ 31 by omega), idx_nI (show j2 < 2 ^ 31 by omega)]; rfl) hV_64 rfl rfl (siN (siN (siN (siN m0_s (by omega)) (by omega)) (by omega)) (by omega)) (fun k j h h0 hw => (siN (siN (siN (siN (m0_o (by unfold coM at h; omega)) (by unfold coM at h; omega)) (by unfold coM at h; omega)) (by unfold coM at h; omega)) (by unfold coM at h; omega))) (fun k j h => rfl) ⟨fun k hk => funext fun j => (siN (siN (siN (siN (m0_o (by omega)) (by omega)) (by omega)) (by omega)) (by omega)), fun k hk => funext fun j => rfl⟩
      · refine a_aload_n rfl dX12_hear_53 ?_
        refine n_bipush 7 rfl dX12_hear_54 ?_
        refine n_callV (mi' := miX12_refuse) dX12_hear_56 lX12_345 mX12_refuse (by decide) rfl rfl rfl (c_X12_refuse ?_ d) rfl rfl (by omega) (by decide) (Nat.le_of_ble_eq_true rfl)
        show AW _ _ _ _ _ _ _
        refine a_iret dX12_hear_59 rfl ?_
        exact finM hQ hI hG (S' := (tS T)) (by unfold sp_hear; rw [if_pos (by omega), if_pos (by omega), if_pos (by omega)]) (VM_e hM (fun j hj => (siN (m0_o (by omega)) (by omega))) hF) rfl rfl siS (fun k j h h0 hw => (siN (m0_o (by unfold coM at h; omega)) (by unfold coM at h; omega))) (fun k j h => rfl) ⟨fun k hk => funext fun j => (siN (m0_o (by omega)) (by omega)), fun k hk => funext fun j => rfl⟩
    · show AW _ _ _ _ _ _ _
      have h_30 := isIn4n (x := x) (a := 1) (b := 100) (by decide) (by decide) h_30
      refine n_if_ne 42 (by decide) dX12_hear_33 (by decide) (fun h => absurd h (by decide)) (fun _ => ?_)
      refine a_aload_n rfl dX12_hear_36 ?_
      refine n_iconst 5 rfl dX12_hear_37 ?_
      refine n_callV (mi' := miX12_refuse) dX12_hear_38 lX12_345 mX12_refuse (by decide) rfl rfl rfl (c_X12_refuse ?_ d) rfl rfl (by omega) (by decide) (Nat.le_of_ble_eq_true rfl)
      show AW _ _ _ _ _ _ _
      refine a_iret dX12_hear_41 rfl ?_
      exact finM hQ hI hG (S' := (tS T)) (by unfold sp_hear; rw [if_pos (by omega), if_neg (by omega)]) (VM_e hM (fun j hj => (siN (m0_o (by omega)) (by omega))) hF) rfl rfl siS (fun k j h h0 hw => (siN (m0_o (by unfold coM at h; omega)) (by unfold coM at h; omega))) (fun k j h => rfl) ⟨fun k hk => funext fun j => (siN (m0_o (by omega)) (by omega)), fun k hk => funext fun j => rfl⟩
  · show AW _ _ _ _ _ _ _
    have h_12 := not_inR h_12 (by omega)
    refine n_if_ne 24 (by decide) dX12_hear_15 (by decide) (fun h => absurd h (by decide)) (fun _ => ?_)
    refine a_aload_n rfl dX12_hear_18 ?_
    refine n_iconst 2 rfl dX12_hear_19 ?_
    refine n_callV (mi' := miX12_refuse) dX12_hear_20 lX12_345 mX12_refuse (by decide) rfl rfl rfl (c_X12_refuse ?_ d) rfl rfl (by omega) (by decide) (Nat.le_of_ble_eq_true rfl)
    show AW _ _ _ _ _ _ _
    refine a_iret dX12_hear_23 rfl ?_
    exact finM hQ hI hG (S' := (tS T)) (by unfold sp_hear; rw [if_neg (by omega)]) (VM_e hM (fun j hj => (siN (m0_o (by omega)) (by omega))) hF) rfl rfl siS (fun k j h h0 hw => (siN (m0_o (by unfold coM at h; omega)) (by unfold coM at h; omega))) (fun k j h => rfl) ⟨fun k hk => funext fun j => (siN (m0_o (by omega)) (by omega)), fun k hk => funext fun j => rfl⟩

set_option maxRecDepth 100000 in
set_option maxHeartbeats 800000 in
theorem c_X12_bind {M : Mm} {T : TT} (hI : IM M T) (hG : TG T) {k : Int32} {b : Int32} {Q : Option Value → Mm → Prop} (hQ : ∀ M', IM M' (sp_bind k b T).2 → keX M M' → Q (some (.int (sp_bind k b T).1)) M') (d : Nat) : AMt miX12_bind (d + 4) [.ref 132, .int k, .int b] M Q := by
  refine AMt.of (by decide) (Nat.le_of_ble_eq_true rfl) ?_
  show AW miX12_bind (d + 4) (mxA Q) 0 [(0, some (.ref 132)), (1, some (.int k)), (2, some (.int b))] [] M
  have hF : WF (tS T) := hG.1.1
  have hM : VM 0 M (tS T) := hI.1.1
  have hM1 := m0_VM hM hF
  have hm := WF_m hF
  have hh := WF_h hF
  have hs := WF_s hF
  have hn := WF_n hF
  refine a_aload_n rfl dX12_bind_0 ?_
  refine n_iconst 0 rfl dX12_bind_1 ?_
  refine a_puti dX12_bind_2 pX12_69 (by decide) rfl rfl ?_
  refine a_aload_n rfl dX12_bind_5 ?_
  refine n_iconst 0 rfl dX12_bind_6 ?_
  refine a_puti dX12_bind_7 pX12_72 (by decide) rfl rfl ?_
  show AW miX12_bind (d + 4) (mxA Q) 10 [(0, some (.ref 132)), (1, some (.int k)), (2, some (.int b))] [] (m0 M)
  refine a_aload_n rfl dX12_bind_10 ?_
  refine a_iload_n rfl dX12_bind_11 ?_
  refine n_callV (mi' := miX12_isMatterAt) dX12_bind_12 lX12_357 mX12_isMatterAt (by decide) rfl rfl rfl (c_X12_isMatterAt hM1 hF (fun j_12 h_12 e_12 => ?_) (fun h_12 => ?_) d) rfl rfl (by omega) (by decide) (Nat.le_of_ble_eq_true rfl)
  · show AW _ _ _ _ _ _ _
    subst e_12
    have t_12 : (nI j_12).toInt = (j_12 : Int) := nI_toInt (by omega)
    refine n_if_eq 26 (by decide) dX12_bind_15 (by decide) (fun h => absurd h (by decide)) (fun _ => ?_)
    refine a_aload_n rfl dX12_bind_18 ?_
    refine a_iload_n rfl dX12_bind_19 ?_
    refine n_callV (mi' := miX12_isMatterAt) dX12_bind_20 lX12_357 mX12_isMatterAt (by decide) rfl rfl rfl (c_X12_isMatterAt hM1 hF (fun j_20 h_20 e_20 => ?_) (fun h_20 => ?_) d) rfl rfl (by omega) (by decide) (Nat.le_of_ble_eq_true rfl)
    · show AW _ _ _ _ _ _ _
      subst e_20
      have t_20 : (nI j_20).toInt = (j_20 : Int) := nI_toInt (by omega)
      refine n_if_ne 32 (by decide) dX12_bind_23 (by decide) (fun _ => ?_) (fun h => absurd h (by decide))
      refine a_iload_n rfl dX12_bind_32 ?_
      refine a_iload_n rfl dX12_bind_33 ?_
      refine n_icmp_ne 43 (by omega) (by omega) dX12_bind_34 (by decide) (fun h_34 => ?_) (fun h_34 => ?_)
      · refine a_aload_n rfl dX12_bind_43 ?_
        refine a_geta dX12_bind_44 fX12_35 (by decide) rfl rfl ?_
        refine n_iconst 1 rfl dX12_bind_47 ?_
        refine v_iald (by omega) (VM_s1 hM1) (by decide) rfl (by decide) dX12_bind_48 ?_
        refine n_bipush 10 rfl dX12_bind_49 ?_
        refine n_icmp_ne 61 (by omega) (by omega) dX12_bind_51 (by decide) (fun h_51 => ?_) (fun h_51 => ?_)
        · refine a_aload_n rfl dX12_bind_61 ?_
          refine n_iconst 0 rfl dX12_bind_62 ?_
          refine a_iload_n rfl dX12_bind_63 ?_
          refine a_iload_n rfl dX12_bind_64 ?_
          refine n_callV (mi' := miX12_isBound) dX12_bind_65 lX12_271 mX12_isBound (by decide) rfl rfl rfl (c_X12_isBound (b := 0) (by omega) hM1 hF (by omega) (by omega) (fun h_65 => ?_) (fun h_65 => ?_) d) rfl rfl (by omega) (by decide) (Nat.le_of_ble_eq_true rfl)
          · show AW _ _ _ _ _ _ _
            refine n_if_eq 78 (by decide) dX12_bind_68 (by decide) (fun h => absurd h (by decide)) (fun _ => ?_)
            refine a_aload_n rfl dX12_bind_71 ?_
            refine n_bipush 9 rfl dX12_bind_72 ?_
            refine n_callV (mi' := miX12_refuse) dX12_bind_74 lX12_345 mX12_refuse (by decide) rfl rfl rfl (c_X12_refuse ?_ d) rfl rfl (by omega) (by decide) (Nat.le_of_ble_eq_true rfl)
            show AW _ _ _ _ _ _ _
            refine a_iret dX12_bind_77 rfl ?_
            exact finM hQ hI hG (S' := (tS T)) (by unfold sp_bind; rw [if_pos (by omega), idx_nI (show j_12 < 2 ^ 31 by omega), idx_nI (show j_20 < 2 ^ 31 by omega), if_neg h_34, if_neg (by omega), if_pos (boundN_t h_65)]) (VM_e hM (fun j hj => (siN (m0_o (by omega)) (by omega))) hF) rfl rfl siS (fun k j h h0 hw => (siN (m0_o (by unfold coM at h; omega)) (by unfold coM at h; omega))) (fun k j h => rfl) ⟨fun k hk => funext fun j => (siN (m0_o (by omega)) (by omega)), fun k hk => funext fun j => rfl⟩
          · show AW _ _ _ _ _ _ _
            refine n_if_eq 78 (by decide) dX12_bind_68 (by decide) (fun _ => ?_) (fun h => absurd h (by decide))
            refine a_aload_n rfl dX12_bind_78 ?_
            refine n_iconst 0 rfl dX12_bind_79 ?_
            refine a_iload_n rfl dX12_bind_80 ?_
            refine a_iload_n rfl dX12_bind_81 ?_
            refine n_callV (mi' := miX12_binds) dX12_bind_82 lX12_275 mX12_binds (by decide) rfl rfl rfl (c_X12_binds (b := 0) (by omega) hM1 hF (by omega) (fun hV_82 => ?_) d) rfl rfl (by omega) (by decide) (Nat.le_of_ble_eq_true rfl)
            show AW _ _ _ _ _ _ _
            have c03 : (addHN (tS T) j_12 j_20) 0 3 = tS T 0 3 + 1 := rfl
            refine a_aload_n rfl dX12_bind_85 ?_
            refine a_geta dX12_bind_86 fX12_35 (by decide) rfl rfl ?_
            refine n_iconst 1 rfl dX12_bind_89 ?_
            refine v_iald (by omega) (VM_s1 hV_82) (by decide) rfl (by decide) dX12_bind_90 ?_
            refine n_iconst 1 rfl dX12_bind_91 ?_
            refine n_isub (by omega) dX12_bind_92 ?_
            refine a_iret dX12_bind_93 rfl ?_
            exact finM hQ hI hG (S' := (addHN (tS T) j_12 j_20)) (by unfold sp_bind; rw [if_pos (by omega), idx_nI (show j_12 < 2 ^ 31 by omega), idx_nI (show j_20 < 2 ^ 31 by omega), if_neg h_34, if_neg (by omega), if_neg (by rw [boundN_f h_65]; exact Bool.false_ne_true)]; rfl) hV_82 rfl rfl (siN (siN (siN m0_s (by omega)) (by omega)) (by omega)) (fun k j h h0 hw => (siN (siN (siN (m0_o (by unfold coM at h; omega)) (by unfold coM at h; omega)) (by unfold coM at h; omega)) (by unfold coM at h; omega))) (fun k j h => rfl) ⟨fun k hk => funext fun j => (siN (siN (siN (m0_o (by omega)) (by omega)) (by omega)) (by omega)), fun k hk => funext fun j => rfl⟩
        · refine a_aload_n rfl dX12_bind_54 ?_
          refine n_bipush 7 rfl dX12_bind_55 ?_
          refine n_callV (mi' := miX12_refuse) dX12_bind_57 lX12_345 mX12_refuse (by decide) rfl rfl rfl (c_X12_refuse ?_ d) rfl rfl (by omega) (by decide) (Nat.le_of_ble_eq_true rfl)
          show AW _ _ _ _ _ _ _
          refine a_iret dX12_bind_60 rfl ?_
          exact finM hQ hI hG (S' := (tS T)) (by unfold sp_bind; rw [if_pos (by omega), idx_nI (show j_12 < 2 ^ 31 by omega), idx_nI (show j_20 < 2 ^ 31 by omega), if_neg h_34, if_pos (by omega)]) (VM_e hM (fun j hj => (siN (m0_o (by omega)) (by omega))) hF) rfl rfl siS (fun k j h h0 hw => (siN (m0_o (by unfold coM at h; omega)) (by unfold coM at h; omega))) (fun k j h => rfl) ⟨fun k hk => funext fun j => (siN (m0_o (by omega)) (by omega)), fun k hk => funext fun j => rfl⟩
      · refine a_aload_n rfl dX12_bind_37 ?_
        refine n_iconst 5 rfl dX12_bind_38 ?_
        refine n_callV (mi' := miX12_refuse) dX12_bind_39 lX12_345 mX12_refuse (by decide) rfl rfl rfl (c_X12_refuse ?_ d) rfl rfl (by omega) (by decide) (Nat.le_of_ble_eq_true rfl)
        show AW _ _ _ _ _ _ _
        refine a_iret dX12_bind_42 rfl ?_
        exact finM hQ hI hG (S' := (tS T)) (by unfold sp_bind; rw [if_pos (by omega), idx_nI (show j_12 < 2 ^ 31 by omega), idx_nI (show j_20 < 2 ^ 31 by omega), if_pos h_34]) (VM_e hM (fun j hj => (siN (m0_o (by omega)) (by omega))) hF) rfl rfl siS (fun k j h h0 hw => (siN (m0_o (by unfold coM at h; omega)) (by unfold coM at h; omega))) (fun k j h => rfl) ⟨fun k hk => funext fun j => (siN (m0_o (by omega)) (by omega)), fun k hk => funext fun j => rfl⟩
    · show AW _ _ _ _ _ _ _
      have h_20 := not_inR h_20 (by omega)
      refine n_if_ne 32 (by decide) dX12_bind_23 (by decide) (fun h => absurd h (by decide)) (fun _ => ?_)
      refine a_aload_n rfl dX12_bind_26 ?_
      refine n_iconst 2 rfl dX12_bind_27 ?_
      refine n_callV (mi' := miX12_refuse) dX12_bind_28 lX12_345 mX12_refuse (by decide) rfl rfl rfl (c_X12_refuse ?_ d) rfl rfl (by omega) (by decide) (Nat.le_of_ble_eq_true rfl)
      show AW _ _ _ _ _ _ _
      refine a_iret dX12_bind_31 rfl ?_
      exact finM hQ hI hG (S' := (tS T)) (by unfold sp_bind; rw [if_neg (by omega)]) (VM_e hM (fun j hj => (siN (m0_o (by omega)) (by omega))) hF) rfl rfl siS (fun k j h h0 hw => (siN (m0_o (by unfold coM at h; omega)) (by unfold coM at h; omega))) (fun k j h => rfl) ⟨fun k hk => funext fun j => (siN (m0_o (by omega)) (by omega)), fun k hk => funext fun j => rfl⟩
  · show AW _ _ _ _ _ _ _
    have h_12 := not_inR h_12 (by omega)
    refine n_if_eq 26 (by decide) dX12_bind_15 (by decide) (fun _ => ?_) (fun h => absurd h (by decide))
    refine a_aload_n rfl dX12_bind_26 ?_
    refine n_iconst 2 rfl dX12_bind_27 ?_
    refine n_callV (mi' := miX12_refuse) dX12_bind_28 lX12_345 mX12_refuse (by decide) rfl rfl rfl (c_X12_refuse ?_ d) rfl rfl (by omega) (by decide) (Nat.le_of_ble_eq_true rfl)
    show AW _ _ _ _ _ _ _
    refine a_iret dX12_bind_31 rfl ?_
    exact finM hQ hI hG (S' := (tS T)) (by unfold sp_bind; rw [if_neg (by omega)]) (VM_e hM (fun j hj => (siN (m0_o (by omega)) (by omega))) hF) rfl rfl siS (fun k j h h0 hw => (siN (m0_o (by unfold coM at h; omega)) (by unfold coM at h; omega))) (fun k j h => rfl) ⟨fun k hk => funext fun j => (siN (m0_o (by omega)) (by omega)), fun k hk => funext fun j => rfl⟩

set_option maxRecDepth 100000 in
set_option maxHeartbeats 800000 in
theorem c_X12_hurry {M : Mm} {T : TT} (hI : IM M T) (hG : TG T) {k : Int32} {p : Int32} {Q : Option Value → Mm → Prop} (hQ : ∀ M', IM M' (sp_hurry k p T).2 → keX M M' → Q (some (.int (sp_hurry k p T).1)) M') (d : Nat) : AMt miX12_hurry (d + 4) [.ref 132, .int k, .int p] M Q := by
  refine AMt.of (by decide) (Nat.le_of_ble_eq_true rfl) ?_
  show AW miX12_hurry (d + 4) (mxA Q) 0 [(0, some (.ref 132)), (1, some (.int k)), (2, some (.int p))] [] M
  have hF : WF (tS T) := hG.1.1
  have hM : VM 0 M (tS T) := hI.1.1
  have hM1 := m0_VM hM hF
  have hm := WF_m hF
  have hh := WF_h hF
  have hs := WF_s hF
  have hn := WF_n hF
  refine a_aload_n rfl dX12_hurry_0 ?_
  refine n_iconst 0 rfl dX12_hurry_1 ?_
  refine a_puti dX12_hurry_2 pX12_69 (by decide) rfl rfl ?_
  refine a_aload_n rfl dX12_hurry_5 ?_
  refine n_iconst 0 rfl dX12_hurry_6 ?_
  refine a_puti dX12_hurry_7 pX12_72 (by decide) rfl rfl ?_
  show AW miX12_hurry (d + 4) (mxA Q) 10 [(0, some (.ref 132)), (1, some (.int k)), (2, some (.int p))] [] (m0 M)
  refine a_aload_n rfl dX12_hurry_10 ?_
  refine a_iload_n rfl dX12_hurry_11 ?_
  refine n_callV (mi' := miX12_isMatterAt) dX12_hurry_12 lX12_357 mX12_isMatterAt (by decide) rfl rfl rfl (c_X12_isMatterAt hM1 hF (fun j_12 h_12 e_12 => ?_) (fun h_12 => ?_) d) rfl rfl (by omega) (by decide) (Nat.le_of_ble_eq_true rfl)
  · show AW _ _ _ _ _ _ _
    subst e_12
    have t_12 : (nI j_12).toInt = (j_12 : Int) := nI_toInt (by omega)
    refine n_if_ne 24 (by decide) dX12_hurry_15 (by decide) (fun _ => ?_) (fun h => absurd h (by decide))
    refine a_iload_n rfl dX12_hurry_24 ?_
    refine a_i2l dX12_hurry_25 ?_
    refine a_lconst 0 rfl dX12_hurry_26 ?_
    refine a_ldc2 kX12_413 dX12_hurry_27 ?_
    refine n_callS (mi' := miX12_isIn) dX12_hurry_30 lX12_104 mX12_isIn (c_X12_isIn (fun h_30 => ?_) (fun h_30 => ?_) d) rfl rfl (by omega) (by decide) (Nat.le_of_ble_eq_true rfl)
    · show AW _ _ _ _ _ _ _
      have h_30 := isIn4 (x := p) (a := 0) (b := 20) (by decide) (by decide) h_30
      refine n_if_ne 42 (by decide) dX12_hurry_33 (by decide) (fun _ => ?_) (fun h => absurd h (by decide))
      obtain ⟨j2, hj2, rfl⟩ := inR_of (x := p) (m := 21) (by omega) (by omega) (by omega)
      have t_j2 : (nI j2).toInt = (j2 : Int) := nI_toInt (by omega)
      refine a_aload_n rfl dX12_hurry_42 ?_
      refine a_geta dX12_hurry_43 fX12_35 (by decide) rfl rfl ?_
      refine n_bipush 12 rfl dX12_hurry_46 ?_
      refine a_iload_n rfl dX12_hurry_48 ?_
      refine n_iadd dX12_hurry_49 ?_
      refine v_iald (by omega) (VM_a12 hM1 (j := j_12) (by omega)) (by decide) rfl (by decide) dX12_hurry_50 ?_
      refine a_istore_n (by decide) rfl dX12_hurry_51 ?_
      refine a_aload_n rfl dX12_hurry_52 ?_
      refine a_geta dX12_hurry_53 fX12_35 (by decide) rfl rfl ?_
      refine n_bipush 12 rfl dX12_hurry_56 ?_
      refine a_iload_n rfl dX12_hurry_58 ?_
      refine n_iadd dX12_hurry_59 ?_
      refine a_iload_n rfl dX12_hurry_60 ?_
      refine n_iast (by omega) (by decide) rfl (by decide) dX12_hurry_61 ?_
      refine a_iload_n rfl dX12_hurry_62 ?_
      refine a_iret dX12_hurry_63 rfl ?_
      exact finM hQ hI hG (S' := (upS2 (tS T) 1 j_12 j2)) (by unfold sp_hurry; rw [if_pos (by omega), if_pos (by omega), idx_nI (show j_12 < 2 ^ 31 by omega), idx_nI (show j2 < 2 ^ 31 by omega)]) (VM_set1 hM1 hF h_12) rfl rfl (siN m0_s (by omega)) (fun k j h h0 hw => (siN (m0_o (by unfold coM at h; omega)) (by unfold coM at h; omega))) (fun k j h => rfl) ⟨fun k hk => funext fun j => (siN (m0_o (by omega)) (by omega)), fun k hk => funext fun j => rfl⟩
    · show AW _ _ _ _ _ _ _
      have h_30 := isIn4n (x := p) (a := 0) (b := 20) (by decide) (by decide) h_30
      refine n_if_ne 42 (by decide) dX12_hurry_33 (by decide) (fun h => absurd h (by decide)) (fun _ => ?_)
      refine a_aload_n rfl dX12_hurry_36 ?_
      refine n_iconst 5 rfl dX12_hurry_37 ?_
      refine n_callV (mi' := miX12_refuse) dX12_hurry_38 lX12_345 mX12_refuse (by decide) rfl rfl rfl (c_X12_refuse ?_ d) rfl rfl (by omega) (by decide) (Nat.le_of_ble_eq_true rfl)
      show AW _ _ _ _ _ _ _
      refine a_iret dX12_hurry_41 rfl ?_
      exact finM hQ hI hG (S' := (tS T)) (by unfold sp_hurry; rw [if_pos (by omega), if_neg (by omega)]) (VM_e hM (fun j hj => (siN (m0_o (by omega)) (by omega))) hF) rfl rfl siS (fun k j h h0 hw => (siN (m0_o (by unfold coM at h; omega)) (by unfold coM at h; omega))) (fun k j h => rfl) ⟨fun k hk => funext fun j => (siN (m0_o (by omega)) (by omega)), fun k hk => funext fun j => rfl⟩
  · show AW _ _ _ _ _ _ _
    have h_12 := not_inR h_12 (by omega)
    refine n_if_ne 24 (by decide) dX12_hurry_15 (by decide) (fun h => absurd h (by decide)) (fun _ => ?_)
    refine a_aload_n rfl dX12_hurry_18 ?_
    refine n_iconst 2 rfl dX12_hurry_19 ?_
    refine n_callV (mi' := miX12_refuse) dX12_hurry_20 lX12_345 mX12_refuse (by decide) rfl rfl rfl (c_X12_refuse ?_ d) rfl rfl (by omega) (by decide) (Nat.le_of_ble_eq_true rfl)
    show AW _ _ _ _ _ _ _
    refine a_iret dX12_hurry_23 rfl ?_
    exact finM hQ hI hG (S' := (tS T)) (by unfold sp_hurry; rw [if_neg (by omega)]) (VM_e hM (fun j hj => (siN (m0_o (by omega)) (by omega))) hF) rfl rfl siS (fun k j h h0 hw => (siN (m0_o (by unfold coM at h; omega)) (by unfold coM at h; omega))) (fun k j h => rfl) ⟨fun k hk => funext fun j => (siN (m0_o (by omega)) (by omega)), fun k hk => funext fun j => rfl⟩

set_option maxRecDepth 100000 in
set_option maxHeartbeats 800000 in
theorem c_X12_rule {M : Mm} {T : TT} (hI : IM M T) (hG : TG T) {x : Int32} {Q : Option Value → Mm → Prop} (hQ : ∀ M', IM M' (sp_rule x T).2 → keX M M' → Q (some (.int (sp_rule x T).1)) M') (d : Nat) : AMt miX12_rule (d + 4) [.ref 132, .int x] M Q := by
  refine AMt.of (by decide) (Nat.le_of_ble_eq_true rfl) ?_
  show AW miX12_rule (d + 4) (mxA Q) 0 [(0, some (.ref 132)), (1, some (.int x))] [] M
  have hF : WF (tS T) := hG.1.1
  have hM : VM 0 M (tS T) := hI.1.1
  have hM1 := m0_VM hM hF
  have hm := WF_m hF
  have hh := WF_h hF
  have hs := WF_s hF
  have hn := WF_n hF
  refine a_aload_n rfl dX12_rule_0 ?_
  refine n_iconst 0 rfl dX12_rule_1 ?_
  refine a_puti dX12_rule_2 pX12_69 (by decide) rfl rfl ?_
  refine a_aload_n rfl dX12_rule_5 ?_
  refine n_iconst 0 rfl dX12_rule_6 ?_
  refine a_puti dX12_rule_7 pX12_72 (by decide) rfl rfl ?_
  show AW miX12_rule (d + 4) (mxA Q) 10 [(0, some (.ref 132)), (1, some (.int x))] [] (m0 M)
  refine a_iload_n rfl dX12_rule_10 ?_
  refine a_i2l dX12_rule_11 ?_
  refine a_lconst 0 rfl dX12_rule_12 ?_
  refine a_ldc2 kX12_415 dX12_rule_13 ?_
  refine n_callS (mi' := miX12_isIn) dX12_rule_16 lX12_104 mX12_isIn (c_X12_isIn (fun h_16 => ?_) (fun h_16 => ?_) d) rfl rfl (by omega) (by decide) (Nat.le_of_ble_eq_true rfl)
  · show AW _ _ _ _ _ _ _
    have h_16 := isIn4 (x := x) (a := 0) (b := 16) (by decide) (by decide) h_16
    refine n_if_ne 28 (by decide) dX12_rule_19 (by decide) (fun _ => ?_) (fun h => absurd h (by decide))
    obtain ⟨j1, hj1, rfl⟩ := inR_of (x := x) (m := 17) (by omega) (by omega) (by omega)
    have t_j1 : (nI j1).toInt = (j1 : Int) := nI_toInt (by omega)
    refine a_aload_n rfl dX12_rule_28 ?_
    refine a_geta dX12_rule_29 fX12_35 (by decide) rfl rfl ?_
    refine n_iconst 4 rfl dX12_rule_32 ?_
    refine a_iload_n rfl dX12_rule_33 ?_
    refine n_iast (by omega) (by decide) rfl (by decide) dX12_rule_34 ?_
    refine n_iconst 1 rfl dX12_rule_35 ?_
    refine a_zret dX12_rule_36 rfl (Or.inr rfl) ?_
    exact finM hQ hI hG (S' := (upS2 (tS T) 0 0 j1)) (by unfold sp_rule; rw [if_pos (by omega), idx_nI (show j1 < 2 ^ 31 by omega)]) (VM_set0 hM1 hF) rfl rfl (siN m0_s (by omega)) (fun k j h h0 hw => (siN (m0_o (by unfold coM at h; omega)) (by unfold coM at h; omega))) (fun k j h => rfl) ⟨fun k hk => funext fun j => (siN (m0_o (by omega)) (by omega)), fun k hk => funext fun j => rfl⟩
  · show AW _ _ _ _ _ _ _
    have h_16 := isIn4n (x := x) (a := 0) (b := 16) (by decide) (by decide) h_16
    refine n_if_ne 28 (by decide) dX12_rule_19 (by decide) (fun h => absurd h (by decide)) (fun _ => ?_)
    refine a_aload_n rfl dX12_rule_22 ?_
    refine n_iconst 5 rfl dX12_rule_23 ?_
    refine n_callV (mi' := miX12_no) dX12_rule_24 lX12_84 mX12_no (by decide) rfl rfl rfl (c_X12_no ?_ d) rfl rfl (by omega) (by decide) (Nat.le_of_ble_eq_true rfl)
    show AW _ _ _ _ _ _ _
    refine a_zret dX12_rule_27 rfl (Or.inl rfl) ?_
    exact finM hQ hI hG (S' := (tS T)) (by unfold sp_rule; rw [if_neg (by omega)]) (VM_e hM (fun j hj => (siN (m0_o (by omega)) (by omega))) hF) rfl rfl siS (fun k j h h0 hw => (siN (m0_o (by unfold coM at h; omega)) (by unfold coM at h; omega))) (fun k j h => rfl) ⟨fun k hk => funext fun j => (siN (m0_o (by omega)) (by omega)), fun k hk => funext fun j => rfl⟩

def dqM (M : Mm) (S : ST) (k i : Nat) : Mm := srM M 137 (fun b => if 18 + k ≤ b ∧ b < 18 + i then nI (S 3 (b - 18 + 1)) else if 28 + k ≤ b ∧ b < 28 + i then nI (S 4 (b - 28 + 1)) else M.1 137 b)
theorem dq_o {M : Mm} {S : ST} {k i a j : Nat} {v : Int32} (h : M.1 a j = v) (hn : a ≠ 137 ∨ (¬ (18 + k ≤ j ∧ j < 18 + i) ∧ ¬ (28 + k ≤ j ∧ j < 28 + i))) : (dqM M S k i).1 a j = v := by
  unfold dqM
  by_cases ha : a = 137
  · subst ha
    rw [srM_at, if_neg (by omega), if_neg (by omega)]; exact h
  · exact srN h ha
theorem dq_0 (M : Mm) (S : ST) (k : Nat) : dqM M S k k = M := by
  refine Prod.ext (funext fun a => funext fun b => ?_) rfl
  by_cases ha : a = 137
  · subst ha
    exact (srM_at M 137 _ b).trans (by rw [if_neg (by omega), if_neg (by omega)])
  · exact srN rfl ha
theorem dq_st (M : Mm) (S : ST) (k i : Nat) (hk : k ≤ i) (hi : i < 10) : siM (siM (dqM M S k i) 137 (18 + i) (nI (S 3 (i + 1)))) 137 (28 + i) (nI (S 4 (i + 1))) = dqM M S k (i + 1) := by
  refine Prod.ext (funext fun a => funext fun b => ?_) rfl
  by_cases ha : a = 137
  · subst ha
    by_cases h28 : b = 28 + i
    · subst h28
      rw [siS]
      unfold dqM
      rw [srM_at, if_neg (by omega), if_pos (by omega), show 28 + i - 28 + 1 = i + 1 by omega]
    · by_cases h18 : b = 18 + i
      · subst h18
        rw [siN siS (by omega)]
        unfold dqM
        rw [srM_at, if_pos (by omega), show 18 + i - 18 + 1 = i + 1 by omega]
      · rw [siN (siN rfl (by omega)) (by omega)]
        unfold dqM
        rw [srM_at, srM_at]
        by_cases c1 : 18 + k ≤ b ∧ b < 18 + i
        · have e1 : 18 + k ≤ b ∧ b < 18 + (i + 1) := by omega
          rw [if_pos c1, if_pos e1]
        · have e1 : ¬ (18 + k ≤ b ∧ b < 18 + (i + 1)) := by omega
          rw [if_neg c1, if_neg e1]
          by_cases c2 : 28 + k ≤ b ∧ b < 28 + i
          · have e2 : 28 + k ≤ b ∧ b < 28 + (i + 1) := by omega
            rw [if_pos c2, if_pos e2]
          · have e2 : ¬ (28 + k ≤ b ∧ b < 28 + (i + 1)) := by omega
            rw [if_neg c2, if_neg e2]
  · exact (siN (siN (show (dqM M S k i).1 a b = M.1 a b from srN rfl ha) (by omega)) (by omega)).trans (show (dqM M S k (i + 1)).1 a b = M.1 a b from srN rfl ha).symm
theorem VM_drop {M : Mm} {S : ST} (hM : VM 0 M S) (hF : WF S) {k : Nat} (hk : k < S 0 3) : VM 0 (siM (dqM M S k (S 0 3 - 1)) 137 1 (nI (S 0 3 - 1))) (dropN S k) := by
  obtain ⟨h0, h1, h2, h3, h4, h5, b2, b1, b3, b4, b5, b6, b7, b8, b9, b10, b11⟩ := VM_elim hM
  have hm := WF_m hF
  have hh := WF_h hF
  have hs := WF_s hF
  have hn := WF_n hF
  refine VM_intro (siN (dq_o h0 (by omega)) (by omega)) siS (siN (dq_o h2 (by omega)) (by omega)) (siN (dq_o h3 (by omega)) (by omega)) (siN (dq_o h4 (by omega)) (by omega)) (siN (dq_o h5 (by omega)) (by omega)) (fun j hj => ?_) (fun j hj => ?_) (fun j hj => ?_) (fun j hj => ?_) (fun j hj => ?_) (fun j hj => ?_) (fun j hj => ?_) (fun j hj => ?_) (fun j hj => ?_) (fun j hj => ?_) (fun j hj => ?_)
  · have hj : j < S 0 2 := hj
    exact siN (dq_o (b2 j hj) (by omega)) (by omega)
  · have hj : j < S 0 2 := hj
    exact siN (dq_o (b1 j hj) (by omega)) (by omega)
  · have hj : j < S 0 3 - 1 := hj
    refine siN ?_ (by omega)
    unfold dqM
    rw [srM_at]
    by_cases e : k ≤ j
    · rw [if_pos (by omega), show 18 + j - 18 + 1 = j + 1 by omega]; simp [dropN, e]
    · rw [if_neg (by omega), if_neg (by omega), b3 j (by omega)]; simp [dropN, e]
  · have hj : j < S 0 3 - 1 := hj
    refine siN ?_ (by omega)
    unfold dqM
    rw [srM_at]
    by_cases e : k ≤ j
    · rw [if_neg (by omega), if_pos (by omega), show 28 + j - 28 + 1 = j + 1 by omega]; simp [dropN, e]
    · rw [if_neg (by omega), if_neg (by omega), b4 j (by omega)]; simp [dropN, e]
  · have hj : j < S 0 4 := hj
    exact siN (dq_o (b5 j hj) (by omega)) (by omega)
  · have hj : j < S 0 4 := hj
    exact siN (dq_o (b6 j hj) (by omega)) (by omega)
  · have hj : j < S 0 4 := hj
    exact siN (dq_o (b7 j hj) (by omega)) (by omega)
  · have hj : j < S 0 4 := hj
    exact siN (dq_o (b8 j hj) (by omega)) (by omega)
  · have hj : j < S 0 5 := hj
    exact siN (dq_o (b9 j hj) (by omega)) (by omega)
  · have hj : j < S 0 5 := hj
    exact siN (dq_o (b10 j hj) (by omega)) (by omega)
  · have hj : j < S 0 5 := hj
    exact siN (dq_o (b11 j hj) (by omega)) (by omega)

set_option maxRecDepth 100000 in
set_option maxHeartbeats 800000 in
theorem c_X12_loose {M : Mm} {T : TT} (hI : IM M T) (hG : TG T) {k : Int32} {Q : Option Value → Mm → Prop} (hQ : ∀ M', IM M' (sp_loose k T).2 → keX M M' → Q (some (.int (sp_loose k T).1)) M') (d : Nat) : AMt miX12_loose (d + 4) [.ref 132, .int k] M Q := by
  refine AMt.of (by decide) (Nat.le_of_ble_eq_true rfl) ?_
  show AW miX12_loose (d + 4) (mxA Q) 0 [(0, some (.ref 132)), (1, some (.int k))] [] M
  have hF : WF (tS T) := hG.1.1
  have hM : VM 0 M (tS T) := hI.1.1
  have hM1 := m0_VM hM hF
  have hm := WF_m hF
  have hh := WF_h hF
  have hs := WF_s hF
  have hn := WF_n hF
  refine a_aload_n rfl dX12_loose_0 ?_
  refine n_iconst 0 rfl dX12_loose_1 ?_
  refine a_puti dX12_loose_2 pX12_69 (by decide) rfl rfl ?_
  refine a_aload_n rfl dX12_loose_5 ?_
  refine n_iconst 0 rfl dX12_loose_6 ?_
  refine a_puti dX12_loose_7 pX12_72 (by decide) rfl rfl ?_
  show AW miX12_loose (d + 4) (mxA Q) 10 [(0, some (.ref 132)), (1, some (.int k))] [] (m0 M)
  refine a_iload_n rfl dX12_loose_10 ?_
  refine a_i2l dX12_loose_11 ?_
  refine a_lconst 0 rfl dX12_loose_12 ?_
  refine a_aload_n rfl dX12_loose_13 ?_
  refine a_geta dX12_loose_14 fX12_35 (by decide) rfl rfl ?_
  refine n_iconst 1 rfl dX12_loose_17 ?_
  refine v_iald (by omega) (VM_s1 hM1) (by decide) rfl (by decide) dX12_loose_18 ?_
  refine n_iconst 1 rfl dX12_loose_19 ?_
  refine a_isub dX12_loose_20 ?_
  refine a_i2l dX12_loose_21 ?_
  refine n_callS (mi' := miX12_isIn) dX12_loose_22 lX12_104 mX12_isIn (c_X12_isIn (fun h_22 => ?_) (fun h_22 => ?_) d) rfl rfl (by omega) (by decide) (Nat.le_of_ble_eq_true rfl)
  · show AW _ _ _ _ _ _ _
    have h_22 := isIn4 (x := k) (a := 0) (b := ((((tS T) 0 3) : Nat) : Int) - 1) (by decide) (hi_sub (by omega)) h_22
    refine n_if_ne 34 (by decide) dX12_loose_25 (by decide) (fun _ => ?_) (fun h => absurd h (by decide))
    obtain ⟨j1, hj1, rfl⟩ := inR_of (x := k) (m := 10) (by omega) (by omega) (by omega)
    have t_j1 : (nI j1).toInt = (j1 : Int) := nI_toInt (by omega)
    refine a_iload_n rfl dX12_loose_34 ?_
    refine a_istore_n (by decide) rfl dX12_loose_35 ?_
    have loop_36 : ∀ i, i ≤ tS T 0 3 - 1 → (j1 ≤ i) → AW miX12_loose (d + 4) (mxA Q) 36 [(0, some (.ref 132)), (1, some (.int (nI j1))), (2, some (.int (nI i)))] [] (dqM (m0 M) (tS T) j1 i) := by
      refine up (W := fun i => (j1 ≤ i) → AW miX12_loose (d + 4) (mxA Q) 36 [(0, some (.ref 132)), (1, some (.int (nI j1))), (2, some (.int (nI i)))] [] (dqM (m0 M) (tS T) j1 i)) (tS T 0 3 - 1) (fun hI_36 => ?_) (fun i hi_36 ih_36 hI_36 => ?_)
      · refine a_iload_n rfl dX12_loose_36 ?_
        refine n_iconst 1 rfl dX12_loose_37 ?_
        refine n_iadd dX12_loose_38 ?_
        refine a_aload_n rfl dX12_loose_39 ?_
        refine a_geta dX12_loose_40 fX12_35 (by decide) rfl rfl ?_
        refine n_iconst 1 rfl dX12_loose_43 ?_
        refine v_iald (by omega) (dq_o (VM_s1 hM1) (by omega)) (by decide) rfl (by decide) dX12_loose_44 ?_
        refine n_icmp_ge 94 (by omega) (by omega) dX12_loose_45 (by decide) (fun h_45 => ?_) (fun h_45 => absurd h_45 (by omega))
        refine a_aload_n rfl dX12_loose_94 ?_
        refine a_geta dX12_loose_95 fX12_35 (by decide) rfl rfl ?_
        refine n_iconst 1 rfl dX12_loose_98 ?_
        refine a_dup2i rfl rfl dX12_loose_99 ?_
        refine v_iald (by omega) (dq_o (VM_s1 hM1) (by omega)) (by decide) rfl (by decide) dX12_loose_100 ?_
        refine n_iconst 1 rfl dX12_loose_101 ?_
        refine n_isub (by omega) dX12_loose_102 ?_
        refine n_iast (by omega) (by decide) rfl (by decide) dX12_loose_103 ?_
        refine a_aload_n rfl dX12_loose_104 ?_
        refine a_geta dX12_loose_105 fX12_35 (by decide) rfl rfl ?_
        refine n_iconst 1 rfl dX12_loose_108 ?_
        refine v_iald (by omega) siS (by decide) rfl (by decide) dX12_loose_109 ?_
        refine a_iret dX12_loose_110 rfl ?_
        exact finM hQ hI hG (S' := (dropN (tS T) j1)) (by unfold sp_loose; rw [if_pos (by omega), idx_nI (show j1 < 2 ^ 31 by omega)]) (VM_drop hM1 hF (by omega)) rfl rfl (siN (dq_o m0_s (by omega)) (by omega)) (fun k j h h0 hw => (siN (dq_o (m0_o (by unfold coM at h; omega)) (by unfold coM at h; omega)) (by unfold coM at h; omega))) (fun k j h => rfl) ⟨fun k hk => funext fun j => (siN (dq_o (m0_o (by omega)) (by omega)) (by omega)), fun k hk => funext fun j => rfl⟩
      · refine a_iload_n rfl dX12_loose_36 ?_
        refine n_iconst 1 rfl dX12_loose_37 ?_
        refine n_iadd dX12_loose_38 ?_
        refine a_aload_n rfl dX12_loose_39 ?_
        refine a_geta dX12_loose_40 fX12_35 (by decide) rfl rfl ?_
        refine n_iconst 1 rfl dX12_loose_43 ?_
        refine v_iald (by omega) (dq_o (VM_s1 hM1) (by omega)) (by decide) rfl (by decide) dX12_loose_44 ?_
        refine n_icmp_ge 94 (by omega) (by omega) dX12_loose_45 (by decide) (fun h_45 => absurd h_45 (by omega)) (fun h_45 => ?_)
        refine a_aload_n rfl dX12_loose_48 ?_
        refine a_geta dX12_loose_49 fX12_35 (by decide) rfl rfl ?_
        refine n_bipush 18 rfl dX12_loose_52 ?_
        refine a_iload_n rfl dX12_loose_54 ?_
        refine n_iadd dX12_loose_55 ?_
        refine a_aload_n rfl dX12_loose_56 ?_
        refine a_geta dX12_loose_57 fX12_35 (by decide) rfl rfl ?_
        refine n_bipush 18 rfl dX12_loose_60 ?_
        refine a_iload_n rfl dX12_loose_62 ?_
        refine n_iadd dX12_loose_63 ?_
        refine n_iconst 1 rfl dX12_loose_64 ?_
        refine n_iadd dX12_loose_65 ?_
        refine v_iald (by omega) (dq_o (VM_a18 hM1 (j := (i + 1)) (by omega)) (by omega)) (by decide) rfl (by decide) dX12_loose_66 ?_
        refine n_iast (by omega) (by decide) rfl (by decide) dX12_loose_67 ?_
        refine a_aload_n rfl dX12_loose_68 ?_
        refine a_geta dX12_loose_69 fX12_35 (by decide) rfl rfl ?_
        refine n_bipush 28 rfl dX12_loose_72 ?_
        refine a_iload_n rfl dX12_loose_74 ?_
        refine n_iadd dX12_loose_75 ?_
        refine a_aload_n rfl dX12_loose_76 ?_
        refine a_geta dX12_loose_77 fX12_35 (by decide) rfl rfl ?_
        refine n_bipush 28 rfl dX12_loose_80 ?_
        refine a_iload_n rfl dX12_loose_82 ?_
        refine n_iadd dX12_loose_83 ?_
        refine n_iconst 1 rfl dX12_loose_84 ?_
        refine n_iadd dX12_loose_85 ?_
        refine v_iald (by omega) (siN (dq_o (VM_a28 hM1 (j := (i + 1)) (by omega)) (by omega)) (by omega)) (by decide) rfl (by decide) dX12_loose_86 ?_
        refine n_iast (by omega) (by decide) rfl (by decide) dX12_loose_87 ?_
        refine n_iinc (c := 1) rfl rfl (by decide) rfl dX12_loose_88 ?_
        refine a_goto 36 dX12_loose_91 (by decide) ?_
        have ihx_36 := (ih_36 (by omega))
        rw [← dq_st (m0 M) (tS T) j1 i hI_36 (by omega)] at ihx_36
        exact a_bk ihx_36 ⟨rfl, rfl, rfl, trivial⟩
    have l0 := loop_36 j1 (by omega) (Nat.le_refl j1)
    rw [dq_0] at l0
    exact a_bk l0 ⟨rfl, rfl, rfl, trivial⟩
  · show AW _ _ _ _ _ _ _
    have h_22 := isIn4n (x := k) (a := 0) (b := ((((tS T) 0 3) : Nat) : Int) - 1) (by decide) (hi_sub (by omega)) h_22
    refine n_if_ne 34 (by decide) dX12_loose_25 (by decide) (fun h => absurd h (by decide)) (fun _ => ?_)
    refine a_aload_n rfl dX12_loose_28 ?_
    refine n_iconst 2 rfl dX12_loose_29 ?_
    refine n_callV (mi' := miX12_refuse) dX12_loose_30 lX12_345 mX12_refuse (by decide) rfl rfl rfl (c_X12_refuse ?_ d) rfl rfl (by omega) (by decide) (Nat.le_of_ble_eq_true rfl)
    show AW _ _ _ _ _ _ _
    refine a_iret dX12_loose_33 rfl ?_
    exact finM hQ hI hG (S' := (tS T)) (by unfold sp_loose; rw [if_neg (by omega)]) (VM_e hM (fun j hj => (siN (m0_o (by omega)) (by omega))) hF) rfl rfl siS (fun k j h h0 hw => (siN (m0_o (by unfold coM at h; omega)) (by unfold coM at h; omega))) (fun k j h => rfl) ⟨fun k hk => funext fun j => (siN (m0_o (by omega)) (by omega)), fun k hk => funext fun j => rfl⟩

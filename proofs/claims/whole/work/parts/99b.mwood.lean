theorem st_mw {k j : Nat} (h : stP k j) : mwP k j := by unfold stP at h; unfold mwP mtP woP; omega
theorem emX {M : Mm} (h : ∀ j, j < 362 → M.1 137 (1448 + j) = if j = 4 then nI 4 else nI 0) : VM (362 * 4) M emW ∧ YM (362 * 4) M Y0 := em_VM (b := 4) h
theorem IM_s5 {M M' : Mm} {T : TT} {n : Nat} (hI : IM M T) (hG : TG T) (h0 : M'.1 132 0 = nI n) (hf : fr (fun k j => k = 132 ∧ (j = 0 ∨ j = 1)) M M') : IM M' (st' T n) ∧ keX M M' := by
  obtain ⟨h1, h2, h3, h4, h5, h6, h7, h8⟩ := hI
  exact ⟨⟨WM_fr h1 hG.1 hf (fun j a b => by omega) (fun j a b => by omega), RM_fr h2 hf (fun k j a b => by omega), ⟨hf.i h3.1 (by omega), fun j hj => hf.i (h3.2 j hj) (by omega)⟩, ⟨h0, hf.l h4.2.1 (by omega), hf.l h4.2.2 (by omega)⟩, ⟨hf.i h5.1 (by omega), hf.i h5.2 (by omega)⟩, ⟨hf.i h6.1 (by omega), fun q j hj => hf.i (h6.2 q j hj) (by omega)⟩, hf.i h7 (by omega), fun i hi => WM_fr (h8 i hi) (hG.2.2.2.2.2.2.1 i hi) hf (fun j a b => by omega) (fun j a b => by omega)⟩, keX_fr hf (fun k j z => by omega)⟩
def wiH (M0 M : Mm) (T : TT) (q k : Nat) : Prop := ∃ x, WI M0 M (dT T) q (woR T q) k x
theorem WI_end {M0 M : Mm} {D : Nat → Nat} {n k : Nat} {R : PW} {x : PW} (h : WI M0 M D n R k x) (hn : n ≤ 900) (hg : ¬ (x.1.2.1 = 0 ∧ kd (tkN D n) x.1 ≠ 0)) : x = R := by
  obtain ⟨h1, h2, h3, h4, h5, h6, h8⟩ := h
  rw [lpW_e hg] at h8; exact h8

set_option maxRecDepth 100000 in
set_option maxHeartbeats 800000 in
theorem c_X12_wood {M : Mm} {T : TT} (hI : IM M T) (hG : TG T) (hB : TB_ T) {x0 : Int32} {Q : Option Value → Mm → Prop} (hQ : ∀ M', IM M' (sp_wood x0 T).2 → keX M M' → Q (some (.int (sp_wood x0 T).1)) M') (d : Nat) : AMt miX12_wood (d + 10) [.ref 132, .int x0] M Q := by
  refine AMt.of (by decide) (Nat.le_of_ble_eq_true rfl) ?_
  show AW miX12_wood (d + 10) (mxA Q) 0 [(0, some (.ref 132)), (1, some (.int x0))] [] M
  have hF : WF (tS T) := hG.1.1
  have hM : VM 0 M (tS T) := hI.1.1
  have hM1 := m0_VM hM hF
  have hm := WF_m hF
  have hh := WF_h hF
  have hs := WF_s hF
  have hn := WF_n hF
  have hp9 : (tP T).1 ≤ 900 := hG.2.2.1
  refine a_aload_n rfl dX12_wood_0 ?_
  refine n_iconst 0 rfl dX12_wood_1 ?_
  refine a_puti dX12_wood_2 pX12_69 (by decide) rfl rfl ?_
  refine a_aload_n rfl dX12_wood_5 ?_
  refine n_iconst 0 rfl dX12_wood_6 ?_
  refine a_puti dX12_wood_7 pX12_72 (by decide) rfl rfl ?_
  show AW miX12_wood (d + 10) (mxA Q) 10 [(0, some (.ref 132)), (1, some (.int x0))] [] (m0 M)
  refine a_aload_n rfl dX12_wood_10 ?_
  refine a_iload_n rfl dX12_wood_11 ?_
  refine n_sipush 900 rfl dX12_wood_12 ?_
  refine n_callV (mi' := miX12_starts) dX12_wood_15 lX12_301 mX12_starts (by decide) rfl rfl rfl (c_X12_starts (B := (tP T).2) ((m0_o (by omega)).trans hI.2.2.1.1) hp9 (fun j hj => (m0_o (by omega)).trans (hI.2.2.1.2 j hj)) (fun j hj => hB j hj) (by omega) (fun q_15 e_15 a_15 b_15 M_15 hU_15 h8_15 hf_15 => ?_) (fun h_15 => ?_) d) rfl rfl (by omega) (by decide) (Nat.le_of_ble_eq_true rfl)
  · show AW _ _ _ _ _ _ _
    refine n_if_ne 23 (by decide) dX12_wood_18 (by decide) (fun _ => ?_) (fun h => absurd h (by decide))
    refine a_aload_n rfl dX12_wood_23 ?_
    refine n_iconst 4 rfl dX12_wood_24 ?_
    refine n_callV (mi' := miX12_empties) dX12_wood_25 lX12_65 mX12_empties (by decide) rfl rfl rfl (c_X12_empties (by omega) (fun M_25 ha_25 hf_25 => ?_) d) rfl rfl (by omega) (by decide) (Nat.le_of_ble_eq_true rfl)
    show AW _ _ _ _ _ _ _
    refine a_aload_n rfl dX12_wood_28 ?_
    refine n_iconst 0 rfl dX12_wood_29 ?_
    refine a_putz dX12_wood_30 pX12_253 (by decide) rfl rfl (Or.inl rfl) ?_
    have hq9 : q_15 ≤ 900 := by omega
    have hD9 : ∀ j, dT T j < 256 := fun j => byN_lt _
    have he4 := emX ha_25
    have hx0 : x0.toInt = (q_15 : Int) := by rw [e_15]; exact nI_toInt (by omega)
    have i_q : idx x0 = q_15 := by unfold idx; rw [hx0]; exact Int.toNat_natCast q_15
    have hfs : fr (fun k j => k = 132 ∧ j = 24) M_25 (siM M_25 132 24 (nI 0)) := fr.r.si (by omega)
    have hf25 : fr (fun k j => k = 137 ∧ 1448 ≤ j ∧ j < 1810) M_15 M_25 := hf_25.f.mo (fun k j h => by omega)
    have hfw : fr woP (m0 M) (siM M_25 132 24 (nI 0)) := ((hf_15.mo (fun k j h => by unfold stP at h; unfold woP; omega)).t (hf25.mo (fun k j h => by unfold woP; omega))).t (hfs.mo (fun k j h => by unfold woP; omega))
    have hw0 : WI (m0 M) (siM M_25 132 24 (nI 0)) (dT T) q_15 (woR T q_15) 0 w0 := WI_0 (MU_fr hU_15 ((hf25.mo (fun k j h => Or.inl h)).t (hfs.mo (fun k j h => Or.inr h)) : fr (fun k j => (k = 137 ∧ 1448 ≤ j ∧ j < 1810) ∨ (k = 132 ∧ j = 24)) M_15 _) (fun k j h => by omega)) (VM_fr4 he4.1 hfs (fun j => by omega)) ⟨siN he4.2.1 (by omega), siN he4.2.2.1 (by omega), fun i hi => absurd (show i < 0 from hi) (Nat.not_lt_zero i)⟩ siS hfw
    have h825 : (siM M_25 132 24 (nI 0)).1 132 8 = nI 0 := siN (hf25.i h8_15 (by omega)) (by omega)
    have loop_33 : ∀ (f : Nat) (k : Nat) (x : PW) (M1 : Mm), 900 ≤ k + f → (WI (m0 M) M1 (dT T) q_15 (woR T q_15) k x ∧ M1.1 132 8 = nI 0) → AW miX12_wood (d + 10) (mxA Q) 33 [(0, some (.ref 132)), (1, some (.int x0))] [] M1 := by
      intro f
      induction f with
      | zero =>
        intro k x M1 hL_33 hI_33
        obtain ⟨hx, h8x⟩ := hI_33
        have hf7 : x.1.2.1 ≤ 7 := hx.1.2.2.2.2
        have hkd : kd (tkN (dT T) q_15) x.1 ≤ 6 := (tkN_G (D := dT T) hq9 x.1.1).1
        obtain ⟨mk0, mk1, mk2, mk3, mk4, mk5⟩ := mkd_i hkd
        have hkk : x.1.2.1 = 0 → kd (tkN (dT T) q_15) x.1 ≠ 0 → k < 900 := fun a b => Nat.lt_of_le_of_lt (hx.2.1 a).2.2.2.2 (tk_lt hq9 b)
        have hq9 : q_15 ≤ 900 := by omega
        have hD9 : ∀ j, dT T j < 256 := fun j => byN_lt _
        have he4 := emX ha_25
        have hx0 : x0.toInt = (q_15 : Int) := by rw [e_15]; exact nI_toInt (by omega)
        have i_q : idx x0 = q_15 := by unfold idx; rw [hx0]; exact Int.toNat_natCast q_15
        have hfs : fr (fun k j => k = 132 ∧ j = 24) M_25 (siM M_25 132 24 (nI 0)) := fr.r.si (by omega)
        have hf25 : fr (fun k j => k = 137 ∧ 1448 ≤ j ∧ j < 1810) M_15 M_25 := hf_25.f.mo (fun k j h => by omega)
        have hfw : fr woP (m0 M) (siM M_25 132 24 (nI 0)) := ((hf_15.mo (fun k j h => by unfold stP at h; unfold woP; omega)).t (hf25.mo (fun k j h => by unfold woP; omega))).t (hfs.mo (fun k j h => by unfold woP; omega))
        have hw0 : WI (m0 M) (siM M_25 132 24 (nI 0)) (dT T) q_15 (woR T q_15) 0 w0 := WI_0 (MU_fr hU_15 ((hf25.mo (fun k j h => Or.inl h)).t (hfs.mo (fun k j h => Or.inr h)) : fr (fun k j => (k = 137 ∧ 1448 ≤ j ∧ j < 1810) ∨ (k = 132 ∧ j = 24)) M_15 _) (fun k j h => by omega)) (VM_fr4 he4.1 hfs (fun j => by omega)) ⟨siN he4.2.1 (by omega), siN he4.2.2.1 (by omega), fun i hi => absurd (show i < 0 from hi) (Nat.not_lt_zero i)⟩ siS hfw
        have h825 : (siM M_25 132 24 (nI 0)).1 132 8 = nI 0 := siN (hf25.i h8_15 (by omega)) (by omega)
        refine a_aload_n rfl dX12_wood_33 ?_
        refine g_i hx.1.2.2.1 (by decide) rfl fX12_212 rfl dX12_wood_34 ?_
        refine n_if_ne 64 (by omega) dX12_wood_37 (by decide) (fun h_37 => ?_) (fun h_37 => ?_)
        · have hR : x = woR T q_15 := WI_end hx hq9 (fun z => h_37 z.1)
          refine a_aload_n rfl dX12_wood_64 ?_
          refine n_callV (mi' := miX12_isWell) dX12_wood_65 lX12_310 mX12_isWell (by decide) rfl rfl rfl (c_X12_isWell hD9 hq9 hx.1 (fun h_65 => ?_) (fun h_65 => ?_) d) rfl rfl (by omega) (by decide) (Nat.le_of_ble_eq_true rfl)
          · show AW _ _ _ _ _ _ _
            refine n_if_ne 73 (by decide) dX12_wood_68 (by decide) (fun _ => ?_) (fun h => absurd h (by decide))
            refine a_aload_n rfl dX12_wood_73 ?_
            refine n_iconst 4 rfl dX12_wood_74 ?_
            refine n_iconst 0 rfl dX12_wood_75 ?_
            refine n_callV (mi' := miX12_copy) dX12_wood_76 lX12_313 mX12_copy (by decide) rfl rfl rfl (c_X12_copy (f := 4) (t := 0) (by omega) (by omega) (by omega) (fun M_76 ha_76 hb_76 hf_76 => ?_) d) rfl rfl (by omega) (by decide) (Nat.le_of_ble_eq_true rfl)
            show AW _ _ _ _ _ _ _
            have hb2 := hx.2.1 h_65
            have hz : fr (fun k j => k = 132 ∧ (j = 10 ∨ j = 11)) M1 (siM (siM M1 132 10 (nI x.1.2.1)) 132 11 (-1)) := (fr.r.si (by omega)).si (by omega)
            have hW_76 : WM 0 M_76 (x.2.1, x.2.2.1, Y0) := WM_cp (f := 4) (t := 0) (M := siM (siM M1 132 10 (nI x.1.2.1)) 132 11 (-1)) (WM_fr (b := 4) (M := M1) ⟨hb2.1, hb2.2.1, hx.2.2.2.2.1⟩ ⟨hb2.2.2.1, WFY_0 hb2.2.2.2.1⟩ hz (fun j a b => by omega) (fun j a b => by omega)) ⟨hb2.2.2.1, WFY_0 hb2.2.2.2.1⟩ ha_76 hb_76
            have hV_76 : VM 0 M_76 x.2.1 := hW_76.1
            refine a_aload_n rfl dX12_wood_79 ?_
            refine a_geta dX12_wood_80 fX12_35 (by decide) rfl rfl ?_
            refine n_iconst 2 rfl dX12_wood_83 ?_
            refine v_iald (by omega) (VM_s2 hV_76) (by decide) rfl (by decide) dX12_wood_84 ?_
            refine a_iret dX12_wood_85 rfl ?_
            have h01 : M1.1 132 0 = nI 0 := hx.2.2.2.2.2.1.i m0_s (by unfold woP; omega)
            have hg2 : fr mtP M M1 := (m0_fr2.mo (fun k j h => by unfold mtP woP; omega)).t (hx.2.2.2.2.2.1.mo (fun _ _ h => (Or.inl h)))
            have hg1 : fr mwP M M1 := hg2.mo (fun _ _ h => mt_mw h)
            have e : sp_wood x0 T = (nI (x.2.1 0 4), tfT T (x.2.1, x.2.2.1, Y0) (nI 0) (-1) 0) := by unfold sp_wood; rw [if_pos (by omega), i_q, ← hR, if_pos h_65]
            rw [e] at hQ
            have hf2 : fr mwP M M_76 := ((hg1.si (by unfold mwP mtP; omega)).si (by unfold mwP mtP; omega)).t (hf_76.mo (fun k j h => by unfold mwP; omega))
            have hy := IM_tx (n := 0) hI hG hW_76 (hf_76.i (siN (siN h8x (by omega)) (by omega)) (by omega)) (hf_76.i (siN (siN h01 (by omega)) (by omega)) (by omega)) ⟨hf_76.i (siN siS (by omega)) (by omega) |>.trans (congrArg nI h_65), hf_76.i siS (by omega)⟩ hf2
            exact hQ _ hy.1 hy.2
          · show AW _ _ _ _ _ _ _
            refine n_if_ne 73 (by decide) dX12_wood_68 (by decide) (fun h => absurd h (by decide)) (fun _ => ?_)
            refine a_iconst (-1) rfl dX12_wood_71 ?_
            refine a_iret dX12_wood_72 rfl ?_
            have h01 : M1.1 132 0 = nI 0 := hx.2.2.2.2.2.1.i m0_s (by unfold woP; omega)
            have hg2 : fr mtP M M1 := (m0_fr2.mo (fun k j h => by unfold mtP woP; omega)).t (hx.2.2.2.2.2.1.mo (fun _ _ h => (Or.inl h)))
            have hg1 : fr mwP M M1 := hg2.mo (fun _ _ h => mt_mw h)
            have e : sp_wood x0 T = (-1, tfT T (tW T) (nI x.1.2.1) (nI x.1.2.2) 10) := by unfold sp_wood; rw [if_pos (by omega), i_q, ← hR, if_neg h_65]
            rw [e] at hQ
            have hf2t : fr mtP M (siM (siM (siM M1 132 10 (nI x.1.2.1)) 132 11 (nI x.1.2.2)) 132 0 (nI 10)) := ((hg2.si (by unfold mtP; omega)).si (by unfold mtP; omega)).si (by unfold mtP; omega)
            have hy := IM_tx (n := 10) hI hG (WM_fr hI.1 hG.1 hf2t (fun j a b => by unfold mtP woP; omega) (fun j a b => by unfold mtP woP; omega)) (siN (siN (siN h8x (by omega)) (by omega)) (by omega)) siS ⟨siN (siN siS (by omega)) (by omega), siN siS (by omega)⟩ (hf2t.mo (fun _ _ h => mt_mw h))
            exact hQ _ hy.1 hy.2
        · refine a_aload_n rfl dX12_wood_40 ?_
          refine g_i (show M1.1 132 14 = nI (mkd (kd (tkN (dT T) q_15) x.1)) from hx.1.2.1.1) (by decide) rfl fX12_124 rfl dX12_wood_41 ?_
          refine n_if_eq 64 (by omega) dX12_wood_44 (by decide) (fun h_44 => ?_) (fun h_44 => absurd h_44 (by omega))
          have hR : x = woR T q_15 := WI_end hx hq9 (fun z => z.2 (mk0.mp h_44))
          refine a_aload_n rfl dX12_wood_64 ?_
          refine n_callV (mi' := miX12_isWell) dX12_wood_65 lX12_310 mX12_isWell (by decide) rfl rfl rfl (c_X12_isWell hD9 hq9 hx.1 (fun h_65 => ?_) (fun h_65 => ?_) d) rfl rfl (by omega) (by decide) (Nat.le_of_ble_eq_true rfl)
          · show AW _ _ _ _ _ _ _
            refine n_if_ne 73 (by decide) dX12_wood_68 (by decide) (fun _ => ?_) (fun h => absurd h (by decide))
            refine a_aload_n rfl dX12_wood_73 ?_
            refine n_iconst 4 rfl dX12_wood_74 ?_
            refine n_iconst 0 rfl dX12_wood_75 ?_
            refine n_callV (mi' := miX12_copy) dX12_wood_76 lX12_313 mX12_copy (by decide) rfl rfl rfl (c_X12_copy (f := 4) (t := 0) (by omega) (by omega) (by omega) (fun M_76 ha_76 hb_76 hf_76 => ?_) d) rfl rfl (by omega) (by decide) (Nat.le_of_ble_eq_true rfl)
            show AW _ _ _ _ _ _ _
            have hb2 := hx.2.1 h_65
            have hz : fr (fun k j => k = 132 ∧ (j = 10 ∨ j = 11)) M1 (siM (siM M1 132 10 (nI x.1.2.1)) 132 11 (-1)) := (fr.r.si (by omega)).si (by omega)
            have hW_76 : WM 0 M_76 (x.2.1, x.2.2.1, Y0) := WM_cp (f := 4) (t := 0) (M := siM (siM M1 132 10 (nI x.1.2.1)) 132 11 (-1)) (WM_fr (b := 4) (M := M1) ⟨hb2.1, hb2.2.1, hx.2.2.2.2.1⟩ ⟨hb2.2.2.1, WFY_0 hb2.2.2.2.1⟩ hz (fun j a b => by omega) (fun j a b => by omega)) ⟨hb2.2.2.1, WFY_0 hb2.2.2.2.1⟩ ha_76 hb_76
            have hV_76 : VM 0 M_76 x.2.1 := hW_76.1
            refine a_aload_n rfl dX12_wood_79 ?_
            refine a_geta dX12_wood_80 fX12_35 (by decide) rfl rfl ?_
            refine n_iconst 2 rfl dX12_wood_83 ?_
            refine v_iald (by omega) (VM_s2 hV_76) (by decide) rfl (by decide) dX12_wood_84 ?_
            refine a_iret dX12_wood_85 rfl ?_
            have h01 : M1.1 132 0 = nI 0 := hx.2.2.2.2.2.1.i m0_s (by unfold woP; omega)
            have hg2 : fr mtP M M1 := (m0_fr2.mo (fun k j h => by unfold mtP woP; omega)).t (hx.2.2.2.2.2.1.mo (fun _ _ h => (Or.inl h)))
            have hg1 : fr mwP M M1 := hg2.mo (fun _ _ h => mt_mw h)
            have e : sp_wood x0 T = (nI (x.2.1 0 4), tfT T (x.2.1, x.2.2.1, Y0) (nI 0) (-1) 0) := by unfold sp_wood; rw [if_pos (by omega), i_q, ← hR, if_pos h_65]
            rw [e] at hQ
            have hf2 : fr mwP M M_76 := ((hg1.si (by unfold mwP mtP; omega)).si (by unfold mwP mtP; omega)).t (hf_76.mo (fun k j h => by unfold mwP; omega))
            have hy := IM_tx (n := 0) hI hG hW_76 (hf_76.i (siN (siN h8x (by omega)) (by omega)) (by omega)) (hf_76.i (siN (siN h01 (by omega)) (by omega)) (by omega)) ⟨hf_76.i (siN siS (by omega)) (by omega) |>.trans (congrArg nI h_65), hf_76.i siS (by omega)⟩ hf2
            exact hQ _ hy.1 hy.2
          · show AW _ _ _ _ _ _ _
            refine n_if_ne 73 (by decide) dX12_wood_68 (by decide) (fun h => absurd h (by decide)) (fun _ => ?_)
            refine a_iconst (-1) rfl dX12_wood_71 ?_
            refine a_iret dX12_wood_72 rfl ?_
            have h01 : M1.1 132 0 = nI 0 := hx.2.2.2.2.2.1.i m0_s (by unfold woP; omega)
            have hg2 : fr mtP M M1 := (m0_fr2.mo (fun k j h => by unfold mtP woP; omega)).t (hx.2.2.2.2.2.1.mo (fun _ _ h => (Or.inl h)))
            have hg1 : fr mwP M M1 := hg2.mo (fun _ _ h => mt_mw h)
            have e : sp_wood x0 T = (-1, tfT T (tW T) (nI x.1.2.1) (nI x.1.2.2) 10) := by unfold sp_wood; rw [if_pos (by omega), i_q, ← hR, if_neg h_65]
            rw [e] at hQ
            have hf2t : fr mtP M (siM (siM (siM M1 132 10 (nI x.1.2.1)) 132 11 (nI x.1.2.2)) 132 0 (nI 10)) := ((hg2.si (by unfold mtP; omega)).si (by unfold mtP; omega)).si (by unfold mtP; omega)
            have hy := IM_tx (n := 10) hI hG (WM_fr hI.1 hG.1 hf2t (fun j a b => by unfold mtP woP; omega) (fun j a b => by unfold mtP woP; omega)) (siN (siN (siN h8x (by omega)) (by omega)) (by omega)) siS ⟨siN (siN siS (by omega)) (by omega), siN siS (by omega)⟩ (hf2t.mo (fun _ _ h => mt_mw h))
            exact hQ _ hy.1 hy.2
      | succ f ih_33 =>
        intro k x M1 hL_33 hI_33
        obtain ⟨hx, h8x⟩ := hI_33
        have hf7 : x.1.2.1 ≤ 7 := hx.1.2.2.2.2
        have hkd : kd (tkN (dT T) q_15) x.1 ≤ 6 := (tkN_G (D := dT T) hq9 x.1.1).1
        obtain ⟨mk0, mk1, mk2, mk3, mk4, mk5⟩ := mkd_i hkd
        have hkk : x.1.2.1 = 0 → kd (tkN (dT T) q_15) x.1 ≠ 0 → k < 900 := fun a b => Nat.lt_of_le_of_lt (hx.2.1 a).2.2.2.2 (tk_lt hq9 b)
        have hq9 : q_15 ≤ 900 := by omega
        have hD9 : ∀ j, dT T j < 256 := fun j => byN_lt _
        have he4 := emX ha_25
        have hx0 : x0.toInt = (q_15 : Int) := by rw [e_15]; exact nI_toInt (by omega)
        have i_q : idx x0 = q_15 := by unfold idx; rw [hx0]; exact Int.toNat_natCast q_15
        have hfs : fr (fun k j => k = 132 ∧ j = 24) M_25 (siM M_25 132 24 (nI 0)) := fr.r.si (by omega)
        have hf25 : fr (fun k j => k = 137 ∧ 1448 ≤ j ∧ j < 1810) M_15 M_25 := hf_25.f.mo (fun k j h => by omega)
        have hfw : fr woP (m0 M) (siM M_25 132 24 (nI 0)) := ((hf_15.mo (fun k j h => by unfold stP at h; unfold woP; omega)).t (hf25.mo (fun k j h => by unfold woP; omega))).t (hfs.mo (fun k j h => by unfold woP; omega))
        have hw0 : WI (m0 M) (siM M_25 132 24 (nI 0)) (dT T) q_15 (woR T q_15) 0 w0 := WI_0 (MU_fr hU_15 ((hf25.mo (fun k j h => Or.inl h)).t (hfs.mo (fun k j h => Or.inr h)) : fr (fun k j => (k = 137 ∧ 1448 ≤ j ∧ j < 1810) ∨ (k = 132 ∧ j = 24)) M_15 _) (fun k j h => by omega)) (VM_fr4 he4.1 hfs (fun j => by omega)) ⟨siN he4.2.1 (by omega), siN he4.2.2.1 (by omega), fun i hi => absurd (show i < 0 from hi) (Nat.not_lt_zero i)⟩ siS hfw
        have h825 : (siM M_25 132 24 (nI 0)).1 132 8 = nI 0 := siN (hf25.i h8_15 (by omega)) (by omega)
        refine a_aload_n rfl dX12_wood_33 ?_
        refine g_i hx.1.2.2.1 (by decide) rfl fX12_212 rfl dX12_wood_34 ?_
        refine n_if_ne 64 (by omega) dX12_wood_37 (by decide) (fun h_37 => ?_) (fun h_37 => ?_)
        · have hR : x = woR T q_15 := WI_end hx hq9 (fun z => h_37 z.1)
          refine a_aload_n rfl dX12_wood_64 ?_
          refine n_callV (mi' := miX12_isWell) dX12_wood_65 lX12_310 mX12_isWell (by decide) rfl rfl rfl (c_X12_isWell hD9 hq9 hx.1 (fun h_65 => ?_) (fun h_65 => ?_) d) rfl rfl (by omega) (by decide) (Nat.le_of_ble_eq_true rfl)
          · show AW _ _ _ _ _ _ _
            refine n_if_ne 73 (by decide) dX12_wood_68 (by decide) (fun _ => ?_) (fun h => absurd h (by decide))
            refine a_aload_n rfl dX12_wood_73 ?_
            refine n_iconst 4 rfl dX12_wood_74 ?_
            refine n_iconst 0 rfl dX12_wood_75 ?_
            refine n_callV (mi' := miX12_copy) dX12_wood_76 lX12_313 mX12_copy (by decide) rfl rfl rfl (c_X12_copy (f := 4) (t := 0) (by omega) (by omega) (by omega) (fun M_76 ha_76 hb_76 hf_76 => ?_) d) rfl rfl (by omega) (by decide) (Nat.le_of_ble_eq_true rfl)
            show AW _ _ _ _ _ _ _
            have hb2 := hx.2.1 h_65
            have hz : fr (fun k j => k = 132 ∧ (j = 10 ∨ j = 11)) M1 (siM (siM M1 132 10 (nI x.1.2.1)) 132 11 (-1)) := (fr.r.si (by omega)).si (by omega)
            have hW_76 : WM 0 M_76 (x.2.1, x.2.2.1, Y0) := WM_cp (f := 4) (t := 0) (M := siM (siM M1 132 10 (nI x.1.2.1)) 132 11 (-1)) (WM_fr (b := 4) (M := M1) ⟨hb2.1, hb2.2.1, hx.2.2.2.2.1⟩ ⟨hb2.2.2.1, WFY_0 hb2.2.2.2.1⟩ hz (fun j a b => by omega) (fun j a b => by omega)) ⟨hb2.2.2.1, WFY_0 hb2.2.2.2.1⟩ ha_76 hb_76
            have hV_76 : VM 0 M_76 x.2.1 := hW_76.1
            refine a_aload_n rfl dX12_wood_79 ?_
            refine a_geta dX12_wood_80 fX12_35 (by decide) rfl rfl ?_
            refine n_iconst 2 rfl dX12_wood_83 ?_
            refine v_iald (by omega) (VM_s2 hV_76) (by decide) rfl (by decide) dX12_wood_84 ?_
            refine a_iret dX12_wood_85 rfl ?_
            have h01 : M1.1 132 0 = nI 0 := hx.2.2.2.2.2.1.i m0_s (by unfold woP; omega)
            have hg2 : fr mtP M M1 := (m0_fr2.mo (fun k j h => by unfold mtP woP; omega)).t (hx.2.2.2.2.2.1.mo (fun _ _ h => (Or.inl h)))
            have hg1 : fr mwP M M1 := hg2.mo (fun _ _ h => mt_mw h)
            have e : sp_wood x0 T = (nI (x.2.1 0 4), tfT T (x.2.1, x.2.2.1, Y0) (nI 0) (-1) 0) := by unfold sp_wood; rw [if_pos (by omega), i_q, ← hR, if_pos h_65]
            rw [e] at hQ
            have hf2 : fr mwP M M_76 := ((hg1.si (by unfold mwP mtP; omega)).si (by unfold mwP mtP; omega)).t (hf_76.mo (fun k j h => by unfold mwP; omega))
            have hy := IM_tx (n := 0) hI hG hW_76 (hf_76.i (siN (siN h8x (by omega)) (by omega)) (by omega)) (hf_76.i (siN (siN h01 (by omega)) (by omega)) (by omega)) ⟨hf_76.i (siN siS (by omega)) (by omega) |>.trans (congrArg nI h_65), hf_76.i siS (by omega)⟩ hf2
            exact hQ _ hy.1 hy.2
          · show AW _ _ _ _ _ _ _
            refine n_if_ne 73 (by decide) dX12_wood_68 (by decide) (fun h => absurd h (by decide)) (fun _ => ?_)
            refine a_iconst (-1) rfl dX12_wood_71 ?_
            refine a_iret dX12_wood_72 rfl ?_
            have h01 : M1.1 132 0 = nI 0 := hx.2.2.2.2.2.1.i m0_s (by unfold woP; omega)
            have hg2 : fr mtP M M1 := (m0_fr2.mo (fun k j h => by unfold mtP woP; omega)).t (hx.2.2.2.2.2.1.mo (fun _ _ h => (Or.inl h)))
            have hg1 : fr mwP M M1 := hg2.mo (fun _ _ h => mt_mw h)
            have e : sp_wood x0 T = (-1, tfT T (tW T) (nI x.1.2.1) (nI x.1.2.2) 10) := by unfold sp_wood; rw [if_pos (by omega), i_q, ← hR, if_neg h_65]
            rw [e] at hQ
            have hf2t : fr mtP M (siM (siM (siM M1 132 10 (nI x.1.2.1)) 132 11 (nI x.1.2.2)) 132 0 (nI 10)) := ((hg2.si (by unfold mtP; omega)).si (by unfold mtP; omega)).si (by unfold mtP; omega)
            have hy := IM_tx (n := 10) hI hG (WM_fr hI.1 hG.1 hf2t (fun j a b => by unfold mtP woP; omega) (fun j a b => by unfold mtP woP; omega)) (siN (siN (siN h8x (by omega)) (by omega)) (by omega)) siS ⟨siN (siN siS (by omega)) (by omega), siN siS (by omega)⟩ (hf2t.mo (fun _ _ h => mt_mw h))
            exact hQ _ hy.1 hy.2
        · refine a_aload_n rfl dX12_wood_40 ?_
          refine g_i (show M1.1 132 14 = nI (mkd (kd (tkN (dT T) q_15) x.1)) from hx.1.2.1.1) (by decide) rfl fX12_124 rfl dX12_wood_41 ?_
          refine n_if_eq 64 (by omega) dX12_wood_44 (by decide) (fun h_44 => ?_) (fun h_44 => ?_)
          · have hR : x = woR T q_15 := WI_end hx hq9 (fun z => z.2 (mk0.mp h_44))
            refine a_aload_n rfl dX12_wood_64 ?_
            refine n_callV (mi' := miX12_isWell) dX12_wood_65 lX12_310 mX12_isWell (by decide) rfl rfl rfl (c_X12_isWell hD9 hq9 hx.1 (fun h_65 => ?_) (fun h_65 => ?_) d) rfl rfl (by omega) (by decide) (Nat.le_of_ble_eq_true rfl)
            · show AW _ _ _ _ _ _ _
              refine n_if_ne 73 (by decide) dX12_wood_68 (by decide) (fun _ => ?_) (fun h => absurd h (by decide))
              refine a_aload_n rfl dX12_wood_73 ?_
              refine n_iconst 4 rfl dX12_wood_74 ?_
              refine n_iconst 0 rfl dX12_wood_75 ?_
              refine n_callV (mi' := miX12_copy) dX12_wood_76 lX12_313 mX12_copy (by decide) rfl rfl rfl (c_X12_copy (f := 4) (t := 0) (by omega) (by omega) (by omega) (fun M_76 ha_76 hb_76 hf_76 => ?_) d) rfl rfl (by omega) (by decide) (Nat.le_of_ble_eq_true rfl)
              show AW _ _ _ _ _ _ _
              have hb2 := hx.2.1 h_65
              have hz : fr (fun k j => k = 132 ∧ (j = 10 ∨ j = 11)) M1 (siM (siM M1 132 10 (nI x.1.2.1)) 132 11 (-1)) := (fr.r.si (by omega)).si (by omega)
              have hW_76 : WM 0 M_76 (x.2.1, x.2.2.1, Y0) := WM_cp (f := 4) (t := 0) (M := siM (siM M1 132 10 (nI x.1.2.1)) 132 11 (-1)) (WM_fr (b := 4) (M := M1) ⟨hb2.1, hb2.2.1, hx.2.2.2.2.1⟩ ⟨hb2.2.2.1, WFY_0 hb2.2.2.2.1⟩ hz (fun j a b => by omega) (fun j a b => by omega)) ⟨hb2.2.2.1, WFY_0 hb2.2.2.2.1⟩ ha_76 hb_76
              have hV_76 : VM 0 M_76 x.2.1 := hW_76.1
              refine a_aload_n rfl dX12_wood_79 ?_
              refine a_geta dX12_wood_80 fX12_35 (by decide) rfl rfl ?_
              refine n_iconst 2 rfl dX12_wood_83 ?_
              refine v_iald (by omega) (VM_s2 hV_76) (by decide) rfl (by decide) dX12_wood_84 ?_
              refine a_iret dX12_wood_85 rfl ?_
              have h01 : M1.1 132 0 = nI 0 := hx.2.2.2.2.2.1.i m0_s (by unfold woP; omega)
              have hg2 : fr mtP M M1 := (m0_fr2.mo (fun k j h => by unfold mtP woP; omega)).t (hx.2.2.2.2.2.1.mo (fun _ _ h => (Or.inl h)))
              have hg1 : fr mwP M M1 := hg2.mo (fun _ _ h => mt_mw h)
              have e : sp_wood x0 T = (nI (x.2.1 0 4), tfT T (x.2.1, x.2.2.1, Y0) (nI 0) (-1) 0) := by unfold sp_wood; rw [if_pos (by omega), i_q, ← hR, if_pos h_65]
              rw [e] at hQ
              have hf2 : fr mwP M M_76 := ((hg1.si (by unfold mwP mtP; omega)).si (by unfold mwP mtP; omega)).t (hf_76.mo (fun k j h => by unfold mwP; omega))
              have hy := IM_tx (n := 0) hI hG hW_76 (hf_76.i (siN (siN h8x (by omega)) (by omega)) (by omega)) (hf_76.i (siN (siN h01 (by omega)) (by omega)) (by omega)) ⟨hf_76.i (siN siS (by omega)) (by omega) |>.trans (congrArg nI h_65), hf_76.i siS (by omega)⟩ hf2
              exact hQ _ hy.1 hy.2
            · show AW _ _ _ _ _ _ _
              refine n_if_ne 73 (by decide) dX12_wood_68 (by decide) (fun h => absurd h (by decide)) (fun _ => ?_)
              refine a_iconst (-1) rfl dX12_wood_71 ?_
              refine a_iret dX12_wood_72 rfl ?_
              have h01 : M1.1 132 0 = nI 0 := hx.2.2.2.2.2.1.i m0_s (by unfold woP; omega)
              have hg2 : fr mtP M M1 := (m0_fr2.mo (fun k j h => by unfold mtP woP; omega)).t (hx.2.2.2.2.2.1.mo (fun _ _ h => (Or.inl h)))
              have hg1 : fr mwP M M1 := hg2.mo (fun _ _ h => mt_mw h)
              have e : sp_wood x0 T = (-1, tfT T (tW T) (nI x.1.2.1) (nI x.1.2.2) 10) := by unfold sp_wood; rw [if_pos (by omega), i_q, ← hR, if_neg h_65]
              rw [e] at hQ
              have hf2t : fr mtP M (siM (siM (siM M1 132 10 (nI x.1.2.1)) 132 11 (nI x.1.2.2)) 132 0 (nI 10)) := ((hg2.si (by unfold mtP; omega)).si (by unfold mtP; omega)).si (by unfold mtP; omega)
              have hy := IM_tx (n := 10) hI hG (WM_fr hI.1 hG.1 hf2t (fun j a b => by unfold mtP woP; omega) (fun j a b => by unfold mtP woP; omega)) (siN (siN (siN h8x (by omega)) (by omega)) (by omega)) siS ⟨siN (siN siS (by omega)) (by omega), siN siS (by omega)⟩ (hf2t.mo (fun _ _ h => mt_mw h))
              exact hQ _ hy.1 hy.2
          · refine a_aload_n rfl dX12_wood_47 ?_
            refine n_callV (mi' := miX12_readPart) dX12_wood_48 lX12_304 mX12_readPart (by decide) rfl rfl rfl (c_X12_readPart (S := x.2.1) (N := x.2.2.1) hD9 hq9 hx.1 (hx.2.1 h_37).1 (hx.2.1 h_37).2.2.1 (hx.2.1 h_37).2.1 h_37 hx.2.2.1 hx.2.2.2.1 (fun M_48 hc_48 hv_48 ht_48 hf_48 => ?_) d) rfl rfl (by omega) (by decide) (Nat.le_of_ble_eq_true rfl)
            show AW _ _ _ _ _ _ _
            refine a_aload_n rfl dX12_wood_51 ?_
            refine a_aload_n rfl dX12_wood_52 ?_
            refine n_bipush 59 rfl dX12_wood_53 ?_
            refine n_callV (mi' := miX12_isSign) dX12_wood_55 lX12_307 mX12_isSign (by decide) rfl rfl rfl (c_X12_isSign hD9 hq9 hc_48 (by omega) (fun h_55 => ?_) (fun h_55 => ?_) d) rfl rfl (by omega) (by decide) (Nat.le_of_ble_eq_true rfl)
            · show AW _ _ _ _ _ _ _
              refine n_callV (mi' := miX12_must) dX12_wood_58 lX12_228 mX12_must (by decide) rfl rfl rfl (c_X12_must (b := decide (kd (tkN (dT T) q_15) (ptA (tkN (dT T) q_15) x.2.2.2 x.2.1 x.2.2.1 x.1).1 = 5 ∧ cd (tkN (dT T) q_15) (ptA (tkN (dT T) q_15) x.2.2.2 x.2.1 x.2.2.1 x.1).1 = 59)) hD9 hq9 hc_48 (if_pos (decide_eq_true h_55)).symm (fun M_58 hc_58 hf_58 => ?_) d) rfl rfl (by omega) (by decide) (Nat.le_of_ble_eq_true rfl)
              show AW _ _ _ _ _ _ _
              rw [← end_b] at hc_58
              refine a_goto 33 dX12_wood_61 (by decide) ?_
              have hq9 : q_15 ≤ 900 := by omega
              have hD9 : ∀ j, dT T j < 256 := fun j => byN_lt _
              have he4 := emX ha_25
              have hx0 : x0.toInt = (q_15 : Int) := by rw [e_15]; exact nI_toInt (by omega)
              have i_q : idx x0 = q_15 := by unfold idx; rw [hx0]; exact Int.toNat_natCast q_15
              have hfs : fr (fun k j => k = 132 ∧ j = 24) M_25 (siM M_25 132 24 (nI 0)) := fr.r.si (by omega)
              have hf25 : fr (fun k j => k = 137 ∧ 1448 ≤ j ∧ j < 1810) M_15 M_25 := hf_25.f.mo (fun k j h => by omega)
              have hfw : fr woP (m0 M) (siM M_25 132 24 (nI 0)) := ((hf_15.mo (fun k j h => by unfold stP at h; unfold woP; omega)).t (hf25.mo (fun k j h => by unfold woP; omega))).t (hfs.mo (fun k j h => by unfold woP; omega))
              have hw0 : WI (m0 M) (siM M_25 132 24 (nI 0)) (dT T) q_15 (woR T q_15) 0 w0 := WI_0 (MU_fr hU_15 ((hf25.mo (fun k j h => Or.inl h)).t (hfs.mo (fun k j h => Or.inr h)) : fr (fun k j => (k = 137 ∧ 1448 ≤ j ∧ j < 1810) ∨ (k = 132 ∧ j = 24)) M_15 _) (fun k j h => by omega)) (VM_fr4 he4.1 hfs (fun j => by omega)) ⟨siN he4.2.1 (by omega), siN he4.2.2.1 (by omega), fun i hi => absurd (show i < 0 from hi) (Nat.not_lt_zero i)⟩ siS hfw
              have h825 : (siM M_25 132 24 (nI 0)).1 132 8 = nI 0 := siN (hf25.i h8_15 (by omega)) (by omega)
              have hw := WI_step hq9 hx h_37 (fun q => h_44 (mk0.mpr q)) hv_48 ht_48 hf_48 hc_58 hf_58
              exact a_bk (ih_33 (k + 1) _ _ (by have := hw.2; omega) ⟨hw.1, hf_58.i (hf_48.i h8x (by unfold m4P muP; omega)) (by unfold muP; omega)⟩) ⟨rfl, rfl, trivial⟩
            · show AW _ _ _ _ _ _ _
              refine n_callV (mi' := miX12_must) dX12_wood_58 lX12_228 mX12_must (by decide) rfl rfl rfl (c_X12_must (b := decide (kd (tkN (dT T) q_15) (ptA (tkN (dT T) q_15) x.2.2.2 x.2.1 x.2.2.1 x.1).1 = 5 ∧ cd (tkN (dT T) q_15) (ptA (tkN (dT T) q_15) x.2.2.2 x.2.1 x.2.2.1 x.1).1 = 59)) hD9 hq9 hc_48 (if_neg (fun q => h_55 (of_decide_eq_true q))).symm (fun M_58 hc_58 hf_58 => ?_) d) rfl rfl (by omega) (by decide) (Nat.le_of_ble_eq_true rfl)
              show AW _ _ _ _ _ _ _
              rw [← end_b] at hc_58
              refine a_goto 33 dX12_wood_61 (by decide) ?_
              have hq9 : q_15 ≤ 900 := by omega
              have hD9 : ∀ j, dT T j < 256 := fun j => byN_lt _
              have he4 := emX ha_25
              have hx0 : x0.toInt = (q_15 : Int) := by rw [e_15]; exact nI_toInt (by omega)
              have i_q : idx x0 = q_15 := by unfold idx; rw [hx0]; exact Int.toNat_natCast q_15
              have hfs : fr (fun k j => k = 132 ∧ j = 24) M_25 (siM M_25 132 24 (nI 0)) := fr.r.si (by omega)
              have hf25 : fr (fun k j => k = 137 ∧ 1448 ≤ j ∧ j < 1810) M_15 M_25 := hf_25.f.mo (fun k j h => by omega)
              have hfw : fr woP (m0 M) (siM M_25 132 24 (nI 0)) := ((hf_15.mo (fun k j h => by unfold stP at h; unfold woP; omega)).t (hf25.mo (fun k j h => by unfold woP; omega))).t (hfs.mo (fun k j h => by unfold woP; omega))
              have hw0 : WI (m0 M) (siM M_25 132 24 (nI 0)) (dT T) q_15 (woR T q_15) 0 w0 := WI_0 (MU_fr hU_15 ((hf25.mo (fun k j h => Or.inl h)).t (hfs.mo (fun k j h => Or.inr h)) : fr (fun k j => (k = 137 ∧ 1448 ≤ j ∧ j < 1810) ∨ (k = 132 ∧ j = 24)) M_15 _) (fun k j h => by omega)) (VM_fr4 he4.1 hfs (fun j => by omega)) ⟨siN he4.2.1 (by omega), siN he4.2.2.1 (by omega), fun i hi => absurd (show i < 0 from hi) (Nat.not_lt_zero i)⟩ siS hfw
              have h825 : (siM M_25 132 24 (nI 0)).1 132 8 = nI 0 := siN (hf25.i h8_15 (by omega)) (by omega)
              have hw := WI_step hq9 hx h_37 (fun q => h_44 (mk0.mpr q)) hv_48 ht_48 hf_48 hc_58 hf_58
              exact a_bk (ih_33 (k + 1) _ _ (by have := hw.2; omega) ⟨hw.1, hf_58.i (hf_48.i h8x (by unfold m4P muP; omega)) (by unfold muP; omega)⟩) ⟨rfl, rfl, trivial⟩
    exact a_bk (loop_33 900 0 w0 _ (by omega) ⟨hw0, h825⟩) ⟨rfl, rfl, trivial⟩
  · show AW _ _ _ _ _ _ _
    refine n_if_ne 23 (by decide) dX12_wood_18 (by decide) (fun h => absurd h (by decide)) (fun _ => ?_)
    refine a_iconst (-1) rfl dX12_wood_21 ?_
    refine a_iret dX12_wood_22 rfl ?_
    have h_15b : ¬ (0 ≤ x0.toInt ∧ x0.toInt ≤ (tP T).1) := by omega
    have e : sp_wood x0 T = (-1, st' T 5) := by unfold sp_wood; rw [if_neg h_15b]
    rw [e] at hQ
    have hy := IM_s5 (M' := siM (m0 M) 132 0 (nI 5)) hI hG siS (m0_fr2.si (by omega))
    exact hQ _ hy.1 hy.2

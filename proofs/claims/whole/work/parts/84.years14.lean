def livV (S : ST) (F : FN) (j : Nat) : Nat := if j = 0 then F.1.2.2.1 else if j = 1 then F.1.1 0 1 - S 0 1 else if j = 2 then F.1.2.2.2.1 else if j = 3 then F.1.2.2.2.2 else F.2.2.2
def lvT (T : TT) (F : FN) : TT := st' (sL (sS T F.1.1) (1, livV (tS T) F)) 0
def sp_live (x : Int32) (T : TT) : AN := if inN x 10000 then (if (tY T).1 = 1 then (nI (runF (tY T) (tS T) (idx x)).2.1, lvT T (runF (tY T) (tS T) (idx x))) else (-1, st' T 8)) else (-1, st' T 5)
def sp_mean (a b : Int32) (T : TT) : AN := if (1 ≤ b.toInt ∧ b.toInt ≤ 20) ∧ 0 ≤ a.toInt ∧ a.toInt + b.toInt ≤ 10000 then (if (tY T).1 = 1 then (nI 1, frT T (sumN (fun i => hallN (runF (tY T) (tS T) (idx a + i)).1.1) (idx b)) (idx b)) else (nI 0, st' T 8)) else (nI 0, st' T 5)
theorem runF_GF {S : ST} {Y : YR} (hWY : WFY S Y) (hF : WF S) {sd : Nat} (hsd : sd < 65536) : GF S (runF Y S sd) := (GF_a (WFY_blk hWY) (WFY_ok hWY) (Y.2.1 + 1) 0 Y.2.1 _ (Nat.le_refl _) (GF_0 hWY hF hsd)).1
theorem live_X {M M1 : Mm} {T : TT} {F : FN} (hI : IX M T) (hG : TG T) (hc : CE 17 (tS T 0 1) M M1 F) (hF : GF (tS T) F) : IX (siM (siM (siM (siM (siM (siM (siM M1 120 0 (nI F.1.2.2.1)) 120 1 (nI (F.1.1 0 1 - tS T 0 1))) 120 2 (nI F.1.2.2.2.1)) 120 3 (nI F.1.2.2.2.2)) 120 4 (nI F.2.2.2)) 0 15 (nI 1)) 0 0 (nI 0)) (lvT T F) ∧ keM M (siM (siM (siM (siM (siM (siM (siM M1 120 0 (nI F.1.2.2.1)) 120 1 (nI (F.1.1 0 1 - tS T 0 1))) 120 2 (nI F.1.2.2.2.1)) 120 3 (nI F.1.2.2.2.2)) 120 4 (nI F.2.2.2)) 0 15 (nI 1)) 0 0 (nI 0)) := by
  have hs : fr (fun k j => k = 120 ∨ (k = 0 ∧ (j = 0 ∨ j = 15))) M1 (siM (siM (siM (siM (siM (siM (siM M1 120 0 (nI F.1.2.2.1)) 120 1 (nI (F.1.1 0 1 - tS T 0 1))) 120 2 (nI F.1.2.2.2.1)) 120 3 (nI F.1.2.2.2.2)) 120 4 (nI F.2.2.2)) 0 15 (nI 1)) 0 0 (nI 0)) := ((((((fr.r.si (by omega)).si (by omega)).si (by omega)).si (by omega)).si (by omega)).si (by omega)).si (by omega)
  have v0 : ∀ {x : Int32}, (siM (siM (siM (siM (siM (siM (siM M1 120 0 (nI F.1.2.2.1)) 120 1 (nI (F.1.1 0 1 - tS T 0 1))) 120 2 (nI F.1.2.2.2.1)) 120 3 (nI F.1.2.2.2.2)) 120 4 (nI F.2.2.2)) 0 15 (nI 1)) 0 0 (nI 0)).1 0 15 = nI 1 := siN siS (by omega)
  have vj : ∀ j, j < 5 → (siM (siM (siM (siM (siM (siM (siM M1 120 0 (nI F.1.2.2.1)) 120 1 (nI (F.1.1 0 1 - tS T 0 1))) 120 2 (nI F.1.2.2.2.1)) 120 3 (nI F.1.2.2.2.2)) 120 4 (nI F.2.2.2)) 0 15 (nI 1)) 0 0 (nI 0)).1 120 j = nI (livV (tS T) F j) := by
    intro j hj
    rcases (show j = 0 ∨ j = 1 ∨ j = 2 ∨ j = 3 ∨ j = 4 by omega) with e | e | e | e | e <;> subst e
    · exact siN (siN (siN (siN (siN (siN siS (by omega)) (by omega)) (by omega)) (by omega)) (by omega)) (by omega)
    · exact siN (siN (siN (siN (siN siS (by omega)) (by omega)) (by omega)) (by omega)) (by omega)
    · exact siN (siN (siN (siN siS (by omega)) (by omega)) (by omega)) (by omega)
    · exact siN (siN (siN siS (by omega)) (by omega)) (by omega)
    · exact siN (siN siS (by omega)) (by omega)
  have hz : (siM (siM (siM (siM (siM (siM (siM M1 120 0 (nI F.1.2.2.1)) 120 1 (nI (F.1.1 0 1 - tS T 0 1))) 120 2 (nI F.1.2.2.2.1)) 120 3 (nI F.1.2.2.2.2)) 120 4 (nI F.2.2.2)) 0 15 (nI 1)) 0 0 (nI 0)).1 0 0 = nI 0 := siS
  generalize (siM (siM (siM (siM (siM (siM (siM M1 120 0 (nI F.1.2.2.1)) 120 1 (nI (F.1.1 0 1 - tS T 0 1))) 120 2 (nI F.1.2.2.2.1)) 120 3 (nI F.1.2.2.2.2)) 120 4 (nI F.2.2.2)) 0 15 (nI 1)) 0 0 (nI 0)) = M2 at hs v0 vj hz ⊢
  have z2 : F.1.1 0 2 = tS T 0 2 := hF.1.2.2.2.2.1
  have z4 : F.1.1 0 4 = tS T 0 4 := hF.1.2.2.2.2.2.1
  have hf : fr (fun k j => hyP 17 k j ∨ k = 120 ∨ (k = 0 ∧ (j = 0 ∨ j = 15))) M M2 := (hc.2.2.2.mo (fun k j h => Or.inl h)).t (hs.mo (fun k j h => Or.inr h))
  obtain ⟨h1, h2, h3, h4, h5, h6, h7, h8⟩ := hI
  refine ⟨⟨⟨VX_fr hc.1.1 (fun k j a b => (hs k j (by omega)).1), ⟨fun j hj => hf.l (h1.2.1.1 j (Nat.lt_of_lt_of_eq (show j < F.1.1 0 2 from hj) z2)) (by unfold hyP fyP; omega), fun j hj => hf.l (h1.2.1.2 j (Nat.lt_of_lt_of_eq (show j < F.1.1 0 4 from hj) z4)) (by unfold hyP fyP; omega)⟩, YX_eq h1.2.2 (fun k a b => funext fun j => (hf k j (by unfold hyP fyP; omega)).1)⟩, RX_fr h2 hf (fun k j a b => by unfold hyP fyP; omega), ⟨hf.i h3.1 (by unfold hyP fyP; omega), fun j hj => hf.i (h3.2 j hj) (by unfold hyP fyP; omega)⟩, ⟨hz, hf.l h4.2.1 (by unfold hyP fyP; omega), hf.l h4.2.2 (by unfold hyP fyP; omega)⟩, ⟨hf.i h5.1 (by unfold hyP fyP; omega), hf.i h5.2 (by unfold hyP fyP; omega)⟩, ⟨v0 (x := 0), fun _ j hj => vj j hj⟩, hf.i h7 (by unfold hyP fyP; omega), fun i hi => WX_fr (h8 i hi) hf (fun k j a b => ?_)⟩, keM_fr hf (fun k j h => by unfold hyP fyP at h; omega)⟩
  have h3 := hG.2.2.2.2.2.1
  have hi : i < (tK T).1 := hi
  have hk : k < 58 + 20 * i + 20 := b
  unfold hyP fyP
  omega

set_option maxRecDepth 100000 in
set_option maxHeartbeats 800000 in
theorem c_X11_live {M : Mm} {T : TT} (hI : IX M T) (hG : TG T) {x : Int32} {Q : Option Value → Mm → Prop} (hQ : ∀ M', IX M' (sp_live x T).2 → keM M M' → Q (some (.int (sp_live x T).1)) M') (d : Nat) : AMt miX11_live (d + 8) [.ref 0, .int x] M Q := by
  refine AMt.of (by decide) (Nat.le_of_ble_eq_true rfl) ?_
  show AW miX11_live (d + 8) (mxA Q) 0 [(0, some (.ref 0)), (1, some (.int x))] [] M
  have hV : VX 17 M (tS T) := hI.1.1
  have hF : WF (tS T) := hG.1.1
  have hm : tS T 0 2 ≤ 6 := WF_m hF
  have hh : tS T 0 3 ≤ 10 := WF_h hF
  have hs : tS T 0 4 ≤ 7 := WF_s hF
  have hn : tS T 0 5 ≤ 8 := WF_n hF
  have hl1 : (tY T).1 ≤ 1 := hG.1.2.1
  refine a_iload_n rfl dX11_live_0 ?_
  refine r_if_lt 11 dX11_live_1 (by decide) (fun h_1 => ?_) (fun h_1 => ?_)
  · refine a_aload_n rfl dX11_live_11 ?_
    refine n_iconst 5 rfl dX11_live_12 ?_
    refine n_callV (mi' := miX11_none) dX11_live_13 lX11_131 mX11_none (by decide) rfl rfl rfl (c_X11_none ?_ d) rfl rfl (by omega) (by decide) (Nat.le_of_ble_eq_true rfl)
    show AW _ _ _ _ _ _ _
    refine a_iret dX11_live_16 rfl ?_
    exact fin_q hQ hI hG (by unfold sp_live; rw [if_neg (by omega)]) fr.r
  · refine a_iload_n rfl dX11_live_4 ?_
    refine n_sipush 9999 rfl dX11_live_5 ?_
    refine r_icmp_le 17 (by omega) dX11_live_8 (by decide) (fun h_8 => ?_) (fun h_8 => ?_)
    · obtain ⟨q, hq, rfl⟩ := inR_of (x := x) (m := 10000) (by omega) (by omega) (by omega)
      have t_q : (nI q).toInt = (q : Int) := nI_toInt (by omega)
      have i_q : idx (nI q) = q := idx_nI (by omega)
      refine a_aload_n rfl dX11_live_17 ?_
      refine a_geta dX11_live_18 fX11_58 (by decide) rfl rfl ?_
      refine a_geta dX11_live_21 fX11_180 (by decide) rfl rfl ?_
      refine g_i (show M.1 30 0 = nI (tY T).1 from hI.1.2.2.1) (by decide) rfl fX11_408 rfl dX11_live_24 ?_
      refine n_if_ne 37 (by omega) dX11_live_27 (by decide) (fun h_27 => ?_) (fun h_27 => ?_)
      · refine a_aload_n rfl dX11_live_37 ?_
        refine a_geta dX11_live_38 fX11_75 (by decide) rfl rfl ?_
        refine a_aload_n rfl dX11_live_41 ?_
        refine a_geta dX11_live_42 fX11_58 (by decide) rfl rfl ?_
        refine a_iload_n rfl dX11_live_45 ?_
        have hGF : GF (tS T) (runF (tY T) (tS T) q) := runF_GF hG.1.2 hF (sd := q) (by omega)
        refine n_callV (mi' := miX2_runThrough) dX11_live_46 lX11_411 mX2_runThrough (by decide) rfl rfl rfl (c_X2_runThrough isW17 hV hI.1.2.2 hG.1.2 hF (show q < 65536 by omega) (fun M_46 hc_46 => ?_) d) rfl rfl (by omega) (by decide) (Nat.le_of_ble_eq_true rfl)
        show AW _ _ _ _ _ _ _
        refine a_aload_n rfl dX11_live_49 ?_
        refine a_geta dX11_live_50 fX11_75 (by decide) rfl rfl ?_
        refine a_aload_n rfl dX11_live_53 ?_
        refine a_geta dX11_live_54 fX11_79 (by decide) rfl rfl ?_
        refine n_callV (mi' := miX2_copyCounts) dX11_live_57 lX11_414 mX2_copyCounts (by decide) rfl rfl rfl (c_X2_copyCounts hc_46.1.2.2.1 hc_46.1.2.2.2.1 hc_46.1.2.2.2.2.1 hc_46.1.2.2.2.2.2 hc_46.2.2.1 hGF.2.2.2.2.1 ?_ d) rfl rfl (by omega) (by decide) (Nat.le_of_ble_eq_true rfl)
        show AW _ _ _ _ _ _ _
        refine a_aload_n rfl dX11_live_60 ?_
        refine n_iconst 1 rfl dX11_live_61 ?_
        refine a_putz dX11_live_62 pX11_83 (by decide) rfl rfl (Or.inr rfl) ?_
        refine a_aload_n rfl dX11_live_65 ?_
        refine a_aload_n rfl dX11_live_66 ?_
        refine a_geta dX11_live_67 fX11_75 (by decide) rfl rfl ?_
        refine g_i (siN (siN (siN (siN (siN (siN hc_46.2.1 (by omega)) (by omega)) (by omega)) (by omega)) (by omega)) (by omega)) (by decide) rfl fX11_418 rfl dX11_live_70 ?_
        refine n_callV (mi' := miX11_answer) dX11_live_73 lX11_177 mX11_answer (by decide) rfl rfl rfl (c_X11_answer ?_ d) rfl rfl (by omega) (by decide) (Nat.le_of_ble_eq_true rfl)
        show AW _ _ _ _ _ _ _
        refine a_iret dX11_live_76 rfl ?_
        have e : sp_live (nI q) T = (nI (runF (tY T) (tS T) q).2.1, lvT T (runF (tY T) (tS T) q)) := by unfold sp_live; rw [if_pos (by omega), if_pos (by omega), i_q]
        rw [e] at hQ
        have hl := live_X hI hG hc_46 hGF
        exact hQ _ hl.1 hl.2
      · refine a_aload_n rfl dX11_live_30 ?_
        refine n_bipush 8 rfl dX11_live_31 ?_
        refine n_callV (mi' := miX11_none) dX11_live_33 lX11_131 mX11_none (by decide) rfl rfl rfl (c_X11_none ?_ d) rfl rfl (by omega) (by decide) (Nat.le_of_ble_eq_true rfl)
        show AW _ _ _ _ _ _ _
        refine a_iret dX11_live_36 rfl ?_
        exact fin_q hQ hI hG (by unfold sp_live; rw [if_pos (by omega), if_neg (by omega)]) fr.r
    · refine a_aload_n rfl dX11_live_11 ?_
      refine n_iconst 5 rfl dX11_live_12 ?_
      refine n_callV (mi' := miX11_none) dX11_live_13 lX11_131 mX11_none (by decide) rfl rfl rfl (c_X11_none ?_ d) rfl rfl (by omega) (by decide) (Nat.le_of_ble_eq_true rfl)
      show AW _ _ _ _ _ _ _
      refine a_iret dX11_live_16 rfl ?_
      exact fin_q hQ hI hG (by unfold sp_live; rw [if_neg (by omega)]) fr.r

set_option maxRecDepth 100000 in
set_option maxHeartbeats 800000 in
theorem c_X11_mean {M : Mm} {T : TT} (hI : IX M T) (hG : TG T) {a b : Int32} {Q : Option Value → Mm → Prop} (hQ : ∀ M', IX M' (sp_mean a b T).2 → keM M M' → Q (some (.int (sp_mean a b T).1)) M') (d : Nat) : AMt miX11_mean (d + 9) [.ref 0, .int a, .int b] M Q := by
  refine AMt.of (by decide) (Nat.le_of_ble_eq_true rfl) ?_
  show AW miX11_mean (d + 9) (mxA Q) 0 [(0, some (.ref 0)), (1, some (.int a)), (2, some (.int b))] [] M
  have hV : VX 17 M (tS T) := hI.1.1
  have hF : WF (tS T) := hG.1.1
  have hm : tS T 0 2 ≤ 6 := WF_m hF
  have hh : tS T 0 3 ≤ 10 := WF_h hF
  have hs : tS T 0 4 ≤ 7 := WF_s hF
  have hn : tS T 0 5 ≤ 8 := WF_n hF
  have hl1 : (tY T).1 ≤ 1 := hG.1.2.1
  refine a_iload_n rfl dX11_mean_0 ?_
  refine r_if_lt 33 dX11_mean_1 (by decide) (fun h_1 => ?_) (fun h_1 => ?_)
  · refine a_aload_n rfl dX11_mean_33 ?_
    refine n_iconst 5 rfl dX11_mean_34 ?_
    refine n_callV (mi' := miX11_refuse) dX11_mean_35 lX11_112 mX11_refuse (by decide) rfl rfl rfl (c_X11_refuse ?_ d) rfl rfl (by omega) (by decide) (Nat.le_of_ble_eq_true rfl)
    show AW _ _ _ _ _ _ _
    refine a_zret dX11_mean_38 rfl (Or.inl rfl) ?_
    exact fin_q hQ hI hG (by unfold sp_mean; rw [if_neg (by omega)]) fr.r
  · refine a_iload_n rfl dX11_mean_4 ?_
    refine n_sipush 9999 rfl dX11_mean_5 ?_
    refine r_icmp_gt 33 (by omega) dX11_mean_8 (by decide) (fun h_8 => ?_) (fun h_8 => ?_)
    · refine a_aload_n rfl dX11_mean_33 ?_
      refine n_iconst 5 rfl dX11_mean_34 ?_
      refine n_callV (mi' := miX11_refuse) dX11_mean_35 lX11_112 mX11_refuse (by decide) rfl rfl rfl (c_X11_refuse ?_ d) rfl rfl (by omega) (by decide) (Nat.le_of_ble_eq_true rfl)
      show AW _ _ _ _ _ _ _
      refine a_zret dX11_mean_38 rfl (Or.inl rfl) ?_
      exact fin_q hQ hI hG (by unfold sp_mean; rw [if_neg (by omega)]) fr.r
    · refine a_iload_n rfl dX11_mean_11 ?_
      refine n_iconst 1 rfl dX11_mean_12 ?_
      refine r_icmp_lt 33 (by omega) dX11_mean_13 (by decide) (fun h_13 => ?_) (fun h_13 => ?_)
      · refine a_aload_n rfl dX11_mean_33 ?_
        refine n_iconst 5 rfl dX11_mean_34 ?_
        refine n_callV (mi' := miX11_refuse) dX11_mean_35 lX11_112 mX11_refuse (by decide) rfl rfl rfl (c_X11_refuse ?_ d) rfl rfl (by omega) (by decide) (Nat.le_of_ble_eq_true rfl)
        show AW _ _ _ _ _ _ _
        refine a_zret dX11_mean_38 rfl (Or.inl rfl) ?_
        exact fin_q hQ hI hG (by unfold sp_mean; rw [if_neg (by omega)]) fr.r
      · refine a_iload_n rfl dX11_mean_16 ?_
        refine n_bipush 20 rfl dX11_mean_17 ?_
        refine r_icmp_gt 33 (by omega) dX11_mean_19 (by decide) (fun h_19 => ?_) (fun h_19 => ?_)
        · refine a_aload_n rfl dX11_mean_33 ?_
          refine n_iconst 5 rfl dX11_mean_34 ?_
          refine n_callV (mi' := miX11_refuse) dX11_mean_35 lX11_112 mX11_refuse (by decide) rfl rfl rfl (c_X11_refuse ?_ d) rfl rfl (by omega) (by decide) (Nat.le_of_ble_eq_true rfl)
          show AW _ _ _ _ _ _ _
          refine a_zret dX11_mean_38 rfl (Or.inl rfl) ?_
          exact fin_q hQ hI hG (by unfold sp_mean; rw [if_neg (by omega)]) fr.r
        · obtain ⟨sa, hsa, rfl⟩ := inR_of (x := a) (m := 10000) (by omega) (by omega) (by omega)
          have t_sa : (nI sa).toInt = (sa : Int) := nI_toInt (by omega)
          have i_sa : idx (nI sa) = sa := idx_nI (by omega)
          obtain ⟨sb, hsb, rfl⟩ := inR_of (x := b) (m := 21) (by omega) (by omega) (by omega)
          have t_sb : (nI sb).toInt = (sb : Int) := nI_toInt (by omega)
          have i_sb : idx (nI sb) = sb := idx_nI (by omega)
          refine a_iload_n rfl dX11_mean_22 ?_
          refine n_iconst 1 rfl dX11_mean_23 ?_
          refine n_isub (by omega) dX11_mean_24 ?_
          refine n_sipush 9999 rfl dX11_mean_25 ?_
          refine a_iload_n rfl dX11_mean_28 ?_
          refine n_isub (by omega) dX11_mean_29 ?_
          refine n_icmp_le 39 (by omega) (by omega) dX11_mean_30 (by decide) (fun h_30 => ?_) (fun h_30 => ?_)
          · refine a_aload_n rfl dX11_mean_39 ?_
            refine a_geta dX11_mean_40 fX11_58 (by decide) rfl rfl ?_
            refine a_geta dX11_mean_43 fX11_180 (by decide) rfl rfl ?_
            refine g_i (show M.1 30 0 = nI (tY T).1 from hI.1.2.2.1) (by decide) rfl fX11_408 rfl dX11_mean_46 ?_
            refine n_if_ne 59 (by omega) dX11_mean_49 (by decide) (fun h_49 => ?_) (fun h_49 => ?_)
            · refine a_lconst (lN 0) rfl dX11_mean_59 ?_
              refine a_lstore_n (by decide) rfl dX11_mean_60 ?_
              refine n_iconst 0 rfl dX11_mean_61 ?_
              refine a_istore (by decide) rfl dX11_mean_62 ?_
              have loop_64 : ∀ i, i ≤ sb → ∀ M1, (fr scX M M1) → AW miX11_mean (d + 9) (mxA Q) 64 [(0, some (.ref 0)), (1, some (.int (nI sa))), (2, some (.int (nI sb))), (3, some (.long (lN (sumN (fun i => hallN (runF (tY T) (tS T) (sa + i)).1.1) i)))), (5, some (.int (nI i)))] [] M1 := by
                refine up (W := fun i => ∀ M1, (fr scX M M1) → AW miX11_mean (d + 9) (mxA Q) 64 [(0, some (.ref 0)), (1, some (.int (nI sa))), (2, some (.int (nI sb))), (3, some (.long (lN (sumN (fun i => hallN (runF (tY T) (tS T) (sa + i)).1.1) i)))), (5, some (.int (nI i)))] [] M1) sb (fun M1 hI_64 => ?_) (fun i hi_64 ih_64 M1 hI_64 => ?_)
                · refine a_iload rfl dX11_mean_64 ?_
                  refine a_iload_n rfl dX11_mean_66 ?_
                  refine n_icmp_ge 113 (by omega) (by omega) dX11_mean_67 (by decide) (fun h_67 => ?_) (fun h_67 => absurd h_67 (by omega))
                  have hsm : sumN (fun i => hallN (runF (tY T) (tS T) (sa + i)).1.1) sb ≤ sb * 693 := sumN_le (fun j hj => hall_le (runF_GF hG.1.2 hF (sd := sa + j) (by omega)).1.1)
                  refine a_aload_n rfl dX11_mean_113 ?_
                  refine a_lload_n rfl dX11_mean_114 ?_
                  refine a_iload_n rfl dX11_mean_115 ?_
                  refine n_i2l (by omega) dX11_mean_116 ?_
                  refine n_callV (mi' := miX11_tellFraction) dX11_mean_117 lX11_393 mX11_tellFraction (by decide) rfl rfl rfl (c_X11_tellFraction (by omega) (by omega) (by omega) ?_ d) rfl rfl (by omega) (by decide) (Nat.le_of_ble_eq_true rfl)
                  show AW _ _ _ _ _ _ _
                  refine a_aload_n rfl dX11_mean_120 ?_
                  refine n_callV (mi' := miX11_agree) dX11_mean_121 lX11_119 mX11_agree (by decide) rfl rfl rfl (c_X11_agree ?_ d) rfl rfl (by omega) (by decide) (Nat.le_of_ble_eq_true rfl)
                  show AW _ _ _ _ _ _ _
                  refine a_zret dX11_mean_124 rfl (Or.inr rfl) ?_
                  exact fin_F hQ hI hG (by unfold sp_mean; rw [if_pos (by omega), if_pos (by omega), i_sa, i_sb]) hI_64
                · have hsm : sumN (fun i => hallN (runF (tY T) (tS T) (sa + i)).1.1) i ≤ i * 693 := sumN_le (fun j hj => hall_le (runF_GF hG.1.2 hF (sd := sa + j) (by omega)).1.1)
                  refine a_iload rfl dX11_mean_64 ?_
                  refine a_iload_n rfl dX11_mean_66 ?_
                  refine n_icmp_ge 113 (by omega) (by omega) dX11_mean_67 (by decide) (fun h_67 => absurd h_67 (by omega)) (fun h_67 => ?_)
                  refine a_aload_n rfl dX11_mean_70 ?_
                  refine a_geta dX11_mean_71 fX11_62 (by decide) rfl rfl ?_
                  refine a_aload_n rfl dX11_mean_74 ?_
                  refine a_geta dX11_mean_75 fX11_58 (by decide) rfl rfl ?_
                  refine n_callV (mi' := miX6_takeFrom) dX11_mean_78 lX11_170 mX6_takeFrom (by decide) rfl rfl rfl (c_take (w := 37) (u := 17) (W := tW T) (by unfold isW; omega) isW17 (by omega) (WX_fr hI.1 hI_64 (fun k j a b => by unfold scX coX; omega)) hG.1 (fun M_78 hW_78 hf_78 => ?_) d) rfl rfl (by omega) (by decide) (Nat.le_of_ble_eq_true rfl)
                  show AW _ _ _ _ _ _ _
                  refine a_aload_n rfl dX11_mean_81 ?_
                  refine a_geta dX11_mean_82 fX11_75 (by decide) rfl rfl ?_
                  refine a_aload_n rfl dX11_mean_85 ?_
                  refine a_geta dX11_mean_86 fX11_62 (by decide) rfl rfl ?_
                  refine a_iload_n rfl dX11_mean_89 ?_
                  refine a_iload rfl dX11_mean_90 ?_
                  refine n_iadd dX11_mean_92 ?_
                  refine n_callV (mi' := miX2_runThrough) dX11_mean_93 lX11_411 mX2_runThrough (by decide) rfl rfl rfl (c_X2_runThrough (w := 37) (by unfold isW; omega) hW_78.1 hW_78.2.2 hG.1.2 hF (show sa + i < 65536 by omega) (fun M_93 hc_93 => ?_) d) rfl rfl (by omega) (by decide) (Nat.le_of_ble_eq_true rfl)
                  show AW _ _ _ _ _ _ _
                  have hGF : GF (tS T) (runF (tY T) (tS T) (sa + i)) := runF_GF hG.1.2 hF (sd := sa + i) (by omega)
                  have hal := hall_le hGF.1.1
                  refine a_lload_n rfl dX11_mean_96 ?_
                  refine a_aload_n rfl dX11_mean_97 ?_
                  refine a_geta dX11_mean_98 fX11_62 (by decide) rfl rfl ?_
                  refine n_callV (mi' := miX6_heightsTogether) dX11_mean_101 lX11_404 mX6_heightsTogether (by decide) rfl rfl rfl (c_X6_heightsTogether (w := 37) (by unfold isW; omega) hc_93.1.1 hGF.1.1 ?_ d) rfl rfl (by omega) (by decide) (Nat.le_of_ble_eq_true rfl)
                  show AW _ _ _ _ _ _ _
                  refine a_eqi (y := nI (hallN (runF (tY T) (tS T) (sa + i)).1.1)) rfl ?_
                  refine n_i2l (by omega) dX11_mean_104 ?_
                  refine n_ladd dX11_mean_105 ?_
                  refine a_lstore_n (by decide) rfl dX11_mean_106 ?_
                  refine n_iinc (c := 1) rfl rfl (by decide) rfl dX11_mean_107 ?_
                  refine a_goto 64 dX11_mean_110 (by decide) ?_
                  exact a_bk (ih_64 _ ((hI_64.t (hf_78.mo (fun k j h => by unfold scX coX; omega))).t (hc_93.2.2.2.mo (fun k j h => by unfold hyP fyP at h; unfold scX coX; omega)))) ⟨rfl, rfl, rfl, rfl, rfl, trivial⟩
              exact a_bk (loop_64 0 (by omega) _ fr.r) ⟨rfl, rfl, rfl, rfl, rfl, trivial⟩
            · refine a_aload_n rfl dX11_mean_52 ?_
              refine n_bipush 8 rfl dX11_mean_53 ?_
              refine n_callV (mi' := miX11_refuse) dX11_mean_55 lX11_112 mX11_refuse (by decide) rfl rfl rfl (c_X11_refuse ?_ d) rfl rfl (by omega) (by decide) (Nat.le_of_ble_eq_true rfl)
              show AW _ _ _ _ _ _ _
              refine a_zret dX11_mean_58 rfl (Or.inl rfl) ?_
              exact fin_q hQ hI hG (by unfold sp_mean; rw [if_pos (by omega), if_neg (by omega)]) fr.r
          · refine a_aload_n rfl dX11_mean_33 ?_
            refine n_iconst 5 rfl dX11_mean_34 ?_
            refine n_callV (mi' := miX11_refuse) dX11_mean_35 lX11_112 mX11_refuse (by decide) rfl rfl rfl (c_X11_refuse ?_ d) rfl rfl (by omega) (by decide) (Nat.le_of_ble_eq_true rfl)
            show AW _ _ _ _ _ _ _
            refine a_zret dX11_mean_38 rfl (Or.inl rfl) ?_
            exact fin_q hQ hI hG (by unfold sp_mean; rw [if_neg (by omega)]) fr.r

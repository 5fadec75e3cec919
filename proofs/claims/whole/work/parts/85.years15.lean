theorem live_M {M M1 : Mm} {T : TT} {F : FN} (hI : IM M T) (hG : TG T) (hm : MF M1 F) (hst : M1.1 132 0 = nI 0) (hr : fr (fun k j => frP k j ∨ (k = 132 ∧ j < 2)) M M1) (hF : GF (tS T) F) : IM (siM (siM (siM (siM (siM (siM M1 146 0 (nI F.1.2.2.1)) 146 1 (nI (F.1.1 0 1 - tS T 0 1))) 146 2 (nI F.1.2.2.2.1)) 146 3 (nI F.1.2.2.2.2)) 146 4 (nI F.2.2.2)) 132 38 (nI 1)) (lvT T F) ∧ keX M (siM (siM (siM (siM (siM (siM M1 146 0 (nI F.1.2.2.1)) 146 1 (nI (F.1.1 0 1 - tS T 0 1))) 146 2 (nI F.1.2.2.2.1)) 146 3 (nI F.1.2.2.2.2)) 146 4 (nI F.2.2.2)) 132 38 (nI 1)) := by
  have hs : fr (fun k j => k = 146 ∨ (k = 132 ∧ j = 38)) M1 (siM (siM (siM (siM (siM (siM M1 146 0 (nI F.1.2.2.1)) 146 1 (nI (F.1.1 0 1 - tS T 0 1))) 146 2 (nI F.1.2.2.2.1)) 146 3 (nI F.1.2.2.2.2)) 146 4 (nI F.2.2.2)) 132 38 (nI 1)) := (((((fr.r.si (by omega)).si (by omega)).si (by omega)).si (by omega)).si (by omega)).si (by omega)
  have v0 : (siM (siM (siM (siM (siM (siM M1 146 0 (nI F.1.2.2.1)) 146 1 (nI (F.1.1 0 1 - tS T 0 1))) 146 2 (nI F.1.2.2.2.1)) 146 3 (nI F.1.2.2.2.2)) 146 4 (nI F.2.2.2)) 132 38 (nI 1)).1 132 38 = nI 1 := siS
  have vj : ∀ j, j < 5 → (siM (siM (siM (siM (siM (siM M1 146 0 (nI F.1.2.2.1)) 146 1 (nI (F.1.1 0 1 - tS T 0 1))) 146 2 (nI F.1.2.2.2.1)) 146 3 (nI F.1.2.2.2.2)) 146 4 (nI F.2.2.2)) 132 38 (nI 1)).1 146 j = nI (livV (tS T) F j) := by
    intro j hj
    rcases (show j = 0 ∨ j = 1 ∨ j = 2 ∨ j = 3 ∨ j = 4 by omega) with e | e | e | e | e <;> subst e
    · exact siN (siN (siN (siN (siN siS (by omega)) (by omega)) (by omega)) (by omega)) (by omega)
    · exact siN (siN (siN (siN siS (by omega)) (by omega)) (by omega)) (by omega)
    · exact siN (siN (siN siS (by omega)) (by omega)) (by omega)
    · exact siN (siN siS (by omega)) (by omega)
    · exact siN siS (by omega)
  generalize (siM (siM (siM (siM (siM (siM M1 146 0 (nI F.1.2.2.1)) 146 1 (nI (F.1.1 0 1 - tS T 0 1))) 146 2 (nI F.1.2.2.2.1)) 146 3 (nI F.1.2.2.2.2)) 146 4 (nI F.2.2.2)) 132 38 (nI 1)) = M2 at hs v0 vj ⊢
  have z2 : F.1.1 0 2 = tS T 0 2 := hF.1.2.2.2.2.1
  have z4 : F.1.1 0 4 = tS T 0 4 := hF.1.2.2.2.2.2.1
  have hf : fr (fun k j => frP k j ∨ (k = 132 ∧ (j < 2 ∨ j = 38)) ∨ k = 146) M M2 := (hr.mo (fun k j h => h.elim Or.inl (fun z => Or.inr (Or.inl ⟨z.1, Or.inl z.2⟩)))).t (hs.mo (fun k j h => Or.inr (by omega)))
  obtain ⟨h1, h2, h3, h4, h5, h6, h7, h8⟩ := hI
  refine ⟨⟨⟨VM_e hm.1.1 (fun j _ => (hs 137 j (by omega)).1) hF.1.1, ⟨fun j hj => hf.l (h1.2.1.1 j (Nat.lt_of_lt_of_eq (show j < F.1.1 0 2 from hj) z2)) (by unfold frP fqP; omega), fun j hj => hf.l (h1.2.1.2 j (Nat.lt_of_lt_of_eq (show j < F.1.1 0 4 from hj) z4)) (by unfold frP fqP; omega)⟩, YM_e h1.2.2 (fun j hj => (hf 137 j (by unfold frP fqP; omega)).1)⟩, RM_fr h2 hf (fun k j a b => by unfold frP fqP; omega), ⟨hf.i h3.1 (by unfold frP fqP; omega), fun j hj => hf.i (h3.2 j hj) (by unfold frP fqP; omega)⟩, ⟨(hs 132 0 (by omega)).1.trans hst, hf.l h4.2.1 (by unfold frP fqP; omega), hf.l h4.2.2 (by unfold frP fqP; omega)⟩, ⟨hf.i h5.1 (by unfold frP fqP; omega), hf.i h5.2 (by unfold frP fqP; omega)⟩, ⟨v0, fun _ j hj => vj j hj⟩, hf.i h7 (by unfold frP fqP; omega), fun i hi => WM_fr (h8 i hi) (hG.2.2.2.2.2.2.1 i hi) hf (fun j a b => by unfold frP fqP; omega) (fun j a b => by unfold frP fqP; omega)⟩, keX_fr hf (fun k j h => by unfold frP fqP at h; omega)⟩
/-- in the midst of mean -/
def meI (M M1 : Mm) : Prop := (∀ j, j < 90 → M1.1 138 j = M.1 137 j) ∧ (∀ j, j < 90 → M1.1 137 j = M.1 137 j) ∧ fr (fun k j => scM k j ∨ (k = 137 ∧ j < 90)) M M1 ∧ M1.1 132 0 = nI 0
theorem me_0 {M M1 : Mm} (hk : ∀ j, j < 90 → M1.1 138 j = (m0 M).1 137 j) (hf : frM (fun k _ => k = 138) (m0 M) M1) : meI M M1 := ⟨fun j hj => (hk j hj).trans (m0_o (by omega)), fun j hj => (hf.1 137 j (by omega)).trans (m0_o (by omega)), (m0_fr.mo (fun k j h => Or.inl h)).t (hf.f.mo (fun k j h => Or.inl (by unfold scM coM; omega))), (hf.1 132 0 (by omega)).trans m0_s⟩
theorem me_s {M M1 M2 M3 : Mm} (h : meI M M1) (hr : fr frP M1 M2) (hk : ∀ j, j < 90 → M3.1 137 j = M2.1 138 j) (hf : frM (fun k j => k = 137 ∧ j < 90) M2 M3) : meI M M3 :=
  ⟨fun j hj => ((hf.1 138 j (by omega)).trans (hr 138 j (by unfold frP fqP; omega)).1).trans (h.1 j hj), fun j hj => ((hk j hj).trans (hr 138 j (by unfold frP fqP; omega)).1).trans (h.1 j hj), (h.2.2.1.t (hr.mo (fun k j z => by unfold frP fqP at z; unfold scM coM; omega))).t (hf.f.mo (fun k j z => Or.inr z)), ((hf.1 132 0 (by omega)).trans (hr 132 0 (by unfold frP fqP; omega)).1).trans h.2.2.2⟩
theorem me_VM {M M1 : Mm} {S : ST} (h : meI M M1) (hM : VM 0 M S) (hF : WF S) : VM 0 M1 S := VM_e hM (fun j hj => h.2.1 j hj) hF
theorem me_YM {M M1 : Mm} {Y : YR} {S : ST} (h : meI M M1) (hY : YM 0 M Y) (hWY : WFY S Y) : YM 0 M1 Y := by
  have e : ∀ j, 90 ≤ j → j < 362 → M1.1 137 j = M.1 137 j := fun j h1 h2 => (h.2.2.1 137 j (by unfold scM coM; omega)).1
  have h30 := hWY.2.2.1
  refine ⟨(e _ (by omega) (by omega)).trans hY.1, (e _ (by omega) (by omega)).trans hY.2.1, fun i hi hv => ?_⟩
  have hs : scN Y.2.2 i + 1 ≤ scN Y.2.2 Y.2.1 := scN_lt hi hv
  obtain ⟨q1, q2, q3, q4, q5, q6⟩ := hY.2.2 i hi hv
  exact ⟨(e _ (by omega) (by omega)).trans q1, fun q => (e _ (by omega) (by omega)).trans (q2 q), fun q => (e _ (by omega) (by omega)).trans (q3 q), fun q => (e _ (by omega) (by omega)).trans (q4 q), fun q => ⟨(e _ (by omega) (by omega)).trans (q5 q).1, fun z => ⟨(e _ (by omega) (by omega)).trans ((q5 q).2 z).1, (e _ (by omega) (by omega)).trans ((q5 q).2 z).2⟩⟩, (e _ (by omega) (by omega)).trans q6⟩
theorem me_IM {M M1 : Mm} {T : TT} (h : meI M M1) (hI : IM M T) (hG : TG T) : IM M1 (st' T 0) := by
  have h3 : (tK T).1 ≤ 3 := hG.2.2.2.2.2.1
  have e : ∀ j, j < 1448 → M1.1 137 j = M.1 137 j := fun j hj => by
    by_cases c : j < 90
    · exact h.2.1 j c
    · exact (h.2.2.1 137 j (by unfold scM coM; omega)).1
  exact IM_mk (W' := tW T) (K' := tK T) hI hG (WM_eq hI.1 hG.1 (fun j _ hj => e _ (by omega)) (fun j _ hj => (h.2.2.1 _ _ (by unfold scM coM; omega)).2)) h.2.2.2
    ((h.2.2.1 _ _ (by unfold scM coM; omega)).1.trans hI.2.2.2.2.2.2.1)
    (fun i hi => WM_eq (hI.2.2.2.2.2.2.2 i hi) (hG.2.2.2.2.2.2.1 i hi) (fun j _ hj => e _ (by omega)) (fun j _ hj => (h.2.2.1 _ _ (by unfold scM coM; omega)).2))
    (fun k j hc => (h.2.2.1 _ _ (by unfold scM coM; omega)).1) (fun k j hc => (h.2.2.1 _ _ (by unfold scM coM; omega)).2)
theorem TG_0 {T : TT} (hG : TG T) : TG (st' T 0) := ⟨hG.1, hG.2.1, hG.2.2.1, Nat.zero_le _, hG.2.2.2.2⟩

set_option maxRecDepth 100000 in
set_option maxHeartbeats 800000 in
theorem c_X12_live {M : Mm} {T : TT} (hI : IM M T) (hG : TG T) {x : Int32} {Q : Option Value → Mm → Prop} (hQ : ∀ M', IM M' (sp_live x T).2 → keX M M' → Q (some (.int (sp_live x T).1)) M') (d : Nat) : AMt miX12_live (d + 141) [.ref 132, .int x] M Q := by
  refine AMt.of (by decide) (Nat.le_of_ble_eq_true rfl) ?_
  show AW miX12_live (d + 141) (mxA Q) 0 [(0, some (.ref 132)), (1, some (.int x))] [] M
  have hF : WF (tS T) := hG.1.1
  have hM : VM 0 M (tS T) := hI.1.1
  have hM1 := m0_VM hM hF
  have hY0 : YM 0 M (tY T) := hI.1.2.2
  have hl1 : (tY T).1 ≤ 1 := hG.1.2.1
  refine a_aload_n rfl dX12_live_0 ?_
  refine n_iconst 0 rfl dX12_live_1 ?_
  refine a_puti dX12_live_2 pX12_69 (by decide) rfl rfl ?_
  refine a_aload_n rfl dX12_live_5 ?_
  refine n_iconst 0 rfl dX12_live_6 ?_
  refine a_puti dX12_live_7 pX12_72 (by decide) rfl rfl ?_
  show AW miX12_live (d + 141) (mxA Q) 10 [(0, some (.ref 132)), (1, some (.int x))] [] (m0 M)
  refine a_iload_n rfl dX12_live_10 ?_
  refine a_i2l dX12_live_11 ?_
  refine a_lconst (lN 0) rfl dX12_live_12 ?_
  refine a_ldc2 kX12_584 dX12_live_13 ?_
  refine a_eql (y := lN 9999) rfl ?_
  refine n_callS (mi' := miX12_isIn) dX12_live_16 lX12_104 mX12_isIn (c_X12_isIn (lo := lN 0) (hi := lN 9999) (fun h_16 => ?_) (fun h_16 => ?_) d) rfl rfl (by omega) (by decide) (Nat.le_of_ble_eq_true rfl)
  · show AW _ _ _ _ _ _ _
    have h_16 := isIn4 (x := x) (a := 0) (b := 9999) (by decide) (by decide) h_16
    refine n_if_ne 28 (by decide) dX12_live_19 (by decide) (fun _ => ?_) (fun h => absurd h (by decide))
    obtain ⟨q, hq, rfl⟩ := inR_of (x := x) (m := 10000) (by omega) (by omega) (by omega)
    have t_q : (nI q).toInt = (q : Int) := nI_toInt (by omega)
    have i_q : idx (nI q) = q := idx_nI (by omega)
    have hGF : GF (tS T) (runF (tY T) (tS T) q) := runF_GF hG.1.2 hF (sd := q) (by omega)
    refine a_aload_n rfl dX12_live_28 ?_
    refine a_geta dX12_live_29 fX12_35 (by decide) rfl rfl ?_
    refine n_bipush 90 rfl dX12_live_32 ?_
    refine v_iald (by omega) (show (m0 M).1 137 90 = nI (tY T).1 from (m0_o (by omega)).trans hY0.1) (by decide) rfl (by decide) dX12_live_34 ?_
    refine n_if_ne 45 (by omega) dX12_live_35 (by decide) (fun h_35 => ?_) (fun h_35 => ?_)
    · refine a_aload_n rfl dX12_live_45 ?_
      refine a_iload_n rfl dX12_live_46 ?_
      refine n_callV (mi' := miX12_runsYears) dX12_live_47 lX12_586 mX12_runsYears (by decide) rfl rfl rfl (c_X12_runsYears hM1 (YM_e hY0 (fun j _ => m0_o (by omega))) hG.1.2 hF (show q < 65536 by omega) (fun M_47 hm_47 hd_47 hr_47 => ?_) d) rfl rfl (by omega) (by decide) (Nat.le_of_ble_eq_true rfl)
      show AW _ _ _ _ _ _ _
      have k5 : M_47.1 137 5 = nI ((runF (tY T) (tS T) q).1.1 0 1) := VM_s5 hm_47.1.1
      have k6 : tS T 0 1 ≤ (runF (tY T) (tS T) q).1.1 0 1 := hGF.1.2.2.1
      refine a_aload_n rfl dX12_live_50 ?_
      refine a_geta dX12_live_51 fX12_62 (by decide) rfl rfl ?_
      refine n_iconst 0 rfl dX12_live_54 ?_
      refine a_aload_n rfl dX12_live_55 ?_
      refine g_i hm_47.1.2.2.1 (by decide) rfl fX12_566 rfl dX12_live_56 ?_
      refine n_iast (by omega) (by decide) rfl (by decide) dX12_live_59 ?_
      refine a_aload_n rfl dX12_live_60 ?_
      refine a_geta dX12_live_61 fX12_62 (by decide) rfl rfl ?_
      refine n_iconst 1 rfl dX12_live_64 ?_
      refine a_aload_n rfl dX12_live_65 ?_
      refine a_geta dX12_live_66 fX12_35 (by decide) rfl rfl ?_
      refine n_iconst 5 rfl dX12_live_69 ?_
      refine v_iald (by omega) (siN k5 (by omega)) (by decide) rfl (by decide) dX12_live_70 ?_
      refine a_aload_n rfl dX12_live_71 ?_
      refine g_i (siN hd_47 (by omega)) (by decide) rfl fX12_581 rfl dX12_live_72 ?_
      refine n_isub (by omega) dX12_live_75 ?_
      refine n_iast (by omega) (by decide) rfl (by decide) dX12_live_76 ?_
      refine a_aload_n rfl dX12_live_77 ?_
      refine a_geta dX12_live_78 fX12_62 (by decide) rfl rfl ?_
      refine n_iconst 2 rfl dX12_live_81 ?_
      refine a_aload_n rfl dX12_live_82 ?_
      refine g_i (siN (siN hm_47.1.2.2.2.1 (by omega)) (by omega)) (by decide) rfl fX12_536 rfl dX12_live_83 ?_
      refine n_iast (by omega) (by decide) rfl (by decide) dX12_live_86 ?_
      refine a_aload_n rfl dX12_live_87 ?_
      refine a_geta dX12_live_88 fX12_62 (by decide) rfl rfl ?_
      refine n_iconst 3 rfl dX12_live_91 ?_
      refine a_aload_n rfl dX12_live_92 ?_
      refine g_i (siN (siN (siN hm_47.1.2.2.2.2 (by omega)) (by omega)) (by omega)) (by decide) rfl fX12_539 rfl dX12_live_93 ?_
      refine n_iast (by omega) (by decide) rfl (by decide) dX12_live_96 ?_
      refine a_aload_n rfl dX12_live_97 ?_
      refine a_geta dX12_live_98 fX12_62 (by decide) rfl rfl ?_
      refine n_iconst 4 rfl dX12_live_101 ?_
      refine a_aload_n rfl dX12_live_102 ?_
      refine g_i (siN (siN (siN (siN hm_47.2.2.2 (by omega)) (by omega)) (by omega)) (by omega)) (by decide) rfl fX12_563 rfl dX12_live_103 ?_
      refine n_iast (by omega) (by decide) rfl (by decide) dX12_live_106 ?_
      refine a_aload_n rfl dX12_live_107 ?_
      refine n_iconst 1 rfl dX12_live_108 ?_
      refine a_putz dX12_live_109 pX12_589 (by decide) rfl rfl (Or.inr rfl) ?_
      refine a_aload_n rfl dX12_live_112 ?_
      refine g_i (siN (siN (siN (siN (siN (siN hm_47.2.1 (by omega)) (by omega)) (by omega)) (by omega)) (by omega)) (by omega)) (by decide) rfl fX12_557 rfl dX12_live_113 ?_
      refine a_iret dX12_live_116 rfl ?_
      have e : sp_live (nI q) T = (nI (runF (tY T) (tS T) q).2.1, lvT T (runF (tY T) (tS T) q)) := by unfold sp_live; rw [if_pos (by omega), if_pos (by omega), i_q]
      rw [e] at hQ
      have hl := live_M hI hG hm_47 ((hr_47 132 0 (by unfold frP fqP; omega)).1.trans m0_s) (((fr.r.si (Or.inr (by omega))).si (Or.inr (by omega))).t (hr_47.mo (fun k j h => Or.inl h))) hGF
      exact hQ _ hl.1 hl.2
    · refine a_aload_n rfl dX12_live_38 ?_
      refine n_bipush 8 rfl dX12_live_39 ?_
      refine n_callV (mi' := miX12_refuse) dX12_live_41 lX12_345 mX12_refuse (by decide) rfl rfl rfl (c_X12_refuse ?_ d) rfl rfl (by omega) (by decide) (Nat.le_of_ble_eq_true rfl)
      show AW _ _ _ _ _ _ _
      refine a_iret dX12_live_44 rfl ?_
      exact fin_qM hQ hI hG (by unfold sp_live; rw [if_pos (by omega), if_neg (by omega)]) siS (m0_fr.si (by unfold scM coM; omega))
  · show AW _ _ _ _ _ _ _
    have h_16 := isIn4n (x := x) (a := 0) (b := 9999) (by decide) (by decide) h_16
    refine n_if_ne 28 (by decide) dX12_live_19 (by decide) (fun h => absurd h (by decide)) (fun _ => ?_)
    refine a_aload_n rfl dX12_live_22 ?_
    refine n_iconst 5 rfl dX12_live_23 ?_
    refine n_callV (mi' := miX12_refuse) dX12_live_24 lX12_345 mX12_refuse (by decide) rfl rfl rfl (c_X12_refuse ?_ d) rfl rfl (by omega) (by decide) (Nat.le_of_ble_eq_true rfl)
    show AW _ _ _ _ _ _ _
    refine a_iret dX12_live_27 rfl ?_
    exact fin_qM hQ hI hG (by unfold sp_live; rw [if_neg (by omega)]) siS (m0_fr.si (by unfold scM coM; omega))

set_option maxRecDepth 100000 in
set_option maxHeartbeats 800000 in
theorem c_X12_mean {M : Mm} {T : TT} (hI : IM M T) (hG : TG T) {a b : Int32} {Q : Option Value → Mm → Prop} (hQ : ∀ M', IM M' (sp_mean a b T).2 → keX M M' → Q (some (.int (sp_mean a b T).1)) M') (d : Nat) : AMt miX12_mean (d + 141) [.ref 132, .int a, .int b] M Q := by
  refine AMt.of (by decide) (Nat.le_of_ble_eq_true rfl) ?_
  show AW miX12_mean (d + 141) (mxA Q) 0 [(0, some (.ref 132)), (1, some (.int a)), (2, some (.int b))] [] M
  have hF : WF (tS T) := hG.1.1
  have hM : VM 0 M (tS T) := hI.1.1
  have hM1 := m0_VM hM hF
  have hY0 : YM 0 M (tY T) := hI.1.2.2
  have hl1 : (tY T).1 ≤ 1 := hG.1.2.1
  refine a_aload_n rfl dX12_mean_0 ?_
  refine n_iconst 0 rfl dX12_mean_1 ?_
  refine a_puti dX12_mean_2 pX12_69 (by decide) rfl rfl ?_
  refine a_aload_n rfl dX12_mean_5 ?_
  refine n_iconst 0 rfl dX12_mean_6 ?_
  refine a_puti dX12_mean_7 pX12_72 (by decide) rfl rfl ?_
  show AW miX12_mean (d + 141) (mxA Q) 10 [(0, some (.ref 132)), (1, some (.int a)), (2, some (.int b))] [] (m0 M)
  refine a_iload_n rfl dX12_mean_10 ?_
  refine a_i2l dX12_mean_11 ?_
  refine a_lconst (lN 1) rfl dX12_mean_12 ?_
  refine a_ldc2 kX12_413 dX12_mean_13 ?_
  refine a_eql (y := lN 20) rfl ?_
  refine n_callS (mi' := miX12_isIn) dX12_mean_16 lX12_104 mX12_isIn (c_X12_isIn (lo := lN 1) (hi := lN 20) (fun h_16 => ?_) (fun h_16 => ?_) d) rfl rfl (by omega) (by decide) (Nat.le_of_ble_eq_true rfl)
  · show AW _ _ _ _ _ _ _
    have h_16 := isIn4 (x := b) (a := 1) (b := 20) (by decide) (by decide) h_16
    refine n_if_eq 37 (by decide) dX12_mean_19 (by decide) (fun h => absurd h (by decide)) (fun _ => ?_)
    obtain ⟨sb, hsb, rfl⟩ := inR_of (x := b) (m := 21) (by omega) (by omega) (by omega)
    have t_sb : (nI sb).toInt = (sb : Int) := nI_toInt (by omega)
    have i_sb : idx (nI sb) = sb := idx_nI (by omega)
    refine a_iload_n rfl dX12_mean_22 ?_
    refine a_i2l dX12_mean_23 ?_
    refine a_lconst (lN 0) rfl dX12_mean_24 ?_
    refine n_sipush 10000 rfl dX12_mean_25 ?_
    refine a_iload_n rfl dX12_mean_28 ?_
    refine n_isub (by omega) dX12_mean_29 ?_
    refine n_i2l (by omega) dX12_mean_30 ?_
    refine n_callS (mi' := miX12_isIn) dX12_mean_31 lX12_104 mX12_isIn (c_X12_isIn (lo := lN 0) (hi := lN (10000 - sb)) (fun h_31 => ?_) (fun h_31 => ?_) d) rfl rfl (by omega) (by decide) (Nat.le_of_ble_eq_true rfl)
    · show AW _ _ _ _ _ _ _
      have h_31 := isIn4 (x := a) (a := 0) (b := ((10000 - sb : Nat) : Int)) (by decide) (lN_toInt (by omega)) h_31
      refine n_if_ne 43 (by decide) dX12_mean_34 (by decide) (fun _ => ?_) (fun h => absurd h (by decide))
      obtain ⟨sa, hsa, rfl⟩ := inR_of (x := a) (m := 10000) (by omega) (by omega) (by omega)
      have t_sa : (nI sa).toInt = (sa : Int) := nI_toInt (by omega)
      have i_sa : idx (nI sa) = sa := idx_nI (by omega)
      refine a_aload_n rfl dX12_mean_43 ?_
      refine a_geta dX12_mean_44 fX12_35 (by decide) rfl rfl ?_
      refine n_bipush 90 rfl dX12_mean_47 ?_
      refine v_iald (by omega) (show (m0 M).1 137 90 = nI (tY T).1 from (m0_o (by omega)).trans hY0.1) (by decide) rfl (by decide) dX12_mean_49 ?_
      refine n_if_ne 60 (by omega) dX12_mean_50 (by decide) (fun h_50 => ?_) (fun h_50 => ?_)
      · refine a_aload_n rfl dX12_mean_60 ?_
        refine n_callV (mi' := miX12_keeps) dX12_mean_61 lX12_417 mX12_keeps (by decide) rfl rfl rfl (c_X12_keeps (fun M_61 hk_61 hf_61 => ?_) d) rfl rfl (by omega) (by decide) (Nat.le_of_ble_eq_true rfl)
        show AW _ _ _ _ _ _ _
        refine a_lconst (lN 0) rfl dX12_mean_64 ?_
        refine a_lstore_n (by decide) rfl dX12_mean_65 ?_
        refine n_iconst 0 rfl dX12_mean_66 ?_
        refine a_istore (by decide) rfl dX12_mean_67 ?_
        have loop_69 : ∀ i, i ≤ sb → ∀ M1, (meI M M1) → AW miX12_mean (d + 141) (mxA Q) 69 [(0, some (.ref 132)), (1, some (.int (nI sa))), (2, some (.int (nI sb))), (3, some (.long (lN (sumN (fun i => hallN (runF (tY T) (tS T) (sa + i)).1.1) i)))), (5, some (.int (nI i)))] [] M1 := by
          refine up (W := fun i => ∀ M1, (meI M M1) → AW miX12_mean (d + 141) (mxA Q) 69 [(0, some (.ref 132)), (1, some (.int (nI sa))), (2, some (.int (nI sb))), (3, some (.long (lN (sumN (fun i => hallN (runF (tY T) (tS T) (sa + i)).1.1) i)))), (5, some (.int (nI i)))] [] M1) sb (fun M1 hI_69 => ?_) (fun i hi_69 ih_69 M1 hI_69 => ?_)
          · refine a_iload rfl dX12_mean_69 ?_
            refine a_iload_n rfl dX12_mean_71 ?_
            refine n_icmp_ge 101 (by omega) (by omega) dX12_mean_72 (by decide) (fun h_72 => ?_) (fun h_72 => absurd h_72 (by omega))
            have hsm : sumN (fun i => hallN (runF (tY T) (tS T) (sa + i)).1.1) sb ≤ sb * 693 := sumN_le (fun j hj => hall_le (runF_GF hG.1.2 hF (sd := sa + j) (by omega)).1.1)
            refine a_aload_n rfl dX12_mean_101 ?_
            refine a_lload_n rfl dX12_mean_102 ?_
            refine a_iload_n rfl dX12_mean_103 ?_
            refine n_i2l (by omega) dX12_mean_104 ?_
            refine n_callV (mi' := miX12_fraction) dX12_mean_105 lX12_514 mX12_fraction (by decide) rfl rfl rfl (c_X12_fraction (by omega) (by omega) (by omega) ?_ d) rfl rfl (by omega) (by decide) (Nat.le_of_ble_eq_true rfl)
            show AW _ _ _ _ _ _ _
            refine a_zret dX12_mean_108 rfl (Or.inr rfl) ?_
            have e : sp_mean (nI sa) (nI sb) T = (nI 1, frT (st' T 0) (sumN (fun i => hallN (runF (tY T) (tS T) (sa + i)).1.1) sb) sb) := by unfold sp_mean; rw [if_pos (by omega), if_pos (by omega), i_sa, i_sb]; rfl
            exact fin_FM (M := M1) (T := st' T 0) (p := sp_mean (nI sa) (nI sb) T) (fun M2 a b => hQ M2 a ⟨fun k hk => (b.1 k hk).trans ((keX_fr hI_69.2.2.1 (fun k j h => by unfold scM at h; omega)).1 k hk), fun k hk => (b.2 k hk).trans ((keX_fr hI_69.2.2.1 (fun k j h => by unfold scM at h; omega)).2 k hk)⟩) (me_IM hI_69 hI hG) (TG_0 hG) e hI_69.2.2.2 fr.r
          · have hsm : sumN (fun i => hallN (runF (tY T) (tS T) (sa + i)).1.1) i ≤ i * 693 := sumN_le (fun j hj => hall_le (runF_GF hG.1.2 hF (sd := sa + j) (by omega)).1.1)
            refine a_iload rfl dX12_mean_69 ?_
            refine a_iload_n rfl dX12_mean_71 ?_
            refine n_icmp_ge 101 (by omega) (by omega) dX12_mean_72 (by decide) (fun h_72 => absurd h_72 (by omega)) (fun h_72 => ?_)
            refine a_aload_n rfl dX12_mean_75 ?_
            refine a_iload_n rfl dX12_mean_76 ?_
            refine a_iload rfl dX12_mean_77 ?_
            refine n_iadd dX12_mean_79 ?_
            refine n_callV (mi' := miX12_runsYears) dX12_mean_80 lX12_586 mX12_runsYears (by decide) rfl rfl rfl (c_X12_runsYears (me_VM hI_69 hM hF) (me_YM hI_69 hY0 hG.1.2) hG.1.2 hF (show sa + i < 65536 by omega) (fun M_80 hm_80 hd_80 hr_80 => ?_) d) rfl rfl (by omega) (by decide) (Nat.le_of_ble_eq_true rfl)
            show AW _ _ _ _ _ _ _
            have hGF : GF (tS T) (runF (tY T) (tS T) (sa + i)) := runF_GF hG.1.2 hF (sd := sa + i) (by omega)
            have hal := hall_le hGF.1.1
            refine a_lload_n rfl dX12_mean_83 ?_
            refine a_aload_n rfl dX12_mean_84 ?_
            refine n_callV (mi' := miX12_heights) dX12_mean_85 lX12_529 mX12_heights (by decide) rfl rfl rfl (c_X12_heights hm_80.1.1 hGF.1.1 ?_ d) rfl rfl (by omega) (by decide) (Nat.le_of_ble_eq_true rfl)
            show AW _ _ _ _ _ _ _
            refine a_eqi (y := nI (hallN (runF (tY T) (tS T) (sa + i)).1.1)) rfl ?_
            refine n_i2l (by omega) dX12_mean_88 ?_
            refine n_ladd dX12_mean_89 ?_
            refine a_lstore_n (by decide) rfl dX12_mean_90 ?_
            refine a_aload_n rfl dX12_mean_91 ?_
            refine n_callV (mi' := miX12_restores) dX12_mean_92 lX12_420 mX12_restores (by decide) rfl rfl rfl (c_X12_restores (fun M_92 hk_92 hf_92 => ?_) d) rfl rfl (by omega) (by decide) (Nat.le_of_ble_eq_true rfl)
            show AW _ _ _ _ _ _ _
            refine n_iinc (c := 1) rfl rfl (by decide) rfl dX12_mean_95 ?_
            refine a_goto 69 dX12_mean_98 (by decide) ?_
            exact a_bk (ih_69 _ (me_s hI_69 hr_80 hk_92 hf_92)) ⟨rfl, rfl, rfl, rfl, rfl, trivial⟩
        exact a_bk (loop_69 0 (by omega) _ (me_0 hk_61 hf_61)) ⟨rfl, rfl, rfl, rfl, rfl, trivial⟩
      · refine a_aload_n rfl dX12_mean_53 ?_
        refine n_bipush 8 rfl dX12_mean_54 ?_
        refine n_callV (mi' := miX12_no) dX12_mean_56 lX12_84 mX12_no (by decide) rfl rfl rfl (c_X12_no ?_ d) rfl rfl (by omega) (by decide) (Nat.le_of_ble_eq_true rfl)
        show AW _ _ _ _ _ _ _
        refine a_zret dX12_mean_59 rfl (Or.inl rfl) ?_
        exact fin_qM hQ hI hG (by unfold sp_mean; rw [if_pos (by omega), if_neg (by omega)]) siS (m0_fr.si (by unfold scM coM; omega))
    · show AW _ _ _ _ _ _ _
      have h_31 := isIn4n (x := a) (a := 0) (b := ((10000 - sb : Nat) : Int)) (by decide) (lN_toInt (by omega)) h_31
      refine n_if_ne 43 (by decide) dX12_mean_34 (by decide) (fun h => absurd h (by decide)) (fun _ => ?_)
      refine a_aload_n rfl dX12_mean_37 ?_
      refine n_iconst 5 rfl dX12_mean_38 ?_
      refine n_callV (mi' := miX12_no) dX12_mean_39 lX12_84 mX12_no (by decide) rfl rfl rfl (c_X12_no ?_ d) rfl rfl (by omega) (by decide) (Nat.le_of_ble_eq_true rfl)
      show AW _ _ _ _ _ _ _
      refine a_zret dX12_mean_42 rfl (Or.inl rfl) ?_
      exact fin_qM hQ hI hG (by unfold sp_mean; rw [if_neg (by omega)]) siS (m0_fr.si (by unfold scM coM; omega))
  · show AW _ _ _ _ _ _ _
    have h_16 := isIn4n (x := b) (a := 1) (b := 20) (by decide) (by decide) h_16
    refine n_if_eq 37 (by decide) dX12_mean_19 (by decide) (fun _ => ?_) (fun h => absurd h (by decide))
    refine a_aload_n rfl dX12_mean_37 ?_
    refine n_iconst 5 rfl dX12_mean_38 ?_
    refine n_callV (mi' := miX12_no) dX12_mean_39 lX12_84 mX12_no (by decide) rfl rfl rfl (c_X12_no ?_ d) rfl rfl (by omega) (by decide) (Nat.le_of_ble_eq_true rfl)
    show AW _ _ _ _ _ _ _
    refine a_zret dX12_mean_42 rfl (Or.inl rfl) ?_
    exact fin_qM hQ hI hG (by unfold sp_mean; rw [if_neg (by omega)]) siS (m0_fr.si (by unfold scM coM; omega))

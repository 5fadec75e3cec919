theorem YM_e {M M' : Mm} {Y : YR} (h : YM 0 M Y) (e : ∀ j, 90 ≤ j → M'.1 137 j = M.1 137 j) : YM 0 M' Y := by
  refine ⟨(e _ (by omega)).trans h.1, (e _ (by omega)).trans h.2.1, fun i hi hv => ?_⟩
  obtain ⟨q1, q2, q3, q4, q5, q6⟩ := h.2.2 i hi hv
  exact ⟨(e _ (by omega)).trans q1, fun q => (e _ (by omega)).trans (q2 q), fun q => (e _ (by omega)).trans (q3 q), fun q => (e _ (by omega)).trans (q4 q), fun q => ⟨(e _ (by omega)).trans (q5 q).1, fun z => ⟨(e _ (by omega)).trans ((q5 q).2 z).1, (e _ (by omega)).trans ((q5 q).2 z).2⟩⟩, (e _ (by omega)).trans q6⟩
def frP (k j : Nat) : Prop := fqP k j ∨ (k = 132 ∧ j = 43)
def bgM (M : Mm) (x y : Int32) : Mm := siM (siM (siM (siM (siM (siM (siM (siM M 132 40 x) 132 41 (nI 0)) 132 42 (nI 0)) 132 43 y) 132 44 (nI 0)) 132 45 (nI 0)) 132 46 (nI 0)) 132 39 (nI 0)
theorem bg_fr (M : Mm) (x y : Int32) : fr frP M (bgM M x y) := (((((((fr.r.si (by unfold frP fqP; omega)).si (by unfold frP fqP; omega)).si (by unfold frP fqP; omega)).si (by unfold frP fqP; omega)).si (by unfold frP fqP; omega)).si (by unfold frP fqP; omega)).si (by unfold frP fqP; omega)).si (by unfold frP fqP; omega)
theorem bg_137 (M : Mm) (x y : Int32) (j : Nat) : (bgM M x y).1 137 j = M.1 137 j := by unfold bgM; simp [siM]
theorem bg_MF {M : Mm} {S : ST} (hM : VM 0 M S) (hF : WF S) (sd : Nat) (y : Int32) : MF (bgM M (nI sd) y) ((S, sd, 0, 0, 0), 0, 0, 0) := ⟨⟨VM_e hM (fun j _ => bg_137 _ _ _ j) hF, by unfold bgM; simp [siM], by unfold bgM; simp [siM], by unfold bgM; simp [siM], by unfold bgM; simp [siM]⟩, by unfold bgM; simp [siM], by unfold bgM; simp [siM], by unfold bgM; simp [siM]⟩
theorem bg_43 (M : Mm) (x y : Int32) : (bgM M x y).1 132 43 = y := by unfold bgM; simp [siM]
theorem GF_0 {S : ST} {Y : YR} (hY : WFY S Y) (hF : WF S) {sd : Nat} (hsd : sd < 65536) : GF S ((S, sd, 0, 0, 0), 0, 0, 0) := ⟨⟨hF, hY.2.2.2.1, Nat.le_refl _, hsd, rfl, rfl, rfl⟩, ⟨Nat.le_refl _, Nat.le_refl _, Nat.le_refl _⟩, Nat.zero_le _, Nat.zero_le _, Nat.zero_le _, fun _ => rfl⟩

set_option maxRecDepth 100000 in
set_option maxHeartbeats 800000 in
theorem c_X12_runsYears {M : Mm} {S : ST} {Y : YR} (hM : VM 0 M S) (hYM : YM 0 M Y) (hY : WFY S Y) (hF : WF S) {sd : Nat} (hsd : sd < 65536) {Q : Option Value → Mm → Prop} (hQ : ∀ M', MF M' (runF Y S sd) → M'.1 132 43 = nI (S 0 1) → fr frP M M' → Q none M') (d : Nat) : AMt miX12_runsYears (d + 140) [.ref 132, .int (nI sd)] M Q := by
  refine AMt.of (by decide) (Nat.le_of_ble_eq_true rfl) ?_
  show AW miX12_runsYears (d + 140) (mxA Q) 0 [(0, some (.ref 132)), (1, some (.int (nI sd)))] [] M
  have hL6 := hY.2.1
  refine a_aload_n rfl dX12_runsYears_0 ?_
  refine a_iload_n rfl dX12_runsYears_1 ?_
  refine a_puti dX12_runsYears_2 pX12_532 (by decide) rfl rfl ?_
  refine a_aload_n rfl dX12_runsYears_5 ?_
  refine n_iconst 0 rfl dX12_runsYears_6 ?_
  refine a_puti dX12_runsYears_7 pX12_557 (by decide) rfl rfl ?_
  refine a_aload_n rfl dX12_runsYears_10 ?_
  refine n_iconst 0 rfl dX12_runsYears_11 ?_
  refine a_puti dX12_runsYears_12 pX12_566 (by decide) rfl rfl ?_
  refine a_aload_n rfl dX12_runsYears_15 ?_
  refine a_aload_n rfl dX12_runsYears_16 ?_
  refine a_geta dX12_runsYears_17 fX12_35 (by decide) rfl rfl ?_
  refine n_iconst 5 rfl dX12_runsYears_20 ?_
  refine v_iald (by omega) (siN (siN (siN (VM_s5 hM) (by omega)) (by omega)) (by omega)) (by decide) rfl (by decide) dX12_runsYears_21 ?_
  refine a_puti dX12_runsYears_22 pX12_581 (by decide) rfl rfl ?_
  refine a_aload_n rfl dX12_runsYears_25 ?_
  refine n_iconst 0 rfl dX12_runsYears_26 ?_
  refine a_puti dX12_runsYears_27 pX12_536 (by decide) rfl rfl ?_
  refine a_aload_n rfl dX12_runsYears_30 ?_
  refine n_iconst 0 rfl dX12_runsYears_31 ?_
  refine a_puti dX12_runsYears_32 pX12_539 (by decide) rfl rfl ?_
  refine a_aload_n rfl dX12_runsYears_35 ?_
  refine n_iconst 0 rfl dX12_runsYears_36 ?_
  refine a_puti dX12_runsYears_37 pX12_563 (by decide) rfl rfl ?_
  refine a_aload_n rfl dX12_runsYears_40 ?_
  refine n_iconst 0 rfl dX12_runsYears_41 ?_
  refine a_putz dX12_runsYears_42 pX12_560 (by decide) rfl rfl (Or.inl rfl) ?_
  refine a_aload_n rfl dX12_runsYears_45 ?_
  refine n_iconst 0 rfl dX12_runsYears_46 ?_
  refine a_aload_n rfl dX12_runsYears_47 ?_
  refine a_geta dX12_runsYears_48 fX12_35 (by decide) rfl rfl ?_
  refine n_bipush 91 rfl dX12_runsYears_51 ?_
  refine v_iald (by omega) (siN (siN (siN (siN (siN (siN (siN (siN hYM.2.1 (by omega)) (by omega)) (by omega)) (by omega)) (by omega)) (by omega)) (by omega)) (by omega)) (by decide) rfl (by decide) dX12_runsYears_53 ?_
  show AW _ _ _ _ _ _ (bgM M (nI sd) (nI (S 0 1)))
  refine n_callV (mi' := miX12_doAll) dX12_runsYears_54 lX12_575 mX12_doAll (by decide) rfl rfl rfl (c_all hY (Y.2.1 + 1) 0 Y.2.1 _ _ (bg_MF hM hF sd (nI (S 0 1))) (GF_0 hY hF hsd) (YM_e hYM (fun j _ => bg_137 _ _ _ j)) (lvl_0 (WFY_blk hY)) (Nat.zero_le _) (Nat.le_refl _) (by omega) (fun M_54 hm_54 hf_54 => ?_) d) rfl rfl (by omega) (by decide) (Nat.le_of_ble_eq_true rfl)
  show AW _ _ _ _ _ _ _
  refine a_vret dX12_runsYears_57 rfl ?_
  exact hQ _ hm_54 ((hf_54 132 43 (by unfold fqP; omega)).1.trans (bg_43 _ _ _)) ((bg_fr _ _ _).t (hf_54.mo (fun k j h => Or.inl h)))

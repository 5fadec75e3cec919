theorem c_doesV {M : Mm} {S : ST} {dr mi br cr : Nat} (hR : MW M (S, dr, mi, br, cr)) (hF : WF S) (hd9 : S 0 1 ≤ 9999) (hdr : dr < 65536) {c0 : Nat} {s : Nat → Nat} (hc0 : c0 ≤ 1000) (hv : 13 ≤ s 0 ∧ s 0 ≤ 17) (hk : M.1 137 c0 = nI (s 0 - 13)) (hka : s 0 = 13 ∨ s 0 = 14 ∨ s 0 = 22 → M.1 137 (c0 + 1) = nI (s 2)) (hkb : s 0 = 15 ∨ s 0 = 16 ∨ s 0 = 18 → M.1 137 (c0 + 1) = nI (s 1)) (hk2 : s 0 = 15 ∨ s 0 = 16 → M.1 137 (c0 + 2) = nI (s 2))
    (b13 : s 0 = 13 → s 2 ≤ 40) (b14 : s 0 = 14 → s 2 ≤ 7) (b15 : s 0 = 15 → s 1 < S 0 2 ∧ s 2 ≤ 100) (b16 : s 0 = 16 → s 1 < S 0 4 ∧ s 2 < S 0 2) {Q : Option Value → Mm → Prop} (h1 : ∀ M', MW M' (vIn s (S, dr, mi, br, cr)) → FMY M M' → Q (some (.int (nI 1))) M') (h0 : ∀ M' R1, MW M' R1 → rMi R1 = vIn s (S, dr, mi, br, cr) → FMY M M' → Q (some (.int (nI 0))) M') (d : Nat) : AMt miX12_does (d + 6) [.ref 132, .int (nI c0)] M Q := by
  rcases (show s 0 = 13 ∨ s 0 = 14 ∨ s 0 = 15 ∨ s 0 = 16 ∨ s 0 = 17 by omega) with e | e | e | e | e
  · have hv : vIn s (S, dr, mi, br, cr) = rDay (s 2) (S, dr, mi, br, cr) := if_pos e
    rw [hv] at h1 h0
    rw [e] at hk
    exact c_does0 hR hF hd9 hdr hc0 hk (hka (Or.inl e)) (b13 e) h1 h0 d
  · have hv : vIn s (S, dr, mi, br, cr) = rBr (s 2) (S, dr, mi, br, cr) := (if_neg (by omega)).trans (if_pos e)
    rw [hv] at h1 h0
    rw [e] at hk
    exact c_does1 hR hF hd9 hdr hc0 hk (hka (Or.inr (Or.inl e))) (b14 e) h1 h0 d
  · have hv : vIn s (S, dr, mi, br, cr) = rCr (s 1) (s 2) (S, dr, mi, br, cr) := (if_neg (by omega)).trans ((if_neg (by omega)).trans (if_pos e))
    rw [hv] at h1 h0
    rw [e] at hk
    exact c_does2 hR hF hd9 hdr hc0 hk (hkb (Or.inl e)) (hk2 (Or.inl e)) (b15 e).1 (b15 e).2 h1 h0 d
  · have hv : vIn s (S, dr, mi, br, cr) = rTu (s 1) (s 2) (S, dr, mi, br, cr) := (if_neg (by omega)).trans ((if_neg (by omega)).trans ((if_neg (by omega)).trans (if_pos e)))
    rw [hv] at h1 h0
    rw [e] at hk
    exact c_does3 hR hF hd9 hdr hc0 hk (hkb (Or.inr (Or.inl e))) (hk2 (Or.inr e)) (b16 e).1 (b16 e).2 h1 h0 d
  · have hv : vIn s (S, dr, mi, br, cr) = rAny (S, dr, mi, br, cr) := (if_neg (by omega)).trans ((if_neg (by omega)).trans ((if_neg (by omega)).trans (if_neg (by omega))))
    rw [hv] at h1 h0
    rw [e] at hk
    exact c_does4 (s := s) hR hF hd9 hdr hc0 hk h1 h0 d
theorem MW_put0 {M : Mm} {R : RN} {mi : Nat} (h : MW M R) (hF : WF R.1) (he : M.1 132 42 = nI mi) : MW (siM M 132 42 (nI (mi + 0))) R := ⟨VM_si h.1 hF, siN h.2.1 (by omega), siS.trans (he.symm.trans h.2.2.1), siN h.2.2.2.1 (by omega), siN h.2.2.2.2 (by omega)⟩
theorem MW_put1 {M : Mm} {R : RN} {mi : Nat} (h : MW M R) (hF : WF R.1) (he : M.1 132 42 = nI mi) : MW (siM M 132 42 (nI (mi + 1))) (rMi R) := ⟨VM_si h.1 hF, siN h.2.1 (by omega), siS.trans (by rw [← nI_add mi 1, ← he, h.2.2.1, nI_add]; rfl), siN h.2.2.2.1 (by omega), siN h.2.2.2.2 (by omega)⟩
/-- the model in the midst of a run -/
def MF (M : Mm) (F : FN) : Prop := MW M F.1 ∧ M.1 132 41 = nI F.2.1 ∧ M.1 132 39 = nI F.2.2.1 ∧ M.1 132 46 = nI F.2.2.2
def fqP (k j : Nat) : Prop := (k = 137 ∧ j < 90) ∨ (k = 132 ∧ (39 ≤ j ∧ j ≤ 42 ∨ 44 ≤ j ∧ j ≤ 46))
abbrev FQ (M M1 : Mm) : Prop := fr fqP M M1
theorem fm_fq {k j : Nat} (h : fmP k j) : fqP k j := by unfold fmP at h; unfold fqP; omega
theorem MW_o {M : Mm} {R : RN} {j : Nat} {x : Int32} (h : MW M R) (hF : WF R.1) (hj : j = 39 ∨ j = 41 ∨ j = 46) : MW (siM M 132 j x) R := ⟨VM_si h.1 hF, siN h.2.1 (by omega), siN h.2.2.1 (by omega), siN h.2.2.2.1 (by omega), siN h.2.2.2.2 (by omega)⟩
/-- a step's cells in the model -/
def stM (M : Mm) (s : Nat → Nat) (c0 nx : Nat) : Prop := M.1 137 c0 = nI (vkN (s 0)) ∧ (s 0 = 13 ∨ s 0 = 14 ∨ s 0 = 22 → M.1 137 (c0 + 1) = nI (s 2)) ∧ (s 0 = 15 ∨ s 0 = 16 ∨ s 0 = 18 → M.1 137 (c0 + 1) = nI (s 1)) ∧ (s 0 = 15 ∨ s 0 = 16 → M.1 137 (c0 + 2) = nI (s 2)) ∧ (s 0 = 18 → M.1 137 (c0 + 5) = nI (s 3 - 19) ∧ (s 3 = 21 → M.1 137 (c0 + 6) = nI (s 2) ∧ M.1 137 (c0 + 7) = nI (s 4))) ∧ M.1 137 (c0 + 8) = nI nx
theorem stM_fr {M M' : Mm} {s : Nat → Nat} {c0 nx : Nat} {P : Nat → Nat → Prop} (h : stM M s c0 nx) (hf : fr P M M') (hc : 92 ≤ c0) (hp : ∀ j, 90 ≤ j → ¬ P 137 j) : stM M' s c0 nx := by
  have e : ∀ j, 90 ≤ j → M'.1 137 j = M.1 137 j := fun j hj => (hf 137 j (hp j hj)).1
  obtain ⟨h1, h2, h3, h4, h5, h6⟩ := h
  exact ⟨(e _ (by omega)).trans h1, fun q => (e _ (by omega)).trans (h2 q), fun q => (e _ (by omega)).trans (h3 q), fun q => (e _ (by omega)).trans (h4 q), fun q => ⟨(e _ (by omega)).trans (h5 q).1, fun z => ⟨(e _ (by omega)).trans ((h5 q).2 z).1, (e _ (by omega)).trans ((h5 q).2 z).2⟩⟩, (e _ (by omega)).trans h6⟩
theorem YM_st {M : Mm} {Y : YR} (h : YM 0 M Y) {i : Nat} (hi : i < Y.2.1) (hv : Y.2.2 i 0 ≠ 23) : stM M (Y.2.2 i) (92 + 9 * scN Y.2.2 i) (if Y.2.2 i 0 = 18 ∨ Y.2.2 i 0 = 22 then scN Y.2.2 (Y.2.2 i 5) else scN Y.2.2 (i + 1)) := by
  have q := h.2.2 i hi hv
  rw [Nat.zero_add] at q
  exact q

set_option maxRecDepth 100000 in
set_option maxHeartbeats 800000 in
theorem c_one300 {M : Mm} {S S0 : ST} {dr mi br cr n : Nat} (hM : MF M ((S, dr, mi, br, cr), n, 0, 0)) (hG : GF S0 ((S, dr, mi, br, cr), n, 0, 0)) {s : Nat → Nat} {g nx : Nat} (hg : g ≤ 30) (hst : stM M s (92 + 9 * g) nx) (hok : okS S0 s) (hn0 : n = 300) {Q : Option Value → Mm → Prop} (hQ : ∀ M', MF M' ((S, dr, mi, br, cr), 300, 1, 1) → FQ M M' → Q none M') (d : Nat) : AMt miX12_doOne (d + 7) [.ref 132, .int (nI g)] M Q := by
  refine AMt.of (by decide) (Nat.le_of_ble_eq_true rfl) ?_
  show AW miX12_doOne (d + 7) (mxA Q) 0 [(0, some (.ref 132)), (1, some (.int (nI g)))] [] M
  obtain ⟨hR, k41, k39, k46⟩ : MW M (S, dr, mi, br, cr) ∧ M.1 132 41 = nI n ∧ M.1 132 39 = nI 0 ∧ M.1 132 46 = nI 0 := id hM
  obtain ⟨hF, hd9, hd0, hdr, z2, z4, z5⟩ : WF S ∧ S 0 1 ≤ 9999 ∧ S0 0 1 ≤ S 0 1 ∧ dr < 65536 ∧ S 0 2 = S0 0 2 ∧ S 0 4 = S0 0 4 ∧ S 0 5 = S0 0 5 := hG.1
  have hn3 : n ≤ 300 := hG.2.2.1
  have g42 : M.1 132 42 = nI mi := hR.2.2.1
  obtain ⟨s1, s2, s3, s4, s5, s6⟩ := id hst
  have hm := WF_m hF
  have hh := WF_h hF
  have hs := WF_s hF
  have hn := WF_n hF
  refine a_aload_n rfl dX12_doOne_0 ?_
  refine g_i k41 (by decide) rfl fX12_557 rfl dX12_doOne_1 ?_
  refine n_sipush 300 rfl dX12_doOne_4 ?_
  refine n_icmp_ne 21 (by omega) (by omega) dX12_doOne_7 (by decide) (fun h_7 => absurd h_7 (by omega)) (fun h_7 => ?_)
  refine a_aload_n rfl dX12_doOne_10 ?_
  refine n_iconst 1 rfl dX12_doOne_11 ?_
  refine a_putz dX12_doOne_12 pX12_560 (by decide) rfl rfl (Or.inr rfl) ?_
  refine a_aload_n rfl dX12_doOne_15 ?_
  refine n_iconst 1 rfl dX12_doOne_16 ?_
  refine a_puti dX12_doOne_17 pX12_563 (by decide) rfl rfl ?_
  refine a_vret dX12_doOne_20 rfl ?_
  exact hQ _ ⟨MW_o (MW_o hR hF (by omega)) hF (by omega), (siN (siN k41 (by omega)) (by omega)).trans (congrArg nI hn0), siN siS (by omega), siS⟩ ((fr.r.si (by unfold fqP; omega)).si (by unfold fqP; omega))

set_option maxRecDepth 100000 in
set_option maxHeartbeats 800000 in
theorem c_oneIn {M : Mm} {S S0 : ST} {dr mi br cr n : Nat} (hM : MF M ((S, dr, mi, br, cr), n, 0, 0)) (hG : GF S0 ((S, dr, mi, br, cr), n, 0, 0)) {s : Nat → Nat} {g nx : Nat} (hg : g ≤ 30) (hst : stM M s (92 + 9 * g) nx) (hok : okS S0 s) (hn0 : ¬ n = 300) (hv : s 0 ≤ 17) (b13 : s 0 = 13 → s 2 ≤ 40) (b14 : s 0 = 14 → s 2 ≤ 7) (b15 : s 0 = 15 → s 1 < S 0 2 ∧ s 2 ≤ 100) (b16 : s 0 = 16 → s 1 < S 0 4 ∧ s 2 < S 0 2) {Q : Option Value → Mm → Prop} (hQ : ∀ M', MF M' (vIn s (S, dr, mi, br, cr), n + 1, 0, 0) → FQ M M' → Q none M') (d : Nat) : AMt miX12_doOne (d + 7) [.ref 132, .int (nI g)] M Q := by
  refine AMt.of (by decide) (Nat.le_of_ble_eq_true rfl) ?_
  show AW miX12_doOne (d + 7) (mxA Q) 0 [(0, some (.ref 132)), (1, some (.int (nI g)))] [] M
  obtain ⟨hR, k41, k39, k46⟩ : MW M (S, dr, mi, br, cr) ∧ M.1 132 41 = nI n ∧ M.1 132 39 = nI 0 ∧ M.1 132 46 = nI 0 := id hM
  obtain ⟨hF, hd9, hd0, hdr, z2, z4, z5⟩ : WF S ∧ S 0 1 ≤ 9999 ∧ S0 0 1 ≤ S 0 1 ∧ dr < 65536 ∧ S 0 2 = S0 0 2 ∧ S 0 4 = S0 0 4 ∧ S 0 5 = S0 0 5 := hG.1
  have hn3 : n ≤ 300 := hG.2.2.1
  have g42 : M.1 132 42 = nI mi := hR.2.2.1
  obtain ⟨s1, s2, s3, s4, s5, s6⟩ := id hst
  have hm := WF_m hF
  have hh := WF_h hF
  have hs := WF_s hF
  have hn := WF_n hF
  have hs13 := hok.1
  refine a_aload_n rfl dX12_doOne_0 ?_
  refine g_i k41 (by decide) rfl fX12_557 rfl dX12_doOne_1 ?_
  refine n_sipush 300 rfl dX12_doOne_4 ?_
  refine n_icmp_ne 21 (by omega) (by omega) dX12_doOne_7 (by decide) (fun h_7 => ?_) (fun h_7 => absurd h_7 (by omega))
  refine a_aload_n rfl dX12_doOne_21 ?_
  refine a_dup rfl dX12_doOne_22 ?_
  refine g_i k41 (by decide) rfl fX12_557 rfl dX12_doOne_23 ?_
  refine n_iconst 1 rfl dX12_doOne_26 ?_
  refine n_iadd dX12_doOne_27 ?_
  refine a_puti dX12_doOne_28 pX12_557 (by decide) rfl rfl ?_
  refine n_bipush 92 rfl dX12_doOne_31 ?_
  refine n_bipush 9 rfl dX12_doOne_33 ?_
  refine a_iload_n rfl dX12_doOne_35 ?_
  refine n_imul dX12_doOne_36 ?_
  refine n_iadd dX12_doOne_37 ?_
  refine a_istore_n (by decide) rfl dX12_doOne_38 ?_
  refine a_aload_n rfl dX12_doOne_39 ?_
  refine a_geta dX12_doOne_40 fX12_35 (by decide) rfl rfl ?_
  refine a_iload_n rfl dX12_doOne_43 ?_
  refine v_iald (by omega) (siN (s1.trans (congrArg nI (show vkN (s 0) = s 0 - 13 by unfold vkN; rw [if_neg (by omega), if_neg (by omega)]))) (by omega)) (by decide) rfl (by decide) dX12_doOne_44 ?_
  refine a_istore_n (by decide) rfl dX12_doOne_45 ?_
  refine a_iload_n rfl dX12_doOne_46 ?_
  refine n_iconst 5 rfl dX12_doOne_47 ?_
  refine n_icmp_ge 76 (by omega) (by omega) dX12_doOne_48 (by decide) (fun h_48 => absurd h_48 (by omega)) (fun h_48 => ?_)
  refine a_aload_n rfl dX12_doOne_51 ?_
  refine a_dup rfl dX12_doOne_52 ?_
  refine g_i (siN g42 (by omega)) (by decide) rfl fX12_566 rfl dX12_doOne_53 ?_
  refine a_aload_n rfl dX12_doOne_56 ?_
  refine a_iload_n rfl dX12_doOne_57 ?_
  refine n_callV (mi' := miX12_does) dX12_doOne_58 lX12_569 mX12_does (by decide) rfl rfl rfl (c_doesV (MW_o hR hF (Or.inr (Or.inl rfl))) hF hd9 hdr (by omega) ⟨hok.1, hv⟩ ((siN s1 (by omega)).trans (congrArg nI (by unfold vkN; rw [if_neg (by omega), if_neg (by omega)]))) (fun q => siN (s2 q) (by omega)) (fun q => siN (s3 q) (by omega)) (fun q => siN (s4 q) (by omega)) b13 b14 b15 b16 (fun M_58 hr_58 hf_58 => ?_) (fun M_58 R_58 hr_58 he_58 hf_58 => ?_) d) rfl rfl (by omega) (by decide) (Nat.le_of_ble_eq_true rfl)
  · show AW _ _ _ _ _ _ _
    have h42 : M_58.1 132 42 = nI mi := ((hf_58 132 42 (by unfold fmP; omega)).1).trans (siN g42 (by omega))
    refine n_if_eq 68 (by decide) dX12_doOne_61 (by decide) (fun h => absurd h (by decide)) (fun _ => ?_)
    refine n_iconst 0 rfl dX12_doOne_64 ?_
    refine a_goto 69 dX12_doOne_65 (by decide) ?_
    refine n_iadd dX12_doOne_69 ?_
    refine a_puti dX12_doOne_70 pX12_566 (by decide) rfl rfl ?_
    refine a_goto 173 dX12_doOne_73 (by decide) ?_
    refine a_vret dX12_doOne_173 rfl ?_
    have hwf : WF (vIn s (S, dr, mi, br, cr)).1 := (GR_in hG.1 hok).1
    exact hQ _ ⟨MW_put0 hr_58 hwf h42, (siN (((hf_58 132 41 (by unfold fmP; omega)).1).trans siS) (by omega)), (siN (((hf_58 132 39 (by unfold fmP; omega)).1).trans (siN k39 (by omega))) (by omega)), (siN (((hf_58 132 46 (by unfold fmP; omega)).1).trans (siN k46 (by omega))) (by omega))⟩ (((fr.r.si (by unfold fqP; omega)).t (hf_58.mo (fun k j h => fm_fq h))).si (by unfold fqP; omega))
  · show AW _ _ _ _ _ _ _
    have h42 : M_58.1 132 42 = nI mi := ((hf_58 132 42 (by unfold fmP; omega)).1).trans (siN g42 (by omega))
    refine n_if_eq 68 (by decide) dX12_doOne_61 (by decide) (fun _ => ?_) (fun h => absurd h (by decide))
    refine n_iconst 1 rfl dX12_doOne_68 ?_
    refine n_iadd dX12_doOne_69 ?_
    refine a_puti dX12_doOne_70 pX12_566 (by decide) rfl rfl ?_
    refine a_goto 173 dX12_doOne_73 (by decide) ?_
    refine a_vret dX12_doOne_173 rfl ?_
    have hwf : WF (vIn s (S, dr, mi, br, cr)).1 := (GR_in hG.1 hok).1
    have hw1 : WF R_58.1 := by rw [← he_58] at hwf; exact hwf
    exact hQ _ ⟨he_58 ▸ MW_put1 hr_58 hw1 h42, (siN (((hf_58 132 41 (by unfold fmP; omega)).1).trans siS) (by omega)), (siN (((hf_58 132 39 (by unfold fmP; omega)).1).trans (siN k39 (by omega))) (by omega)), (siN (((hf_58 132 46 (by unfold fmP; omega)).1).trans (siN k46 (by omega))) (by omega))⟩ (((fr.r.si (by unfold fqP; omega)).t (hf_58.mo (fun k j h => fm_fq h))).si (by unfold fqP; omega))

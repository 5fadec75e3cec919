set_option maxRecDepth 100000 in
set_option maxHeartbeats 800000 in
theorem c_one24 {M : Mm} {S S0 : ST} {dr mi br cr n : Nat} (hM : MF M ((S, dr, mi, br, cr), n, 0, 0)) (hG : GF S0 ((S, dr, mi, br, cr), n, 0, 0)) {s : Nat → Nat} {g nx : Nat} (hg : g ≤ 30) (hst : stM M s (92 + 9 * g) nx) (hok : okS S0 s) (hn0 : ¬ n = 300) (hv : s 0 = 24) {Q : Option Value → Mm → Prop} (hQ : ∀ M', MF M' ((S, dr, mi, br, cr), n + 1, 1, 0) → FQ M M' → Q none M') (d : Nat) : AMt miX12_doOne (d + 7) [.ref 132, .int (nI g)] M Q := by
  refine AMt.of (by decide) (Nat.le_of_ble_eq_true rfl) ?_
  show AW miX12_doOne (d + 7) (mxA Q) 0 [(0, some (.ref 132)), (1, some (.int (nI g)))] [] M
  obtain ⟨hR, k41, k39, k46⟩ : MW M (S, dr, mi, br, cr) ∧ M.1 132 41 = nI n ∧ M.1 132 39 = nI 0 ∧ M.1 132 46 = nI 0 := id hM
  obtain ⟨hF, hd9, hd0, hdr, z2, z4, z5⟩ : WF S ∧ S 0 1 ≤ 9999 ∧ S0 0 1 ≤ S 0 1 ∧ dr < 65536 ∧ S 0 2 = S0 0 2 ∧ S 0 4 = S0 0 4 ∧ S 0 5 = S0 0 5 := hG.1
  have hn3 : n ≤ 300 := hG.2.2.1
  have g42 : M.1 132 42 = nI mi := hR.2.2.1
  obtain ⟨s1, s2, s3, s4, s5, s6⟩ := id hst
  have hm := WF_m hF
  have hh := WF_h hF
  have hs := WF_s hF
  have hn := WF_n hF
  refine a_aload_n rfl dX12_doOne_0 ?_
  refine g_i k41 (by decide) rfl fX12_557 rfl dX12_doOne_1 ?_
  refine n_sipush 300 rfl dX12_doOne_4 ?_
  refine n_icmp_ne 21 (by omega) (by omega) dX12_doOne_7 (by decide) (fun h_7 => ?_) (fun h_7 => absurd h_7 (by omega))
  refine a_aload_n rfl dX12_doOne_21 ?_
  refine a_dup rfl dX12_doOne_22 ?_
  refine g_i k41 (by decide) rfl fX12_557 rfl dX12_doOne_23 ?_
  refine n_iconst 1 rfl dX12_doOne_26 ?_
  refine n_iadd dX12_doOne_27 ?_
  refine a_puti dX12_doOne_28 pX12_557 (by decide) rfl rfl ?_
  refine n_bipush 92 rfl dX12_doOne_31 ?_
  refine n_bipush 9 rfl dX12_doOne_33 ?_
  refine a_iload_n rfl dX12_doOne_35 ?_
  refine n_imul dX12_doOne_36 ?_
  refine n_iadd dX12_doOne_37 ?_
  refine a_istore_n (by decide) rfl dX12_doOne_38 ?_
  refine a_aload_n rfl dX12_doOne_39 ?_
  refine a_geta dX12_doOne_40 fX12_35 (by decide) rfl rfl ?_
  refine a_iload_n rfl dX12_doOne_43 ?_
  refine v_iald (by omega) (siN (s1.trans (congrArg nI (show vkN (s 0) = 7 by rw [hv]; rfl))) (by omega)) (by decide) rfl (by decide) dX12_doOne_44 ?_
  refine a_istore_n (by decide) rfl dX12_doOne_45 ?_
  refine a_iload_n rfl dX12_doOne_46 ?_
  refine n_iconst 5 rfl dX12_doOne_47 ?_
  refine n_icmp_ge 76 (by omega) (by omega) dX12_doOne_48 (by decide) (fun h_48 => ?_) (fun h_48 => absurd h_48 (by omega))
  refine a_iload_n rfl dX12_doOne_76 ?_
  refine n_iconst 5 rfl dX12_doOne_77 ?_
  refine n_icmp_ne 108 (by omega) (by omega) dX12_doOne_78 (by decide) (fun h_78 => ?_) (fun h_78 => absurd h_78 (by omega))
  refine a_iload_n rfl dX12_doOne_108 ?_
  refine n_bipush 6 rfl dX12_doOne_109 ?_
  refine n_icmp_ne 162 (by omega) (by omega) dX12_doOne_111 (by decide) (fun h_111 => ?_) (fun h_111 => absurd h_111 (by omega))
  refine a_iload_n rfl dX12_doOne_162 ?_
  refine n_bipush 6 rfl dX12_doOne_163 ?_
  refine n_icmp_le 173 (by omega) (by omega) dX12_doOne_165 (by decide) (fun h_165 => absurd h_165 (by omega)) (fun h_165 => ?_)
  refine a_aload_n rfl dX12_doOne_168 ?_
  refine n_iconst 1 rfl dX12_doOne_169 ?_
  refine a_putz dX12_doOne_170 pX12_560 (by decide) rfl rfl (Or.inr rfl) ?_
  refine a_vret dX12_doOne_173 rfl ?_
  exact hQ _ ⟨MW_o (MW_o hR hF (Or.inr (Or.inl rfl))) hF (by omega), siN siS (by omega), siS, siN (siN k46 (by omega)) (by omega)⟩ ((fr.r.si (by unfold fqP; omega)).si (by unfold fqP; omega))

set_option maxRecDepth 100000 in
set_option maxHeartbeats 800000 in
theorem c_one18 {M : Mm} {S S0 : ST} {dr mi br cr n : Nat} (hM : MF M ((S, dr, mi, br, cr), n, 0, 0)) (hG : GF S0 ((S, dr, mi, br, cr), n, 0, 0)) {s : Nat → Nat} {g nx : Nat} (hg : g ≤ 30) (hst : stM M s (92 + 9 * g) nx) (hok : okS S0 s) (hn0 : ¬ n = 300) (hv : s 0 = 18) (hs3 : 19 ≤ s 3 ∧ s 3 ≤ 21) (hm20 : s 3 = 20 → s 1 < S 0 2) (hm19 : s 3 ≠ 20 → s 1 < S 0 4) (hs2 : s 3 = 21 → s 2 ≤ 99) (hs4 : s 3 = 21 → s 4 = 60 ∨ s 4 = 61 ∨ s 4 = 62) {dd : Nat} (hdd : 9 ≤ dd) {F2 : FN} (ih : ∀ {M2 : Mm}, MF M2 ((S, dr, mi, br, cr), n + 1, 0, 0) → FQ M M2 → ∀ {Q : Option Value → Mm → Prop}, (∀ M', MF M' F2 → FQ M2 M' → Q none M') → ∀ d, AMt miX12_doAll (d + dd) [.ref 132, .int (nI (g + 1)), .int (nI nx)] M2 Q) {Q : Option Value → Mm → Prop} (hQ : ∀ M', MF M' (if soN S s = true then F2 else ((S, dr, mi, br, cr), n + 1, 0, 0)) → FQ M M' → Q none M') (d : Nat) : AMt miX12_doOne (d + dd + 1) [.ref 132, .int (nI g)] M Q := by
  refine AMt.of (by decide) (Nat.le_of_ble_eq_true rfl) ?_
  show AW miX12_doOne (d + dd + 1) (mxA Q) 0 [(0, some (.ref 132)), (1, some (.int (nI g)))] [] M
  obtain ⟨hR, k41, k39, k46⟩ : MW M (S, dr, mi, br, cr) ∧ M.1 132 41 = nI n ∧ M.1 132 39 = nI 0 ∧ M.1 132 46 = nI 0 := id hM
  obtain ⟨hF, hd9, hd0, hdr, z2, z4, z5⟩ : WF S ∧ S 0 1 ≤ 9999 ∧ S0 0 1 ≤ S 0 1 ∧ dr < 65536 ∧ S 0 2 = S0 0 2 ∧ S 0 4 = S0 0 4 ∧ S 0 5 = S0 0 5 := hG.1
  have hn3 : n ≤ 300 := hG.2.2.1
  have g42 : M.1 132 42 = nI mi := hR.2.2.1
  obtain ⟨s1, s2, s3, s4, s5, s6⟩ := id hst
  have hm := WF_m hF
  have hh := WF_h hF
  have hs := WF_s hF
  have hn := WF_n hF
  have hh1 := s3 (Or.inr (Or.inr hv))
  obtain ⟨hh5, hh6⟩ := s5 hv
  have hM1 : MF (siM M 132 41 (nI (n + 1))) ((S, dr, mi, br, cr), n + 1, 0, 0) := ⟨(MW_o hR hF (Or.inr (Or.inl rfl))), siS, siN k39 (by omega), siN k46 (by omega)⟩
  refine a_aload_n rfl dX12_doOne_0 ?_
  refine g_i k41 (by decide) rfl fX12_557 rfl dX12_doOne_1 ?_
  refine n_sipush 300 rfl dX12_doOne_4 ?_
  refine n_icmp_ne 21 (by omega) (by omega) dX12_doOne_7 (by decide) (fun h_7 => ?_) (fun h_7 => absurd h_7 (by omega))
  refine a_aload_n rfl dX12_doOne_21 ?_
  refine a_dup rfl dX12_doOne_22 ?_
  refine g_i k41 (by decide) rfl fX12_557 rfl dX12_doOne_23 ?_
  refine n_iconst 1 rfl dX12_doOne_26 ?_
  refine n_iadd dX12_doOne_27 ?_
  refine a_puti dX12_doOne_28 pX12_557 (by decide) rfl rfl ?_
  refine n_bipush 92 rfl dX12_doOne_31 ?_
  refine n_bipush 9 rfl dX12_doOne_33 ?_
  refine a_iload_n rfl dX12_doOne_35 ?_
  refine n_imul dX12_doOne_36 ?_
  refine n_iadd dX12_doOne_37 ?_
  refine a_istore_n (by decide) rfl dX12_doOne_38 ?_
  refine a_aload_n rfl dX12_doOne_39 ?_
  refine a_geta dX12_doOne_40 fX12_35 (by decide) rfl rfl ?_
  refine a_iload_n rfl dX12_doOne_43 ?_
  refine v_iald (by omega) (siN (s1.trans (congrArg nI (show vkN (s 0) = 5 by rw [hv]; rfl))) (by omega)) (by decide) rfl (by decide) dX12_doOne_44 ?_
  refine a_istore_n (by decide) rfl dX12_doOne_45 ?_
  refine a_iload_n rfl dX12_doOne_46 ?_
  refine n_iconst 5 rfl dX12_doOne_47 ?_
  refine n_icmp_ge 76 (by omega) (by omega) dX12_doOne_48 (by decide) (fun h_48 => ?_) (fun h_48 => absurd h_48 (by omega))
  refine a_iload_n rfl dX12_doOne_76 ?_
  refine n_iconst 5 rfl dX12_doOne_77 ?_
  refine n_icmp_ne 108 (by omega) (by omega) dX12_doOne_78 (by decide) (fun h_78 => absurd h_78 (by omega)) (fun h_78 => ?_)
  refine a_aload_n rfl dX12_doOne_81 ?_
  refine a_iload_n rfl dX12_doOne_82 ?_
  refine n_callV (mi' := miX12_holds) dX12_doOne_83 lX12_572 mX12_holds (by decide) rfl rfl rfl (c_X12_holds (s := s) hM1.1.1 hF (by omega) (siN hh1 (by omega)) (siN hh5 (by omega)) (fun q => ⟨siN (hh6 q).1 (by omega), siN (hh6 q).2 (by omega)⟩) hs3 hm20 hm19 hs2 hs4 (fun h_83 => ?_) (fun h_83 => ?_) d) rfl rfl (by omega) (by decide) (Nat.le_of_ble_eq_true rfl)
  · show AW _ _ _ _ _ _ _
    refine n_if_eq 108 (by decide) dX12_doOne_86 (by decide) (fun h => absurd h (by decide)) (fun _ => ?_)
    refine a_aload_n rfl dX12_doOne_89 ?_
    refine a_iload_n rfl dX12_doOne_90 ?_
    refine n_iconst 1 rfl dX12_doOne_91 ?_
    refine n_iadd dX12_doOne_92 ?_
    refine a_aload_n rfl dX12_doOne_93 ?_
    refine a_geta dX12_doOne_94 fX12_35 (by decide) rfl rfl ?_
    refine a_iload_n rfl dX12_doOne_97 ?_
    refine n_bipush 8 rfl dX12_doOne_98 ?_
    refine n_iadd dX12_doOne_100 ?_
    refine v_iald (by omega) (siN s6 (by omega)) (by decide) rfl (by decide) dX12_doOne_101 ?_
    refine n_callV (mi' := miX12_doAll) dX12_doOne_102 lX12_575 mX12_doAll (by decide) rfl rfl rfl (ih hM1 (fr.r.si (by unfold fqP; omega)) (fun M_102 hm_102 hf_102 => ?_) d) rfl rfl (by omega) (by decide) (Nat.le_of_ble_eq_true rfl)
    show AW _ _ _ _ _ _ _
    refine a_goto 173 dX12_doOne_105 (by decide) ?_
    refine a_vret dX12_doOne_173 rfl ?_
    exact hQ _ (by rw [if_pos h_83]; exact hm_102) ((fr.r.si (by unfold fqP; omega)).t hf_102)
  · show AW _ _ _ _ _ _ _
    refine n_if_eq 108 (by decide) dX12_doOne_86 (by decide) (fun _ => ?_) (fun h => absurd h (by decide))
    refine a_iload_n rfl dX12_doOne_108 ?_
    refine n_bipush 6 rfl dX12_doOne_109 ?_
    refine n_icmp_ne 162 (by omega) (by omega) dX12_doOne_111 (by decide) (fun h_111 => ?_) (fun h_111 => absurd h_111 (by omega))
    refine a_iload_n rfl dX12_doOne_162 ?_
    refine n_bipush 6 rfl dX12_doOne_163 ?_
    refine n_icmp_le 173 (by omega) (by omega) dX12_doOne_165 (by decide) (fun h_165 => ?_) (fun h_165 => absurd h_165 (by omega))
    refine a_vret dX12_doOne_173 rfl ?_
    exact hQ _ (by rw [if_neg (by rw [h_83]; exact Bool.false_ne_true)]; exact hM1) (fr.r.si (by unfold fqP; omega))

theorem itN_over {f : FN → FN} {F : FN} {i : Nat} (h : ¬ (itN f i F).2.2.1 = 0) : ∀ {n : Nat}, i ≤ n → itN f n F = itN f i F
  | 0, hn => by rw [show i = 0 by omega]
  | n + 1, hn => by
    by_cases e : i = n + 1
    · rw [e]
    · have ih := itN_over h (n := n) (by omega)
      rw [itN, ih, if_neg h]
theorem itN_s {f : FN → FN} {F : FN} {i : Nat} (h : (itN f i F).2.2.1 = 0) : itN f (i + 1) F = f (itN f i F) := by rw [itN, if_pos h]

set_option maxRecDepth 100000 in
set_option maxHeartbeats 800000 in
theorem c_one22 {M : Mm} {S S0 : ST} {dr mi br cr n : Nat} (hM : MF M ((S, dr, mi, br, cr), n, 0, 0)) (hG : GF S0 ((S, dr, mi, br, cr), n, 0, 0)) {s : Nat → Nat} {g nx : Nat} (hg : g ≤ 30) (hst : stM M s (92 + 9 * g) nx) (hok : okS S0 s) (hn0 : ¬ n = 300) (hv : s 0 = 22) (h299 : s 2 ≤ 99) {dd : Nat} (hdd : 9 ≤ dd) {f : FN → FN} (hf : ∀ F, GF S0 F → F.2.2.1 = 0 → GF S0 (f F) ∧ F.2.1 ≤ (f F).2.1) (ih : ∀ {M2 : Mm} {F : FN}, MF M2 F → GF S0 F → FQ M M2 → ∀ {Q : Option Value → Mm → Prop}, (∀ M', MF M' (f F) → FQ M2 M' → Q none M') → ∀ d, AMt miX12_doAll (d + dd) [.ref 132, .int (nI (g + 1)), .int (nI nx)] M2 Q) {Q : Option Value → Mm → Prop} (hQ : ∀ M', MF M' (itN f (s 2) ((S, dr, mi, br, cr), n + 1, 0, 0)) → FQ M M' → Q none M') (d : Nat) : AMt miX12_doOne (d + dd + 1) [.ref 132, .int (nI g)] M Q := by
  refine AMt.of (by decide) (Nat.le_of_ble_eq_true rfl) ?_
  show AW miX12_doOne (d + dd + 1) (mxA Q) 0 [(0, some (.ref 132)), (1, some (.int (nI g)))] [] M
  obtain ⟨hR, k41, k39, k46⟩ : MW M (S, dr, mi, br, cr) ∧ M.1 132 41 = nI n ∧ M.1 132 39 = nI 0 ∧ M.1 132 46 = nI 0 := id hM
  obtain ⟨hF, hd9, hd0, hdr, z2, z4, z5⟩ : WF S ∧ S 0 1 ≤ 9999 ∧ S0 0 1 ≤ S 0 1 ∧ dr < 65536 ∧ S 0 2 = S0 0 2 ∧ S 0 4 = S0 0 4 ∧ S 0 5 = S0 0 5 := hG.1
  have hn3 : n ≤ 300 := hG.2.2.1
  have g42 : M.1 132 42 = nI mi := hR.2.2.1
  obtain ⟨s1, s2, s3, s4, s5, s6⟩ := id hst
  have hm := WF_m hF
  have hh := WF_h hF
  have hs := WF_s hF
  have hn := WF_n hF
  have hh1 := s2 (Or.inr (Or.inr hv))
  have hM1 : MF (siM M 132 41 (nI (n + 1))) ((S, dr, mi, br, cr), n + 1, 0, 0) := ⟨(MW_o hR hF (Or.inr (Or.inl rfl))), siS, siN k39 (by omega), siN k46 (by omega)⟩
  have hG1 : GF S0 ((S, dr, mi, br, cr), n + 1, 0, 0) := GF_s1 hG hn0
  refine a_aload_n rfl dX12_doOne_0 ?_
  refine g_i k41 (by decide) rfl fX12_557 rfl dX12_doOne_1 ?_
  refine n_sipush 300 rfl dX12_doOne_4 ?_
  refine n_icmp_ne 21 (by omega) (by omega) dX12_doOne_7 (by decide) (fun h_7 => ?_) (fun h_7 => absurd h_7 (by omega))
  refine a_aload_n rfl dX12_doOne_21 ?_
  refine a_dup rfl dX12_doOne_22 ?_
  refine g_i k41 (by decide) rfl fX12_557 rfl dX12_doOne_23 ?_
  refine n_iconst 1 rfl dX12_doOne_26 ?_
  refine n_iadd dX12_doOne_27 ?_
  refine a_puti dX12_doOne_28 pX12_557 (by decide) rfl rfl ?_
  refine n_bipush 92 rfl dX12_doOne_31 ?_
  refine n_bipush 9 rfl dX12_doOne_33 ?_
  refine a_iload_n rfl dX12_doOne_35 ?_
  refine n_imul dX12_doOne_36 ?_
  refine n_iadd dX12_doOne_37 ?_
  refine a_istore_n (by decide) rfl dX12_doOne_38 ?_
  refine a_aload_n rfl dX12_doOne_39 ?_
  refine a_geta dX12_doOne_40 fX12_35 (by decide) rfl rfl ?_
  refine a_iload_n rfl dX12_doOne_43 ?_
  refine v_iald (by omega) (siN (s1.trans (congrArg nI (show vkN (s 0) = 6 by rw [hv]; rfl))) (by omega)) (by decide) rfl (by decide) dX12_doOne_44 ?_
  refine a_istore_n (by decide) rfl dX12_doOne_45 ?_
  refine a_iload_n rfl dX12_doOne_46 ?_
  refine n_iconst 5 rfl dX12_doOne_47 ?_
  refine n_icmp_ge 76 (by omega) (by omega) dX12_doOne_48 (by decide) (fun h_48 => ?_) (fun h_48 => absurd h_48 (by omega))
  refine a_iload_n rfl dX12_doOne_76 ?_
  refine n_iconst 5 rfl dX12_doOne_77 ?_
  refine n_icmp_ne 108 (by omega) (by omega) dX12_doOne_78 (by decide) (fun h_78 => ?_) (fun h_78 => absurd h_78 (by omega))
  refine a_iload_n rfl dX12_doOne_108 ?_
  refine n_bipush 6 rfl dX12_doOne_109 ?_
  refine n_icmp_ne 162 (by omega) (by omega) dX12_doOne_111 (by decide) (fun h_111 => absurd h_111 (by omega)) (fun h_111 => ?_)
  refine n_iconst 0 rfl dX12_doOne_114 ?_
  refine a_istore (by decide) rfl dX12_doOne_115 ?_
  have loop_117 : ∀ i, i ≤ s 2 → ∀ M1, (MF M1 (itN f i ((S, dr, mi, br, cr), n + 1, 0, 0)) ∧ FQ M M1) → AW miX12_doOne (d + dd + 1) (mxA Q) 117 [(0, some (.ref 132)), (1, some (.int (nI g))), (2, some (.int (nI (92 + (9 * g))))), (3, some (.int (nI 6))), (4, some (.int (nI i)))] [] M1 := by
    refine up (W := fun i => ∀ M1, (MF M1 (itN f i ((S, dr, mi, br, cr), n + 1, 0, 0)) ∧ FQ M M1) → AW miX12_doOne (d + dd + 1) (mxA Q) 117 [(0, some (.ref 132)), (1, some (.int (nI g))), (2, some (.int (nI (92 + (9 * g))))), (3, some (.int (nI 6))), (4, some (.int (nI i)))] [] M1) (s 2) (fun M1 hI_117 => ?_) (fun i hi_117 ih_117 M1 hI_117 => ?_)
    · refine a_iload rfl dX12_doOne_117 ?_
      refine a_aload_n rfl dX12_doOne_119 ?_
      refine a_geta dX12_doOne_120 fX12_35 (by decide) rfl rfl ?_
      refine a_iload_n rfl dX12_doOne_123 ?_
      refine n_iconst 1 rfl dX12_doOne_124 ?_
      refine n_iadd dX12_doOne_125 ?_
      refine v_iald (by omega) ((hI_117.2 137 _ (by unfold fqP; omega)).1.trans hh1) (by decide) rfl (by decide) dX12_doOne_126 ?_
      refine n_icmp_ge 159 (by omega) (by omega) dX12_doOne_127 (by decide) (fun h_127 => ?_) (fun h_127 => absurd h_127 (by omega))
      refine a_goto 173 dX12_doOne_159 (by decide) ?_
      refine a_vret dX12_doOne_173 rfl ?_
      exact hQ _ hI_117.1 hI_117.2
    · have hov : (itN f i ((S, dr, mi, br, cr), n + 1, 0, 0)).2.2.1 ≤ 1 := (GF_it hf i hG1).1.2.2.2.1
      refine a_iload rfl dX12_doOne_117 ?_
      refine a_aload_n rfl dX12_doOne_119 ?_
      refine a_geta dX12_doOne_120 fX12_35 (by decide) rfl rfl ?_
      refine a_iload_n rfl dX12_doOne_123 ?_
      refine n_iconst 1 rfl dX12_doOne_124 ?_
      refine n_iadd dX12_doOne_125 ?_
      refine v_iald (by omega) ((hI_117.2 137 _ (by unfold fqP; omega)).1.trans hh1) (by decide) rfl (by decide) dX12_doOne_126 ?_
      refine n_icmp_ge 159 (by omega) (by omega) dX12_doOne_127 (by decide) (fun h_127 => absurd h_127 (by omega)) (fun h_127 => ?_)
      refine a_aload_n rfl dX12_doOne_130 ?_
      refine g_i hI_117.1.2.2.1 (by decide) rfl fX12_560 rfl dX12_doOne_131 ?_
      refine n_if_ne 159 (by omega) dX12_doOne_134 (by decide) (fun h_134 => ?_) (fun h_134 => ?_)
      · refine a_goto 173 dX12_doOne_159 (by decide) ?_
        refine a_vret dX12_doOne_173 rfl ?_
        exact hQ _ (by rw [itN_over h_134 (n := s 2) (by omega)]; exact hI_117.1) hI_117.2
      · refine a_aload_n rfl dX12_doOne_137 ?_
        refine a_iload_n rfl dX12_doOne_138 ?_
        refine n_iconst 1 rfl dX12_doOne_139 ?_
        refine n_iadd dX12_doOne_140 ?_
        refine a_aload_n rfl dX12_doOne_141 ?_
        refine a_geta dX12_doOne_142 fX12_35 (by decide) rfl rfl ?_
        refine a_iload_n rfl dX12_doOne_145 ?_
        refine n_bipush 8 rfl dX12_doOne_146 ?_
        refine n_iadd dX12_doOne_148 ?_
        refine v_iald (by omega) ((hI_117.2 137 _ (by unfold fqP; omega)).1.trans s6) (by decide) rfl (by decide) dX12_doOne_149 ?_
        refine n_callV (mi' := miX12_doAll) dX12_doOne_150 lX12_575 mX12_doAll (by decide) rfl rfl rfl (ih hI_117.1 (GF_it hf i hG1).1 hI_117.2 (fun M_150 hm_150 hf_150 => ?_) d) rfl rfl (by omega) (by decide) (Nat.le_of_ble_eq_true rfl)
        show AW _ _ _ _ _ _ _
        refine n_iinc (c := 1) rfl rfl (by decide) rfl dX12_doOne_153 ?_
        refine a_goto 117 dX12_doOne_156 (by decide) ?_
        exact a_bk (ih_117 _ ⟨by rw [itN_s h_134]; exact hm_150, hI_117.2.t hf_150⟩) ⟨rfl, rfl, rfl, rfl, rfl, trivial⟩
  exact a_bk (loop_117 0 (by omega) _ ⟨hM1, (fr.r.si (by unfold fqP; omega))⟩) ⟨rfl, rfl, rfl, rfl, rfl, trivial⟩

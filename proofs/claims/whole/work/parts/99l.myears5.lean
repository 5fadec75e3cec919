set_option maxRecDepth 100000 in
set_option maxHeartbeats 800000 in
theorem c_X12_readStep {M : Mm} {D : Nat → Nat} {n : Nat} (hDl : ∀ j, D j < 256) (hn : n ≤ 900) (h3 : n ≤ 300) {S : ST} {N : NM} (hF : WF S) {R : YS} {g : Nat} {x : YS} {k e : Nat} (heg : e + g = 3) (ih : ∀ g', g = g' + 1 → ∀ {M1 : Mm} {x1 : YS} {k1 : Nat} {Q1 : Option Value → Mm → Prop}, MYS M1 D n S N R k1 x1 → x1.1.2.1 = 0 → x1.2.2.1 = e + 1 → ¬ (yv (tkN D n) x1.1 = 23 ∧ 0 < e + 1) → (kd (tkN D n) x1.1 ≠ 0 ∨ 0 < e + 1) → VM 0 M1 S → VNM 0 M1 S N → (∀ M' x' k', MYS M' D n S N R k' x' → k1 < k' → (x'.1.2.1 = 0 → x'.2.2.1 = e + 1 ∧ yext x1 x') → fr yzP M1 M' → Q1 none M') → ∀ d, AMt miX12_readStep (d + g' + 9) [.ref 132, .int (nI (e + 1))] M1 Q1) (hX : MYS M D n S N R k x) (h0 : x.1.2.1 = 0) (he : x.2.2.1 = e) (hne : ¬ (yv (tkN D n) x.1 = 23 ∧ 0 < e)) (hkd : kd (tkN D n) x.1 ≠ 0 ∨ 0 < e) (hM : VM 0 M S) (hN : VNM 0 M S N) {Q : Option Value → Mm → Prop} (hQ : (∀ M' x' k', MYS M' D n S N R k' x' → k < k' → (x'.1.2.1 = 0 → x'.2.2.1 = e ∧ yext x x') → fr yzP M M' → Q none M')) (d : Nat) : AMt miX12_readStep (d + g + 9) [.ref 132, .int (nI e)] M Q := by
  refine AMt.of (by decide) (Nat.le_of_ble_eq_true rfl) ?_
  show AW miX12_readStep (d + g + 9) (mxA Q) 0 [(0, some (.ref 132)), (1, some (.int (nI e)))] [] M
  obtain ⟨nn, hnn⟩ : ∃ nn, scN x.2.1.2 x.2.1.1 = nn := ⟨_, rfl⟩
  have h25x : M.1 132 25 = nI nn := by rw [← hnn]; exact (hX.2.1 h0).1.1
  have hn30 : nn ≤ 30 := by rw [← hnn]; exact (hX.2.1 h0).2.1.1.2.1
  have hbad : M.1 132 12 = nI 0 := by rw [← h0]; exact hX.1.2.2.1
  obtain ⟨pp, hpp⟩ : ∃ pp, pp = (tkN D n x.1.1).2.1 := ⟨_, rfl⟩
  have hat : M.1 132 15 = nI pp := by rw [hpp]; exact hX.1.2.1.2.1
  have hp9 : pp ≤ 900 := by rw [hpp]; exact (tkN_G (D := D) hn x.1.1).2.1
  have hmay : ∀ v, yMay v x.2.2.1 → v = 23 ∧ 0 < e ∨ yStp v := fun v q => by rw [he] at q; exact q
  refine a_aload_n rfl dX12_readStep_0 ?_
  refine n_callV (mi' := miX12_stepWord) dX12_readStep_1 lX12_199 mX12_stepWord (by decide) rfl rfl rfl (c_X12_stepWord hDl hn hX.1 (fun v_1 h_1 k_1 => ?_) (fun k_1 => ?_) d) rfl rfl (by omega) (by decide) (Nat.le_of_ble_eq_true rfl)
  · show AW _ _ _ _ _ _ _
    have hyv : yv (tkN D n) x.1 = vkw v_1 := (yv_i (by have := vkw_i h_1; clear hX hkd hne hpp ih; omega)).mp k_1
    have hk1 : kd (tkN D n) x.1 = 1 := (isK_i.mp k_1).1
    have hwi := vkw_i h_1
    have hst : yStp (vkw v_1) := by clear hX hkd hne hpp ih; omega
    have hop : yOp (vkw v_1) ↔ v_1 = 5 ∨ v_1 = 6 := by clear hX hkd hne hpp ih; omega
    refine a_istore_n (by decide) rfl dX12_readStep_4 ?_
    refine a_iload_n rfl dX12_readStep_5 ?_
    refine n_iconst 5 rfl dX12_readStep_6 ?_
    refine n_icmp_eq 16 (by omega) (by omega) dX12_readStep_7 (by decide) (fun h_7 => ?_) (fun h_7 => ?_)
    · refine n_iconst 1 rfl dX12_readStep_16 ?_
      refine a_goto 21 dX12_readStep_17 (by decide) ?_
      refine a_istore_n (by decide) rfl dX12_readStep_21 ?_
      refine a_iload_n rfl dX12_readStep_22 ?_
      refine n_if_ge 30 (by omega) dX12_readStep_23 (by decide) ?_
      refine a_aload_n rfl dX12_readStep_30 ?_
      refine g_i hbad (by decide) rfl fX12_212 rfl dX12_readStep_31 ?_
      refine n_if_ne 56 (by decide) dX12_readStep_34 (by decide) (fun h => absurd h (by decide)) (fun _ => ?_)
      refine a_aload_n rfl dX12_readStep_37 ?_
      refine g_i h25x (by decide) rfl fX12_319 rfl dX12_readStep_38 ?_
      refine n_bipush 30 rfl dX12_readStep_41 ?_
      refine n_icmp_ne 56 (by omega) (by omega) dX12_readStep_43 (by decide) (fun h_43 => ?_) (fun h_43 => ?_)
      · refine a_aload_n rfl dX12_readStep_56 ?_
        refine g_i hbad (by decide) rfl fX12_212 rfl dX12_readStep_57 ?_
        refine n_if_ne 82 (by decide) dX12_readStep_60 (by decide) (fun h => absurd h (by decide)) (fun _ => ?_)
        refine a_iload_n rfl dX12_readStep_63 ?_
        refine n_if_eq 82 (by decide) dX12_readStep_64 (by decide) (fun h => absurd h (by decide)) (fun _ => ?_)
        refine a_iload_n rfl dX12_readStep_67 ?_
        refine n_iconst 3 rfl dX12_readStep_68 ?_
        refine n_icmp_ne 82 (by omega) (by omega) dX12_readStep_69 (by decide) (fun h_69 => ?_) (fun h_69 => ?_)
        · refine a_aload_n rfl dX12_readStep_82 ?_
          refine g_i hbad (by decide) rfl fX12_212 rfl dX12_readStep_83 ?_
          refine n_if_le 90 (by decide) dX12_readStep_86 (by decide) (fun _ => ?_) (fun h => absurd h (by decide))
          have hnl : nn < 30 := by clear hX hkd hne hpp ih; omega
          have hj8 : 1540 ≤ 1540 + 9 * nn + 8 ∧ 1540 + 9 * nn + 8 < 1810 := by clear hX hkd hne hpp ih; omega
          have hnb : ¬ (yOp (vkw v_1) ∧ 3 ≤ e) := by clear hX hkd hne hpp ih; omega
          refine n_sipush 1540 rfl dX12_readStep_90 ?_
          refine n_bipush 9 rfl dX12_readStep_93 ?_
          refine a_aload_n rfl dX12_readStep_95 ?_
          refine g_i h25x (by decide) rfl fX12_319 rfl dX12_readStep_96 ?_
          refine n_imul dX12_readStep_99 ?_
          refine n_iadd dX12_readStep_100 ?_
          refine a_istore (by decide) rfl dX12_readStep_101 ?_
          refine a_aload_n rfl dX12_readStep_103 ?_
          refine a_dup rfl dX12_readStep_104 ?_
          refine g_i h25x (by decide) rfl fX12_319 rfl dX12_readStep_105 ?_
          refine n_iconst 1 rfl dX12_readStep_108 ?_
          refine n_iadd dX12_readStep_109 ?_
          refine a_puti dX12_readStep_110 pX12_319 (by decide) rfl rfl ?_
          refine a_aload_n rfl dX12_readStep_113 ?_
          have hs25 : fr (fun k j => k = 132 ∧ j = 25) M (siM M 132 25 (nI (nn + 1))) := fr.r.si (by omega)
          refine n_callV (mi' := miX12_advance) dX12_readStep_114 lX12_222 mX12_advance (by decide) rfl rfl rfl (c_X12_advance (k := x.1.1 + 1) (MA_fr hX.1.1 hs25 (fun k j z => by omega)) hDl hn (siN hX.1.2.1.2.2.1 (by omega)) (fun M_114 hk_114 hf_114 => ?_) d) rfl rfl (by omega) (by decide) (Nat.le_of_ble_eq_true rfl)
          show AW _ _ _ _ _ _ _
          have hU_114 : MU M_114 D n (spC (tkN D n) x.1) := MU_av (MU_fr hX.1 hs25 (fun k j z => by omega)) h0 hk_114 hf_114
          have hz_114 : fr yzP M (siM M_114 137 (1540 + 9 * nn) (nI v_1)) := ((hs25.mo (fun k j z => Or.inr (Or.inl z))).t (hf_114.mo (fun _ _ z => mu_yz (av_mu z)))).si (Or.inr (Or.inr (by omega)))
          refine a_aload_n rfl dX12_readStep_117 ?_
          refine a_geta dX12_readStep_118 fX12_35 (by decide) rfl rfl ?_
          refine a_iload rfl dX12_readStep_121 ?_
          refine a_iload_n rfl dX12_readStep_123 ?_
          refine n_iast (by omega) (by decide) rfl (by decide) dX12_readStep_124 ?_
          refine a_aload_n rfl dX12_readStep_125 ?_
          refine a_iload rfl dX12_readStep_126 ?_
          refine n_callV (mi' := miX12_readRest) dX12_readStep_128 lX12_322 mX12_readRest (by decide) rfl rfl rfl (c_X12_readRest (c := spC (tkN D n) x.1) (v := vkw v_1) (u := v_1) hDl hn (MU_si hU_114) (VM_yz hM hF hz_114) hF (VNM_yz hN hz_114) (by omega) (by omega) siS hwi (fun M_128 hc_128 hy_128 hf_128 => ?_) d) rfl rfl (by omega) (by decide) (Nat.le_of_ble_eq_true rfl)
          show AW _ _ _ _ _ _ _
          refine a_aload_n rfl dX12_readStep_131 ?_
          refine a_aload_n rfl dX12_readStep_132 ?_
          refine n_bipush 59 rfl dX12_readStep_133 ?_
          refine n_callV (mi' := miX12_isSign) dX12_readStep_135 lX12_307 mX12_isSign (by decide) rfl rfl rfl (v_sgn (c := (yC (tkN D n) S N (vkw v_1) (spC (tkN D n) x.1))) hDl hn hc_128 (by decide) (fun b_135 hb_135 => ?_) d) rfl rfl (by omega) (by decide) (Nat.le_of_ble_eq_true rfl)
          show AW _ _ _ _ _ _ _
          refine n_callV (mi' := miX12_must) dX12_readStep_138 lX12_228 mX12_must (by decide) rfl rfl rfl (c_X12_must (c := (yC (tkN D n) S N (vkw v_1) (spC (tkN D n) x.1))) (b := decide (kd (tkN D n) (yC (tkN D n) S N (vkw v_1) (spC (tkN D n) x.1)) = 5 ∧ cd (tkN D n) (yC (tkN D n) S N (vkw v_1) (spC (tkN D n) x.1)) = 59)) hDl hn hc_128 hb_135 (fun M_138 hc_138 hf_138 => ?_) d) rfl rfl (by omega) (by decide) (Nat.le_of_ble_eq_true rfl)
          show AW _ _ _ _ _ _ _
          rw [← end_b] at hc_138
          have h25_138 : M_138.1 132 25 = nI (nn + 1) := hf_138.i (hf_128.i (siN (hf_114.i siS (by unfold avP; omega)) (by omega)) (by unfold wsP muP; omega)) (by unfold muP; omega)
          have hw_138 : M_138.1 137 (1540 + 9 * nn) = nI v_1 := hf_138.i (hf_128.i siS (by unfold wsP muP; omega)) (by unfold muP; omega)
          have hz_138 : fr yzP M M_138 := (hz_114.t (hf_128.mo (fun k j z => z.elim mu_yz (fun z => Or.inr (Or.inr (by omega)))))).t (hf_138.mo (fun _ _ z => mu_yz z))
          have hbe : ybG (tkN D n) (yv (tkN D n) x.1) (scN x.2.1.2 x.2.1.1) x.2.2.1 x.1 = spC (tkN D n) x.1 := by rw [hyv, hnn, he]; exact congrArg (spC (tkN D n)) ((if_neg (fun q => q (Or.inr hst))).trans ((if_neg (fun q => by have := q.2; omega)).trans (if_neg (fun q => hnb q))))
          have hold_138 : ∀ j, 1540 ≤ j → j < (1540 + 9 * nn) → M_138.1 137 j = M.1 137 j := fun j h1 h2 => ((hf_138 137 j (by unfold muP; omega)).1.trans ((hf_128 137 j (by unfold wsP muP; omega)).1)).trans ((siN rfl (by omega)).trans (((hf_114 137 j (by unfold avP; omega)).1).trans (siN rfl (by omega))))
          have hcl_138 : (yC (tkN D n) S N (vkw v_1) (spC (tkN D n) x.1)).2.1 = 0 → (vkw v_1 = 13 ∨ vkw v_1 = 14 ∨ vkw v_1 = 22 → M_138.1 137 ((1540 + 9 * nn) + 1) = nI (yNum (tkN D n) S N (vkw v_1) (spC (tkN D n) x.1))) ∧ (vkw v_1 = 15 ∨ vkw v_1 = 16 ∨ vkw v_1 = 18 → M_138.1 137 ((1540 + 9 * nn) + 1) = nI (yWho (tkN D n) S N (vkw v_1) (spC (tkN D n) x.1))) ∧ (vkw v_1 = 15 ∨ vkw v_1 = 16 → M_138.1 137 ((1540 + 9 * nn) + 2) = nI (yNum (tkN D n) S N (vkw v_1) (spC (tkN D n) x.1))) ∧ (vkw v_1 = 18 → M_138.1 137 ((1540 + 9 * nn) + 5) = nI (yTst (tkN D n) (vkw v_1) (spC (tkN D n) x.1) - 19) ∧ (yTst (tkN D n) (vkw v_1) (spC (tkN D n) x.1) = 21 → M_138.1 137 ((1540 + 9 * nn) + 6) = nI (yNum (tkN D n) S N (vkw v_1) (spC (tkN D n) x.1)) ∧ M_138.1 137 ((1540 + 9 * nn) + 7) = nI (yCmp (tkN D n) S N (vkw v_1) (spC (tkN D n) x.1)))) := fun q => ⟨fun z => hf_138.i ((hy_128 q).1 z) (by unfold muP; omega), fun z => hf_138.i ((hy_128 q).2.1 z) (by unfold muP; omega), fun z => hf_138.i ((hy_128 q).2.2.1 z) (by unfold muP; omega), fun z => ⟨hf_138.i ((hy_128 q).2.2.2 z).1 (by unfold muP; omega), fun y => ⟨hf_138.i (((hy_128 q).2.2.2 z).2 y).1 (by unfold muP; omega), hf_138.i (((hy_128 q).2.2.2 z).2 y).2 (by unfold muP; omega)⟩⟩⟩
          have h56 : v_1 = 5 ∨ v_1 = 6 := by clear hX hkd hne hpp ih hcl_138 hy_128; omega
          have hs := my_step (M3 := M_138) hn h3 hX h0 (by rw [hk1]; decide) (by rw [hbe, sp_f]; exact h0) (by rw [hyv]; exact hst) (by rw [hbe, hyv]; exact hc_138) (fun j h1 h2 => by rw [hnn] at h2; exact hold_138 j h1 h2) (by rw [hnn]; exact h25_138) (fun q => by rw [hbe, hyv] at q ⊢; rw [hnn]; exact yst_it (by rw [vk_vk h_1]; exact hw_138) (hcl_138 q).1 (hcl_138 q).2.1 (hcl_138 q).2.2.1 (hcl_138 q).2.2.2) (fun q => by rw [hnn]; rw [hyv] at q; exact absurd (hop.mpr h56) q)
          have hsd : (ysT (tkN D n) S N x).1.2.1 = 0 → (ysT (tkN D n) S N x).2.2.1 = e + 1 := fun q => by rw [(hs.2 q).1, hyv, if_pos (hop.mpr h56), he]
          obtain ⟨g', hg'⟩ : ∃ g', g = g' + 1 := ⟨g - 1, by clear hX hkd hne hpp ih hcl_138 hy_128 hs hsd; omega⟩
          have loop_141 : ∀ (f : Nat) (k1 : Nat) (y : YS) (M1 : Mm), 301 ≤ k1 + f → (MYS M1 D n S N R k1 y ∧ (y.1.2.1 = 0 → y.2.2.1 = e + 1 ∧ yext (ysT (tkN D n) S N x) y) ∧ fr yzP M_138 M1 ∧ k + 1 ≤ k1 ∧ (y.1.2.1 = 0 → (ysT (tkN D n) S N x).1.2.1 = 0)) → AW miX12_readStep (d + g + 9) (mxA Q) 141 [(0, some (.ref 132)), (1, some (.int (nI e))), (2, some (.int (nI v_1))), (3, some (.int (nI 1))), (4, some (.int (nI (1540 + (9 * nn)))))] [] M1 := by
            intro f
            induction f with
            | zero =>
              intro k1 y M1 hL_141 hI_141
              have hy := hI_141
              have hf7 : y.1.2.1 ≤ 7 := hy.1.1.2.2.2.2
              have hk3 : y.1.2.1 = 0 → k1 ≤ 300 := fun q => Nat.le_trans (hy.1.2.1 q).2.2.1 (Nat.le_trans (hy.1.2.1 q).2.2.2 h3)
              refine a_iload_n rfl dX12_readStep_141 ?_
              refine n_if_eq 169 (by decide) dX12_readStep_142 (by decide) (fun h => absurd h (by decide)) (fun _ => ?_)
              refine a_aload_n rfl dX12_readStep_145 ?_
              refine g_i hy.1.1.2.2.1 (by decide) rfl fX12_212 rfl dX12_readStep_146 ?_
              refine n_if_ne 169 (by omega) dX12_readStep_149 (by decide) (fun h_149 => ?_) (fun h_149 => absurd h_149 (by omega))
              refine a_iload_n rfl dX12_readStep_169 ?_
              refine n_if_eq 191 (by decide) dX12_readStep_170 (by decide) (fun h => absurd h (by decide)) (fun _ => ?_)
              refine a_aload_n rfl dX12_readStep_173 ?_
              refine a_aload_n rfl dX12_readStep_174 ?_
              refine n_callV (mi' := miX12_isEnd) dX12_readStep_175 lX12_206 mX12_isEnd (by decide) rfl rfl rfl (v_end (c := y.1) hDl hn hy.1.1 (fun b_175 hb_175 => ?_) d) rfl rfl (by omega) (by decide) (Nat.le_of_ble_eq_true rfl)
              show AW _ _ _ _ _ _ _
              refine n_callV (mi' := miX12_must) dX12_readStep_178 lX12_228 mX12_must (by decide) rfl rfl rfl (c_X12_must (c := y.1) (b := isK (tkN D n) y.1 23) hDl hn hy.1.1 hb_175 (fun M_178 hc_178 hf_178 => ?_) d) rfl rfl (by omega) (by decide) (Nat.le_of_ble_eq_true rfl)
              show AW _ _ _ _ _ _ _
              refine a_aload_n rfl dX12_readStep_181 ?_
              refine a_aload_n rfl dX12_readStep_182 ?_
              refine n_bipush 59 rfl dX12_readStep_183 ?_
              refine n_callV (mi' := miX12_isSign) dX12_readStep_185 lX12_307 mX12_isSign (by decide) rfl rfl rfl (v_sgn (c := (spC (tkN D n) (if isK (tkN D n) y.1 23 = true then y.1 else flC (tkN D n) 2 y.1))) hDl hn hc_178 (by decide) (fun b_185 hb_185 => ?_) d) rfl rfl (by omega) (by decide) (Nat.le_of_ble_eq_true rfl)
              show AW _ _ _ _ _ _ _
              refine n_callV (mi' := miX12_must) dX12_readStep_188 lX12_228 mX12_must (by decide) rfl rfl rfl (c_X12_must (c := (spC (tkN D n) (if isK (tkN D n) y.1 23 = true then y.1 else flC (tkN D n) 2 y.1))) (b := decide (kd (tkN D n) (spC (tkN D n) (if isK (tkN D n) y.1 23 = true then y.1 else flC (tkN D n) 2 y.1)) = 5 ∧ cd (tkN D n) (spC (tkN D n) (if isK (tkN D n) y.1 23 = true then y.1 else flC (tkN D n) 2 y.1)) = 59)) hDl hn hc_178 hb_185 (fun M_188 hc_188 hf_188 => ?_) d) rfl rfl (by omega) (by decide) (Nat.le_of_ble_eq_true rfl)
              show AW _ _ _ _ _ _ _
              rw [← end_b] at hc_188
              refine a_aload_n rfl dX12_readStep_191 ?_
              refine a_geta dX12_readStep_192 fX12_35 (by decide) rfl rfl ?_
              refine a_iload rfl dX12_readStep_195 ?_
              refine n_bipush 8 rfl dX12_readStep_197 ?_
              refine n_iadd dX12_readStep_199 ?_
              refine a_aload_n rfl dX12_readStep_200 ?_
              refine a_geti dX12_readStep_201 fX12_319 (by decide) rfl rfl ?_
              refine n_iast (by omega) (by decide) rfl (by decide) dX12_readStep_204 ?_
              refine a_vret dX12_readStep_205 rfl ?_
              have hff : fr muP M1 M_188 := hf_178.t hf_188
              obtain ⟨k', x', hX', hk', hz'⟩ := my_close (M3 := (siM M_188 137 ((1540 + 9 * nn) + 8) (M_188.1 132 25))) (e := e) (p := x.2.1.1) (W := (1540 + 9 * nn)) hn h3 hy.1 (fun q => ⟨(hy.2.1 q).1, ((hy.2.1 q).2.2.2 e (by rw [hsd (hy.2.2.2.2 q)]; exact Nat.lt_succ_self e)).trans (by have z := (hs.2 (hy.2.2.2.2 q)).2.2.1 (by rw [hyv]; exact hop.mpr h56); rw [he] at z; exact z), by rw [show scN y.2.1.2 x.2.1.1 = nn from by rw [← hnn]; exact sc_e (fun i hi => by rw [(hy.2.1 q).2.2.1 i (by rw [(hs.2 (hy.2.2.2.2 q)).2.2.2]; exact Nat.lt_succ_of_lt hi), (hs.2 (hy.2.2.2.2 q)).2.1.2.1 i hi])]⟩) (fun q => absurd q h_149) (MU_si hc_188) (fun j h1 h2 => (siN rfl (Or.inr h2)).trans (hff 137 j (fun z => absurd z.1 (by decide))).1) ((siN rfl (Or.inl (by decide))).trans (hff 132 25 (fun z => absurd z.2.2 (by decide))).1) (siS.trans (hff 132 25 (fun z => absurd z.2.2 (by decide))).1)
              exact hQ _ _ k' hX' (Nat.lt_of_lt_of_le (Nat.lt_of_succ_le hy.2.2.2.1) hk') (fun q => by
                obtain ⟨z1, z2, z3, z4, z5⟩ := hz' q
                have ex := (hy.2.1 z1).2
                have es := hs.2 (hy.2.2.2.2 z1)
                have hLy : x.2.1.1 + 1 ≤ y.2.1.1 := by rw [← es.2.2.2]; exact ex.1
                refine ⟨z2, ⟨by rw [z3]; exact Nat.le_trans (Nat.le_of_succ_le hLy) (Nat.le_succ _), fun i hi => ?_, fun j hj => ?_⟩⟩
                · rw [z4 i (Nat.lt_of_lt_of_le hi (Nat.le_of_succ_le hLy)) (Nat.ne_of_lt hi), ex.2.1 i (by rw [es.2.2.2]; exact Nat.lt_succ_of_lt hi), es.2.1.2.1 i hi]
                · rw [z5, ex.2.2 j (by rw [hsd (hy.2.2.2.2 z1)]; rw [he] at hj; exact Nat.lt_succ_of_lt hj), es.2.1.2.2 j hj]) (((hz_138.t hy.2.2.1).t (hff.mo (fun _ _ z => mu_yz z))).si (Or.inr (Or.inr ⟨rfl, hj8.1, hj8.2⟩)))
            | succ f ih_141 =>
              intro k1 y M1 hL_141 hI_141
              have hy := hI_141
              have hf7 : y.1.2.1 ≤ 7 := hy.1.1.2.2.2.2
              have hk3 : y.1.2.1 = 0 → k1 ≤ 300 := fun q => Nat.le_trans (hy.1.2.1 q).2.2.1 (Nat.le_trans (hy.1.2.1 q).2.2.2 h3)
              refine a_iload_n rfl dX12_readStep_141 ?_
              refine n_if_eq 169 (by decide) dX12_readStep_142 (by decide) (fun h => absurd h (by decide)) (fun _ => ?_)
              refine a_aload_n rfl dX12_readStep_145 ?_
              refine g_i hy.1.1.2.2.1 (by decide) rfl fX12_212 rfl dX12_readStep_146 ?_
              refine n_if_ne 169 (by omega) dX12_readStep_149 (by decide) (fun h_149 => ?_) (fun h_149 => ?_)
              · refine a_iload_n rfl dX12_readStep_169 ?_
                refine n_if_eq 191 (by decide) dX12_readStep_170 (by decide) (fun h => absurd h (by decide)) (fun _ => ?_)
                refine a_aload_n rfl dX12_readStep_173 ?_
                refine a_aload_n rfl dX12_readStep_174 ?_
                refine n_callV (mi' := miX12_isEnd) dX12_readStep_175 lX12_206 mX12_isEnd (by decide) rfl rfl rfl (v_end (c := y.1) hDl hn hy.1.1 (fun b_175 hb_175 => ?_) d) rfl rfl (by omega) (by decide) (Nat.le_of_ble_eq_true rfl)
                show AW _ _ _ _ _ _ _
                refine n_callV (mi' := miX12_must) dX12_readStep_178 lX12_228 mX12_must (by decide) rfl rfl rfl (c_X12_must (c := y.1) (b := isK (tkN D n) y.1 23) hDl hn hy.1.1 hb_175 (fun M_178 hc_178 hf_178 => ?_) d) rfl rfl (by omega) (by decide) (Nat.le_of_ble_eq_true rfl)
                show AW _ _ _ _ _ _ _
                refine a_aload_n rfl dX12_readStep_181 ?_
                refine a_aload_n rfl dX12_readStep_182 ?_
                refine n_bipush 59 rfl dX12_readStep_183 ?_
                refine n_callV (mi' := miX12_isSign) dX12_readStep_185 lX12_307 mX12_isSign (by decide) rfl rfl rfl (v_sgn (c := (spC (tkN D n) (if isK (tkN D n) y.1 23 = true then y.1 else flC (tkN D n) 2 y.1))) hDl hn hc_178 (by decide) (fun b_185 hb_185 => ?_) d) rfl rfl (by omega) (by decide) (Nat.le_of_ble_eq_true rfl)
                show AW _ _ _ _ _ _ _
                refine n_callV (mi' := miX12_must) dX12_readStep_188 lX12_228 mX12_must (by decide) rfl rfl rfl (c_X12_must (c := (spC (tkN D n) (if isK (tkN D n) y.1 23 = true then y.1 else flC (tkN D n) 2 y.1))) (b := decide (kd (tkN D n) (spC (tkN D n) (if isK (tkN D n) y.1 23 = true then y.1 else flC (tkN D n) 2 y.1)) = 5 ∧ cd (tkN D n) (spC (tkN D n) (if isK (tkN D n) y.1 23 = true then y.1 else flC (tkN D n) 2 y.1)) = 59)) hDl hn hc_178 hb_185 (fun M_188 hc_188 hf_188 => ?_) d) rfl rfl (by omega) (by decide) (Nat.le_of_ble_eq_true rfl)
                show AW _ _ _ _ _ _ _
                rw [← end_b] at hc_188
                refine a_aload_n rfl dX12_readStep_191 ?_
                refine a_geta dX12_readStep_192 fX12_35 (by decide) rfl rfl ?_
                refine a_iload rfl dX12_readStep_195 ?_
                refine n_bipush 8 rfl dX12_readStep_197 ?_
                refine n_iadd dX12_readStep_199 ?_
                refine a_aload_n rfl dX12_readStep_200 ?_
                refine a_geti dX12_readStep_201 fX12_319 (by decide) rfl rfl ?_
                refine n_iast (by omega) (by decide) rfl (by decide) dX12_readStep_204 ?_
                refine a_vret dX12_readStep_205 rfl ?_
                have hff : fr muP M1 M_188 := hf_178.t hf_188
                obtain ⟨k', x', hX', hk', hz'⟩ := my_close (M3 := (siM M_188 137 ((1540 + 9 * nn) + 8) (M_188.1 132 25))) (e := e) (p := x.2.1.1) (W := (1540 + 9 * nn)) hn h3 hy.1 (fun q => ⟨(hy.2.1 q).1, ((hy.2.1 q).2.2.2 e (by rw [hsd (hy.2.2.2.2 q)]; exact Nat.lt_succ_self e)).trans (by have z := (hs.2 (hy.2.2.2.2 q)).2.2.1 (by rw [hyv]; exact hop.mpr h56); rw [he] at z; exact z), by rw [show scN y.2.1.2 x.2.1.1 = nn from by rw [← hnn]; exact sc_e (fun i hi => by rw [(hy.2.1 q).2.2.1 i (by rw [(hs.2 (hy.2.2.2.2 q)).2.2.2]; exact Nat.lt_succ_of_lt hi), (hs.2 (hy.2.2.2.2 q)).2.1.2.1 i hi])]⟩) (fun q => absurd q h_149) (MU_si hc_188) (fun j h1 h2 => (siN rfl (Or.inr h2)).trans (hff 137 j (fun z => absurd z.1 (by decide))).1) ((siN rfl (Or.inl (by decide))).trans (hff 132 25 (fun z => absurd z.2.2 (by decide))).1) (siS.trans (hff 132 25 (fun z => absurd z.2.2 (by decide))).1)
                exact hQ _ _ k' hX' (Nat.lt_of_lt_of_le (Nat.lt_of_succ_le hy.2.2.2.1) hk') (fun q => by
                  obtain ⟨z1, z2, z3, z4, z5⟩ := hz' q
                  have ex := (hy.2.1 z1).2
                  have es := hs.2 (hy.2.2.2.2 z1)
                  have hLy : x.2.1.1 + 1 ≤ y.2.1.1 := by rw [← es.2.2.2]; exact ex.1
                  refine ⟨z2, ⟨by rw [z3]; exact Nat.le_trans (Nat.le_of_succ_le hLy) (Nat.le_succ _), fun i hi => ?_, fun j hj => ?_⟩⟩
                  · rw [z4 i (Nat.lt_of_lt_of_le hi (Nat.le_of_succ_le hLy)) (Nat.ne_of_lt hi), ex.2.1 i (by rw [es.2.2.2]; exact Nat.lt_succ_of_lt hi), es.2.1.2.1 i hi]
                  · rw [z5, ex.2.2 j (by rw [hsd (hy.2.2.2.2 z1)]; rw [he] at hj; exact Nat.lt_succ_of_lt hj), es.2.1.2.2 j hj]) (((hz_138.t hy.2.2.1).t (hff.mo (fun _ _ z => mu_yz z))).si (Or.inr (Or.inr ⟨rfl, hj8.1, hj8.2⟩)))
              · refine a_aload_n rfl dX12_readStep_152 ?_
                refine n_callV (mi' := miX12_isEnd) dX12_readStep_153 lX12_206 mX12_isEnd (by decide) rfl rfl rfl (c_X12_isEnd hDl hn hy.1.1 (fun h_153 => ?_) (fun h_153 => ?_) d) rfl rfl (by omega) (by decide) (Nat.le_of_ble_eq_true rfl)
                · show AW _ _ _ _ _ _ _
                  refine n_if_ne 169 (by decide) dX12_readStep_156 (by decide) (fun _ => ?_) (fun h => absurd h (by decide))
                  refine a_iload_n rfl dX12_readStep_169 ?_
                  refine n_if_eq 191 (by decide) dX12_readStep_170 (by decide) (fun h => absurd h (by decide)) (fun _ => ?_)
                  refine a_aload_n rfl dX12_readStep_173 ?_
                  refine a_aload_n rfl dX12_readStep_174 ?_
                  refine n_callV (mi' := miX12_isEnd) dX12_readStep_175 lX12_206 mX12_isEnd (by decide) rfl rfl rfl (v_end (c := y.1) hDl hn hy.1.1 (fun b_175 hb_175 => ?_) d) rfl rfl (by omega) (by decide) (Nat.le_of_ble_eq_true rfl)
                  show AW _ _ _ _ _ _ _
                  refine n_callV (mi' := miX12_must) dX12_readStep_178 lX12_228 mX12_must (by decide) rfl rfl rfl (c_X12_must (c := y.1) (b := isK (tkN D n) y.1 23) hDl hn hy.1.1 hb_175 (fun M_178 hc_178 hf_178 => ?_) d) rfl rfl (by omega) (by decide) (Nat.le_of_ble_eq_true rfl)
                  show AW _ _ _ _ _ _ _
                  refine a_aload_n rfl dX12_readStep_181 ?_
                  refine a_aload_n rfl dX12_readStep_182 ?_
                  refine n_bipush 59 rfl dX12_readStep_183 ?_
                  refine n_callV (mi' := miX12_isSign) dX12_readStep_185 lX12_307 mX12_isSign (by decide) rfl rfl rfl (v_sgn (c := (spC (tkN D n) (if isK (tkN D n) y.1 23 = true then y.1 else flC (tkN D n) 2 y.1))) hDl hn hc_178 (by decide) (fun b_185 hb_185 => ?_) d) rfl rfl (by omega) (by decide) (Nat.le_of_ble_eq_true rfl)
                  show AW _ _ _ _ _ _ _
                  refine n_callV (mi' := miX12_must) dX12_readStep_188 lX12_228 mX12_must (by decide) rfl rfl rfl (c_X12_must (c := (spC (tkN D n) (if isK (tkN D n) y.1 23 = true then y.1 else flC (tkN D n) 2 y.1))) (b := decide (kd (tkN D n) (spC (tkN D n) (if isK (tkN D n) y.1 23 = true then y.1 else flC (tkN D n) 2 y.1)) = 5 ∧ cd (tkN D n) (spC (tkN D n) (if isK (tkN D n) y.1 23 = true then y.1 else flC (tkN D n) 2 y.1)) = 59)) hDl hn hc_178 hb_185 (fun M_188 hc_188 hf_188 => ?_) d) rfl rfl (by omega) (by decide) (Nat.le_of_ble_eq_true rfl)
                  show AW _ _ _ _ _ _ _
                  rw [← end_b] at hc_188
                  refine a_aload_n rfl dX12_readStep_191 ?_
                  refine a_geta dX12_readStep_192 fX12_35 (by decide) rfl rfl ?_
                  refine a_iload rfl dX12_readStep_195 ?_
                  refine n_bipush 8 rfl dX12_readStep_197 ?_
                  refine n_iadd dX12_readStep_199 ?_
                  refine a_aload_n rfl dX12_readStep_200 ?_
                  refine a_geti dX12_readStep_201 fX12_319 (by decide) rfl rfl ?_
                  refine n_iast (by omega) (by decide) rfl (by decide) dX12_readStep_204 ?_
                  refine a_vret dX12_readStep_205 rfl ?_
                  have hff : fr muP M1 M_188 := hf_178.t hf_188
                  obtain ⟨k', x', hX', hk', hz'⟩ := my_close (M3 := (siM M_188 137 ((1540 + 9 * nn) + 8) (M_188.1 132 25))) (e := e) (p := x.2.1.1) (W := (1540 + 9 * nn)) hn h3 hy.1 (fun q => ⟨(hy.2.1 q).1, ((hy.2.1 q).2.2.2 e (by rw [hsd (hy.2.2.2.2 q)]; exact Nat.lt_succ_self e)).trans (by have z := (hs.2 (hy.2.2.2.2 q)).2.2.1 (by rw [hyv]; exact hop.mpr h56); rw [he] at z; exact z), by rw [show scN y.2.1.2 x.2.1.1 = nn from by rw [← hnn]; exact sc_e (fun i hi => by rw [(hy.2.1 q).2.2.1 i (by rw [(hs.2 (hy.2.2.2.2 q)).2.2.2]; exact Nat.lt_succ_of_lt hi), (hs.2 (hy.2.2.2.2 q)).2.1.2.1 i hi])]⟩) (fun _ => (yv_i (by decide)).mp h_153) (MU_si hc_188) (fun j h1 h2 => (siN rfl (Or.inr h2)).trans (hff 137 j (fun z => absurd z.1 (by decide))).1) ((siN rfl (Or.inl (by decide))).trans (hff 132 25 (fun z => absurd z.2.2 (by decide))).1) (siS.trans (hff 132 25 (fun z => absurd z.2.2 (by decide))).1)
                  exact hQ _ _ k' hX' (Nat.lt_of_lt_of_le (Nat.lt_of_succ_le hy.2.2.2.1) hk') (fun q => by
                    obtain ⟨z1, z2, z3, z4, z5⟩ := hz' q
                    have ex := (hy.2.1 z1).2
                    have es := hs.2 (hy.2.2.2.2 z1)
                    have hLy : x.2.1.1 + 1 ≤ y.2.1.1 := by rw [← es.2.2.2]; exact ex.1
                    refine ⟨z2, ⟨by rw [z3]; exact Nat.le_trans (Nat.le_of_succ_le hLy) (Nat.le_succ _), fun i hi => ?_, fun j hj => ?_⟩⟩
                    · rw [z4 i (Nat.lt_of_lt_of_le hi (Nat.le_of_succ_le hLy)) (Nat.ne_of_lt hi), ex.2.1 i (by rw [es.2.2.2]; exact Nat.lt_succ_of_lt hi), es.2.1.2.1 i hi]
                    · rw [z5, ex.2.2 j (by rw [hsd (hy.2.2.2.2 z1)]; rw [he] at hj; exact Nat.lt_succ_of_lt hj), es.2.1.2.2 j hj]) (((hz_138.t hy.2.2.1).t (hff.mo (fun _ _ z => mu_yz z))).si (Or.inr (Or.inr ⟨rfl, hj8.1, hj8.2⟩)))
                · show AW _ _ _ _ _ _ _
                  refine n_if_ne 169 (by decide) dX12_readStep_156 (by decide) (fun h => absurd h (by decide)) (fun _ => ?_)
                  refine a_aload_n rfl dX12_readStep_159 ?_
                  refine a_iload_n rfl dX12_readStep_160 ?_
                  refine n_iconst 1 rfl dX12_readStep_161 ?_
                  refine n_iadd dX12_readStep_162 ?_
                  refine n_callV (mi' := miX12_readStep) dX12_readStep_163 lX12_325 mX12_readStep (by decide) rfl rfl rfl (ih g' hg' hy.1 h_149 (hy.2.1 h_149).1 (fun q => h_153 ((yv_i (by decide)).mpr q.1)) (Or.inr (Nat.succ_pos _)) (VM_yz hM hF (hz_138.t hy.2.2.1)) (VNM_yz hN (hz_138.t hy.2.2.1)) (fun M_163 x_163 k_163 hX_163 hl_163 hg_163 hr_163 => ?_) d) rfl rfl (by omega) (by decide) (Nat.le_of_ble_eq_true rfl)
                  show AW _ _ _ _ _ _ _
                  refine a_goto 141 dX12_readStep_166 (by decide) ?_
                  exact a_bk (ih_141 k_163 x_163 _ (by clear hX_163 hg_163 hr_163 hy hcl_138 hy_128 hs hsd hX hkd hne hpp ih; omega) ⟨hX_163, fun q => ⟨(hg_163 q).1, yext_t (hy.2.1 h_149).2 (hg_163 q).2 (by rw [hsd (hy.2.2.2.2 h_149), (hy.2.1 h_149).1]; exact Nat.le_refl _)⟩, hy.2.2.1.t hr_163, Nat.le_trans hy.2.2.2.1 (Nat.le_of_lt hl_163), fun _ => hy.2.2.2.2 h_149⟩) ⟨rfl, rfl, rfl, rfl, rfl, trivial⟩
          exact a_bk (loop_141 301 (k + 1) (ysT (tkN D n) S N x) _ (Nat.le_trans (Nat.le_add_left _ _) (Nat.le_refl _)) ⟨hs.1, fun q => ⟨hsd q, yext_r _⟩, fr.r, Nat.le_refl _, fun q => q⟩) ⟨rfl, rfl, rfl, rfl, rfl, trivial⟩
        · refine a_aload_n rfl dX12_readStep_72 ?_
          refine n_bipush 7 rfl dX12_readStep_73 ?_
          refine a_aload_n rfl dX12_readStep_75 ?_
          refine g_i hat (by decide) rfl fX12_118 rfl dX12_readStep_76 ?_
          refine n_callV (mi' := miX12_fail) dX12_readStep_79 lX12_218 mX12_fail (by decide) rfl rfl rfl (c_X12_fail (c := x.1) (w := 7) hDl hn hX.1 (by decide) (fun _ => by rw [hk1]; decide) hpp (fun M_79 hc_79 hf_79 => ?_) d) rfl rfl (by omega) (by decide) (Nat.le_of_ble_eq_true rfl)
          show AW _ _ _ _ _ _ _
          obtain ⟨b_79, hbe_79⟩ : ∃ b, (flC (tkN D n) 7 x.1).2.1 = b := ⟨_, rfl⟩
          have hb7_79 : b_79 ≤ 7 := by rw [← hbe_79]; exact hc_79.2.2.2.2
          have hb0_79 : b_79 ≠ 0 := by rw [← hbe_79]; exact fl_z (by decide)
          have hbm_79 : M_79.1 132 12 = nI b_79 := by rw [← hbe_79]; exact hc_79.2.2.1
          refine a_aload_n rfl dX12_readStep_82 ?_
          refine g_i hbm_79 (by decide) rfl fX12_212 rfl dX12_readStep_83 ?_
          refine n_if_le 90 (by omega) dX12_readStep_86 (by decide) (fun h_86 => absurd h_86 (by omega)) (fun h_86 => ?_)
          refine a_vret dX12_readStep_89 rfl ?_
          have hb := my_bad (w := 7) h3 hX h0 (by decide) (Or.inl ⟨by rw [hk1]; decide, congrArg (spC (tkN D n)) ((if_neg (fun q => q (Or.inr (by rw [hyv]; exact hst)))).trans ((if_neg (fun q => by have := q.2; rw [hnn] at this; omega)).trans (if_pos ⟨by rw [hyv]; exact hop.mpr (by omega), by rw [he]; omega⟩)))⟩) hc_79
          exact hQ _ _ (k + 1) hb (Nat.lt_succ_self _) (fun q => absurd q (fl_z (by decide))) (hf_79.mo (fun _ _ z => mu_yz z))
      · refine a_aload_n rfl dX12_readStep_46 ?_
        refine n_bipush 6 rfl dX12_readStep_47 ?_
        refine a_aload_n rfl dX12_readStep_49 ?_
        refine g_i hat (by decide) rfl fX12_118 rfl dX12_readStep_50 ?_
        refine n_callV (mi' := miX12_fail) dX12_readStep_53 lX12_218 mX12_fail (by decide) rfl rfl rfl (c_X12_fail (c := x.1) (w := 6) hDl hn hX.1 (by decide) (fun _ => by rw [hk1]; decide) hpp (fun M_53 hc_53 hf_53 => ?_) d) rfl rfl (by omega) (by decide) (Nat.le_of_ble_eq_true rfl)
        show AW _ _ _ _ _ _ _
        obtain ⟨b_53, hbe_53⟩ : ∃ b, (flC (tkN D n) 6 x.1).2.1 = b := ⟨_, rfl⟩
        have hb7_53 : b_53 ≤ 7 := by rw [← hbe_53]; exact hc_53.2.2.2.2
        have hb0_53 : b_53 ≠ 0 := by rw [← hbe_53]; exact fl_z (by decide)
        have hbm_53 : M_53.1 132 12 = nI b_53 := by rw [← hbe_53]; exact hc_53.2.2.1
        refine a_aload_n rfl dX12_readStep_56 ?_
        refine g_i hbm_53 (by decide) rfl fX12_212 rfl dX12_readStep_57 ?_
        refine n_if_ne 82 (by omega) dX12_readStep_60 (by decide) (fun h_60 => ?_) (fun h_60 => absurd h_60 (by omega))
        refine a_aload_n rfl dX12_readStep_82 ?_
        refine g_i hbm_53 (by decide) rfl fX12_212 rfl dX12_readStep_83 ?_
        refine n_if_le 90 (by omega) dX12_readStep_86 (by decide) (fun h_86 => absurd h_86 (by omega)) (fun h_86 => ?_)
        refine a_vret dX12_readStep_89 rfl ?_
        have hb := my_bad (w := 6) h3 hX h0 (by decide) (Or.inl ⟨by rw [hk1]; decide, congrArg (spC (tkN D n)) ((if_neg (fun q => q (Or.inr (by rw [hyv]; exact hst)))).trans (if_pos ⟨by rw [hyv]; exact hst, by rw [hnn]; omega⟩))⟩) hc_53
        exact hQ _ _ (k + 1) hb (Nat.lt_succ_self _) (fun q => absurd q (fl_z (by decide))) (hf_53.mo (fun _ _ z => mu_yz z))
    · refine a_iload_n rfl dX12_readStep_10 ?_
      refine n_bipush 6 rfl dX12_readStep_11 ?_
      refine n_icmp_ne 20 (by omega) (by omega) dX12_readStep_13 (by decide) (fun h_13 => ?_) (fun h_13 => ?_)
      · refine n_iconst 0 rfl dX12_readStep_20 ?_
        refine a_istore_n (by decide) rfl dX12_readStep_21 ?_
        refine a_iload_n rfl dX12_readStep_22 ?_
        refine n_if_ge 30 (by omega) dX12_readStep_23 (by decide) ?_
        refine a_aload_n rfl dX12_readStep_30 ?_
        refine g_i hbad (by decide) rfl fX12_212 rfl dX12_readStep_31 ?_
        refine n_if_ne 56 (by decide) dX12_readStep_34 (by decide) (fun h => absurd h (by decide)) (fun _ => ?_)
        refine a_aload_n rfl dX12_readStep_37 ?_
        refine g_i h25x (by decide) rfl fX12_319 rfl dX12_readStep_38 ?_
        refine n_bipush 30 rfl dX12_readStep_41 ?_
        refine n_icmp_ne 56 (by omega) (by omega) dX12_readStep_43 (by decide) (fun h_43 => ?_) (fun h_43 => ?_)
        · refine a_aload_n rfl dX12_readStep_56 ?_
          refine g_i hbad (by decide) rfl fX12_212 rfl dX12_readStep_57 ?_
          refine n_if_ne 82 (by decide) dX12_readStep_60 (by decide) (fun h => absurd h (by decide)) (fun _ => ?_)
          refine a_iload_n rfl dX12_readStep_63 ?_
          refine n_if_eq 82 (by decide) dX12_readStep_64 (by decide) (fun _ => ?_) (fun h => absurd h (by decide))
          refine a_aload_n rfl dX12_readStep_82 ?_
          refine g_i hbad (by decide) rfl fX12_212 rfl dX12_readStep_83 ?_
          refine n_if_le 90 (by decide) dX12_readStep_86 (by decide) (fun _ => ?_) (fun h => absurd h (by decide))
          have hnl : nn < 30 := by clear hX hkd hne hpp ih; omega
          have hj8 : 1540 ≤ 1540 + 9 * nn + 8 ∧ 1540 + 9 * nn + 8 < 1810 := by clear hX hkd hne hpp ih; omega
          have n56 : ¬ (v_1 = 5 ∨ v_1 = 6) := by clear hX hkd hne hpp ih; omega
          have hnb : ¬ (yOp (vkw v_1) ∧ 3 ≤ e) := fun q => n56 (hop.mp q.1)
          refine n_sipush 1540 rfl dX12_readStep_90 ?_
          refine n_bipush 9 rfl dX12_readStep_93 ?_
          refine a_aload_n rfl dX12_readStep_95 ?_
          refine g_i h25x (by decide) rfl fX12_319 rfl dX12_readStep_96 ?_
          refine n_imul dX12_readStep_99 ?_
          refine n_iadd dX12_readStep_100 ?_
          refine a_istore (by decide) rfl dX12_readStep_101 ?_
          refine a_aload_n rfl dX12_readStep_103 ?_
          refine a_dup rfl dX12_readStep_104 ?_
          refine g_i h25x (by decide) rfl fX12_319 rfl dX12_readStep_105 ?_
          refine n_iconst 1 rfl dX12_readStep_108 ?_
          refine n_iadd dX12_readStep_109 ?_
          refine a_puti dX12_readStep_110 pX12_319 (by decide) rfl rfl ?_
          refine a_aload_n rfl dX12_readStep_113 ?_
          have hs25 : fr (fun k j => k = 132 ∧ j = 25) M (siM M 132 25 (nI (nn + 1))) := fr.r.si (by omega)
          refine n_callV (mi' := miX12_advance) dX12_readStep_114 lX12_222 mX12_advance (by decide) rfl rfl rfl (c_X12_advance (k := x.1.1 + 1) (MA_fr hX.1.1 hs25 (fun k j z => by omega)) hDl hn (siN hX.1.2.1.2.2.1 (by omega)) (fun M_114 hk_114 hf_114 => ?_) d) rfl rfl (by omega) (by decide) (Nat.le_of_ble_eq_true rfl)
          show AW _ _ _ _ _ _ _
          have hU_114 : MU M_114 D n (spC (tkN D n) x.1) := MU_av (MU_fr hX.1 hs25 (fun k j z => by omega)) h0 hk_114 hf_114
          have hz_114 : fr yzP M (siM M_114 137 (1540 + 9 * nn) (nI v_1)) := ((hs25.mo (fun k j z => Or.inr (Or.inl z))).t (hf_114.mo (fun _ _ z => mu_yz (av_mu z)))).si (Or.inr (Or.inr (by omega)))
          refine a_aload_n rfl dX12_readStep_117 ?_
          refine a_geta dX12_readStep_118 fX12_35 (by decide) rfl rfl ?_
          refine a_iload rfl dX12_readStep_121 ?_
          refine a_iload_n rfl dX12_readStep_123 ?_
          refine n_iast (by omega) (by decide) rfl (by decide) dX12_readStep_124 ?_
          refine a_aload_n rfl dX12_readStep_125 ?_
          refine a_iload rfl dX12_readStep_126 ?_
          refine n_callV (mi' := miX12_readRest) dX12_readStep_128 lX12_322 mX12_readRest (by decide) rfl rfl rfl (c_X12_readRest (c := spC (tkN D n) x.1) (v := vkw v_1) (u := v_1) hDl hn (MU_si hU_114) (VM_yz hM hF hz_114) hF (VNM_yz hN hz_114) (by omega) (by omega) siS hwi (fun M_128 hc_128 hy_128 hf_128 => ?_) d) rfl rfl (by omega) (by decide) (Nat.le_of_ble_eq_true rfl)
          show AW _ _ _ _ _ _ _
          refine a_aload_n rfl dX12_readStep_131 ?_
          refine a_aload_n rfl dX12_readStep_132 ?_
          refine n_bipush 59 rfl dX12_readStep_133 ?_
          refine n_callV (mi' := miX12_isSign) dX12_readStep_135 lX12_307 mX12_isSign (by decide) rfl rfl rfl (v_sgn (c := (yC (tkN D n) S N (vkw v_1) (spC (tkN D n) x.1))) hDl hn hc_128 (by decide) (fun b_135 hb_135 => ?_) d) rfl rfl (by omega) (by decide) (Nat.le_of_ble_eq_true rfl)
          show AW _ _ _ _ _ _ _
          refine n_callV (mi' := miX12_must) dX12_readStep_138 lX12_228 mX12_must (by decide) rfl rfl rfl (c_X12_must (c := (yC (tkN D n) S N (vkw v_1) (spC (tkN D n) x.1))) (b := decide (kd (tkN D n) (yC (tkN D n) S N (vkw v_1) (spC (tkN D n) x.1)) = 5 ∧ cd (tkN D n) (yC (tkN D n) S N (vkw v_1) (spC (tkN D n) x.1)) = 59)) hDl hn hc_128 hb_135 (fun M_138 hc_138 hf_138 => ?_) d) rfl rfl (by omega) (by decide) (Nat.le_of_ble_eq_true rfl)
          show AW _ _ _ _ _ _ _
          rw [← end_b] at hc_138
          have h25_138 : M_138.1 132 25 = nI (nn + 1) := hf_138.i (hf_128.i (siN (hf_114.i siS (by unfold avP; omega)) (by omega)) (by unfold wsP muP; omega)) (by unfold muP; omega)
          have hw_138 : M_138.1 137 (1540 + 9 * nn) = nI v_1 := hf_138.i (hf_128.i siS (by unfold wsP muP; omega)) (by unfold muP; omega)
          have hz_138 : fr yzP M M_138 := (hz_114.t (hf_128.mo (fun k j z => z.elim mu_yz (fun z => Or.inr (Or.inr (by omega)))))).t (hf_138.mo (fun _ _ z => mu_yz z))
          have hbe : ybG (tkN D n) (yv (tkN D n) x.1) (scN x.2.1.2 x.2.1.1) x.2.2.1 x.1 = spC (tkN D n) x.1 := by rw [hyv, hnn, he]; exact congrArg (spC (tkN D n)) ((if_neg (fun q => q (Or.inr hst))).trans ((if_neg (fun q => by have := q.2; omega)).trans (if_neg (fun q => hnb q))))
          have hold_138 : ∀ j, 1540 ≤ j → j < (1540 + 9 * nn) → M_138.1 137 j = M.1 137 j := fun j h1 h2 => ((hf_138 137 j (by unfold muP; omega)).1.trans ((hf_128 137 j (by unfold wsP muP; omega)).1)).trans ((siN rfl (by omega)).trans (((hf_114 137 j (by unfold avP; omega)).1).trans (siN rfl (by omega))))
          have hcl_138 : (yC (tkN D n) S N (vkw v_1) (spC (tkN D n) x.1)).2.1 = 0 → (vkw v_1 = 13 ∨ vkw v_1 = 14 ∨ vkw v_1 = 22 → M_138.1 137 ((1540 + 9 * nn) + 1) = nI (yNum (tkN D n) S N (vkw v_1) (spC (tkN D n) x.1))) ∧ (vkw v_1 = 15 ∨ vkw v_1 = 16 ∨ vkw v_1 = 18 → M_138.1 137 ((1540 + 9 * nn) + 1) = nI (yWho (tkN D n) S N (vkw v_1) (spC (tkN D n) x.1))) ∧ (vkw v_1 = 15 ∨ vkw v_1 = 16 → M_138.1 137 ((1540 + 9 * nn) + 2) = nI (yNum (tkN D n) S N (vkw v_1) (spC (tkN D n) x.1))) ∧ (vkw v_1 = 18 → M_138.1 137 ((1540 + 9 * nn) + 5) = nI (yTst (tkN D n) (vkw v_1) (spC (tkN D n) x.1) - 19) ∧ (yTst (tkN D n) (vkw v_1) (spC (tkN D n) x.1) = 21 → M_138.1 137 ((1540 + 9 * nn) + 6) = nI (yNum (tkN D n) S N (vkw v_1) (spC (tkN D n) x.1)) ∧ M_138.1 137 ((1540 + 9 * nn) + 7) = nI (yCmp (tkN D n) S N (vkw v_1) (spC (tkN D n) x.1)))) := fun q => ⟨fun z => hf_138.i ((hy_128 q).1 z) (by unfold muP; omega), fun z => hf_138.i ((hy_128 q).2.1 z) (by unfold muP; omega), fun z => hf_138.i ((hy_128 q).2.2.1 z) (by unfold muP; omega), fun z => ⟨hf_138.i ((hy_128 q).2.2.2 z).1 (by unfold muP; omega), fun y => ⟨hf_138.i (((hy_128 q).2.2.2 z).2 y).1 (by unfold muP; omega), hf_138.i (((hy_128 q).2.2.2 z).2 y).2 (by unfold muP; omega)⟩⟩⟩
          refine a_iload_n rfl dX12_readStep_141 ?_
          refine n_if_eq 169 (by decide) dX12_readStep_142 (by decide) (fun _ => ?_) (fun h => absurd h (by decide))
          refine a_iload_n rfl dX12_readStep_169 ?_
          refine n_if_eq 191 (by decide) dX12_readStep_170 (by decide) (fun _ => ?_) (fun h => absurd h (by decide))
          refine a_aload_n rfl dX12_readStep_191 ?_
          refine a_geta dX12_readStep_192 fX12_35 (by decide) rfl rfl ?_
          refine a_iload rfl dX12_readStep_195 ?_
          refine n_bipush 8 rfl dX12_readStep_197 ?_
          refine n_iadd dX12_readStep_199 ?_
          refine a_aload_n rfl dX12_readStep_200 ?_
          refine g_i h25_138 (by decide) rfl fX12_319 rfl dX12_readStep_201 ?_
          refine n_iast (by omega) (by decide) rfl (by decide) dX12_readStep_204 ?_
          refine a_vret dX12_readStep_205 rfl ?_
          have hs := my_step (M3 := (siM M_138 137 ((1540 + 9 * nn) + 8) (nI (nn + 1)))) hn h3 hX h0 (by rw [hk1]; decide) (by rw [hbe, sp_f]; exact h0) (by rw [hyv]; exact hst) (by rw [hbe, hyv]; exact (MU_si hc_138)) (fun j h1 h2 => by rw [hnn] at h2; exact (siN (hold_138 j h1 h2) (by omega))) (by rw [hnn]; exact (siN h25_138 (by omega))) (fun q => by rw [hbe, hyv] at q ⊢; rw [hnn]; exact yst_it (by rw [vk_vk h_1]; exact (siN hw_138 (by omega))) (fun z => siN ((hcl_138 q).1 z) (by omega)) (fun z => siN ((hcl_138 q).2.1 z) (by omega)) (fun z => siN ((hcl_138 q).2.2.1 z) (by omega)) (fun z => ⟨siN ((hcl_138 q).2.2.2 z).1 (by omega), fun y => ⟨siN (((hcl_138 q).2.2.2 z).2 y).1 (by omega), siN (((hcl_138 q).2.2.2 z).2 y).2 (by omega)⟩⟩)) (fun q => by rw [hnn]; rw [hyv] at q; exact siS)
          exact hQ _ _ (k + 1) hs.1 (Nat.lt_succ_self _) (fun q => ⟨by rw [(hs.2 q).1, hyv, if_neg (fun z => n56 (hop.mp z)), he], (hs.2 q).2.1⟩) (hz_138.si (Or.inr (Or.inr (by omega))))
        · refine a_aload_n rfl dX12_readStep_46 ?_
          refine n_bipush 6 rfl dX12_readStep_47 ?_
          refine a_aload_n rfl dX12_readStep_49 ?_
          refine g_i hat (by decide) rfl fX12_118 rfl dX12_readStep_50 ?_
          refine n_callV (mi' := miX12_fail) dX12_readStep_53 lX12_218 mX12_fail (by decide) rfl rfl rfl (c_X12_fail (c := x.1) (w := 6) hDl hn hX.1 (by decide) (fun _ => by rw [hk1]; decide) hpp (fun M_53 hc_53 hf_53 => ?_) d) rfl rfl (by omega) (by decide) (Nat.le_of_ble_eq_true rfl)
          show AW _ _ _ _ _ _ _
          obtain ⟨b_53, hbe_53⟩ : ∃ b, (flC (tkN D n) 6 x.1).2.1 = b := ⟨_, rfl⟩
          have hb7_53 : b_53 ≤ 7 := by rw [← hbe_53]; exact hc_53.2.2.2.2
          have hb0_53 : b_53 ≠ 0 := by rw [← hbe_53]; exact fl_z (by decide)
          have hbm_53 : M_53.1 132 12 = nI b_53 := by rw [← hbe_53]; exact hc_53.2.2.1
          refine a_aload_n rfl dX12_readStep_56 ?_
          refine g_i hbm_53 (by decide) rfl fX12_212 rfl dX12_readStep_57 ?_
          refine n_if_ne 82 (by omega) dX12_readStep_60 (by decide) (fun h_60 => ?_) (fun h_60 => absurd h_60 (by omega))
          refine a_aload_n rfl dX12_readStep_82 ?_
          refine g_i hbm_53 (by decide) rfl fX12_212 rfl dX12_readStep_83 ?_
          refine n_if_le 90 (by omega) dX12_readStep_86 (by decide) (fun h_86 => absurd h_86 (by omega)) (fun h_86 => ?_)
          refine a_vret dX12_readStep_89 rfl ?_
          have hb := my_bad (w := 6) h3 hX h0 (by decide) (Or.inl ⟨by rw [hk1]; decide, congrArg (spC (tkN D n)) ((if_neg (fun q => q (Or.inr (by rw [hyv]; exact hst)))).trans (if_pos ⟨by rw [hyv]; exact hst, by rw [hnn]; omega⟩))⟩) hc_53
          exact hQ _ _ (k + 1) hb (Nat.lt_succ_self _) (fun q => absurd q (fl_z (by decide))) (hf_53.mo (fun _ _ z => mu_yz z))
      · refine n_iconst 1 rfl dX12_readStep_16 ?_
        refine a_goto 21 dX12_readStep_17 (by decide) ?_
        refine a_istore_n (by decide) rfl dX12_readStep_21 ?_
        refine a_iload_n rfl dX12_readStep_22 ?_
        refine n_if_ge 30 (by omega) dX12_readStep_23 (by decide) ?_
        refine a_aload_n rfl dX12_readStep_30 ?_
        refine g_i hbad (by decide) rfl fX12_212 rfl dX12_readStep_31 ?_
        refine n_if_ne 56 (by decide) dX12_readStep_34 (by decide) (fun h => absurd h (by decide)) (fun _ => ?_)
        refine a_aload_n rfl dX12_readStep_37 ?_
        refine g_i h25x (by decide) rfl fX12_319 rfl dX12_readStep_38 ?_
        refine n_bipush 30 rfl dX12_readStep_41 ?_
        refine n_icmp_ne 56 (by omega) (by omega) dX12_readStep_43 (by decide) (fun h_43 => ?_) (fun h_43 => ?_)
        · refine a_aload_n rfl dX12_readStep_56 ?_
          refine g_i hbad (by decide) rfl fX12_212 rfl dX12_readStep_57 ?_
          refine n_if_ne 82 (by decide) dX12_readStep_60 (by decide) (fun h => absurd h (by decide)) (fun _ => ?_)
          refine a_iload_n rfl dX12_readStep_63 ?_
          refine n_if_eq 82 (by decide) dX12_readStep_64 (by decide) (fun h => absurd h (by decide)) (fun _ => ?_)
          refine a_iload_n rfl dX12_readStep_67 ?_
          refine n_iconst 3 rfl dX12_readStep_68 ?_
          refine n_icmp_ne 82 (by omega) (by omega) dX12_readStep_69 (by decide) (fun h_69 => ?_) (fun h_69 => ?_)
          · refine a_aload_n rfl dX12_readStep_82 ?_
            refine g_i hbad (by decide) rfl fX12_212 rfl dX12_readStep_83 ?_
            refine n_if_le 90 (by decide) dX12_readStep_86 (by decide) (fun _ => ?_) (fun h => absurd h (by decide))
            have hnl : nn < 30 := by clear hX hkd hne hpp ih; omega
            have hj8 : 1540 ≤ 1540 + 9 * nn + 8 ∧ 1540 + 9 * nn + 8 < 1810 := by clear hX hkd hne hpp ih; omega
            have hnb : ¬ (yOp (vkw v_1) ∧ 3 ≤ e) := by clear hX hkd hne hpp ih; omega
            refine n_sipush 1540 rfl dX12_readStep_90 ?_
            refine n_bipush 9 rfl dX12_readStep_93 ?_
            refine a_aload_n rfl dX12_readStep_95 ?_
            refine g_i h25x (by decide) rfl fX12_319 rfl dX12_readStep_96 ?_
            refine n_imul dX12_readStep_99 ?_
            refine n_iadd dX12_readStep_100 ?_
            refine a_istore (by decide) rfl dX12_readStep_101 ?_
            refine a_aload_n rfl dX12_readStep_103 ?_
            refine a_dup rfl dX12_readStep_104 ?_
            refine g_i h25x (by decide) rfl fX12_319 rfl dX12_readStep_105 ?_
            refine n_iconst 1 rfl dX12_readStep_108 ?_
            refine n_iadd dX12_readStep_109 ?_
            refine a_puti dX12_readStep_110 pX12_319 (by decide) rfl rfl ?_
            refine a_aload_n rfl dX12_readStep_113 ?_
            have hs25 : fr (fun k j => k = 132 ∧ j = 25) M (siM M 132 25 (nI (nn + 1))) := fr.r.si (by omega)
            refine n_callV (mi' := miX12_advance) dX12_readStep_114 lX12_222 mX12_advance (by decide) rfl rfl rfl (c_X12_advance (k := x.1.1 + 1) (MA_fr hX.1.1 hs25 (fun k j z => by omega)) hDl hn (siN hX.1.2.1.2.2.1 (by omega)) (fun M_114 hk_114 hf_114 => ?_) d) rfl rfl (by omega) (by decide) (Nat.le_of_ble_eq_true rfl)
            show AW _ _ _ _ _ _ _
            have hU_114 : MU M_114 D n (spC (tkN D n) x.1) := MU_av (MU_fr hX.1 hs25 (fun k j z => by omega)) h0 hk_114 hf_114
            have hz_114 : fr yzP M (siM M_114 137 (1540 + 9 * nn) (nI v_1)) := ((hs25.mo (fun k j z => Or.inr (Or.inl z))).t (hf_114.mo (fun _ _ z => mu_yz (av_mu z)))).si (Or.inr (Or.inr (by omega)))
            refine a_aload_n rfl dX12_readStep_117 ?_
            refine a_geta dX12_readStep_118 fX12_35 (by decide) rfl rfl ?_
            refine a_iload rfl dX12_readStep_121 ?_
            refine a_iload_n rfl dX12_readStep_123 ?_
            refine n_iast (by omega) (by decide) rfl (by decide) dX12_readStep_124 ?_
            refine a_aload_n rfl dX12_readStep_125 ?_
            refine a_iload rfl dX12_readStep_126 ?_
            refine n_callV (mi' := miX12_readRest) dX12_readStep_128 lX12_322 mX12_readRest (by decide) rfl rfl rfl (c_X12_readRest (c := spC (tkN D n) x.1) (v := vkw v_1) (u := v_1) hDl hn (MU_si hU_114) (VM_yz hM hF hz_114) hF (VNM_yz hN hz_114) (by omega) (by omega) siS hwi (fun M_128 hc_128 hy_128 hf_128 => ?_) d) rfl rfl (by omega) (by decide) (Nat.le_of_ble_eq_true rfl)
            show AW _ _ _ _ _ _ _
            refine a_aload_n rfl dX12_readStep_131 ?_
            refine a_aload_n rfl dX12_readStep_132 ?_
            refine n_bipush 59 rfl dX12_readStep_133 ?_
            refine n_callV (mi' := miX12_isSign) dX12_readStep_135 lX12_307 mX12_isSign (by decide) rfl rfl rfl (v_sgn (c := (yC (tkN D n) S N (vkw v_1) (spC (tkN D n) x.1))) hDl hn hc_128 (by decide) (fun b_135 hb_135 => ?_) d) rfl rfl (by omega) (by decide) (Nat.le_of_ble_eq_true rfl)
            show AW _ _ _ _ _ _ _
            refine n_callV (mi' := miX12_must) dX12_readStep_138 lX12_228 mX12_must (by decide) rfl rfl rfl (c_X12_must (c := (yC (tkN D n) S N (vkw v_1) (spC (tkN D n) x.1))) (b := decide (kd (tkN D n) (yC (tkN D n) S N (vkw v_1) (spC (tkN D n) x.1)) = 5 ∧ cd (tkN D n) (yC (tkN D n) S N (vkw v_1) (spC (tkN D n) x.1)) = 59)) hDl hn hc_128 hb_135 (fun M_138 hc_138 hf_138 => ?_) d) rfl rfl (by omega) (by decide) (Nat.le_of_ble_eq_true rfl)
            show AW _ _ _ _ _ _ _
            rw [← end_b] at hc_138
            have h25_138 : M_138.1 132 25 = nI (nn + 1) := hf_138.i (hf_128.i (siN (hf_114.i siS (by unfold avP; omega)) (by omega)) (by unfold wsP muP; omega)) (by unfold muP; omega)
            have hw_138 : M_138.1 137 (1540 + 9 * nn) = nI v_1 := hf_138.i (hf_128.i siS (by unfold wsP muP; omega)) (by unfold muP; omega)
            have hz_138 : fr yzP M M_138 := (hz_114.t (hf_128.mo (fun k j z => z.elim mu_yz (fun z => Or.inr (Or.inr (by omega)))))).t (hf_138.mo (fun _ _ z => mu_yz z))
            have hbe : ybG (tkN D n) (yv (tkN D n) x.1) (scN x.2.1.2 x.2.1.1) x.2.2.1 x.1 = spC (tkN D n) x.1 := by rw [hyv, hnn, he]; exact congrArg (spC (tkN D n)) ((if_neg (fun q => q (Or.inr hst))).trans ((if_neg (fun q => by have := q.2; omega)).trans (if_neg (fun q => hnb q))))
            have hold_138 : ∀ j, 1540 ≤ j → j < (1540 + 9 * nn) → M_138.1 137 j = M.1 137 j := fun j h1 h2 => ((hf_138 137 j (by unfold muP; omega)).1.trans ((hf_128 137 j (by unfold wsP muP; omega)).1)).trans ((siN rfl (by omega)).trans (((hf_114 137 j (by unfold avP; omega)).1).trans (siN rfl (by omega))))
            have hcl_138 : (yC (tkN D n) S N (vkw v_1) (spC (tkN D n) x.1)).2.1 = 0 → (vkw v_1 = 13 ∨ vkw v_1 = 14 ∨ vkw v_1 = 22 → M_138.1 137 ((1540 + 9 * nn) + 1) = nI (yNum (tkN D n) S N (vkw v_1) (spC (tkN D n) x.1))) ∧ (vkw v_1 = 15 ∨ vkw v_1 = 16 ∨ vkw v_1 = 18 → M_138.1 137 ((1540 + 9 * nn) + 1) = nI (yWho (tkN D n) S N (vkw v_1) (spC (tkN D n) x.1))) ∧ (vkw v_1 = 15 ∨ vkw v_1 = 16 → M_138.1 137 ((1540 + 9 * nn) + 2) = nI (yNum (tkN D n) S N (vkw v_1) (spC (tkN D n) x.1))) ∧ (vkw v_1 = 18 → M_138.1 137 ((1540 + 9 * nn) + 5) = nI (yTst (tkN D n) (vkw v_1) (spC (tkN D n) x.1) - 19) ∧ (yTst (tkN D n) (vkw v_1) (spC (tkN D n) x.1) = 21 → M_138.1 137 ((1540 + 9 * nn) + 6) = nI (yNum (tkN D n) S N (vkw v_1) (spC (tkN D n) x.1)) ∧ M_138.1 137 ((1540 + 9 * nn) + 7) = nI (yCmp (tkN D n) S N (vkw v_1) (spC (tkN D n) x.1)))) := fun q => ⟨fun z => hf_138.i ((hy_128 q).1 z) (by unfold muP; omega), fun z => hf_138.i ((hy_128 q).2.1 z) (by unfold muP; omega), fun z => hf_138.i ((hy_128 q).2.2.1 z) (by unfold muP; omega), fun z => ⟨hf_138.i ((hy_128 q).2.2.2 z).1 (by unfold muP; omega), fun y => ⟨hf_138.i (((hy_128 q).2.2.2 z).2 y).1 (by unfold muP; omega), hf_138.i (((hy_128 q).2.2.2 z).2 y).2 (by unfold muP; omega)⟩⟩⟩
            have h56 : v_1 = 5 ∨ v_1 = 6 := by clear hX hkd hne hpp ih hcl_138 hy_128; omega
            have hs := my_step (M3 := M_138) hn h3 hX h0 (by rw [hk1]; decide) (by rw [hbe, sp_f]; exact h0) (by rw [hyv]; exact hst) (by rw [hbe, hyv]; exact hc_138) (fun j h1 h2 => by rw [hnn] at h2; exact hold_138 j h1 h2) (by rw [hnn]; exact h25_138) (fun q => by rw [hbe, hyv] at q ⊢; rw [hnn]; exact yst_it (by rw [vk_vk h_1]; exact hw_138) (hcl_138 q).1 (hcl_138 q).2.1 (hcl_138 q).2.2.1 (hcl_138 q).2.2.2) (fun q => by rw [hnn]; rw [hyv] at q; exact absurd (hop.mpr h56) q)
            have hsd : (ysT (tkN D n) S N x).1.2.1 = 0 → (ysT (tkN D n) S N x).2.2.1 = e + 1 := fun q => by rw [(hs.2 q).1, hyv, if_pos (hop.mpr h56), he]
            obtain ⟨g', hg'⟩ : ∃ g', g = g' + 1 := ⟨g - 1, by clear hX hkd hne hpp ih hcl_138 hy_128 hs hsd; omega⟩
            have loop_141 : ∀ (f : Nat) (k1 : Nat) (y : YS) (M1 : Mm), 301 ≤ k1 + f → (MYS M1 D n S N R k1 y ∧ (y.1.2.1 = 0 → y.2.2.1 = e + 1 ∧ yext (ysT (tkN D n) S N x) y) ∧ fr yzP M_138 M1 ∧ k + 1 ≤ k1 ∧ (y.1.2.1 = 0 → (ysT (tkN D n) S N x).1.2.1 = 0)) → AW miX12_readStep (d + g + 9) (mxA Q) 141 [(0, some (.ref 132)), (1, some (.int (nI e))), (2, some (.int (nI v_1))), (3, some (.int (nI 1))), (4, some (.int (nI (1540 + (9 * nn)))))] [] M1 := by
              intro f
              induction f with
              | zero =>
                intro k1 y M1 hL_141 hI_141
                have hy := hI_141
                have hf7 : y.1.2.1 ≤ 7 := hy.1.1.2.2.2.2
                have hk3 : y.1.2.1 = 0 → k1 ≤ 300 := fun q => Nat.le_trans (hy.1.2.1 q).2.2.1 (Nat.le_trans (hy.1.2.1 q).2.2.2 h3)
                refine a_iload_n rfl dX12_readStep_141 ?_
                refine n_if_eq 169 (by decide) dX12_readStep_142 (by decide) (fun h => absurd h (by decide)) (fun _ => ?_)
                refine a_aload_n rfl dX12_readStep_145 ?_
                refine g_i hy.1.1.2.2.1 (by decide) rfl fX12_212 rfl dX12_readStep_146 ?_
                refine n_if_ne 169 (by omega) dX12_readStep_149 (by decide) (fun h_149 => ?_) (fun h_149 => absurd h_149 (by omega))
                refine a_iload_n rfl dX12_readStep_169 ?_
                refine n_if_eq 191 (by decide) dX12_readStep_170 (by decide) (fun h => absurd h (by decide)) (fun _ => ?_)
                refine a_aload_n rfl dX12_readStep_173 ?_
                refine a_aload_n rfl dX12_readStep_174 ?_
                refine n_callV (mi' := miX12_isEnd) dX12_readStep_175 lX12_206 mX12_isEnd (by decide) rfl rfl rfl (v_end (c := y.1) hDl hn hy.1.1 (fun b_175 hb_175 => ?_) d) rfl rfl (by omega) (by decide) (Nat.le_of_ble_eq_true rfl)
                show AW _ _ _ _ _ _ _
                refine n_callV (mi' := miX12_must) dX12_readStep_178 lX12_228 mX12_must (by decide) rfl rfl rfl (c_X12_must (c := y.1) (b := isK (tkN D n) y.1 23) hDl hn hy.1.1 hb_175 (fun M_178 hc_178 hf_178 => ?_) d) rfl rfl (by omega) (by decide) (Nat.le_of_ble_eq_true rfl)
                show AW _ _ _ _ _ _ _
                refine a_aload_n rfl dX12_readStep_181 ?_
                refine a_aload_n rfl dX12_readStep_182 ?_
                refine n_bipush 59 rfl dX12_readStep_183 ?_
                refine n_callV (mi' := miX12_isSign) dX12_readStep_185 lX12_307 mX12_isSign (by decide) rfl rfl rfl (v_sgn (c := (spC (tkN D n) (if isK (tkN D n) y.1 23 = true then y.1 else flC (tkN D n) 2 y.1))) hDl hn hc_178 (by decide) (fun b_185 hb_185 => ?_) d) rfl rfl (by omega) (by decide) (Nat.le_of_ble_eq_true rfl)
                show AW _ _ _ _ _ _ _
                refine n_callV (mi' := miX12_must) dX12_readStep_188 lX12_228 mX12_must (by decide) rfl rfl rfl (c_X12_must (c := (spC (tkN D n) (if isK (tkN D n) y.1 23 = true then y.1 else flC (tkN D n) 2 y.1))) (b := decide (kd (tkN D n) (spC (tkN D n) (if isK (tkN D n) y.1 23 = true then y.1 else flC (tkN D n) 2 y.1)) = 5 ∧ cd (tkN D n) (spC (tkN D n) (if isK (tkN D n) y.1 23 = true then y.1 else flC (tkN D n) 2 y.1)) = 59)) hDl hn hc_178 hb_185 (fun M_188 hc_188 hf_188 => ?_) d) rfl rfl (by omega) (by decide) (Nat.le_of_ble_eq_true rfl)
                show AW _ _ _ _ _ _ _
                rw [← end_b] at hc_188
                refine a_aload_n rfl dX12_readStep_191 ?_
                refine a_geta dX12_readStep_192 fX12_35 (by decide) rfl rfl ?_
                refine a_iload rfl dX12_readStep_195 ?_
                refine n_bipush 8 rfl dX12_readStep_197 ?_
                refine n_iadd dX12_readStep_199 ?_
                refine a_aload_n rfl dX12_readStep_200 ?_
                refine a_geti dX12_readStep_201 fX12_319 (by decide) rfl rfl ?_
                refine n_iast (by omega) (by decide) rfl (by decide) dX12_readStep_204 ?_
                refine a_vret dX12_readStep_205 rfl ?_
                have hff : fr muP M1 M_188 := hf_178.t hf_188
                obtain ⟨k', x', hX', hk', hz'⟩ := my_close (M3 := (siM M_188 137 ((1540 + 9 * nn) + 8) (M_188.1 132 25))) (e := e) (p := x.2.1.1) (W := (1540 + 9 * nn)) hn h3 hy.1 (fun q => ⟨(hy.2.1 q).1, ((hy.2.1 q).2.2.2 e (by rw [hsd (hy.2.2.2.2 q)]; exact Nat.lt_succ_self e)).trans (by have z := (hs.2 (hy.2.2.2.2 q)).2.2.1 (by rw [hyv]; exact hop.mpr h56); rw [he] at z; exact z), by rw [show scN y.2.1.2 x.2.1.1 = nn from by rw [← hnn]; exact sc_e (fun i hi => by rw [(hy.2.1 q).2.2.1 i (by rw [(hs.2 (hy.2.2.2.2 q)).2.2.2]; exact Nat.lt_succ_of_lt hi), (hs.2 (hy.2.2.2.2 q)).2.1.2.1 i hi])]⟩) (fun q => absurd q h_149) (MU_si hc_188) (fun j h1 h2 => (siN rfl (Or.inr h2)).trans (hff 137 j (fun z => absurd z.1 (by decide))).1) ((siN rfl (Or.inl (by decide))).trans (hff 132 25 (fun z => absurd z.2.2 (by decide))).1) (siS.trans (hff 132 25 (fun z => absurd z.2.2 (by decide))).1)
                exact hQ _ _ k' hX' (Nat.lt_of_lt_of_le (Nat.lt_of_succ_le hy.2.2.2.1) hk') (fun q => by
                  obtain ⟨z1, z2, z3, z4, z5⟩ := hz' q
                  have ex := (hy.2.1 z1).2
                  have es := hs.2 (hy.2.2.2.2 z1)
                  have hLy : x.2.1.1 + 1 ≤ y.2.1.1 := by rw [← es.2.2.2]; exact ex.1
                  refine ⟨z2, ⟨by rw [z3]; exact Nat.le_trans (Nat.le_of_succ_le hLy) (Nat.le_succ _), fun i hi => ?_, fun j hj => ?_⟩⟩
                  · rw [z4 i (Nat.lt_of_lt_of_le hi (Nat.le_of_succ_le hLy)) (Nat.ne_of_lt hi), ex.2.1 i (by rw [es.2.2.2]; exact Nat.lt_succ_of_lt hi), es.2.1.2.1 i hi]
                  · rw [z5, ex.2.2 j (by rw [hsd (hy.2.2.2.2 z1)]; rw [he] at hj; exact Nat.lt_succ_of_lt hj), es.2.1.2.2 j hj]) (((hz_138.t hy.2.2.1).t (hff.mo (fun _ _ z => mu_yz z))).si (Or.inr (Or.inr ⟨rfl, hj8.1, hj8.2⟩)))
              | succ f ih_141 =>
                intro k1 y M1 hL_141 hI_141
                have hy := hI_141
                have hf7 : y.1.2.1 ≤ 7 := hy.1.1.2.2.2.2
                have hk3 : y.1.2.1 = 0 → k1 ≤ 300 := fun q => Nat.le_trans (hy.1.2.1 q).2.2.1 (Nat.le_trans (hy.1.2.1 q).2.2.2 h3)
                refine a_iload_n rfl dX12_readStep_141 ?_
                refine n_if_eq 169 (by decide) dX12_readStep_142 (by decide) (fun h => absurd h (by decide)) (fun _ => ?_)
                refine a_aload_n rfl dX12_readStep_145 ?_
                refine g_i hy.1.1.2.2.1 (by decide) rfl fX12_212 rfl dX12_readStep_146 ?_
                refine n_if_ne 169 (by omega) dX12_readStep_149 (by decide) (fun h_149 => ?_) (fun h_149 => ?_)
                · refine a_iload_n rfl dX12_readStep_169 ?_
                  refine n_if_eq 191 (by decide) dX12_readStep_170 (by decide) (fun h => absurd h (by decide)) (fun _ => ?_)
                  refine a_aload_n rfl dX12_readStep_173 ?_
                  refine a_aload_n rfl dX12_readStep_174 ?_
                  refine n_callV (mi' := miX12_isEnd) dX12_readStep_175 lX12_206 mX12_isEnd (by decide) rfl rfl rfl (v_end (c := y.1) hDl hn hy.1.1 (fun b_175 hb_175 => ?_) d) rfl rfl (by omega) (by decide) (Nat.le_of_ble_eq_true rfl)
                  show AW _ _ _ _ _ _ _
                  refine n_callV (mi' := miX12_must) dX12_readStep_178 lX12_228 mX12_must (by decide) rfl rfl rfl (c_X12_must (c := y.1) (b := isK (tkN D n) y.1 23) hDl hn hy.1.1 hb_175 (fun M_178 hc_178 hf_178 => ?_) d) rfl rfl (by omega) (by decide) (Nat.le_of_ble_eq_true rfl)
                  show AW _ _ _ _ _ _ _
                  refine a_aload_n rfl dX12_readStep_181 ?_
                  refine a_aload_n rfl dX12_readStep_182 ?_
                  refine n_bipush 59 rfl dX12_readStep_183 ?_
                  refine n_callV (mi' := miX12_isSign) dX12_readStep_185 lX12_307 mX12_isSign (by decide) rfl rfl rfl (v_sgn (c := (spC (tkN D n) (if isK (tkN D n) y.1 23 = true then y.1 else flC (tkN D n) 2 y.1))) hDl hn hc_178 (by decide) (fun b_185 hb_185 => ?_) d) rfl rfl (by omega) (by decide) (Nat.le_of_ble_eq_true rfl)
                  show AW _ _ _ _ _ _ _
                  refine n_callV (mi' := miX12_must) dX12_readStep_188 lX12_228 mX12_must (by decide) rfl rfl rfl (c_X12_must (c := (spC (tkN D n) (if isK (tkN D n) y.1 23 = true then y.1 else flC (tkN D n) 2 y.1))) (b := decide (kd (tkN D n) (spC (tkN D n) (if isK (tkN D n) y.1 23 = true then y.1 else flC (tkN D n) 2 y.1)) = 5 ∧ cd (tkN D n) (spC (tkN D n) (if isK (tkN D n) y.1 23 = true then y.1 else flC (tkN D n) 2 y.1)) = 59)) hDl hn hc_178 hb_185 (fun M_188 hc_188 hf_188 => ?_) d) rfl rfl (by omega) (by decide) (Nat.le_of_ble_eq_true rfl)
                  show AW _ _ _ _ _ _ _
                  rw [← end_b] at hc_188
                  refine a_aload_n rfl dX12_readStep_191 ?_
                  refine a_geta dX12_readStep_192 fX12_35 (by decide) rfl rfl ?_
                  refine a_iload rfl dX12_readStep_195 ?_
                  refine n_bipush 8 rfl dX12_readStep_197 ?_
                  refine n_iadd dX12_readStep_199 ?_
                  refine a_aload_n rfl dX12_readStep_200 ?_
                  refine a_geti dX12_readStep_201 fX12_319 (by decide) rfl rfl ?_
                  refine n_iast (by omega) (by decide) rfl (by decide) dX12_readStep_204 ?_
                  refine a_vret dX12_readStep_205 rfl ?_
                  have hff : fr muP M1 M_188 := hf_178.t hf_188
                  obtain ⟨k', x', hX', hk', hz'⟩ := my_close (M3 := (siM M_188 137 ((1540 + 9 * nn) + 8) (M_188.1 132 25))) (e := e) (p := x.2.1.1) (W := (1540 + 9 * nn)) hn h3 hy.1 (fun q => ⟨(hy.2.1 q).1, ((hy.2.1 q).2.2.2 e (by rw [hsd (hy.2.2.2.2 q)]; exact Nat.lt_succ_self e)).trans (by have z := (hs.2 (hy.2.2.2.2 q)).2.2.1 (by rw [hyv]; exact hop.mpr h56); rw [he] at z; exact z), by rw [show scN y.2.1.2 x.2.1.1 = nn from by rw [← hnn]; exact sc_e (fun i hi => by rw [(hy.2.1 q).2.2.1 i (by rw [(hs.2 (hy.2.2.2.2 q)).2.2.2]; exact Nat.lt_succ_of_lt hi), (hs.2 (hy.2.2.2.2 q)).2.1.2.1 i hi])]⟩) (fun q => absurd q h_149) (MU_si hc_188) (fun j h1 h2 => (siN rfl (Or.inr h2)).trans (hff 137 j (fun z => absurd z.1 (by decide))).1) ((siN rfl (Or.inl (by decide))).trans (hff 132 25 (fun z => absurd z.2.2 (by decide))).1) (siS.trans (hff 132 25 (fun z => absurd z.2.2 (by decide))).1)
                  exact hQ _ _ k' hX' (Nat.lt_of_lt_of_le (Nat.lt_of_succ_le hy.2.2.2.1) hk') (fun q => by
                    obtain ⟨z1, z2, z3, z4, z5⟩ := hz' q
                    have ex := (hy.2.1 z1).2
                    have es := hs.2 (hy.2.2.2.2 z1)
                    have hLy : x.2.1.1 + 1 ≤ y.2.1.1 := by rw [← es.2.2.2]; exact ex.1
                    refine ⟨z2, ⟨by rw [z3]; exact Nat.le_trans (Nat.le_of_succ_le hLy) (Nat.le_succ _), fun i hi => ?_, fun j hj => ?_⟩⟩
                    · rw [z4 i (Nat.lt_of_lt_of_le hi (Nat.le_of_succ_le hLy)) (Nat.ne_of_lt hi), ex.2.1 i (by rw [es.2.2.2]; exact Nat.lt_succ_of_lt hi), es.2.1.2.1 i hi]
                    · rw [z5, ex.2.2 j (by rw [hsd (hy.2.2.2.2 z1)]; rw [he] at hj; exact Nat.lt_succ_of_lt hj), es.2.1.2.2 j hj]) (((hz_138.t hy.2.2.1).t (hff.mo (fun _ _ z => mu_yz z))).si (Or.inr (Or.inr ⟨rfl, hj8.1, hj8.2⟩)))
                · refine a_aload_n rfl dX12_readStep_152 ?_
                  refine n_callV (mi' := miX12_isEnd) dX12_readStep_153 lX12_206 mX12_isEnd (by decide) rfl rfl rfl (c_X12_isEnd hDl hn hy.1.1 (fun h_153 => ?_) (fun h_153 => ?_) d) rfl rfl (by omega) (by decide) (Nat.le_of_ble_eq_true rfl)
                  · show AW _ _ _ _ _ _ _
                    refine n_if_ne 169 (by decide) dX12_readStep_156 (by decide) (fun _ => ?_) (fun h => absurd h (by decide))
                    refine a_iload_n rfl dX12_readStep_169 ?_
                    refine n_if_eq 191 (by decide) dX12_readStep_170 (by decide) (fun h => absurd h (by decide)) (fun _ => ?_)
                    refine a_aload_n rfl dX12_readStep_173 ?_
                    refine a_aload_n rfl dX12_readStep_174 ?_
                    refine n_callV (mi' := miX12_isEnd) dX12_readStep_175 lX12_206 mX12_isEnd (by decide) rfl rfl rfl (v_end (c := y.1) hDl hn hy.1.1 (fun b_175 hb_175 => ?_) d) rfl rfl (by omega) (by decide) (Nat.le_of_ble_eq_true rfl)
                    show AW _ _ _ _ _ _ _
                    refine n_callV (mi' := miX12_must) dX12_readStep_178 lX12_228 mX12_must (by decide) rfl rfl rfl (c_X12_must (c := y.1) (b := isK (tkN D n) y.1 23) hDl hn hy.1.1 hb_175 (fun M_178 hc_178 hf_178 => ?_) d) rfl rfl (by omega) (by decide) (Nat.le_of_ble_eq_true rfl)
                    show AW _ _ _ _ _ _ _
                    refine a_aload_n rfl dX12_readStep_181 ?_
                    refine a_aload_n rfl dX12_readStep_182 ?_
                    refine n_bipush 59 rfl dX12_readStep_183 ?_
                    refine n_callV (mi' := miX12_isSign) dX12_readStep_185 lX12_307 mX12_isSign (by decide) rfl rfl rfl (v_sgn (c := (spC (tkN D n) (if isK (tkN D n) y.1 23 = true then y.1 else flC (tkN D n) 2 y.1))) hDl hn hc_178 (by decide) (fun b_185 hb_185 => ?_) d) rfl rfl (by omega) (by decide) (Nat.le_of_ble_eq_true rfl)
                    show AW _ _ _ _ _ _ _
                    refine n_callV (mi' := miX12_must) dX12_readStep_188 lX12_228 mX12_must (by decide) rfl rfl rfl (c_X12_must (c := (spC (tkN D n) (if isK (tkN D n) y.1 23 = true then y.1 else flC (tkN D n) 2 y.1))) (b := decide (kd (tkN D n) (spC (tkN D n) (if isK (tkN D n) y.1 23 = true then y.1 else flC (tkN D n) 2 y.1)) = 5 ∧ cd (tkN D n) (spC (tkN D n) (if isK (tkN D n) y.1 23 = true then y.1 else flC (tkN D n) 2 y.1)) = 59)) hDl hn hc_178 hb_185 (fun M_188 hc_188 hf_188 => ?_) d) rfl rfl (by omega) (by decide) (Nat.le_of_ble_eq_true rfl)
                    show AW _ _ _ _ _ _ _
                    rw [← end_b] at hc_188
                    refine a_aload_n rfl dX12_readStep_191 ?_
                    refine a_geta dX12_readStep_192 fX12_35 (by decide) rfl rfl ?_
                    refine a_iload rfl dX12_readStep_195 ?_
                    refine n_bipush 8 rfl dX12_readStep_197 ?_
                    refine n_iadd dX12_readStep_199 ?_
                    refine a_aload_n rfl dX12_readStep_200 ?_
                    refine a_geti dX12_readStep_201 fX12_319 (by decide) rfl rfl ?_
                    refine n_iast (by omega) (by decide) rfl (by decide) dX12_readStep_204 ?_
                    refine a_vret dX12_readStep_205 rfl ?_
                    have hff : fr muP M1 M_188 := hf_178.t hf_188
                    obtain ⟨k', x', hX', hk', hz'⟩ := my_close (M3 := (siM M_188 137 ((1540 + 9 * nn) + 8) (M_188.1 132 25))) (e := e) (p := x.2.1.1) (W := (1540 + 9 * nn)) hn h3 hy.1 (fun q => ⟨(hy.2.1 q).1, ((hy.2.1 q).2.2.2 e (by rw [hsd (hy.2.2.2.2 q)]; exact Nat.lt_succ_self e)).trans (by have z := (hs.2 (hy.2.2.2.2 q)).2.2.1 (by rw [hyv]; exact hop.mpr h56); rw [he] at z; exact z), by rw [show scN y.2.1.2 x.2.1.1 = nn from by rw [← hnn]; exact sc_e (fun i hi => by rw [(hy.2.1 q).2.2.1 i (by rw [(hs.2 (hy.2.2.2.2 q)).2.2.2]; exact Nat.lt_succ_of_lt hi), (hs.2 (hy.2.2.2.2 q)).2.1.2.1 i hi])]⟩) (fun _ => (yv_i (by decide)).mp h_153) (MU_si hc_188) (fun j h1 h2 => (siN rfl (Or.inr h2)).trans (hff 137 j (fun z => absurd z.1 (by decide))).1) ((siN rfl (Or.inl (by decide))).trans (hff 132 25 (fun z => absurd z.2.2 (by decide))).1) (siS.trans (hff 132 25 (fun z => absurd z.2.2 (by decide))).1)
                    exact hQ _ _ k' hX' (Nat.lt_of_lt_of_le (Nat.lt_of_succ_le hy.2.2.2.1) hk') (fun q => by
                      obtain ⟨z1, z2, z3, z4, z5⟩ := hz' q
                      have ex := (hy.2.1 z1).2
                      have es := hs.2 (hy.2.2.2.2 z1)
                      have hLy : x.2.1.1 + 1 ≤ y.2.1.1 := by rw [← es.2.2.2]; exact ex.1
                      refine ⟨z2, ⟨by rw [z3]; exact Nat.le_trans (Nat.le_of_succ_le hLy) (Nat.le_succ _), fun i hi => ?_, fun j hj => ?_⟩⟩
                      · rw [z4 i (Nat.lt_of_lt_of_le hi (Nat.le_of_succ_le hLy)) (Nat.ne_of_lt hi), ex.2.1 i (by rw [es.2.2.2]; exact Nat.lt_succ_of_lt hi), es.2.1.2.1 i hi]
                      · rw [z5, ex.2.2 j (by rw [hsd (hy.2.2.2.2 z1)]; rw [he] at hj; exact Nat.lt_succ_of_lt hj), es.2.1.2.2 j hj]) (((hz_138.t hy.2.2.1).t (hff.mo (fun _ _ z => mu_yz z))).si (Or.inr (Or.inr ⟨rfl, hj8.1, hj8.2⟩)))
                  · show AW _ _ _ _ _ _ _
                    refine n_if_ne 169 (by decide) dX12_readStep_156 (by decide) (fun h => absurd h (by decide)) (fun _ => ?_)
                    refine a_aload_n rfl dX12_readStep_159 ?_
                    refine a_iload_n rfl dX12_readStep_160 ?_
                    refine n_iconst 1 rfl dX12_readStep_161 ?_
                    refine n_iadd dX12_readStep_162 ?_
                    refine n_callV (mi' := miX12_readStep) dX12_readStep_163 lX12_325 mX12_readStep (by decide) rfl rfl rfl (ih g' hg' hy.1 h_149 (hy.2.1 h_149).1 (fun q => h_153 ((yv_i (by decide)).mpr q.1)) (Or.inr (Nat.succ_pos _)) (VM_yz hM hF (hz_138.t hy.2.2.1)) (VNM_yz hN (hz_138.t hy.2.2.1)) (fun M_163 x_163 k_163 hX_163 hl_163 hg_163 hr_163 => ?_) d) rfl rfl (by omega) (by decide) (Nat.le_of_ble_eq_true rfl)
                    show AW _ _ _ _ _ _ _
                    refine a_goto 141 dX12_readStep_166 (by decide) ?_
                    exact a_bk (ih_141 k_163 x_163 _ (by clear hX_163 hg_163 hr_163 hy hcl_138 hy_128 hs hsd hX hkd hne hpp ih; omega) ⟨hX_163, fun q => ⟨(hg_163 q).1, yext_t (hy.2.1 h_149).2 (hg_163 q).2 (by rw [hsd (hy.2.2.2.2 h_149), (hy.2.1 h_149).1]; exact Nat.le_refl _)⟩, hy.2.2.1.t hr_163, Nat.le_trans hy.2.2.2.1 (Nat.le_of_lt hl_163), fun _ => hy.2.2.2.2 h_149⟩) ⟨rfl, rfl, rfl, rfl, rfl, trivial⟩
            exact a_bk (loop_141 301 (k + 1) (ysT (tkN D n) S N x) _ (Nat.le_trans (Nat.le_add_left _ _) (Nat.le_refl _)) ⟨hs.1, fun q => ⟨hsd q, yext_r _⟩, fr.r, Nat.le_refl _, fun q => q⟩) ⟨rfl, rfl, rfl, rfl, rfl, trivial⟩
          · refine a_aload_n rfl dX12_readStep_72 ?_
            refine n_bipush 7 rfl dX12_readStep_73 ?_
            refine a_aload_n rfl dX12_readStep_75 ?_
            refine g_i hat (by decide) rfl fX12_118 rfl dX12_readStep_76 ?_
            refine n_callV (mi' := miX12_fail) dX12_readStep_79 lX12_218 mX12_fail (by decide) rfl rfl rfl (c_X12_fail (c := x.1) (w := 7) hDl hn hX.1 (by decide) (fun _ => by rw [hk1]; decide) hpp (fun M_79 hc_79 hf_79 => ?_) d) rfl rfl (by omega) (by decide) (Nat.le_of_ble_eq_true rfl)
            show AW _ _ _ _ _ _ _
            obtain ⟨b_79, hbe_79⟩ : ∃ b, (flC (tkN D n) 7 x.1).2.1 = b := ⟨_, rfl⟩
            have hb7_79 : b_79 ≤ 7 := by rw [← hbe_79]; exact hc_79.2.2.2.2
            have hb0_79 : b_79 ≠ 0 := by rw [← hbe_79]; exact fl_z (by decide)
            have hbm_79 : M_79.1 132 12 = nI b_79 := by rw [← hbe_79]; exact hc_79.2.2.1
            refine a_aload_n rfl dX12_readStep_82 ?_
            refine g_i hbm_79 (by decide) rfl fX12_212 rfl dX12_readStep_83 ?_
            refine n_if_le 90 (by omega) dX12_readStep_86 (by decide) (fun h_86 => absurd h_86 (by omega)) (fun h_86 => ?_)
            refine a_vret dX12_readStep_89 rfl ?_
            have hb := my_bad (w := 7) h3 hX h0 (by decide) (Or.inl ⟨by rw [hk1]; decide, congrArg (spC (tkN D n)) ((if_neg (fun q => q (Or.inr (by rw [hyv]; exact hst)))).trans ((if_neg (fun q => by have := q.2; rw [hnn] at this; omega)).trans (if_pos ⟨by rw [hyv]; exact hop.mpr (by omega), by rw [he]; omega⟩)))⟩) hc_79
            exact hQ _ _ (k + 1) hb (Nat.lt_succ_self _) (fun q => absurd q (fl_z (by decide))) (hf_79.mo (fun _ _ z => mu_yz z))
        · refine a_aload_n rfl dX12_readStep_46 ?_
          refine n_bipush 6 rfl dX12_readStep_47 ?_
          refine a_aload_n rfl dX12_readStep_49 ?_
          refine g_i hat (by decide) rfl fX12_118 rfl dX12_readStep_50 ?_
          refine n_callV (mi' := miX12_fail) dX12_readStep_53 lX12_218 mX12_fail (by decide) rfl rfl rfl (c_X12_fail (c := x.1) (w := 6) hDl hn hX.1 (by decide) (fun _ => by rw [hk1]; decide) hpp (fun M_53 hc_53 hf_53 => ?_) d) rfl rfl (by omega) (by decide) (Nat.le_of_ble_eq_true rfl)
          show AW _ _ _ _ _ _ _
          obtain ⟨b_53, hbe_53⟩ : ∃ b, (flC (tkN D n) 6 x.1).2.1 = b := ⟨_, rfl⟩
          have hb7_53 : b_53 ≤ 7 := by rw [← hbe_53]; exact hc_53.2.2.2.2
          have hb0_53 : b_53 ≠ 0 := by rw [← hbe_53]; exact fl_z (by decide)
          have hbm_53 : M_53.1 132 12 = nI b_53 := by rw [← hbe_53]; exact hc_53.2.2.1
          refine a_aload_n rfl dX12_readStep_56 ?_
          refine g_i hbm_53 (by decide) rfl fX12_212 rfl dX12_readStep_57 ?_
          refine n_if_ne 82 (by omega) dX12_readStep_60 (by decide) (fun h_60 => ?_) (fun h_60 => absurd h_60 (by omega))
          refine a_aload_n rfl dX12_readStep_82 ?_
          refine g_i hbm_53 (by decide) rfl fX12_212 rfl dX12_readStep_83 ?_
          refine n_if_le 90 (by omega) dX12_readStep_86 (by decide) (fun h_86 => absurd h_86 (by omega)) (fun h_86 => ?_)
          refine a_vret dX12_readStep_89 rfl ?_
          have hb := my_bad (w := 6) h3 hX h0 (by decide) (Or.inl ⟨by rw [hk1]; decide, congrArg (spC (tkN D n)) ((if_neg (fun q => q (Or.inr (by rw [hyv]; exact hst)))).trans (if_pos ⟨by rw [hyv]; exact hst, by rw [hnn]; omega⟩))⟩) hc_53
          exact hQ _ _ (k + 1) hb (Nat.lt_succ_self _) (fun q => absurd q (fl_z (by decide))) (hf_53.mo (fun _ _ z => mu_yz z))
  · show AW _ _ _ _ _ _ _
    have m1 : (-1 : Int32).toInt = -1 := by decide
    refine a_istore_n (by decide) rfl dX12_readStep_4 ?_
    refine a_iload_n rfl dX12_readStep_5 ?_
    refine n_iconst 5 rfl dX12_readStep_6 ?_
    refine r_icmp_eq 16 (by omega) dX12_readStep_7 (by decide) (fun h_7 => absurd h_7 (by omega)) (fun h_7 => ?_)
    refine a_iload_n rfl dX12_readStep_10 ?_
    refine n_bipush 6 rfl dX12_readStep_11 ?_
    refine r_icmp_ne 20 (by omega) dX12_readStep_13 (by decide) (fun h_13 => ?_) (fun h_13 => absurd h_13 (by omega))
    refine n_iconst 0 rfl dX12_readStep_20 ?_
    refine a_istore_n (by decide) rfl dX12_readStep_21 ?_
    refine a_iload_n rfl dX12_readStep_22 ?_
    refine r_if_ge 30 dX12_readStep_23 (by decide) (fun h_23 => absurd h_23 (by omega)) (fun h_23 => ?_)
    refine a_aload_n rfl dX12_readStep_26 ?_
    refine n_callV (mi' := miX12_amiss) dX12_readStep_27 lX12_225 mX12_amiss (by decide) rfl rfl rfl (c_X12_amiss hDl hn hX.1 (fun M_27 hc_27 hf_27 => ?_) d) rfl rfl (by omega) (by decide) (Nat.le_of_ble_eq_true rfl)
    show AW _ _ _ _ _ _ _
    obtain ⟨b_27, hbe_27⟩ : ∃ b, (flC (tkN D n) 2 x.1).2.1 = b := ⟨_, rfl⟩
    have hb7_27 : b_27 ≤ 7 := by rw [← hbe_27]; exact hc_27.2.2.2.2
    have hb0_27 : b_27 ≠ 0 := by rw [← hbe_27]; exact fl_z (by decide)
    have hbm_27 : M_27.1 132 12 = nI b_27 := by rw [← hbe_27]; exact hc_27.2.2.1
    refine a_aload_n rfl dX12_readStep_30 ?_
    refine g_i hbm_27 (by decide) rfl fX12_212 rfl dX12_readStep_31 ?_
    refine n_if_ne 56 (by omega) dX12_readStep_34 (by decide) (fun h_34 => ?_) (fun h_34 => absurd h_34 (by omega))
    refine a_aload_n rfl dX12_readStep_56 ?_
    refine g_i hbm_27 (by decide) rfl fX12_212 rfl dX12_readStep_57 ?_
    refine n_if_ne 82 (by omega) dX12_readStep_60 (by decide) (fun h_60 => ?_) (fun h_60 => absurd h_60 (by omega))
    refine a_aload_n rfl dX12_readStep_82 ?_
    refine g_i hbm_27 (by decide) rfl fX12_212 rfl dX12_readStep_83 ?_
    refine n_if_le 90 (by omega) dX12_readStep_86 (by decide) (fun h_86 => absurd h_86 (by omega)) (fun h_86 => ?_)
    refine a_vret dX12_readStep_89 rfl ?_
    have hb := my_bad (w := 2) h3 hX h0 (by decide) ((Nat.eq_zero_or_pos (kd (tkN D n) x.1)).elim (fun q => Or.inr ⟨q, by rw [he]; exact hkd.resolve_left (fun z => z q), rfl⟩) (fun q => Or.inl ⟨Nat.ne_of_gt q, congrArg (spC (tkN D n)) (if_pos (fun z => (hmay _ z).elim hne (nst k_1)))⟩)) hc_27
    exact hQ _ _ (k + 1) hb (Nat.lt_succ_self _) (fun q => absurd q (fl_z (by decide))) (hf_27.mo (fun _ _ z => mu_yz z))

/-- readStep, at any depth of blocks -/
theorem c_rsN (g : Nat) : ∀ {M : Mm} {D : Nat → Nat} {n : Nat} (hDl : ∀ j, D j < 256) (hn : n ≤ 900) (h3 : n ≤ 300) {S : ST} {N : NM} (hF : WF S) {R : YS} {x : YS} {k e : Nat} (heg : e + g = 3) (hX : MYS M D n S N R k x) (h0 : x.1.2.1 = 0) (he : x.2.2.1 = e) (hne : ¬ (yv (tkN D n) x.1 = 23 ∧ 0 < e)) (hkd : kd (tkN D n) x.1 ≠ 0 ∨ 0 < e) (hM : VM 0 M S) (hN : VNM 0 M S N) {Q : Option Value → Mm → Prop} (hQ : (∀ M' x' k', MYS M' D n S N R k' x' → k < k' → (x'.1.2.1 = 0 → x'.2.2.1 = e ∧ yext x x') → fr yzP M M' → Q none M')) (d : Nat), AMt miX12_readStep (d + g + 9) [.ref 132, .int (nI e)] M Q := by
  induction g with
  | zero =>
    intro M D n hDl hn h3 S N hF R x k e heg hX h0 he hne hkd hM hN Q hQ d
    exact c_X12_readStep hDl hn h3 hF heg (fun g' q => absurd q (Nat.succ_ne_zero g').symm) hX h0 he hne hkd hM hN hQ d
  | succ g ihg =>
    intro M D n hDl hn h3 S N hF R x k e heg hX h0 he hne hkd hM hN Q hQ d
    exact c_X12_readStep hDl hn h3 hF heg (fun g' q M1 x1 k1 Q1 a1 a2 a3 a4 a5 a6 a7 a8 d1 => by
      have e1 : g' = g := (Nat.succ.inj q).symm
      subst e1
      exact ihg hDl hn h3 hF (by omega) a1 a2 a3 a4 a5 a6 a7 a8 d1) hX h0 he hne hkd hM hN hQ d

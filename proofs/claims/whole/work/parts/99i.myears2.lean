theorem yC_o {tk : Nat → TK} {S : ST} {N : NM} {v : Nat} {c : CC} (h : v = 17 ∨ v = 24) : yC tk S N v c = c := by
  rcases h with e | e <;> subst e <;> rfl
theorem yC_13 {tk : Nat → TK} {S : ST} {N : NM} {c : CC} : yC tk S N 13 c = numC tk 1 40 c := rfl
theorem yC_14 {tk : Nat → TK} {S : ST} {N : NM} {c : CC} : yC tk S N 14 c = numC tk 0 7 c := rfl
theorem yC_22 {tk : Nat → TK} {S : ST} {N : NM} {c : CC} : yC tk S N 22 c = numC tk 1 99 c := rfl
theorem yC_15 {tk : Nat → TK} {S : ST} {N : NM} {c : CC} : yC tk S N 15 c = numC tk 1 100 (yM tk S N c) := rfl
theorem yC_16 {tk : Nat → TK} {S : ST} {N : NM} {c : CC} : yC tk S N 16 c = yM tk S N (ySi tk S N c) := rfl
theorem yC_18 {tk : Nat → TK} {S : ST} {N : NM} {c : CC} : yC tk S N 18 c = yTc tk S N c := rfl
theorem yN_13 {tk : Nat → TK} {S : ST} {N : NM} {c : CC} : yNum tk S N 13 c = cd tk c := rfl
theorem yN_14 {tk : Nat → TK} {S : ST} {N : NM} {c : CC} : yNum tk S N 14 c = cd tk c := rfl
theorem yN_22 {tk : Nat → TK} {S : ST} {N : NM} {c : CC} : yNum tk S N 22 c = cd tk c := rfl
theorem yN_15 {tk : Nat → TK} {S : ST} {N : NM} {c : CC} : yNum tk S N 15 c = cd tk (yM tk S N c) := rfl
theorem yN_16 {tk : Nat → TK} {S : ST} {N : NM} {c : CC} : yNum tk S N 16 c = (nmM tk S N (ySi tk S N c)).getD 0 := rfl
theorem yW_15 {tk : Nat → TK} {S : ST} {N : NM} {c : CC} : yWho tk S N 15 c = (nmM tk S N c).getD 0 := rfl
theorem yW_16 {tk : Nat → TK} {S : ST} {N : NM} {c : CC} : yWho tk S N 16 c = (nmS tk S N c).getD 0 := rfl
theorem gd_v {o : Option Nat} {v : Int32} (h : ∃ j, o = some j ∧ v = nI j) : v = nI (o.getD 0) := by
  obtain ⟨j, e, h⟩ := h; rw [e]; exact h

set_option maxRecDepth 100000 in
set_option maxHeartbeats 800000 in
theorem c_X12_readRest {M : Mm} {D : Nat → Nat} {n : Nat} (hDl : ∀ j, D j < 256) (hn : n ≤ 900) {c : CC} (hU : MU M D n c) {S : ST} {N : NM} (hM : VM 0 M S) (hF : WF S) (hN : VNM 0 M S N) {w : Nat} (hw : 1540 ≤ w) (hw2 : w + 9 ≤ 1810) {v u : Nat} (hu : M.1 137 w = nI u) (hvu : (v = 13 ∧ u = 0) ∨ (v = 14 ∧ u = 1) ∨ (v = 22 ∧ u = 6) ∨ (v = 18 ∧ u = 5) ∨ (v = 15 ∧ u = 2) ∨ (v = 16 ∧ u = 3) ∨ (v = 17 ∧ u = 4) ∨ (v = 24 ∧ u = 7)) {Q : Option Value → Mm → Prop} (hQ : ∀ M', MU M' D n (yC (tkN D n) S N v c) → ((yC (tkN D n) S N v c).2.1 = 0 → (v = 13 ∨ v = 14 ∨ v = 22 → M'.1 137 (w + 1) = nI (yNum (tkN D n) S N v c)) ∧ (v = 15 ∨ v = 16 ∨ v = 18 → M'.1 137 (w + 1) = nI (yWho (tkN D n) S N v c)) ∧ (v = 15 ∨ v = 16 → M'.1 137 (w + 2) = nI (yNum (tkN D n) S N v c)) ∧ (v = 18 → M'.1 137 (w + 5) = nI (yTst (tkN D n) v c - 19) ∧ (yTst (tkN D n) v c = 21 → M'.1 137 (w + 6) = nI (yNum (tkN D n) S N v c) ∧ M'.1 137 (w + 7) = nI (yCmp (tkN D n) S N v c)))) → fr (wsP w) M M' → Q none M') (d : Nat) : AMt miX12_readRest (d + 7) [.ref 132, .int (nI w)] M Q := by
  refine AMt.of (by decide) (Nat.le_of_ble_eq_true rfl) ?_
  show AW miX12_readRest (d + 7) (mxA Q) 0 [(0, some (.ref 132)), (1, some (.int (nI w)))] [] M
  have hf7 := hU.2.2.2.2
  have hKG := tkN_G (D := D) hn c.1
  have hkd : kd (tkN D n) c ≤ 6 := hKG.1
  have hst := hKG.2.1
  obtain ⟨mk0, mk1, mk2, mk3, mk4, mk5⟩ := mkd_i hkd
  refine a_aload_n rfl dX12_readRest_0 ?_
  refine a_geta dX12_readRest_1 fX12_35 (by decide) rfl rfl ?_
  refine a_iload_n rfl dX12_readRest_4 ?_
  refine v_iald (by omega) hu (by decide) rfl (by decide) dX12_readRest_5 ?_
  refine a_istore_n (by decide) rfl dX12_readRest_6 ?_
  refine a_iload_n rfl dX12_readRest_7 ?_
  refine n_if_ne 29 (by omega) dX12_readRest_8 (by decide) (fun h_8 => ?_) (fun h_8 => ?_)
  · refine a_iload_n rfl dX12_readRest_29 ?_
    refine n_iconst 1 rfl dX12_readRest_30 ?_
    refine n_icmp_ne 52 (by omega) (by omega) dX12_readRest_31 (by decide) (fun h_31 => ?_) (fun h_31 => ?_)
    · refine a_iload_n rfl dX12_readRest_52 ?_
      refine n_bipush 6 rfl dX12_readRest_53 ?_
      refine n_icmp_ne 76 (by omega) (by omega) dX12_readRest_55 (by decide) (fun h_55 => ?_) (fun h_55 => ?_)
      · refine a_iload_n rfl dX12_readRest_76 ?_
        refine n_iconst 5 rfl dX12_readRest_77 ?_
        refine n_icmp_ne 89 (by omega) (by omega) dX12_readRest_78 (by decide) (fun h_78 => ?_) (fun h_78 => ?_)
        · refine a_iload_n rfl dX12_readRest_89 ?_
          refine n_iconst 2 rfl dX12_readRest_90 ?_
          refine n_icmp_ne 126 (by omega) (by omega) dX12_readRest_91 (by decide) (fun h_91 => ?_) (fun h_91 => ?_)
          · refine a_iload_n rfl dX12_readRest_126 ?_
            refine n_iconst 3 rfl dX12_readRest_127 ?_
            refine n_icmp_ne 159 (by omega) (by omega) dX12_readRest_128 (by decide) (fun h_128 => ?_) (fun h_128 => ?_)
            · have ev : v = 17 ∨ v = 24 := by omega
              refine a_vret dX12_readRest_159 rfl ?_
              have e : yC (tkN D n) S N v c = c := yC_o ev
              rw [e] at hQ
              exact hQ _ hU (fun _ => ⟨fun z => absurd z (by clear hQ; omega), fun z => absurd z (by clear hQ; omega), fun z => absurd z (by clear hQ; omega), fun z => absurd z (by clear hQ; omega)⟩) fr.r
            · have ev : v = 16 := by omega
              refine a_aload_n rfl dX12_readRest_131 ?_
              refine a_geta dX12_readRest_132 fX12_35 (by decide) rfl rfl ?_
              refine a_iload_n rfl dX12_readRest_135 ?_
              refine n_iconst 1 rfl dX12_readRest_136 ?_
              refine n_iadd dX12_readRest_137 ?_
              refine a_aload_n rfl dX12_readRest_138 ?_
              refine n_iconst 0 rfl dX12_readRest_139 ?_
              refine n_iconst 1 rfl dX12_readRest_140 ?_
              refine n_callV (mi' := miX12_readTold) dX12_readRest_141 lX12_268 mX12_readTold (by decide) rfl rfl rfl (c_readTold1 (c := c) (b := 0) hDl hn hU (by omega) hM hF hN (fun M_141 v_141 hc_141 hv_141 hf_141 => ?_) d) rfl rfl (by omega) (by decide) (Nat.le_of_ble_eq_true rfl)
              show AW _ _ _ _ _ _ _
              have hg_141 : fr (wsP w) M (siM M_141 137 (w + 1) v_141) := (hf_141.mo (fun _ _ z => mu_ws z)).si (Or.inr (by omega))
              refine n_iast (by omega) (by decide) rfl (by decide) dX12_readRest_144 ?_
              refine a_aload_n rfl dX12_readRest_145 ?_
              refine a_geta dX12_readRest_146 fX12_35 (by decide) rfl rfl ?_
              refine a_iload_n rfl dX12_readRest_149 ?_
              refine n_iconst 2 rfl dX12_readRest_150 ?_
              refine n_iadd dX12_readRest_151 ?_
              refine a_aload_n rfl dX12_readRest_152 ?_
              refine n_iconst 0 rfl dX12_readRest_153 ?_
              refine n_iconst 0 rfl dX12_readRest_154 ?_
              refine n_callV (mi' := miX12_readTold) dX12_readRest_155 lX12_268 mX12_readTold (by decide) rfl rfl rfl (c_readTold0 (c := ySi (tkN D n) S N c) (b := 0) hDl hn (MU_si hc_141) (by omega) (VM_ws hM hF hw hg_141) hF (VNM_ws hN hg_141) (fun M_155 v_155 hc_155 hv_155 hf_155 => ?_) d) rfl rfl (by omega) (by decide) (Nat.le_of_ble_eq_true rfl)
              show AW _ _ _ _ _ _ _
              refine n_iast (by omega) (by decide) rfl (by decide) dX12_readRest_158 ?_
              refine a_vret dX12_readRest_159 rfl ?_
              subst ev
              rw [yC_16, yN_16, yW_16] at hQ
              have e1 : (siM M_155 137 (w + 2) v_155).1 137 (w + 1) = v_141 := siN (hf_155.i siS (by unfold muP; omega)) (by omega)
              exact hQ _ (MU_si hc_155) (fun q => ⟨fun z => absurd z (by decide), fun _ => e1.trans (gd_v (hv_141 (yM_0 q).1)), fun _ => siS.trans (gd_v (hv_155 q)), fun z => absurd z (by decide)⟩) ((hg_141.t (hf_155.mo (fun _ _ z => mu_ws z))).si (Or.inr (by omega)))
          · have ev : v = 15 := by omega
            refine a_aload_n rfl dX12_readRest_94 ?_
            refine a_geta dX12_readRest_95 fX12_35 (by decide) rfl rfl ?_
            refine a_iload_n rfl dX12_readRest_98 ?_
            refine n_iconst 1 rfl dX12_readRest_99 ?_
            refine n_iadd dX12_readRest_100 ?_
            refine a_aload_n rfl dX12_readRest_101 ?_
            refine n_iconst 0 rfl dX12_readRest_102 ?_
            refine n_iconst 0 rfl dX12_readRest_103 ?_
            refine n_callV (mi' := miX12_readTold) dX12_readRest_104 lX12_268 mX12_readTold (by decide) rfl rfl rfl (c_readTold0 (c := c) (b := 0) hDl hn hU (by omega) hM hF hN (fun M_104 v_104 hc_104 hv_104 hf_104 => ?_) d) rfl rfl (by omega) (by decide) (Nat.le_of_ble_eq_true rfl)
            show AW _ _ _ _ _ _ _
            have hg_104 : fr (wsP w) M (siM M_104 137 (w + 1) v_104) := (hf_104.mo (fun _ _ z => mu_ws z)).si (Or.inr (by omega))
            refine n_iast (by omega) (by decide) rfl (by decide) dX12_readRest_107 ?_
            refine a_aload_n rfl dX12_readRest_108 ?_
            refine a_geta dX12_readRest_109 fX12_35 (by decide) rfl rfl ?_
            refine a_iload_n rfl dX12_readRest_112 ?_
            refine n_iconst 2 rfl dX12_readRest_113 ?_
            refine n_iadd dX12_readRest_114 ?_
            refine a_aload_n rfl dX12_readRest_115 ?_
            refine n_iconst 1 rfl dX12_readRest_116 ?_
            refine n_bipush 100 rfl dX12_readRest_117 ?_
            refine n_callV (mi' := miX12_count) dX12_readRest_119 lX12_232 mX12_count (by decide) rfl rfl rfl (c_X12_count (c := yM (tkN D n) S N c) (lo := 1) (hi := 100) hDl hn (MU_si hc_104) (by decide) (by decide) (fun M_119 v_119 hc_119 hv_119 hf_119 => ?_) d) rfl rfl (by omega) (by decide) (Nat.le_of_ble_eq_true rfl)
            show AW _ _ _ _ _ _ _
            refine n_iast (by omega) (by decide) rfl (by decide) dX12_readRest_122 ?_
            refine a_goto 159 dX12_readRest_123 (by decide) ?_
            refine a_vret dX12_readRest_159 rfl ?_
            subst ev
            rw [yC_15, yN_15, yW_15] at hQ
            have e1 : (siM M_119 137 (w + 2) v_119).1 137 (w + 1) = v_104 := siN (hf_119.i siS (by unfold muP; omega)) (by omega)
            exact hQ _ (MU_si hc_119) (fun q => ⟨fun z => absurd z (by decide), fun _ => e1.trans (gd_v (hv_104 (num_0 q).1)), fun _ => siS.trans (hv_119 q), fun z => absurd z (by decide)⟩) ((hg_104.t (hf_119.mo (fun _ _ z => mu_ws z))).si (Or.inr (by omega)))
        · have ev : v = 18 := by omega
          refine a_aload_n rfl dX12_readRest_81 ?_
          refine a_iload_n rfl dX12_readRest_82 ?_
          refine n_callV (mi' := miX12_readTest) dX12_readRest_83 lX12_316 mX12_readTest (by decide) rfl rfl rfl (c_X12_readTest hDl hn hU hM hF hN hw hw2 (fun M_83 hc_83 hy_83 hf_83 => ?_) d) rfl rfl (by omega) (by decide) (Nat.le_of_ble_eq_true rfl)
          show AW _ _ _ _ _ _ _
          refine a_goto 159 dX12_readRest_86 (by decide) ?_
          refine a_vret dX12_readRest_159 rfl ?_
          subst ev
          rw [yC_18] at hQ
          exact hQ _ hc_83 (fun q => ⟨fun z => absurd z (by decide), fun _ => (hy_83 q).2.1, fun z => absurd z (by decide), fun _ => ⟨(hy_83 q).1, (hy_83 q).2.2⟩⟩) hf_83
      · have ev : v = 22 := by omega
        refine a_aload_n rfl dX12_readRest_58 ?_
        refine a_geta dX12_readRest_59 fX12_35 (by decide) rfl rfl ?_
        refine a_iload_n rfl dX12_readRest_62 ?_
        refine n_iconst 1 rfl dX12_readRest_63 ?_
        refine n_iadd dX12_readRest_64 ?_
        refine a_aload_n rfl dX12_readRest_65 ?_
        refine n_iconst 1 rfl dX12_readRest_66 ?_
        refine n_bipush 99 rfl dX12_readRest_67 ?_
        refine n_callV (mi' := miX12_count) dX12_readRest_69 lX12_232 mX12_count (by decide) rfl rfl rfl (c_X12_count (c := c) (lo := 1) (hi := 99) hDl hn hU (by decide) (by decide) (fun M_69 v_69 hc_69 hv_69 hf_69 => ?_) d) rfl rfl (by omega) (by decide) (Nat.le_of_ble_eq_true rfl)
        show AW _ _ _ _ _ _ _
        refine n_iast (by omega) (by decide) rfl (by decide) dX12_readRest_72 ?_
        refine a_goto 159 dX12_readRest_73 (by decide) ?_
        refine a_vret dX12_readRest_159 rfl ?_
        subst ev
        rw [yC_22, yN_22] at hQ
        exact hQ _ (MU_si hc_69) (fun q => ⟨fun _ => siS.trans (hv_69 q), fun z => absurd z (by decide), fun z => absurd z (by decide), fun z => absurd z (by decide)⟩) ((hf_69.mo (fun _ _ z => mu_ws z)).si (Or.inr (by omega)))
    · have ev : v = 14 := by omega
      refine a_aload_n rfl dX12_readRest_34 ?_
      refine a_geta dX12_readRest_35 fX12_35 (by decide) rfl rfl ?_
      refine a_iload_n rfl dX12_readRest_38 ?_
      refine n_iconst 1 rfl dX12_readRest_39 ?_
      refine n_iadd dX12_readRest_40 ?_
      refine a_aload_n rfl dX12_readRest_41 ?_
      refine n_iconst 0 rfl dX12_readRest_42 ?_
      refine n_bipush 7 rfl dX12_readRest_43 ?_
      refine n_callV (mi' := miX12_count) dX12_readRest_45 lX12_232 mX12_count (by decide) rfl rfl rfl (c_X12_count (c := c) (lo := 0) (hi := 7) hDl hn hU (by decide) (by decide) (fun M_45 v_45 hc_45 hv_45 hf_45 => ?_) d) rfl rfl (by omega) (by decide) (Nat.le_of_ble_eq_true rfl)
      show AW _ _ _ _ _ _ _
      refine n_iast (by omega) (by decide) rfl (by decide) dX12_readRest_48 ?_
      refine a_goto 159 dX12_readRest_49 (by decide) ?_
      refine a_vret dX12_readRest_159 rfl ?_
      subst ev
      rw [yC_14, yN_14] at hQ
      exact hQ _ (MU_si hc_45) (fun q => ⟨fun _ => siS.trans (hv_45 q), fun z => absurd z (by decide), fun z => absurd z (by decide), fun z => absurd z (by decide)⟩) ((hf_45.mo (fun _ _ z => mu_ws z)).si (Or.inr (by omega)))
  · have ev : v = 13 := by omega
    refine a_aload_n rfl dX12_readRest_11 ?_
    refine a_geta dX12_readRest_12 fX12_35 (by decide) rfl rfl ?_
    refine a_iload_n rfl dX12_readRest_15 ?_
    refine n_iconst 1 rfl dX12_readRest_16 ?_
    refine n_iadd dX12_readRest_17 ?_
    refine a_aload_n rfl dX12_readRest_18 ?_
    refine n_iconst 1 rfl dX12_readRest_19 ?_
    refine n_bipush 40 rfl dX12_readRest_20 ?_
    refine n_callV (mi' := miX12_count) dX12_readRest_22 lX12_232 mX12_count (by decide) rfl rfl rfl (c_X12_count (c := c) (lo := 1) (hi := 40) hDl hn hU (by decide) (by decide) (fun M_22 v_22 hc_22 hv_22 hf_22 => ?_) d) rfl rfl (by omega) (by decide) (Nat.le_of_ble_eq_true rfl)
    show AW _ _ _ _ _ _ _
    refine n_iast (by omega) (by decide) rfl (by decide) dX12_readRest_25 ?_
    refine a_goto 159 dX12_readRest_26 (by decide) ?_
    refine a_vret dX12_readRest_159 rfl ?_
    subst ev
    rw [yC_13, yN_13] at hQ
    exact hQ _ (MU_si hc_22) (fun q => ⟨fun _ => siS.trans (hv_22 q), fun z => absurd z (by decide), fun z => absurd z (by decide), fun z => absurd z (by decide)⟩) ((hf_22.mo (fun _ _ z => mu_ws z)).si (Or.inr (by omega)))

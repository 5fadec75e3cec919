theorem num_f {tk : Nat → TK} {lo hi : Nat} {c : CC} (h : ¬ c.2.1 = 0) : numC tk lo hi c = c := by
  unfold numC
  by_cases e : kd tk c = 4
  · rw [if_pos e]
    by_cases e2 : lo ≤ cd tk c ∧ cd tk c ≤ hi
    · rw [if_pos e2]; exact sp_n h
    · rw [if_neg e2, fl_n h]; exact sp_n h
  · rw [if_neg e, fl_n h]; exact sp_n h
theorem cmp_f {tk : Nat → TK} {c : CC} (h : ¬ c.2.1 = 0) : cmpC tk c = c := by
  unfold cmpC
  by_cases e : kd tk c = 5 ∧ cd tk c ≠ 59
  · rw [if_pos e]; exact sp_n h
  · rw [if_neg e, fl_n h]; exact sp_n h
theorem end_f {tk : Nat → TK} {c : CC} (h : ¬ c.2.1 = 0) : endC tk c = c := by
  unfold endC
  by_cases e : kd tk c = 5 ∧ cd tk c = 59
  · rw [if_pos e]; exact sp_n h
  · rw [if_neg e, fl_n h]; exact sp_n h
theorem yv_i {tk : Nat → TK} {c : CC} {k : Nat} (hk : k < 25) : isK tk c k = true ↔ yv tk c = k := by
  unfold yv
  constructor
  · intro h; have := isK_i.mp h; rw [if_pos this.1]; exact this.2
  · intro h
    by_cases e : kd tk c = 1
    · rw [if_pos e] at h; exact isK_i.mpr ⟨e, h⟩
    · rw [if_neg e] at h; omega
theorem ta_b {tk : Nat → TK} {c : CC} : yTa tk c = spC tk (if decide (yv tk c = 19 ∨ yv tk c = 20 ∨ yv tk c = 21) = true then c else flC tk 2 c) := by
  unfold yTa
  by_cases e : yv tk c = 19 ∨ yv tk c = 20 ∨ yv tk c = 21
  · rw [if_pos e, if_pos (decide_eq_true e)]
  · rw [if_neg e, if_neg (fun q => e (of_decide_eq_true q))]
theorem cmp_b {tk : Nat → TK} {c : CC} : cmpC tk c = spC tk (if decide (kd tk c = 5 ∧ cd tk c ≠ 59) = true then c else flC tk 2 c) := by
  unfold cmpC
  by_cases e : kd tk c = 5 ∧ cd tk c ≠ 59
  · rw [if_pos e, if_pos (decide_eq_true e)]
  · rw [if_neg e, if_neg (fun q => e (of_decide_eq_true q))]
/-- the cells of a step -/
def wsP (w : Nat) (k j : Nat) : Prop := muP k j ∨ (k = 137 ∧ w < j ∧ j < w + 8)
theorem mu_ws {w k j : Nat} (h : muP k j) : wsP w k j := Or.inl h
theorem VM_ws {M M' : Mm} {S : ST} {w : Nat} (h : VM 0 M S) (hF : WF S) (hw : 1540 ≤ w) (hf : fr (wsP w) M M') : VM 0 M' S := VM_e h (fun j hj => (hf 137 j (by unfold wsP muP; omega)).1) hF
theorem VNM_ws {M M' : Mm} {S : ST} {N : NM} {w : Nat} (h : VNM 0 M S N) (hf : fr (wsP w) M M') : VNM 0 M' S N := ⟨fun j hj => ((hf 139 _ (by unfold wsP muP; omega)).2).trans (h.1 j hj), fun j hj => ((hf 139 _ (by unfold wsP muP; omega)).2).trans (h.2 j hj)⟩
theorem MU_si {M : Mm} {D : Nat → Nat} {n j : Nat} {v : Int32} {c : CC} (h : MU M D n c) : MU (siM M 137 j v) D n c := MU_fr h (fr.r.si (P := fun k _ => k = 137) rfl) (fun k j z => by omega)

set_option maxRecDepth 100000 in
set_option maxHeartbeats 800000 in
theorem c_X12_readTest {M : Mm} {D : Nat → Nat} {n : Nat} (hDl : ∀ j, D j < 256) (hn : n ≤ 900) {c : CC} (hU : MU M D n c) {S : ST} {N : NM} (hM : VM 0 M S) (hF : WF S) (hN : VNM 0 M S N) {w : Nat} (hw : 1540 ≤ w) (hw2 : w + 9 ≤ 1810) {Q : Option Value → Mm → Prop} (hQ : ∀ M', MU M' D n (yTc (tkN D n) S N c) → ((yTc (tkN D n) S N c).2.1 = 0 → M'.1 137 (w + 5) = nI (yTst (tkN D n) 18 c - 19) ∧ M'.1 137 (w + 1) = nI (yWho (tkN D n) S N 18 c) ∧ (yTst (tkN D n) 18 c = 21 → M'.1 137 (w + 6) = nI (yNum (tkN D n) S N 18 c) ∧ M'.1 137 (w + 7) = nI (yCmp (tkN D n) S N 18 c))) → fr (wsP w) M M' → Q none M') (d : Nat) : AMt miX12_readTest (d + 6) [.ref 132, .int (nI w)] M Q := by
  refine AMt.of (by decide) (Nat.le_of_ble_eq_true rfl) ?_
  show AW miX12_readTest (d + 6) (mxA Q) 0 [(0, some (.ref 132)), (1, some (.int (nI w)))] [] M
  have hf7 := hU.2.2.2.2
  have hKG := tkN_G (D := D) hn c.1
  have hkd : kd (tkN D n) c ≤ 6 := hKG.1
  have hst := hKG.2.1
  obtain ⟨mk0, mk1, mk2, mk3, mk4, mk5⟩ := mkd_i hkd
  refine a_aload_n rfl dX12_readTest_0 ?_
  refine n_callV (mi' := miX12_testWord) dX12_readTest_1 lX12_203 mX12_testWord (by decide) rfl rfl rfl (c_X12_testWord hDl hn hU (fun v_1 h_1 k_1 => ?_) (fun k_1 => ?_) d) rfl rfl (by omega) (by decide) (Nat.le_of_ble_eq_true rfl)
  · show AW _ _ _ _ _ _ _
    have hy1 : yv (tkN D n) c = 19 + v_1 := (yv_i (by omega)).mp k_1
    refine a_istore_n (by decide) rfl dX12_readTest_4 ?_
    refine a_aload_n rfl dX12_readTest_5 ?_
    refine a_iload_n rfl dX12_readTest_6 ?_
    refine n_if_lt (tgt := 14) (by omega) dX12_readTest_7 (by decide) ?_
    refine n_iconst 1 rfl dX12_readTest_10 ?_
    refine a_goto 15 dX12_readTest_11 (by decide) ?_
    refine n_callV (mi' := miX12_must) dX12_readTest_15 lX12_228 mX12_must (by decide) rfl rfl rfl (c_X12_must (b := decide (yv (tkN D n) c = 19 ∨ yv (tkN D n) c = 20 ∨ yv (tkN D n) c = 21)) hDl hn hU (if_pos (decide_eq_true (by omega))).symm (fun M_15 hc_15 hf_15 => ?_) d) rfl rfl (by omega) (by decide) (Nat.le_of_ble_eq_true rfl)
    show AW _ _ _ _ _ _ _
    rw [← ta_b] at hc_15
    refine a_aload_n rfl dX12_readTest_18 ?_
    refine a_geta dX12_readTest_19 fX12_35 (by decide) rfl rfl ?_
    refine a_iload_n rfl dX12_readTest_22 ?_
    refine n_iconst 5 rfl dX12_readTest_23 ?_
    refine n_iadd dX12_readTest_24 ?_
    refine a_iload_n rfl dX12_readTest_25 ?_
    refine n_iast (by omega) (by decide) rfl (by decide) dX12_readTest_26 ?_
    refine a_aload_n rfl dX12_readTest_27 ?_
    refine a_geta dX12_readTest_28 fX12_35 (by decide) rfl rfl ?_
    refine a_iload_n rfl dX12_readTest_31 ?_
    refine n_iconst 1 rfl dX12_readTest_32 ?_
    refine n_iadd dX12_readTest_33 ?_
    refine a_aload_n rfl dX12_readTest_34 ?_
    refine n_iconst 0 rfl dX12_readTest_35 ?_
    refine a_iload_n rfl dX12_readTest_36 ?_
    refine n_iconst 1 rfl dX12_readTest_37 ?_
    refine n_icmp_ne 45 (by omega) (by omega) dX12_readTest_38 (by decide) (fun h_38 => ?_) (fun h_38 => ?_)
    · have hf_19 : fr (wsP w) M (siM M_15 137 (w + 5) (nI v_1)) := (hf_15.mo (fun _ _ z => mu_ws z)).si (Or.inr (by omega))
      refine n_iconst 1 rfl dX12_readTest_45 ?_
      refine n_callV (mi' := miX12_readTold) dX12_readTest_46 lX12_268 mX12_readTold (by decide) rfl rfl rfl (c_readTold1 (c := yTa (tkN D n) c) (b := 0) hDl hn (MU_si hc_15) (by omega) (VM_ws hM hF hw hf_19) hF (VNM_ws hN hf_19) (fun M_46 v_46 hc_46 hv_46 hf_46 => ?_) d) rfl rfl (by omega) (by decide) (Nat.le_of_ble_eq_true rfl)
      show AW _ _ _ _ _ _ _
      have hb_46 : MU M_46 D n (yTb (tkN D n) S N c) := by unfold yTb; rw [if_neg (by omega)]; exact hc_46
      have hn_46 : (yTb (tkN D n) S N c).2.1 = 0 → v_46 = nI (yWho (tkN D n) S N 18 c) := fun q => by
        have h20 : ¬ yv (tkN D n) c = 20 := by omega
        unfold yTb at q; rw [if_neg h20] at q
        obtain ⟨j, hj, hv⟩ := hv_46 q
        rw [hv, show yWho (tkN D n) S N 18 c = (nmS (tkN D n) S N (yTa (tkN D n) c)).getD 0 from if_neg h20, hj]; rfl
      have hg_46 : fr (wsP w) M (siM M_46 137 (w + 1) v_46) := (hf_19.t (hf_46.mo (fun _ _ z => mu_ws z))).si (Or.inr (by omega))
      refine n_iast (by omega) (by decide) rfl (by decide) dX12_readTest_49 ?_
      have hU5 : MU (siM M_46 137 (w + 1) v_46) D n (yTb (tkN D n) S N c) := MU_si hb_46
      have h5_50 : (siM M_46 137 (w + 1) v_46).1 137 (w + 5) = nI v_1 := siN (hf_46.i siS (by unfold muP; omega)) (by omega)
      have hf7b : (yTb (tkN D n) S N c).2.1 ≤ 7 := hU5.2.2.2.2
      have hKGb := tkN_G (D := D) hn (yTb (tkN D n) S N c).1
      have hkdb : kd (tkN D n) (yTb (tkN D n) S N c) ≤ 6 := hKGb.1
      obtain ⟨mb0, mb1, mb2, mb3, mb4, mb5⟩ := mkd_i hkdb
      refine a_aload_n rfl dX12_readTest_50 ?_
      refine g_i hU5.2.2.1 (by decide) rfl fX12_212 rfl dX12_readTest_51 ?_
      refine n_if_gt 62 (by omega) dX12_readTest_54 (by decide) (fun h_54 => ?_) (fun h_54 => ?_)
      · refine a_vret dX12_readTest_62 rfl ?_
        by_cases hg : (yTb (tkN D n) S N c).2.1 = 0
        · have e : yTc (tkN D n) S N c = yTb (tkN D n) S N c := if_neg (by omega)
          rw [e] at hQ
          exact hQ _ hU5 (fun q => ⟨h5_50.trans (congrArg nI (show v_1 = yTst (tkN D n) 18 c - 19 from (by show v_1 = yv (tkN D n) c - 19; omega))), siS.trans (hn_46 q), fun z => absurd z (by show ¬ yv (tkN D n) c = 21; omega)⟩) hg_46
        · have e : yTc (tkN D n) S N c = yTb (tkN D n) S N c := by
            unfold yTc
            split
            · rw [cmp_f hg, num_f hg]
            · rfl
          rw [e] at hQ
          exact hQ _ hU5 (fun q => absurd q hg) hg_46
      · refine a_iload_n rfl dX12_readTest_57 ?_
        refine n_iconst 2 rfl dX12_readTest_58 ?_
        refine n_icmp_ge 63 (by omega) (by omega) dX12_readTest_59 (by decide) (fun h_59 => ?_) (fun h_59 => ?_)
        · refine a_aload_n rfl dX12_readTest_63 ?_
          refine a_geta dX12_readTest_64 fX12_35 (by decide) rfl rfl ?_
          refine a_iload_n rfl dX12_readTest_67 ?_
          refine n_bipush 7 rfl dX12_readTest_68 ?_
          refine n_iadd dX12_readTest_70 ?_
          refine a_aload_n rfl dX12_readTest_71 ?_
          refine g_i (show (siM M_46 137 (w + 1) v_46).1 132 14 = nI (mkd (kd (tkN D n) (yTb (tkN D n) S N c))) from hU5.2.1.1) (by decide) rfl fX12_124 rfl dX12_readTest_72 ?_
          refine n_iconst 3 rfl dX12_readTest_75 ?_
          refine n_icmp_ne 86 (by omega) (by omega) dX12_readTest_76 (by decide) (fun h_76 => ?_) (fun h_76 => ?_)
          · refine n_iconst 0 rfl dX12_readTest_86 ?_
            refine n_iast (by omega) (by decide) rfl (by decide) dX12_readTest_87 ?_
            refine a_aload_n rfl dX12_readTest_88 ?_
            refine a_aload_n rfl dX12_readTest_89 ?_
            refine n_bipush 60 rfl dX12_readTest_90 ?_
            refine n_callV (mi' := miX12_isSign) dX12_readTest_92 lX12_307 mX12_isSign (by decide) rfl rfl rfl (c_X12_isSign (c := yTb (tkN D n) S N c) hDl hn (MU_si hU5) (by omega) (fun h_92 => ?_) (fun h_92 => ?_) d) rfl rfl (by omega) (by decide) (Nat.le_of_ble_eq_true rfl)
            · show AW _ _ _ _ _ _ _
              refine n_if_ne 116 (by decide) dX12_readTest_95 (by decide) (fun _ => ?_) (fun h => absurd h (by decide))
              refine n_iconst 1 rfl dX12_readTest_116 ?_
              refine a_goto 121 dX12_readTest_117 (by decide) ?_
              refine n_callV (mi' := miX12_must) dX12_readTest_121 lX12_228 mX12_must (by decide) rfl rfl rfl (c_X12_must (c := yTb (tkN D n) S N c) (b := decide (kd (tkN D n) (yTb (tkN D n) S N c) = 5 ∧ cd (tkN D n) (yTb (tkN D n) S N c) ≠ 59)) hDl hn (MU_si hU5) (if_pos (decide_eq_true (by omega))).symm (fun M_121 hc_121 hf_121 => ?_) d) rfl rfl (by omega) (by decide) (Nat.le_of_ble_eq_true rfl)
              show AW _ _ _ _ _ _ _
              rw [← cmp_b] at hc_121
              have h7_121 : kd (tkN D n) (yTb (tkN D n) S N c) = 5 → M_121.1 137 (w + 7) = nI (cd (tkN D n) (yTb (tkN D n) S N c)) := fun q => hf_121.i (absurd q (by omega)) (by unfold muP; omega)
              have hg_121 : fr (wsP w) M M_121 := (hg_46.si (Or.inr (by omega))).t (hf_121.mo (fun _ _ z => mu_ws z))
              have h51_121 : M_121.1 137 (w + 5) = nI v_1 := hf_121.i (siN h5_50 (by omega)) (by unfold muP; omega)
              have h11_121 : M_121.1 137 (w + 1) = v_46 := hf_121.i (siN siS (by omega)) (by unfold muP; omega)
              refine a_aload_n rfl dX12_readTest_124 ?_
              refine a_geta dX12_readTest_125 fX12_35 (by decide) rfl rfl ?_
              refine a_iload_n rfl dX12_readTest_128 ?_
              refine n_bipush 6 rfl dX12_readTest_129 ?_
              refine n_iadd dX12_readTest_131 ?_
              refine a_aload_n rfl dX12_readTest_132 ?_
              refine n_iconst 0 rfl dX12_readTest_133 ?_
              refine n_bipush 99 rfl dX12_readTest_134 ?_
              refine n_callV (mi' := miX12_count) dX12_readTest_136 lX12_232 mX12_count (by decide) rfl rfl rfl (c_X12_count (c := cmpC (tkN D n) (yTb (tkN D n) S N c)) (lo := 0) (hi := 99) hDl hn hc_121 (by omega) (by omega) (fun M_136 v_136 hc_136 hv_136 hf_136 => ?_) d) rfl rfl (by omega) (by decide) (Nat.le_of_ble_eq_true rfl)
              show AW _ _ _ _ _ _ _
              refine n_iast (by omega) (by decide) rfl (by decide) dX12_readTest_139 ?_
              refine a_vret dX12_readTest_140 rfl ?_
              have h21 : yv (tkN D n) c = 21 := by omega
              have e : yTc (tkN D n) S N c = numC (tkN D n) 0 99 (cmpC (tkN D n) (yTb (tkN D n) S N c)) := if_pos h21
              rw [e] at hQ
              exact hQ _ (MU_si hc_136) (fun q => ⟨(siN (hf_136.i h51_121 (by unfold muP; omega)) (by omega)).trans (congrArg nI (show v_1 = yTst (tkN D n) 18 c - 19 from (by show v_1 = yv (tkN D n) c - 19; omega))), (siN (hf_136.i h11_121 (by unfold muP; omega)) (by omega)).trans (hn_46 (cmp_0 (num_0 q).1).1), fun _ => ⟨siS.trans ((hv_136 q).trans (congrArg nI (show cd (tkN D n) (cmpC (tkN D n) (yTb (tkN D n) S N c)) = yNum (tkN D n) S N 18 c from (if_pos h21).symm))), (siN (hf_136.i (h7_121 (cmp_0 (num_0 q).1).2.1) (by unfold muP; omega)) (by omega)).trans (congrArg nI (show cd (tkN D n) (yTb (tkN D n) S N c) = yCmp (tkN D n) S N 18 c from (if_pos ⟨rfl, h21⟩).symm))⟩⟩) ((hg_121.t (hf_136.mo (fun _ _ z => mu_ws z))).si (Or.inr (by omega)))
            · show AW _ _ _ _ _ _ _
              refine n_if_ne 116 (by decide) dX12_readTest_95 (by decide) (fun h => absurd h (by decide)) (fun _ => ?_)
              refine a_aload_n rfl dX12_readTest_98 ?_
              refine n_bipush 62 rfl dX12_readTest_99 ?_
              refine n_callV (mi' := miX12_isSign) dX12_readTest_101 lX12_307 mX12_isSign (by decide) rfl rfl rfl (c_X12_isSign (c := yTb (tkN D n) S N c) hDl hn (MU_si hU5) (by omega) (fun h_101 => ?_) (fun h_101 => ?_) d) rfl rfl (by omega) (by decide) (Nat.le_of_ble_eq_true rfl)
              · show AW _ _ _ _ _ _ _
                refine n_if_ne 116 (by decide) dX12_readTest_104 (by decide) (fun _ => ?_) (fun h => absurd h (by decide))
                refine n_iconst 1 rfl dX12_readTest_116 ?_
                refine a_goto 121 dX12_readTest_117 (by decide) ?_
                refine n_callV (mi' := miX12_must) dX12_readTest_121 lX12_228 mX12_must (by decide) rfl rfl rfl (c_X12_must (c := yTb (tkN D n) S N c) (b := decide (kd (tkN D n) (yTb (tkN D n) S N c) = 5 ∧ cd (tkN D n) (yTb (tkN D n) S N c) ≠ 59)) hDl hn (MU_si hU5) (if_pos (decide_eq_true (by omega))).symm (fun M_121 hc_121 hf_121 => ?_) d) rfl rfl (by omega) (by decide) (Nat.le_of_ble_eq_true rfl)
                show AW _ _ _ _ _ _ _
                rw [← cmp_b] at hc_121
                have h7_121 : kd (tkN D n) (yTb (tkN D n) S N c) = 5 → M_121.1 137 (w + 7) = nI (cd (tkN D n) (yTb (tkN D n) S N c)) := fun q => hf_121.i (absurd q (by omega)) (by unfold muP; omega)
                have hg_121 : fr (wsP w) M M_121 := (hg_46.si (Or.inr (by omega))).t (hf_121.mo (fun _ _ z => mu_ws z))
                have h51_121 : M_121.1 137 (w + 5) = nI v_1 := hf_121.i (siN h5_50 (by omega)) (by unfold muP; omega)
                have h11_121 : M_121.1 137 (w + 1) = v_46 := hf_121.i (siN siS (by omega)) (by unfold muP; omega)
                refine a_aload_n rfl dX12_readTest_124 ?_
                refine a_geta dX12_readTest_125 fX12_35 (by decide) rfl rfl ?_
                refine a_iload_n rfl dX12_readTest_128 ?_
                refine n_bipush 6 rfl dX12_readTest_129 ?_
                refine n_iadd dX12_readTest_131 ?_
                refine a_aload_n rfl dX12_readTest_132 ?_
                refine n_iconst 0 rfl dX12_readTest_133 ?_
                refine n_bipush 99 rfl dX12_readTest_134 ?_
                refine n_callV (mi' := miX12_count) dX12_readTest_136 lX12_232 mX12_count (by decide) rfl rfl rfl (c_X12_count (c := cmpC (tkN D n) (yTb (tkN D n) S N c)) (lo := 0) (hi := 99) hDl hn hc_121 (by omega) (by omega) (fun M_136 v_136 hc_136 hv_136 hf_136 => ?_) d) rfl rfl (by omega) (by decide) (Nat.le_of_ble_eq_true rfl)
                show AW _ _ _ _ _ _ _
                refine n_iast (by omega) (by decide) rfl (by decide) dX12_readTest_139 ?_
                refine a_vret dX12_readTest_140 rfl ?_
                have h21 : yv (tkN D n) c = 21 := by omega
                have e : yTc (tkN D n) S N c = numC (tkN D n) 0 99 (cmpC (tkN D n) (yTb (tkN D n) S N c)) := if_pos h21
                rw [e] at hQ
                exact hQ _ (MU_si hc_136) (fun q => ⟨(siN (hf_136.i h51_121 (by unfold muP; omega)) (by omega)).trans (congrArg nI (show v_1 = yTst (tkN D n) 18 c - 19 from (by show v_1 = yv (tkN D n) c - 19; omega))), (siN (hf_136.i h11_121 (by unfold muP; omega)) (by omega)).trans (hn_46 (cmp_0 (num_0 q).1).1), fun _ => ⟨siS.trans ((hv_136 q).trans (congrArg nI (show cd (tkN D n) (cmpC (tkN D n) (yTb (tkN D n) S N c)) = yNum (tkN D n) S N 18 c from (if_pos h21).symm))), (siN (hf_136.i (h7_121 (cmp_0 (num_0 q).1).2.1) (by unfold muP; omega)) (by omega)).trans (congrArg nI (show cd (tkN D n) (yTb (tkN D n) S N c) = yCmp (tkN D n) S N 18 c from (if_pos ⟨rfl, h21⟩).symm))⟩⟩) ((hg_121.t (hf_136.mo (fun _ _ z => mu_ws z))).si (Or.inr (by omega)))
              · show AW _ _ _ _ _ _ _
                refine n_if_ne 116 (by decide) dX12_readTest_104 (by decide) (fun h => absurd h (by decide)) (fun _ => ?_)
                refine a_aload_n rfl dX12_readTest_107 ?_
                refine n_bipush 61 rfl dX12_readTest_108 ?_
                refine n_callV (mi' := miX12_isSign) dX12_readTest_110 lX12_307 mX12_isSign (by decide) rfl rfl rfl (c_X12_isSign (c := yTb (tkN D n) S N c) hDl hn (MU_si hU5) (by omega) (fun h_110 => ?_) (fun h_110 => ?_) d) rfl rfl (by omega) (by decide) (Nat.le_of_ble_eq_true rfl)
                · show AW _ _ _ _ _ _ _
                  refine n_if_eq 120 (by decide) dX12_readTest_113 (by decide) (fun h => absurd h (by decide)) (fun _ => ?_)
                  refine n_iconst 1 rfl dX12_readTest_116 ?_
                  refine a_goto 121 dX12_readTest_117 (by decide) ?_
                  refine n_callV (mi' := miX12_must) dX12_readTest_121 lX12_228 mX12_must (by decide) rfl rfl rfl (c_X12_must (c := yTb (tkN D n) S N c) (b := decide (kd (tkN D n) (yTb (tkN D n) S N c) = 5 ∧ cd (tkN D n) (yTb (tkN D n) S N c) ≠ 59)) hDl hn (MU_si hU5) (if_pos (decide_eq_true (by omega))).symm (fun M_121 hc_121 hf_121 => ?_) d) rfl rfl (by omega) (by decide) (Nat.le_of_ble_eq_true rfl)
                  show AW _ _ _ _ _ _ _
                  rw [← cmp_b] at hc_121
                  have h7_121 : kd (tkN D n) (yTb (tkN D n) S N c) = 5 → M_121.1 137 (w + 7) = nI (cd (tkN D n) (yTb (tkN D n) S N c)) := fun q => hf_121.i (absurd q (by omega)) (by unfold muP; omega)
                  have hg_121 : fr (wsP w) M M_121 := (hg_46.si (Or.inr (by omega))).t (hf_121.mo (fun _ _ z => mu_ws z))
                  have h51_121 : M_121.1 137 (w + 5) = nI v_1 := hf_121.i (siN h5_50 (by omega)) (by unfold muP; omega)
                  have h11_121 : M_121.1 137 (w + 1) = v_46 := hf_121.i (siN siS (by omega)) (by unfold muP; omega)
                  refine a_aload_n rfl dX12_readTest_124 ?_
                  refine a_geta dX12_readTest_125 fX12_35 (by decide) rfl rfl ?_
                  refine a_iload_n rfl dX12_readTest_128 ?_
                  refine n_bipush 6 rfl dX12_readTest_129 ?_
                  refine n_iadd dX12_readTest_131 ?_
                  refine a_aload_n rfl dX12_readTest_132 ?_
                  refine n_iconst 0 rfl dX12_readTest_133 ?_
                  refine n_bipush 99 rfl dX12_readTest_134 ?_
                  refine n_callV (mi' := miX12_count) dX12_readTest_136 lX12_232 mX12_count (by decide) rfl rfl rfl (c_X12_count (c := cmpC (tkN D n) (yTb (tkN D n) S N c)) (lo := 0) (hi := 99) hDl hn hc_121 (by omega) (by omega) (fun M_136 v_136 hc_136 hv_136 hf_136 => ?_) d) rfl rfl (by omega) (by decide) (Nat.le_of_ble_eq_true rfl)
                  show AW _ _ _ _ _ _ _
                  refine n_iast (by omega) (by decide) rfl (by decide) dX12_readTest_139 ?_
                  refine a_vret dX12_readTest_140 rfl ?_
                  have h21 : yv (tkN D n) c = 21 := by omega
                  have e : yTc (tkN D n) S N c = numC (tkN D n) 0 99 (cmpC (tkN D n) (yTb (tkN D n) S N c)) := if_pos h21
                  rw [e] at hQ
                  exact hQ _ (MU_si hc_136) (fun q => ⟨(siN (hf_136.i h51_121 (by unfold muP; omega)) (by omega)).trans (congrArg nI (show v_1 = yTst (tkN D n) 18 c - 19 from (by show v_1 = yv (tkN D n) c - 19; omega))), (siN (hf_136.i h11_121 (by unfold muP; omega)) (by omega)).trans (hn_46 (cmp_0 (num_0 q).1).1), fun _ => ⟨siS.trans ((hv_136 q).trans (congrArg nI (show cd (tkN D n) (cmpC (tkN D n) (yTb (tkN D n) S N c)) = yNum (tkN D n) S N 18 c from (if_pos h21).symm))), (siN (hf_136.i (h7_121 (cmp_0 (num_0 q).1).2.1) (by unfold muP; omega)) (by omega)).trans (congrArg nI (show cd (tkN D n) (yTb (tkN D n) S N c) = yCmp (tkN D n) S N 18 c from (if_pos ⟨rfl, h21⟩).symm))⟩⟩) ((hg_121.t (hf_136.mo (fun _ _ z => mu_ws z))).si (Or.inr (by omega)))
                · show AW _ _ _ _ _ _ _
                  refine n_if_eq 120 (by decide) dX12_readTest_113 (by decide) (fun _ => ?_) (fun h => absurd h (by decide))
                  refine n_iconst 0 rfl dX12_readTest_120 ?_
                  refine n_callV (mi' := miX12_must) dX12_readTest_121 lX12_228 mX12_must (by decide) rfl rfl rfl (c_X12_must (c := yTb (tkN D n) S N c) (b := decide (kd (tkN D n) (yTb (tkN D n) S N c) = 5 ∧ cd (tkN D n) (yTb (tkN D n) S N c) ≠ 59)) hDl hn (MU_si hU5) (if_neg (fun q => by have q := of_decide_eq_true q; have := hKGb.2.2.2.2.2 q.1; have c1 : 59 ≤ cd (tkN D n) (yTb (tkN D n) S N c) := this.1; have c2 : cd (tkN D n) (yTb (tkN D n) S N c) ≤ 62 := this.2; omega)).symm (fun M_121 hc_121 hf_121 => ?_) d) rfl rfl (by omega) (by decide) (Nat.le_of_ble_eq_true rfl)
                  show AW _ _ _ _ _ _ _
                  rw [← cmp_b] at hc_121
                  have h7_121 : kd (tkN D n) (yTb (tkN D n) S N c) = 5 → M_121.1 137 (w + 7) = nI (cd (tkN D n) (yTb (tkN D n) S N c)) := fun q => hf_121.i (absurd q (by omega)) (by unfold muP; omega)
                  have hg_121 : fr (wsP w) M M_121 := (hg_46.si (Or.inr (by omega))).t (hf_121.mo (fun _ _ z => mu_ws z))
                  have h51_121 : M_121.1 137 (w + 5) = nI v_1 := hf_121.i (siN h5_50 (by omega)) (by unfold muP; omega)
                  have h11_121 : M_121.1 137 (w + 1) = v_46 := hf_121.i (siN siS (by omega)) (by unfold muP; omega)
                  refine a_aload_n rfl dX12_readTest_124 ?_
                  refine a_geta dX12_readTest_125 fX12_35 (by decide) rfl rfl ?_
                  refine a_iload_n rfl dX12_readTest_128 ?_
                  refine n_bipush 6 rfl dX12_readTest_129 ?_
                  refine n_iadd dX12_readTest_131 ?_
                  refine a_aload_n rfl dX12_readTest_132 ?_
                  refine n_iconst 0 rfl dX12_readTest_133 ?_
                  refine n_bipush 99 rfl dX12_readTest_134 ?_
                  refine n_callV (mi' := miX12_count) dX12_readTest_136 lX12_232 mX12_count (by decide) rfl rfl rfl (c_X12_count (c := cmpC (tkN D n) (yTb (tkN D n) S N c)) (lo := 0) (hi := 99) hDl hn hc_121 (by omega) (by omega) (fun M_136 v_136 hc_136 hv_136 hf_136 => ?_) d) rfl rfl (by omega) (by decide) (Nat.le_of_ble_eq_true rfl)
                  show AW _ _ _ _ _ _ _
                  refine n_iast (by omega) (by decide) rfl (by decide) dX12_readTest_139 ?_
                  refine a_vret dX12_readTest_140 rfl ?_
                  have h21 : yv (tkN D n) c = 21 := by omega
                  have e : yTc (tkN D n) S N c = numC (tkN D n) 0 99 (cmpC (tkN D n) (yTb (tkN D n) S N c)) := if_pos h21
                  rw [e] at hQ
                  exact hQ _ (MU_si hc_136) (fun q => ⟨(siN (hf_136.i h51_121 (by unfold muP; omega)) (by omega)).trans (congrArg nI (show v_1 = yTst (tkN D n) 18 c - 19 from (by show v_1 = yv (tkN D n) c - 19; omega))), (siN (hf_136.i h11_121 (by unfold muP; omega)) (by omega)).trans (hn_46 (cmp_0 (num_0 q).1).1), fun _ => ⟨siS.trans ((hv_136 q).trans (congrArg nI (show cd (tkN D n) (cmpC (tkN D n) (yTb (tkN D n) S N c)) = yNum (tkN D n) S N 18 c from (if_pos h21).symm))), (siN (hf_136.i (h7_121 (cmp_0 (num_0 q).1).2.1) (by unfold muP; omega)) (by omega)).trans (congrArg nI (show cd (tkN D n) (yTb (tkN D n) S N c) = yCmp (tkN D n) S N 18 c from (if_pos ⟨rfl, h21⟩).symm))⟩⟩) ((hg_121.t (hf_136.mo (fun _ _ z => mu_ws z))).si (Or.inr (by omega)))
          · have k5 : kd (tkN D n) (yTb (tkN D n) S N c) = 5 := by omega
            have hcd5 : cd (tkN D n) (yTb (tkN D n) S N c) ≤ 62 := (hKGb.2.2.2.2.2 k5).2
            refine a_aload_n rfl dX12_readTest_79 ?_
            refine g_i (show (siM M_46 137 (w + 1) v_46).1 132 17 = nI (cd (tkN D n) (yTb (tkN D n) S N c)) from hU5.2.1.2.2.2.1 (Or.inr k5)) (by decide) rfl fX12_143 rfl dX12_readTest_80 ?_
            refine a_goto 87 dX12_readTest_83 (by decide) ?_
            refine n_iast (by omega) (by decide) rfl (by decide) dX12_readTest_87 ?_
            refine a_aload_n rfl dX12_readTest_88 ?_
            refine a_aload_n rfl dX12_readTest_89 ?_
            refine n_bipush 60 rfl dX12_readTest_90 ?_
            refine n_callV (mi' := miX12_isSign) dX12_readTest_92 lX12_307 mX12_isSign (by decide) rfl rfl rfl (c_X12_isSign (c := yTb (tkN D n) S N c) hDl hn (MU_si hU5) (by omega) (fun h_92 => ?_) (fun h_92 => ?_) d) rfl rfl (by omega) (by decide) (Nat.le_of_ble_eq_true rfl)
            · show AW _ _ _ _ _ _ _
              refine n_if_ne 116 (by decide) dX12_readTest_95 (by decide) (fun _ => ?_) (fun h => absurd h (by decide))
              refine n_iconst 1 rfl dX12_readTest_116 ?_
              refine a_goto 121 dX12_readTest_117 (by decide) ?_
              refine n_callV (mi' := miX12_must) dX12_readTest_121 lX12_228 mX12_must (by decide) rfl rfl rfl (c_X12_must (c := yTb (tkN D n) S N c) (b := decide (kd (tkN D n) (yTb (tkN D n) S N c) = 5 ∧ cd (tkN D n) (yTb (tkN D n) S N c) ≠ 59)) hDl hn (MU_si hU5) (if_pos (decide_eq_true (by omega))).symm (fun M_121 hc_121 hf_121 => ?_) d) rfl rfl (by omega) (by decide) (Nat.le_of_ble_eq_true rfl)
              show AW _ _ _ _ _ _ _
              rw [← cmp_b] at hc_121
              have h7_121 : kd (tkN D n) (yTb (tkN D n) S N c) = 5 → M_121.1 137 (w + 7) = nI (cd (tkN D n) (yTb (tkN D n) S N c)) := fun q => hf_121.i siS (by unfold muP; omega)
              have hg_121 : fr (wsP w) M M_121 := (hg_46.si (Or.inr (by omega))).t (hf_121.mo (fun _ _ z => mu_ws z))
              have h51_121 : M_121.1 137 (w + 5) = nI v_1 := hf_121.i (siN h5_50 (by omega)) (by unfold muP; omega)
              have h11_121 : M_121.1 137 (w + 1) = v_46 := hf_121.i (siN siS (by omega)) (by unfold muP; omega)
              refine a_aload_n rfl dX12_readTest_124 ?_
              refine a_geta dX12_readTest_125 fX12_35 (by decide) rfl rfl ?_
              refine a_iload_n rfl dX12_readTest_128 ?_
              refine n_bipush 6 rfl dX12_readTest_129 ?_
              refine n_iadd dX12_readTest_131 ?_
              refine a_aload_n rfl dX12_readTest_132 ?_
              refine n_iconst 0 rfl dX12_readTest_133 ?_
              refine n_bipush 99 rfl dX12_readTest_134 ?_
              refine n_callV (mi' := miX12_count) dX12_readTest_136 lX12_232 mX12_count (by decide) rfl rfl rfl (c_X12_count (c := cmpC (tkN D n) (yTb (tkN D n) S N c)) (lo := 0) (hi := 99) hDl hn hc_121 (by omega) (by omega) (fun M_136 v_136 hc_136 hv_136 hf_136 => ?_) d) rfl rfl (by omega) (by decide) (Nat.le_of_ble_eq_true rfl)
              show AW _ _ _ _ _ _ _
              refine n_iast (by omega) (by decide) rfl (by decide) dX12_readTest_139 ?_
              refine a_vret dX12_readTest_140 rfl ?_
              have h21 : yv (tkN D n) c = 21 := by omega
              have e : yTc (tkN D n) S N c = numC (tkN D n) 0 99 (cmpC (tkN D n) (yTb (tkN D n) S N c)) := if_pos h21
              rw [e] at hQ
              exact hQ _ (MU_si hc_136) (fun q => ⟨(siN (hf_136.i h51_121 (by unfold muP; omega)) (by omega)).trans (congrArg nI (show v_1 = yTst (tkN D n) 18 c - 19 from (by show v_1 = yv (tkN D n) c - 19; omega))), (siN (hf_136.i h11_121 (by unfold muP; omega)) (by omega)).trans (hn_46 (cmp_0 (num_0 q).1).1), fun _ => ⟨siS.trans ((hv_136 q).trans (congrArg nI (show cd (tkN D n) (cmpC (tkN D n) (yTb (tkN D n) S N c)) = yNum (tkN D n) S N 18 c from (if_pos h21).symm))), (siN (hf_136.i (h7_121 (cmp_0 (num_0 q).1).2.1) (by unfold muP; omega)) (by omega)).trans (congrArg nI (show cd (tkN D n) (yTb (tkN D n) S N c) = yCmp (tkN D n) S N 18 c from (if_pos ⟨rfl, h21⟩).symm))⟩⟩) ((hg_121.t (hf_136.mo (fun _ _ z => mu_ws z))).si (Or.inr (by omega)))
            · show AW _ _ _ _ _ _ _
              refine n_if_ne 116 (by decide) dX12_readTest_95 (by decide) (fun h => absurd h (by decide)) (fun _ => ?_)
              refine a_aload_n rfl dX12_readTest_98 ?_
              refine n_bipush 62 rfl dX12_readTest_99 ?_
              refine n_callV (mi' := miX12_isSign) dX12_readTest_101 lX12_307 mX12_isSign (by decide) rfl rfl rfl (c_X12_isSign (c := yTb (tkN D n) S N c) hDl hn (MU_si hU5) (by omega) (fun h_101 => ?_) (fun h_101 => ?_) d) rfl rfl (by omega) (by decide) (Nat.le_of_ble_eq_true rfl)
              · show AW _ _ _ _ _ _ _
                refine n_if_ne 116 (by decide) dX12_readTest_104 (by decide) (fun _ => ?_) (fun h => absurd h (by decide))
                refine n_iconst 1 rfl dX12_readTest_116 ?_
                refine a_goto 121 dX12_readTest_117 (by decide) ?_
                refine n_callV (mi' := miX12_must) dX12_readTest_121 lX12_228 mX12_must (by decide) rfl rfl rfl (c_X12_must (c := yTb (tkN D n) S N c) (b := decide (kd (tkN D n) (yTb (tkN D n) S N c) = 5 ∧ cd (tkN D n) (yTb (tkN D n) S N c) ≠ 59)) hDl hn (MU_si hU5) (if_pos (decide_eq_true (by omega))).symm (fun M_121 hc_121 hf_121 => ?_) d) rfl rfl (by omega) (by decide) (Nat.le_of_ble_eq_true rfl)
                show AW _ _ _ _ _ _ _
                rw [← cmp_b] at hc_121
                have h7_121 : kd (tkN D n) (yTb (tkN D n) S N c) = 5 → M_121.1 137 (w + 7) = nI (cd (tkN D n) (yTb (tkN D n) S N c)) := fun q => hf_121.i siS (by unfold muP; omega)
                have hg_121 : fr (wsP w) M M_121 := (hg_46.si (Or.inr (by omega))).t (hf_121.mo (fun _ _ z => mu_ws z))
                have h51_121 : M_121.1 137 (w + 5) = nI v_1 := hf_121.i (siN h5_50 (by omega)) (by unfold muP; omega)
                have h11_121 : M_121.1 137 (w + 1) = v_46 := hf_121.i (siN siS (by omega)) (by unfold muP; omega)
                refine a_aload_n rfl dX12_readTest_124 ?_
                refine a_geta dX12_readTest_125 fX12_35 (by decide) rfl rfl ?_
                refine a_iload_n rfl dX12_readTest_128 ?_
                refine n_bipush 6 rfl dX12_readTest_129 ?_
                refine n_iadd dX12_readTest_131 ?_
                refine a_aload_n rfl dX12_readTest_132 ?_
                refine n_iconst 0 rfl dX12_readTest_133 ?_
                refine n_bipush 99 rfl dX12_readTest_134 ?_
                refine n_callV (mi' := miX12_count) dX12_readTest_136 lX12_232 mX12_count (by decide) rfl rfl rfl (c_X12_count (c := cmpC (tkN D n) (yTb (tkN D n) S N c)) (lo := 0) (hi := 99) hDl hn hc_121 (by omega) (by omega) (fun M_136 v_136 hc_136 hv_136 hf_136 => ?_) d) rfl rfl (by omega) (by decide) (Nat.le_of_ble_eq_true rfl)
                show AW _ _ _ _ _ _ _
                refine n_iast (by omega) (by decide) rfl (by decide) dX12_readTest_139 ?_
                refine a_vret dX12_readTest_140 rfl ?_
                have h21 : yv (tkN D n) c = 21 := by omega
                have e : yTc (tkN D n) S N c = numC (tkN D n) 0 99 (cmpC (tkN D n) (yTb (tkN D n) S N c)) := if_pos h21
                rw [e] at hQ
                exact hQ _ (MU_si hc_136) (fun q => ⟨(siN (hf_136.i h51_121 (by unfold muP; omega)) (by omega)).trans (congrArg nI (show v_1 = yTst (tkN D n) 18 c - 19 from (by show v_1 = yv (tkN D n) c - 19; omega))), (siN (hf_136.i h11_121 (by unfold muP; omega)) (by omega)).trans (hn_46 (cmp_0 (num_0 q).1).1), fun _ => ⟨siS.trans ((hv_136 q).trans (congrArg nI (show cd (tkN D n) (cmpC (tkN D n) (yTb (tkN D n) S N c)) = yNum (tkN D n) S N 18 c from (if_pos h21).symm))), (siN (hf_136.i (h7_121 (cmp_0 (num_0 q).1).2.1) (by unfold muP; omega)) (by omega)).trans (congrArg nI (show cd (tkN D n) (yTb (tkN D n) S N c) = yCmp (tkN D n) S N 18 c from (if_pos ⟨rfl, h21⟩).symm))⟩⟩) ((hg_121.t (hf_136.mo (fun _ _ z => mu_ws z))).si (Or.inr (by omega)))
              · show AW _ _ _ _ _ _ _
                refine n_if_ne 116 (by decide) dX12_readTest_104 (by decide) (fun h => absurd h (by decide)) (fun _ => ?_)
                refine a_aload_n rfl dX12_readTest_107 ?_
                refine n_bipush 61 rfl dX12_readTest_108 ?_
                refine n_callV (mi' := miX12_isSign) dX12_readTest_110 lX12_307 mX12_isSign (by decide) rfl rfl rfl (c_X12_isSign (c := yTb (tkN D n) S N c) hDl hn (MU_si hU5) (by omega) (fun h_110 => ?_) (fun h_110 => ?_) d) rfl rfl (by omega) (by decide) (Nat.le_of_ble_eq_true rfl)
                · show AW _ _ _ _ _ _ _
                  refine n_if_eq 120 (by decide) dX12_readTest_113 (by decide) (fun h => absurd h (by decide)) (fun _ => ?_)
                  refine n_iconst 1 rfl dX12_readTest_116 ?_
                  refine a_goto 121 dX12_readTest_117 (by decide) ?_
                  refine n_callV (mi' := miX12_must) dX12_readTest_121 lX12_228 mX12_must (by decide) rfl rfl rfl (c_X12_must (c := yTb (tkN D n) S N c) (b := decide (kd (tkN D n) (yTb (tkN D n) S N c) = 5 ∧ cd (tkN D n) (yTb (tkN D n) S N c) ≠ 59)) hDl hn (MU_si hU5) (if_pos (decide_eq_true (by omega))).symm (fun M_121 hc_121 hf_121 => ?_) d) rfl rfl (by omega) (by decide) (Nat.le_of_ble_eq_true rfl)
                  show AW _ _ _ _ _ _ _
                  rw [← cmp_b] at hc_121
                  have h7_121 : kd (tkN D n) (yTb (tkN D n) S N c) = 5 → M_121.1 137 (w + 7) = nI (cd (tkN D n) (yTb (tkN D n) S N c)) := fun q => hf_121.i siS (by unfold muP; omega)
                  have hg_121 : fr (wsP w) M M_121 := (hg_46.si (Or.inr (by omega))).t (hf_121.mo (fun _ _ z => mu_ws z))
                  have h51_121 : M_121.1 137 (w + 5) = nI v_1 := hf_121.i (siN h5_50 (by omega)) (by unfold muP; omega)
                  have h11_121 : M_121.1 137 (w + 1) = v_46 := hf_121.i (siN siS (by omega)) (by unfold muP; omega)
                  refine a_aload_n rfl dX12_readTest_124 ?_
                  refine a_geta dX12_readTest_125 fX12_35 (by decide) rfl rfl ?_
                  refine a_iload_n rfl dX12_readTest_128 ?_
                  refine n_bipush 6 rfl dX12_readTest_129 ?_
                  refine n_iadd dX12_readTest_131 ?_
                  refine a_aload_n rfl dX12_readTest_132 ?_
                  refine n_iconst 0 rfl dX12_readTest_133 ?_
                  refine n_bipush 99 rfl dX12_readTest_134 ?_
                  refine n_callV (mi' := miX12_count) dX12_readTest_136 lX12_232 mX12_count (by decide) rfl rfl rfl (c_X12_count (c := cmpC (tkN D n) (yTb (tkN D n) S N c)) (lo := 0) (hi := 99) hDl hn hc_121 (by omega) (by omega) (fun M_136 v_136 hc_136 hv_136 hf_136 => ?_) d) rfl rfl (by omega) (by decide) (Nat.le_of_ble_eq_true rfl)
                  show AW _ _ _ _ _ _ _
                  refine n_iast (by omega) (by decide) rfl (by decide) dX12_readTest_139 ?_
                  refine a_vret dX12_readTest_140 rfl ?_
                  have h21 : yv (tkN D n) c = 21 := by omega
                  have e : yTc (tkN D n) S N c = numC (tkN D n) 0 99 (cmpC (tkN D n) (yTb (tkN D n) S N c)) := if_pos h21
                  rw [e] at hQ
                  exact hQ _ (MU_si hc_136) (fun q => ⟨(siN (hf_136.i h51_121 (by unfold muP; omega)) (by omega)).trans (congrArg nI (show v_1 = yTst (tkN D n) 18 c - 19 from (by show v_1 = yv (tkN D n) c - 19; omega))), (siN (hf_136.i h11_121 (by unfold muP; omega)) (by omega)).trans (hn_46 (cmp_0 (num_0 q).1).1), fun _ => ⟨siS.trans ((hv_136 q).trans (congrArg nI (show cd (tkN D n) (cmpC (tkN D n) (yTb (tkN D n) S N c)) = yNum (tkN D n) S N 18 c from (if_pos h21).symm))), (siN (hf_136.i (h7_121 (cmp_0 (num_0 q).1).2.1) (by unfold muP; omega)) (by omega)).trans (congrArg nI (show cd (tkN D n) (yTb (tkN D n) S N c) = yCmp (tkN D n) S N 18 c from (if_pos ⟨rfl, h21⟩).symm))⟩⟩) ((hg_121.t (hf_136.mo (fun _ _ z => mu_ws z))).si (Or.inr (by omega)))
                · show AW _ _ _ _ _ _ _
                  refine n_if_eq 120 (by decide) dX12_readTest_113 (by decide) (fun _ => ?_) (fun h => absurd h (by decide))
                  refine n_iconst 0 rfl dX12_readTest_120 ?_
                  refine n_callV (mi' := miX12_must) dX12_readTest_121 lX12_228 mX12_must (by decide) rfl rfl rfl (c_X12_must (c := yTb (tkN D n) S N c) (b := decide (kd (tkN D n) (yTb (tkN D n) S N c) = 5 ∧ cd (tkN D n) (yTb (tkN D n) S N c) ≠ 59)) hDl hn (MU_si hU5) (if_neg (fun q => by have q := of_decide_eq_true q; have := hKGb.2.2.2.2.2 q.1; have c1 : 59 ≤ cd (tkN D n) (yTb (tkN D n) S N c) := this.1; have c2 : cd (tkN D n) (yTb (tkN D n) S N c) ≤ 62 := this.2; omega)).symm (fun M_121 hc_121 hf_121 => ?_) d) rfl rfl (by omega) (by decide) (Nat.le_of_ble_eq_true rfl)
                  show AW _ _ _ _ _ _ _
                  rw [← cmp_b] at hc_121
                  have h7_121 : kd (tkN D n) (yTb (tkN D n) S N c) = 5 → M_121.1 137 (w + 7) = nI (cd (tkN D n) (yTb (tkN D n) S N c)) := fun q => hf_121.i siS (by unfold muP; omega)
                  have hg_121 : fr (wsP w) M M_121 := (hg_46.si (Or.inr (by omega))).t (hf_121.mo (fun _ _ z => mu_ws z))
                  have h51_121 : M_121.1 137 (w + 5) = nI v_1 := hf_121.i (siN h5_50 (by omega)) (by unfold muP; omega)
                  have h11_121 : M_121.1 137 (w + 1) = v_46 := hf_121.i (siN siS (by omega)) (by unfold muP; omega)
                  refine a_aload_n rfl dX12_readTest_124 ?_
                  refine a_geta dX12_readTest_125 fX12_35 (by decide) rfl rfl ?_
                  refine a_iload_n rfl dX12_readTest_128 ?_
                  refine n_bipush 6 rfl dX12_readTest_129 ?_
                  refine n_iadd dX12_readTest_131 ?_
                  refine a_aload_n rfl dX12_readTest_132 ?_
                  refine n_iconst 0 rfl dX12_readTest_133 ?_
                  refine n_bipush 99 rfl dX12_readTest_134 ?_
                  refine n_callV (mi' := miX12_count) dX12_readTest_136 lX12_232 mX12_count (by decide) rfl rfl rfl (c_X12_count (c := cmpC (tkN D n) (yTb (tkN D n) S N c)) (lo := 0) (hi := 99) hDl hn hc_121 (by omega) (by omega) (fun M_136 v_136 hc_136 hv_136 hf_136 => ?_) d) rfl rfl (by omega) (by decide) (Nat.le_of_ble_eq_true rfl)
                  show AW _ _ _ _ _ _ _
                  refine n_iast (by omega) (by decide) rfl (by decide) dX12_readTest_139 ?_
                  refine a_vret dX12_readTest_140 rfl ?_
                  have h21 : yv (tkN D n) c = 21 := by omega
                  have e : yTc (tkN D n) S N c = numC (tkN D n) 0 99 (cmpC (tkN D n) (yTb (tkN D n) S N c)) := if_pos h21
                  rw [e] at hQ
                  exact hQ _ (MU_si hc_136) (fun q => ⟨(siN (hf_136.i h51_121 (by unfold muP; omega)) (by omega)).trans (congrArg nI (show v_1 = yTst (tkN D n) 18 c - 19 from (by show v_1 = yv (tkN D n) c - 19; omega))), (siN (hf_136.i h11_121 (by unfold muP; omega)) (by omega)).trans (hn_46 (cmp_0 (num_0 q).1).1), fun _ => ⟨siS.trans ((hv_136 q).trans (congrArg nI (show cd (tkN D n) (cmpC (tkN D n) (yTb (tkN D n) S N c)) = yNum (tkN D n) S N 18 c from (if_pos h21).symm))), (siN (hf_136.i (h7_121 (cmp_0 (num_0 q).1).2.1) (by unfold muP; omega)) (by omega)).trans (congrArg nI (show cd (tkN D n) (yTb (tkN D n) S N c) = yCmp (tkN D n) S N 18 c from (if_pos ⟨rfl, h21⟩).symm))⟩⟩) ((hg_121.t (hf_136.mo (fun _ _ z => mu_ws z))).si (Or.inr (by omega)))
        · refine a_vret dX12_readTest_62 rfl ?_
          by_cases hg : (yTb (tkN D n) S N c).2.1 = 0
          · have e : yTc (tkN D n) S N c = yTb (tkN D n) S N c := if_neg (by omega)
            rw [e] at hQ
            exact hQ _ hU5 (fun q => ⟨h5_50.trans (congrArg nI (show v_1 = yTst (tkN D n) 18 c - 19 from (by show v_1 = yv (tkN D n) c - 19; omega))), siS.trans (hn_46 q), fun z => absurd z (by show ¬ yv (tkN D n) c = 21; omega)⟩) hg_46
          · have e : yTc (tkN D n) S N c = yTb (tkN D n) S N c := by
              unfold yTc
              split
              · rw [cmp_f hg, num_f hg]
              · rfl
            rw [e] at hQ
            exact hQ _ hU5 (fun q => absurd q hg) hg_46
    · refine n_iconst 0 rfl dX12_readTest_41 ?_
      have hf_19 : fr (wsP w) M (siM M_15 137 (w + 5) (nI v_1)) := (hf_15.mo (fun _ _ z => mu_ws z)).si (Or.inr (by omega))
      refine a_goto 46 dX12_readTest_42 (by decide) ?_
      refine n_callV (mi' := miX12_readTold) dX12_readTest_46 lX12_268 mX12_readTold (by decide) rfl rfl rfl (c_readTold0 (c := yTa (tkN D n) c) (b := 0) hDl hn (MU_si hc_15) (by omega) (VM_ws hM hF hw hf_19) hF (VNM_ws hN hf_19) (fun M_46 v_46 hc_46 hv_46 hf_46 => ?_) d) rfl rfl (by omega) (by decide) (Nat.le_of_ble_eq_true rfl)
      show AW _ _ _ _ _ _ _
      have hb_46 : MU M_46 D n (yTb (tkN D n) S N c) := by unfold yTb; rw [if_pos (by omega)]; exact hc_46
      have hn_46 : (yTb (tkN D n) S N c).2.1 = 0 → v_46 = nI (yWho (tkN D n) S N 18 c) := fun q => by
        have h20 : yv (tkN D n) c = 20 := by omega
        unfold yTb at q; rw [if_pos h20] at q
        obtain ⟨j, hj, hv⟩ := hv_46 q
        rw [hv, show yWho (tkN D n) S N 18 c = (nmM (tkN D n) S N (yTa (tkN D n) c)).getD 0 from if_pos h20, hj]; rfl
      have hg_46 : fr (wsP w) M (siM M_46 137 (w + 1) v_46) := (hf_19.t (hf_46.mo (fun _ _ z => mu_ws z))).si (Or.inr (by omega))
      refine n_iast (by omega) (by decide) rfl (by decide) dX12_readTest_49 ?_
      have hU5 : MU (siM M_46 137 (w + 1) v_46) D n (yTb (tkN D n) S N c) := MU_si hb_46
      have h5_50 : (siM M_46 137 (w + 1) v_46).1 137 (w + 5) = nI v_1 := siN (hf_46.i siS (by unfold muP; omega)) (by omega)
      have hf7b : (yTb (tkN D n) S N c).2.1 ≤ 7 := hU5.2.2.2.2
      have hKGb := tkN_G (D := D) hn (yTb (tkN D n) S N c).1
      have hkdb : kd (tkN D n) (yTb (tkN D n) S N c) ≤ 6 := hKGb.1
      obtain ⟨mb0, mb1, mb2, mb3, mb4, mb5⟩ := mkd_i hkdb
      refine a_aload_n rfl dX12_readTest_50 ?_
      refine g_i hU5.2.2.1 (by decide) rfl fX12_212 rfl dX12_readTest_51 ?_
      refine n_if_gt 62 (by omega) dX12_readTest_54 (by decide) (fun h_54 => ?_) (fun h_54 => ?_)
      · refine a_vret dX12_readTest_62 rfl ?_
        by_cases hg : (yTb (tkN D n) S N c).2.1 = 0
        · have e : yTc (tkN D n) S N c = yTb (tkN D n) S N c := if_neg (by omega)
          rw [e] at hQ
          exact hQ _ hU5 (fun q => ⟨h5_50.trans (congrArg nI (show v_1 = yTst (tkN D n) 18 c - 19 from (by show v_1 = yv (tkN D n) c - 19; omega))), siS.trans (hn_46 q), fun z => absurd z (by show ¬ yv (tkN D n) c = 21; omega)⟩) hg_46
        · have e : yTc (tkN D n) S N c = yTb (tkN D n) S N c := by
            unfold yTc
            split
            · rw [cmp_f hg, num_f hg]
            · rfl
          rw [e] at hQ
          exact hQ _ hU5 (fun q => absurd q hg) hg_46
      · refine a_iload_n rfl dX12_readTest_57 ?_
        refine n_iconst 2 rfl dX12_readTest_58 ?_
        refine n_icmp_ge 63 (by omega) (by omega) dX12_readTest_59 (by decide) (fun h_59 => ?_) (fun h_59 => ?_)
        · refine a_aload_n rfl dX12_readTest_63 ?_
          refine a_geta dX12_readTest_64 fX12_35 (by decide) rfl rfl ?_
          refine a_iload_n rfl dX12_readTest_67 ?_
          refine n_bipush 7 rfl dX12_readTest_68 ?_
          refine n_iadd dX12_readTest_70 ?_
          refine a_aload_n rfl dX12_readTest_71 ?_
          refine g_i (show (siM M_46 137 (w + 1) v_46).1 132 14 = nI (mkd (kd (tkN D n) (yTb (tkN D n) S N c))) from hU5.2.1.1) (by decide) rfl fX12_124 rfl dX12_readTest_72 ?_
          refine n_iconst 3 rfl dX12_readTest_75 ?_
          refine n_icmp_ne 86 (by omega) (by omega) dX12_readTest_76 (by decide) (fun h_76 => ?_) (fun h_76 => ?_)
          · refine n_iconst 0 rfl dX12_readTest_86 ?_
            refine n_iast (by omega) (by decide) rfl (by decide) dX12_readTest_87 ?_
            refine a_aload_n rfl dX12_readTest_88 ?_
            refine a_aload_n rfl dX12_readTest_89 ?_
            refine n_bipush 60 rfl dX12_readTest_90 ?_
            refine n_callV (mi' := miX12_isSign) dX12_readTest_92 lX12_307 mX12_isSign (by decide) rfl rfl rfl (c_X12_isSign (c := yTb (tkN D n) S N c) hDl hn (MU_si hU5) (by omega) (fun h_92 => ?_) (fun h_92 => ?_) d) rfl rfl (by omega) (by decide) (Nat.le_of_ble_eq_true rfl)
            · show AW _ _ _ _ _ _ _
              refine n_if_ne 116 (by decide) dX12_readTest_95 (by decide) (fun _ => ?_) (fun h => absurd h (by decide))
              refine n_iconst 1 rfl dX12_readTest_116 ?_
              refine a_goto 121 dX12_readTest_117 (by decide) ?_
              refine n_callV (mi' := miX12_must) dX12_readTest_121 lX12_228 mX12_must (by decide) rfl rfl rfl (c_X12_must (c := yTb (tkN D n) S N c) (b := decide (kd (tkN D n) (yTb (tkN D n) S N c) = 5 ∧ cd (tkN D n) (yTb (tkN D n) S N c) ≠ 59)) hDl hn (MU_si hU5) (if_pos (decide_eq_true (by omega))).symm (fun M_121 hc_121 hf_121 => ?_) d) rfl rfl (by omega) (by decide) (Nat.le_of_ble_eq_true rfl)
              show AW _ _ _ _ _ _ _
              rw [← cmp_b] at hc_121
              have h7_121 : kd (tkN D n) (yTb (tkN D n) S N c) = 5 → M_121.1 137 (w + 7) = nI (cd (tkN D n) (yTb (tkN D n) S N c)) := fun q => hf_121.i (absurd q (by omega)) (by unfold muP; omega)
              have hg_121 : fr (wsP w) M M_121 := (hg_46.si (Or.inr (by omega))).t (hf_121.mo (fun _ _ z => mu_ws z))
              have h51_121 : M_121.1 137 (w + 5) = nI v_1 := hf_121.i (siN h5_50 (by omega)) (by unfold muP; omega)
              have h11_121 : M_121.1 137 (w + 1) = v_46 := hf_121.i (siN siS (by omega)) (by unfold muP; omega)
              refine a_aload_n rfl dX12_readTest_124 ?_
              refine a_geta dX12_readTest_125 fX12_35 (by decide) rfl rfl ?_
              refine a_iload_n rfl dX12_readTest_128 ?_
              refine n_bipush 6 rfl dX12_readTest_129 ?_
              refine n_iadd dX12_readTest_131 ?_
              refine a_aload_n rfl dX12_readTest_132 ?_
              refine n_iconst 0 rfl dX12_readTest_133 ?_
              refine n_bipush 99 rfl dX12_readTest_134 ?_
              refine n_callV (mi' := miX12_count) dX12_readTest_136 lX12_232 mX12_count (by decide) rfl rfl rfl (c_X12_count (c := cmpC (tkN D n) (yTb (tkN D n) S N c)) (lo := 0) (hi := 99) hDl hn hc_121 (by omega) (by omega) (fun M_136 v_136 hc_136 hv_136 hf_136 => ?_) d) rfl rfl (by omega) (by decide) (Nat.le_of_ble_eq_true rfl)
              show AW _ _ _ _ _ _ _
              refine n_iast (by omega) (by decide) rfl (by decide) dX12_readTest_139 ?_
              refine a_vret dX12_readTest_140 rfl ?_
              have h21 : yv (tkN D n) c = 21 := by omega
              have e : yTc (tkN D n) S N c = numC (tkN D n) 0 99 (cmpC (tkN D n) (yTb (tkN D n) S N c)) := if_pos h21
              rw [e] at hQ
              exact hQ _ (MU_si hc_136) (fun q => ⟨(siN (hf_136.i h51_121 (by unfold muP; omega)) (by omega)).trans (congrArg nI (show v_1 = yTst (tkN D n) 18 c - 19 from (by show v_1 = yv (tkN D n) c - 19; omega))), (siN (hf_136.i h11_121 (by unfold muP; omega)) (by omega)).trans (hn_46 (cmp_0 (num_0 q).1).1), fun _ => ⟨siS.trans ((hv_136 q).trans (congrArg nI (show cd (tkN D n) (cmpC (tkN D n) (yTb (tkN D n) S N c)) = yNum (tkN D n) S N 18 c from (if_pos h21).symm))), (siN (hf_136.i (h7_121 (cmp_0 (num_0 q).1).2.1) (by unfold muP; omega)) (by omega)).trans (congrArg nI (show cd (tkN D n) (yTb (tkN D n) S N c) = yCmp (tkN D n) S N 18 c from (if_pos ⟨rfl, h21⟩).symm))⟩⟩) ((hg_121.t (hf_136.mo (fun _ _ z => mu_ws z))).si (Or.inr (by omega)))
            · show AW _ _ _ _ _ _ _
              refine n_if_ne 116 (by decide) dX12_readTest_95 (by decide) (fun h => absurd h (by decide)) (fun _ => ?_)
              refine a_aload_n rfl dX12_readTest_98 ?_
              refine n_bipush 62 rfl dX12_readTest_99 ?_
              refine n_callV (mi' := miX12_isSign) dX12_readTest_101 lX12_307 mX12_isSign (by decide) rfl rfl rfl (c_X12_isSign (c := yTb (tkN D n) S N c) hDl hn (MU_si hU5) (by omega) (fun h_101 => ?_) (fun h_101 => ?_) d) rfl rfl (by omega) (by decide) (Nat.le_of_ble_eq_true rfl)
              · show AW _ _ _ _ _ _ _
                refine n_if_ne 116 (by decide) dX12_readTest_104 (by decide) (fun _ => ?_) (fun h => absurd h (by decide))
                refine n_iconst 1 rfl dX12_readTest_116 ?_
                refine a_goto 121 dX12_readTest_117 (by decide) ?_
                refine n_callV (mi' := miX12_must) dX12_readTest_121 lX12_228 mX12_must (by decide) rfl rfl rfl (c_X12_must (c := yTb (tkN D n) S N c) (b := decide (kd (tkN D n) (yTb (tkN D n) S N c) = 5 ∧ cd (tkN D n) (yTb (tkN D n) S N c) ≠ 59)) hDl hn (MU_si hU5) (if_pos (decide_eq_true (by omega))).symm (fun M_121 hc_121 hf_121 => ?_) d) rfl rfl (by omega) (by decide) (Nat.le_of_ble_eq_true rfl)
                show AW _ _ _ _ _ _ _
                rw [← cmp_b] at hc_121
                have h7_121 : kd (tkN D n) (yTb (tkN D n) S N c) = 5 → M_121.1 137 (w + 7) = nI (cd (tkN D n) (yTb (tkN D n) S N c)) := fun q => hf_121.i (absurd q (by omega)) (by unfold muP; omega)
                have hg_121 : fr (wsP w) M M_121 := (hg_46.si (Or.inr (by omega))).t (hf_121.mo (fun _ _ z => mu_ws z))
                have h51_121 : M_121.1 137 (w + 5) = nI v_1 := hf_121.i (siN h5_50 (by omega)) (by unfold muP; omega)
                have h11_121 : M_121.1 137 (w + 1) = v_46 := hf_121.i (siN siS (by omega)) (by unfold muP; omega)
                refine a_aload_n rfl dX12_readTest_124 ?_
                refine a_geta dX12_readTest_125 fX12_35 (by decide) rfl rfl ?_
                refine a_iload_n rfl dX12_readTest_128 ?_
                refine n_bipush 6 rfl dX12_readTest_129 ?_
                refine n_iadd dX12_readTest_131 ?_
                refine a_aload_n rfl dX12_readTest_132 ?_
                refine n_iconst 0 rfl dX12_readTest_133 ?_
                refine n_bipush 99 rfl dX12_readTest_134 ?_
                refine n_callV (mi' := miX12_count) dX12_readTest_136 lX12_232 mX12_count (by decide) rfl rfl rfl (c_X12_count (c := cmpC (tkN D n) (yTb (tkN D n) S N c)) (lo := 0) (hi := 99) hDl hn hc_121 (by omega) (by omega) (fun M_136 v_136 hc_136 hv_136 hf_136 => ?_) d) rfl rfl (by omega) (by decide) (Nat.le_of_ble_eq_true rfl)
                show AW _ _ _ _ _ _ _
                refine n_iast (by omega) (by decide) rfl (by decide) dX12_readTest_139 ?_
                refine a_vret dX12_readTest_140 rfl ?_
                have h21 : yv (tkN D n) c = 21 := by omega
                have e : yTc (tkN D n) S N c = numC (tkN D n) 0 99 (cmpC (tkN D n) (yTb (tkN D n) S N c)) := if_pos h21
                rw [e] at hQ
                exact hQ _ (MU_si hc_136) (fun q => ⟨(siN (hf_136.i h51_121 (by unfold muP; omega)) (by omega)).trans (congrArg nI (show v_1 = yTst (tkN D n) 18 c - 19 from (by show v_1 = yv (tkN D n) c - 19; omega))), (siN (hf_136.i h11_121 (by unfold muP; omega)) (by omega)).trans (hn_46 (cmp_0 (num_0 q).1).1), fun _ => ⟨siS.trans ((hv_136 q).trans (congrArg nI (show cd (tkN D n) (cmpC (tkN D n) (yTb (tkN D n) S N c)) = yNum (tkN D n) S N 18 c from (if_pos h21).symm))), (siN (hf_136.i (h7_121 (cmp_0 (num_0 q).1).2.1) (by unfold muP; omega)) (by omega)).trans (congrArg nI (show cd (tkN D n) (yTb (tkN D n) S N c) = yCmp (tkN D n) S N 18 c from (if_pos ⟨rfl, h21⟩).symm))⟩⟩) ((hg_121.t (hf_136.mo (fun _ _ z => mu_ws z))).si (Or.inr (by omega)))
              · show AW _ _ _ _ _ _ _
                refine n_if_ne 116 (by decide) dX12_readTest_104 (by decide) (fun h => absurd h (by decide)) (fun _ => ?_)
                refine a_aload_n rfl dX12_readTest_107 ?_
                refine n_bipush 61 rfl dX12_readTest_108 ?_
                refine n_callV (mi' := miX12_isSign) dX12_readTest_110 lX12_307 mX12_isSign (by decide) rfl rfl rfl (c_X12_isSign (c := yTb (tkN D n) S N c) hDl hn (MU_si hU5) (by omega) (fun h_110 => ?_) (fun h_110 => ?_) d) rfl rfl (by omega) (by decide) (Nat.le_of_ble_eq_true rfl)
                · show AW _ _ _ _ _ _ _
                  refine n_if_eq 120 (by decide) dX12_readTest_113 (by decide) (fun h => absurd h (by decide)) (fun _ => ?_)
                  refine n_iconst 1 rfl dX12_readTest_116 ?_
                  refine a_goto 121 dX12_readTest_117 (by decide) ?_
                  refine n_callV (mi' := miX12_must) dX12_readTest_121 lX12_228 mX12_must (by decide) rfl rfl rfl (c_X12_must (c := yTb (tkN D n) S N c) (b := decide (kd (tkN D n) (yTb (tkN D n) S N c) = 5 ∧ cd (tkN D n) (yTb (tkN D n) S N c) ≠ 59)) hDl hn (MU_si hU5) (if_pos (decide_eq_true (by omega))).symm (fun M_121 hc_121 hf_121 => ?_) d) rfl rfl (by omega) (by decide) (Nat.le_of_ble_eq_true rfl)
                  show AW _ _ _ _ _ _ _
                  rw [← cmp_b] at hc_121
                  have h7_121 : kd (tkN D n) (yTb (tkN D n) S N c) = 5 → M_121.1 137 (w + 7) = nI (cd (tkN D n) (yTb (tkN D n) S N c)) := fun q => hf_121.i (absurd q (by omega)) (by unfold muP; omega)
                  have hg_121 : fr (wsP w) M M_121 := (hg_46.si (Or.inr (by omega))).t (hf_121.mo (fun _ _ z => mu_ws z))
                  have h51_121 : M_121.1 137 (w + 5) = nI v_1 := hf_121.i (siN h5_50 (by omega)) (by unfold muP; omega)
                  have h11_121 : M_121.1 137 (w + 1) = v_46 := hf_121.i (siN siS (by omega)) (by unfold muP; omega)
                  refine a_aload_n rfl dX12_readTest_124 ?_
                  refine a_geta dX12_readTest_125 fX12_35 (by decide) rfl rfl ?_
                  refine a_iload_n rfl dX12_readTest_128 ?_
                  refine n_bipush 6 rfl dX12_readTest_129 ?_
                  refine n_iadd dX12_readTest_131 ?_
                  refine a_aload_n rfl dX12_readTest_132 ?_
                  refine n_iconst 0 rfl dX12_readTest_133 ?_
                  refine n_bipush 99 rfl dX12_readTest_134 ?_
                  refine n_callV (mi' := miX12_count) dX12_readTest_136 lX12_232 mX12_count (by decide) rfl rfl rfl (c_X12_count (c := cmpC (tkN D n) (yTb (tkN D n) S N c)) (lo := 0) (hi := 99) hDl hn hc_121 (by omega) (by omega) (fun M_136 v_136 hc_136 hv_136 hf_136 => ?_) d) rfl rfl (by omega) (by decide) (Nat.le_of_ble_eq_true rfl)
                  show AW _ _ _ _ _ _ _
                  refine n_iast (by omega) (by decide) rfl (by decide) dX12_readTest_139 ?_
                  refine a_vret dX12_readTest_140 rfl ?_
                  have h21 : yv (tkN D n) c = 21 := by omega
                  have e : yTc (tkN D n) S N c = numC (tkN D n) 0 99 (cmpC (tkN D n) (yTb (tkN D n) S N c)) := if_pos h21
                  rw [e] at hQ
                  exact hQ _ (MU_si hc_136) (fun q => ⟨(siN (hf_136.i h51_121 (by unfold muP; omega)) (by omega)).trans (congrArg nI (show v_1 = yTst (tkN D n) 18 c - 19 from (by show v_1 = yv (tkN D n) c - 19; omega))), (siN (hf_136.i h11_121 (by unfold muP; omega)) (by omega)).trans (hn_46 (cmp_0 (num_0 q).1).1), fun _ => ⟨siS.trans ((hv_136 q).trans (congrArg nI (show cd (tkN D n) (cmpC (tkN D n) (yTb (tkN D n) S N c)) = yNum (tkN D n) S N 18 c from (if_pos h21).symm))), (siN (hf_136.i (h7_121 (cmp_0 (num_0 q).1).2.1) (by unfold muP; omega)) (by omega)).trans (congrArg nI (show cd (tkN D n) (yTb (tkN D n) S N c) = yCmp (tkN D n) S N 18 c from (if_pos ⟨rfl, h21⟩).symm))⟩⟩) ((hg_121.t (hf_136.mo (fun _ _ z => mu_ws z))).si (Or.inr (by omega)))
                · show AW _ _ _ _ _ _ _
                  refine n_if_eq 120 (by decide) dX12_readTest_113 (by decide) (fun _ => ?_) (fun h => absurd h (by decide))
                  refine n_iconst 0 rfl dX12_readTest_120 ?_
                  refine n_callV (mi' := miX12_must) dX12_readTest_121 lX12_228 mX12_must (by decide) rfl rfl rfl (c_X12_must (c := yTb (tkN D n) S N c) (b := decide (kd (tkN D n) (yTb (tkN D n) S N c) = 5 ∧ cd (tkN D n) (yTb (tkN D n) S N c) ≠ 59)) hDl hn (MU_si hU5) (if_neg (fun q => by have q := of_decide_eq_true q; have := hKGb.2.2.2.2.2 q.1; have c1 : 59 ≤ cd (tkN D n) (yTb (tkN D n) S N c) := this.1; have c2 : cd (tkN D n) (yTb (tkN D n) S N c) ≤ 62 := this.2; omega)).symm (fun M_121 hc_121 hf_121 => ?_) d) rfl rfl (by omega) (by decide) (Nat.le_of_ble_eq_true rfl)
                  show AW _ _ _ _ _ _ _
                  rw [← cmp_b] at hc_121
                  have h7_121 : kd (tkN D n) (yTb (tkN D n) S N c) = 5 → M_121.1 137 (w + 7) = nI (cd (tkN D n) (yTb (tkN D n) S N c)) := fun q => hf_121.i (absurd q (by omega)) (by unfold muP; omega)
                  have hg_121 : fr (wsP w) M M_121 := (hg_46.si (Or.inr (by omega))).t (hf_121.mo (fun _ _ z => mu_ws z))
                  have h51_121 : M_121.1 137 (w + 5) = nI v_1 := hf_121.i (siN h5_50 (by omega)) (by unfold muP; omega)
                  have h11_121 : M_121.1 137 (w + 1) = v_46 := hf_121.i (siN siS (by omega)) (by unfold muP; omega)
                  refine a_aload_n rfl dX12_readTest_124 ?_
                  refine a_geta dX12_readTest_125 fX12_35 (by decide) rfl rfl ?_
                  refine a_iload_n rfl dX12_readTest_128 ?_
                  refine n_bipush 6 rfl dX12_readTest_129 ?_
                  refine n_iadd dX12_readTest_131 ?_
                  refine a_aload_n rfl dX12_readTest_132 ?_
                  refine n_iconst 0 rfl dX12_readTest_133 ?_
                  refine n_bipush 99 rfl dX12_readTest_134 ?_
                  refine n_callV (mi' := miX12_count) dX12_readTest_136 lX12_232 mX12_count (by decide) rfl rfl rfl (c_X12_count (c := cmpC (tkN D n) (yTb (tkN D n) S N c)) (lo := 0) (hi := 99) hDl hn hc_121 (by omega) (by omega) (fun M_136 v_136 hc_136 hv_136 hf_136 => ?_) d) rfl rfl (by omega) (by decide) (Nat.le_of_ble_eq_true rfl)
                  show AW _ _ _ _ _ _ _
                  refine n_iast (by omega) (by decide) rfl (by decide) dX12_readTest_139 ?_
                  refine a_vret dX12_readTest_140 rfl ?_
                  have h21 : yv (tkN D n) c = 21 := by omega
                  have e : yTc (tkN D n) S N c = numC (tkN D n) 0 99 (cmpC (tkN D n) (yTb (tkN D n) S N c)) := if_pos h21
                  rw [e] at hQ
                  exact hQ _ (MU_si hc_136) (fun q => ⟨(siN (hf_136.i h51_121 (by unfold muP; omega)) (by omega)).trans (congrArg nI (show v_1 = yTst (tkN D n) 18 c - 19 from (by show v_1 = yv (tkN D n) c - 19; omega))), (siN (hf_136.i h11_121 (by unfold muP; omega)) (by omega)).trans (hn_46 (cmp_0 (num_0 q).1).1), fun _ => ⟨siS.trans ((hv_136 q).trans (congrArg nI (show cd (tkN D n) (cmpC (tkN D n) (yTb (tkN D n) S N c)) = yNum (tkN D n) S N 18 c from (if_pos h21).symm))), (siN (hf_136.i (h7_121 (cmp_0 (num_0 q).1).2.1) (by unfold muP; omega)) (by omega)).trans (congrArg nI (show cd (tkN D n) (yTb (tkN D n) S N c) = yCmp (tkN D n) S N 18 c from (if_pos ⟨rfl, h21⟩).symm))⟩⟩) ((hg_121.t (hf_136.mo (fun _ _ z => mu_ws z))).si (Or.inr (by omega)))
          · have k5 : kd (tkN D n) (yTb (tkN D n) S N c) = 5 := by omega
            have hcd5 : cd (tkN D n) (yTb (tkN D n) S N c) ≤ 62 := (hKGb.2.2.2.2.2 k5).2
            refine a_aload_n rfl dX12_readTest_79 ?_
            refine g_i (show (siM M_46 137 (w + 1) v_46).1 132 17 = nI (cd (tkN D n) (yTb (tkN D n) S N c)) from hU5.2.1.2.2.2.1 (Or.inr k5)) (by decide) rfl fX12_143 rfl dX12_readTest_80 ?_
            refine a_goto 87 dX12_readTest_83 (by decide) ?_
            refine n_iast (by omega) (by decide) rfl (by decide) dX12_readTest_87 ?_
            refine a_aload_n rfl dX12_readTest_88 ?_
            refine a_aload_n rfl dX12_readTest_89 ?_
            refine n_bipush 60 rfl dX12_readTest_90 ?_
            refine n_callV (mi' := miX12_isSign) dX12_readTest_92 lX12_307 mX12_isSign (by decide) rfl rfl rfl (c_X12_isSign (c := yTb (tkN D n) S N c) hDl hn (MU_si hU5) (by omega) (fun h_92 => ?_) (fun h_92 => ?_) d) rfl rfl (by omega) (by decide) (Nat.le_of_ble_eq_true rfl)
            · show AW _ _ _ _ _ _ _
              refine n_if_ne 116 (by decide) dX12_readTest_95 (by decide) (fun _ => ?_) (fun h => absurd h (by decide))
              refine n_iconst 1 rfl dX12_readTest_116 ?_
              refine a_goto 121 dX12_readTest_117 (by decide) ?_
              refine n_callV (mi' := miX12_must) dX12_readTest_121 lX12_228 mX12_must (by decide) rfl rfl rfl (c_X12_must (c := yTb (tkN D n) S N c) (b := decide (kd (tkN D n) (yTb (tkN D n) S N c) = 5 ∧ cd (tkN D n) (yTb (tkN D n) S N c) ≠ 59)) hDl hn (MU_si hU5) (if_pos (decide_eq_true (by omega))).symm (fun M_121 hc_121 hf_121 => ?_) d) rfl rfl (by omega) (by decide) (Nat.le_of_ble_eq_true rfl)
              show AW _ _ _ _ _ _ _
              rw [← cmp_b] at hc_121
              have h7_121 : kd (tkN D n) (yTb (tkN D n) S N c) = 5 → M_121.1 137 (w + 7) = nI (cd (tkN D n) (yTb (tkN D n) S N c)) := fun q => hf_121.i siS (by unfold muP; omega)
              have hg_121 : fr (wsP w) M M_121 := (hg_46.si (Or.inr (by omega))).t (hf_121.mo (fun _ _ z => mu_ws z))
              have h51_121 : M_121.1 137 (w + 5) = nI v_1 := hf_121.i (siN h5_50 (by omega)) (by unfold muP; omega)
              have h11_121 : M_121.1 137 (w + 1) = v_46 := hf_121.i (siN siS (by omega)) (by unfold muP; omega)
              refine a_aload_n rfl dX12_readTest_124 ?_
              refine a_geta dX12_readTest_125 fX12_35 (by decide) rfl rfl ?_
              refine a_iload_n rfl dX12_readTest_128 ?_
              refine n_bipush 6 rfl dX12_readTest_129 ?_
              refine n_iadd dX12_readTest_131 ?_
              refine a_aload_n rfl dX12_readTest_132 ?_
              refine n_iconst 0 rfl dX12_readTest_133 ?_
              refine n_bipush 99 rfl dX12_readTest_134 ?_
              refine n_callV (mi' := miX12_count) dX12_readTest_136 lX12_232 mX12_count (by decide) rfl rfl rfl (c_X12_count (c := cmpC (tkN D n) (yTb (tkN D n) S N c)) (lo := 0) (hi := 99) hDl hn hc_121 (by omega) (by omega) (fun M_136 v_136 hc_136 hv_136 hf_136 => ?_) d) rfl rfl (by omega) (by decide) (Nat.le_of_ble_eq_true rfl)
              show AW _ _ _ _ _ _ _
              refine n_iast (by omega) (by decide) rfl (by decide) dX12_readTest_139 ?_
              refine a_vret dX12_readTest_140 rfl ?_
              have h21 : yv (tkN D n) c = 21 := by omega
              have e : yTc (tkN D n) S N c = numC (tkN D n) 0 99 (cmpC (tkN D n) (yTb (tkN D n) S N c)) := if_pos h21
              rw [e] at hQ
              exact hQ _ (MU_si hc_136) (fun q => ⟨(siN (hf_136.i h51_121 (by unfold muP; omega)) (by omega)).trans (congrArg nI (show v_1 = yTst (tkN D n) 18 c - 19 from (by show v_1 = yv (tkN D n) c - 19; omega))), (siN (hf_136.i h11_121 (by unfold muP; omega)) (by omega)).trans (hn_46 (cmp_0 (num_0 q).1).1), fun _ => ⟨siS.trans ((hv_136 q).trans (congrArg nI (show cd (tkN D n) (cmpC (tkN D n) (yTb (tkN D n) S N c)) = yNum (tkN D n) S N 18 c from (if_pos h21).symm))), (siN (hf_136.i (h7_121 (cmp_0 (num_0 q).1).2.1) (by unfold muP; omega)) (by omega)).trans (congrArg nI (show cd (tkN D n) (yTb (tkN D n) S N c) = yCmp (tkN D n) S N 18 c from (if_pos ⟨rfl, h21⟩).symm))⟩⟩) ((hg_121.t (hf_136.mo (fun _ _ z => mu_ws z))).si (Or.inr (by omega)))
            · show AW _ _ _ _ _ _ _
              refine n_if_ne 116 (by decide) dX12_readTest_95 (by decide) (fun h => absurd h (by decide)) (fun _ => ?_)
              refine a_aload_n rfl dX12_readTest_98 ?_
              refine n_bipush 62 rfl dX12_readTest_99 ?_
              refine n_callV (mi' := miX12_isSign) dX12_readTest_101 lX12_307 mX12_isSign (by decide) rfl rfl rfl (c_X12_isSign (c := yTb (tkN D n) S N c) hDl hn (MU_si hU5) (by omega) (fun h_101 => ?_) (fun h_101 => ?_) d) rfl rfl (by omega) (by decide) (Nat.le_of_ble_eq_true rfl)
              · show AW _ _ _ _ _ _ _
                refine n_if_ne 116 (by decide) dX12_readTest_104 (by decide) (fun _ => ?_) (fun h => absurd h (by decide))
                refine n_iconst 1 rfl dX12_readTest_116 ?_
                refine a_goto 121 dX12_readTest_117 (by decide) ?_
                refine n_callV (mi' := miX12_must) dX12_readTest_121 lX12_228 mX12_must (by decide) rfl rfl rfl (c_X12_must (c := yTb (tkN D n) S N c) (b := decide (kd (tkN D n) (yTb (tkN D n) S N c) = 5 ∧ cd (tkN D n) (yTb (tkN D n) S N c) ≠ 59)) hDl hn (MU_si hU5) (if_pos (decide_eq_true (by omega))).symm (fun M_121 hc_121 hf_121 => ?_) d) rfl rfl (by omega) (by decide) (Nat.le_of_ble_eq_true rfl)
                show AW _ _ _ _ _ _ _
                rw [← cmp_b] at hc_121
                have h7_121 : kd (tkN D n) (yTb (tkN D n) S N c) = 5 → M_121.1 137 (w + 7) = nI (cd (tkN D n) (yTb (tkN D n) S N c)) := fun q => hf_121.i siS (by unfold muP; omega)
                have hg_121 : fr (wsP w) M M_121 := (hg_46.si (Or.inr (by omega))).t (hf_121.mo (fun _ _ z => mu_ws z))
                have h51_121 : M_121.1 137 (w + 5) = nI v_1 := hf_121.i (siN h5_50 (by omega)) (by unfold muP; omega)
                have h11_121 : M_121.1 137 (w + 1) = v_46 := hf_121.i (siN siS (by omega)) (by unfold muP; omega)
                refine a_aload_n rfl dX12_readTest_124 ?_
                refine a_geta dX12_readTest_125 fX12_35 (by decide) rfl rfl ?_
                refine a_iload_n rfl dX12_readTest_128 ?_
                refine n_bipush 6 rfl dX12_readTest_129 ?_
                refine n_iadd dX12_readTest_131 ?_
                refine a_aload_n rfl dX12_readTest_132 ?_
                refine n_iconst 0 rfl dX12_readTest_133 ?_
                refine n_bipush 99 rfl dX12_readTest_134 ?_
                refine n_callV (mi' := miX12_count) dX12_readTest_136 lX12_232 mX12_count (by decide) rfl rfl rfl (c_X12_count (c := cmpC (tkN D n) (yTb (tkN D n) S N c)) (lo := 0) (hi := 99) hDl hn hc_121 (by omega) (by omega) (fun M_136 v_136 hc_136 hv_136 hf_136 => ?_) d) rfl rfl (by omega) (by decide) (Nat.le_of_ble_eq_true rfl)
                show AW _ _ _ _ _ _ _
                refine n_iast (by omega) (by decide) rfl (by decide) dX12_readTest_139 ?_
                refine a_vret dX12_readTest_140 rfl ?_
                have h21 : yv (tkN D n) c = 21 := by omega
                have e : yTc (tkN D n) S N c = numC (tkN D n) 0 99 (cmpC (tkN D n) (yTb (tkN D n) S N c)) := if_pos h21
                rw [e] at hQ
                exact hQ _ (MU_si hc_136) (fun q => ⟨(siN (hf_136.i h51_121 (by unfold muP; omega)) (by omega)).trans (congrArg nI (show v_1 = yTst (tkN D n) 18 c - 19 from (by show v_1 = yv (tkN D n) c - 19; omega))), (siN (hf_136.i h11_121 (by unfold muP; omega)) (by omega)).trans (hn_46 (cmp_0 (num_0 q).1).1), fun _ => ⟨siS.trans ((hv_136 q).trans (congrArg nI (show cd (tkN D n) (cmpC (tkN D n) (yTb (tkN D n) S N c)) = yNum (tkN D n) S N 18 c from (if_pos h21).symm))), (siN (hf_136.i (h7_121 (cmp_0 (num_0 q).1).2.1) (by unfold muP; omega)) (by omega)).trans (congrArg nI (show cd (tkN D n) (yTb (tkN D n) S N c) = yCmp (tkN D n) S N 18 c from (if_pos ⟨rfl, h21⟩).symm))⟩⟩) ((hg_121.t (hf_136.mo (fun _ _ z => mu_ws z))).si (Or.inr (by omega)))
              · show AW _ _ _ _ _ _ _
                refine n_if_ne 116 (by decide) dX12_readTest_104 (by decide) (fun h => absurd h (by decide)) (fun _ => ?_)
                refine a_aload_n rfl dX12_readTest_107 ?_
                refine n_bipush 61 rfl dX12_readTest_108 ?_
                refine n_callV (mi' := miX12_isSign) dX12_readTest_110 lX12_307 mX12_isSign (by decide) rfl rfl rfl (c_X12_isSign (c := yTb (tkN D n) S N c) hDl hn (MU_si hU5) (by omega) (fun h_110 => ?_) (fun h_110 => ?_) d) rfl rfl (by omega) (by decide) (Nat.le_of_ble_eq_true rfl)
                · show AW _ _ _ _ _ _ _
                  refine n_if_eq 120 (by decide) dX12_readTest_113 (by decide) (fun h => absurd h (by decide)) (fun _ => ?_)
                  refine n_iconst 1 rfl dX12_readTest_116 ?_
                  refine a_goto 121 dX12_readTest_117 (by decide) ?_
                  refine n_callV (mi' := miX12_must) dX12_readTest_121 lX12_228 mX12_must (by decide) rfl rfl rfl (c_X12_must (c := yTb (tkN D n) S N c) (b := decide (kd (tkN D n) (yTb (tkN D n) S N c) = 5 ∧ cd (tkN D n) (yTb (tkN D n) S N c) ≠ 59)) hDl hn (MU_si hU5) (if_pos (decide_eq_true (by omega))).symm (fun M_121 hc_121 hf_121 => ?_) d) rfl rfl (by omega) (by decide) (Nat.le_of_ble_eq_true rfl)
                  show AW _ _ _ _ _ _ _
                  rw [← cmp_b] at hc_121
                  have h7_121 : kd (tkN D n) (yTb (tkN D n) S N c) = 5 → M_121.1 137 (w + 7) = nI (cd (tkN D n) (yTb (tkN D n) S N c)) := fun q => hf_121.i siS (by unfold muP; omega)
                  have hg_121 : fr (wsP w) M M_121 := (hg_46.si (Or.inr (by omega))).t (hf_121.mo (fun _ _ z => mu_ws z))
                  have h51_121 : M_121.1 137 (w + 5) = nI v_1 := hf_121.i (siN h5_50 (by omega)) (by unfold muP; omega)
                  have h11_121 : M_121.1 137 (w + 1) = v_46 := hf_121.i (siN siS (by omega)) (by unfold muP; omega)
                  refine a_aload_n rfl dX12_readTest_124 ?_
                  refine a_geta dX12_readTest_125 fX12_35 (by decide) rfl rfl ?_
                  refine a_iload_n rfl dX12_readTest_128 ?_
                  refine n_bipush 6 rfl dX12_readTest_129 ?_
                  refine n_iadd dX12_readTest_131 ?_
                  refine a_aload_n rfl dX12_readTest_132 ?_
                  refine n_iconst 0 rfl dX12_readTest_133 ?_
                  refine n_bipush 99 rfl dX12_readTest_134 ?_
                  refine n_callV (mi' := miX12_count) dX12_readTest_136 lX12_232 mX12_count (by decide) rfl rfl rfl (c_X12_count (c := cmpC (tkN D n) (yTb (tkN D n) S N c)) (lo := 0) (hi := 99) hDl hn hc_121 (by omega) (by omega) (fun M_136 v_136 hc_136 hv_136 hf_136 => ?_) d) rfl rfl (by omega) (by decide) (Nat.le_of_ble_eq_true rfl)
                  show AW _ _ _ _ _ _ _
                  refine n_iast (by omega) (by decide) rfl (by decide) dX12_readTest_139 ?_
                  refine a_vret dX12_readTest_140 rfl ?_
                  have h21 : yv (tkN D n) c = 21 := by omega
                  have e : yTc (tkN D n) S N c = numC (tkN D n) 0 99 (cmpC (tkN D n) (yTb (tkN D n) S N c)) := if_pos h21
                  rw [e] at hQ
                  exact hQ _ (MU_si hc_136) (fun q => ⟨(siN (hf_136.i h51_121 (by unfold muP; omega)) (by omega)).trans (congrArg nI (show v_1 = yTst (tkN D n) 18 c - 19 from (by show v_1 = yv (tkN D n) c - 19; omega))), (siN (hf_136.i h11_121 (by unfold muP; omega)) (by omega)).trans (hn_46 (cmp_0 (num_0 q).1).1), fun _ => ⟨siS.trans ((hv_136 q).trans (congrArg nI (show cd (tkN D n) (cmpC (tkN D n) (yTb (tkN D n) S N c)) = yNum (tkN D n) S N 18 c from (if_pos h21).symm))), (siN (hf_136.i (h7_121 (cmp_0 (num_0 q).1).2.1) (by unfold muP; omega)) (by omega)).trans (congrArg nI (show cd (tkN D n) (yTb (tkN D n) S N c) = yCmp (tkN D n) S N 18 c from (if_pos ⟨rfl, h21⟩).symm))⟩⟩) ((hg_121.t (hf_136.mo (fun _ _ z => mu_ws z))).si (Or.inr (by omega)))
                · show AW _ _ _ _ _ _ _
                  refine n_if_eq 120 (by decide) dX12_readTest_113 (by decide) (fun _ => ?_) (fun h => absurd h (by decide))
                  refine n_iconst 0 rfl dX12_readTest_120 ?_
                  refine n_callV (mi' := miX12_must) dX12_readTest_121 lX12_228 mX12_must (by decide) rfl rfl rfl (c_X12_must (c := yTb (tkN D n) S N c) (b := decide (kd (tkN D n) (yTb (tkN D n) S N c) = 5 ∧ cd (tkN D n) (yTb (tkN D n) S N c) ≠ 59)) hDl hn (MU_si hU5) (if_neg (fun q => by have q := of_decide_eq_true q; have := hKGb.2.2.2.2.2 q.1; have c1 : 59 ≤ cd (tkN D n) (yTb (tkN D n) S N c) := this.1; have c2 : cd (tkN D n) (yTb (tkN D n) S N c) ≤ 62 := this.2; omega)).symm (fun M_121 hc_121 hf_121 => ?_) d) rfl rfl (by omega) (by decide) (Nat.le_of_ble_eq_true rfl)
                  show AW _ _ _ _ _ _ _
                  rw [← cmp_b] at hc_121
                  have h7_121 : kd (tkN D n) (yTb (tkN D n) S N c) = 5 → M_121.1 137 (w + 7) = nI (cd (tkN D n) (yTb (tkN D n) S N c)) := fun q => hf_121.i siS (by unfold muP; omega)
                  have hg_121 : fr (wsP w) M M_121 := (hg_46.si (Or.inr (by omega))).t (hf_121.mo (fun _ _ z => mu_ws z))
                  have h51_121 : M_121.1 137 (w + 5) = nI v_1 := hf_121.i (siN h5_50 (by omega)) (by unfold muP; omega)
                  have h11_121 : M_121.1 137 (w + 1) = v_46 := hf_121.i (siN siS (by omega)) (by unfold muP; omega)
                  refine a_aload_n rfl dX12_readTest_124 ?_
                  refine a_geta dX12_readTest_125 fX12_35 (by decide) rfl rfl ?_
                  refine a_iload_n rfl dX12_readTest_128 ?_
                  refine n_bipush 6 rfl dX12_readTest_129 ?_
                  refine n_iadd dX12_readTest_131 ?_
                  refine a_aload_n rfl dX12_readTest_132 ?_
                  refine n_iconst 0 rfl dX12_readTest_133 ?_
                  refine n_bipush 99 rfl dX12_readTest_134 ?_
                  refine n_callV (mi' := miX12_count) dX12_readTest_136 lX12_232 mX12_count (by decide) rfl rfl rfl (c_X12_count (c := cmpC (tkN D n) (yTb (tkN D n) S N c)) (lo := 0) (hi := 99) hDl hn hc_121 (by omega) (by omega) (fun M_136 v_136 hc_136 hv_136 hf_136 => ?_) d) rfl rfl (by omega) (by decide) (Nat.le_of_ble_eq_true rfl)
                  show AW _ _ _ _ _ _ _
                  refine n_iast (by omega) (by decide) rfl (by decide) dX12_readTest_139 ?_
                  refine a_vret dX12_readTest_140 rfl ?_
                  have h21 : yv (tkN D n) c = 21 := by omega
                  have e : yTc (tkN D n) S N c = numC (tkN D n) 0 99 (cmpC (tkN D n) (yTb (tkN D n) S N c)) := if_pos h21
                  rw [e] at hQ
                  exact hQ _ (MU_si hc_136) (fun q => ⟨(siN (hf_136.i h51_121 (by unfold muP; omega)) (by omega)).trans (congrArg nI (show v_1 = yTst (tkN D n) 18 c - 19 from (by show v_1 = yv (tkN D n) c - 19; omega))), (siN (hf_136.i h11_121 (by unfold muP; omega)) (by omega)).trans (hn_46 (cmp_0 (num_0 q).1).1), fun _ => ⟨siS.trans ((hv_136 q).trans (congrArg nI (show cd (tkN D n) (cmpC (tkN D n) (yTb (tkN D n) S N c)) = yNum (tkN D n) S N 18 c from (if_pos h21).symm))), (siN (hf_136.i (h7_121 (cmp_0 (num_0 q).1).2.1) (by unfold muP; omega)) (by omega)).trans (congrArg nI (show cd (tkN D n) (yTb (tkN D n) S N c) = yCmp (tkN D n) S N 18 c from (if_pos ⟨rfl, h21⟩).symm))⟩⟩) ((hg_121.t (hf_136.mo (fun _ _ z => mu_ws z))).si (Or.inr (by omega)))
        · refine a_vret dX12_readTest_62 rfl ?_
          by_cases hg : (yTb (tkN D n) S N c).2.1 = 0
          · have e : yTc (tkN D n) S N c = yTb (tkN D n) S N c := if_neg (by omega)
            rw [e] at hQ
            exact hQ _ hU5 (fun q => ⟨h5_50.trans (congrArg nI (show v_1 = yTst (tkN D n) 18 c - 19 from (by show v_1 = yv (tkN D n) c - 19; omega))), siS.trans (hn_46 q), fun z => absurd z (by show ¬ yv (tkN D n) c = 21; omega)⟩) hg_46
          · have e : yTc (tkN D n) S N c = yTb (tkN D n) S N c := by
              unfold yTc
              split
              · rw [cmp_f hg, num_f hg]
              · rfl
            rw [e] at hQ
            exact hQ _ hU5 (fun q => absurd q hg) hg_46
  · show AW _ _ _ _ _ _ _
    have hy0 : ¬ yv (tkN D n) c = 19 := fun q => k_1 0 (by omega) ((yv_i (by omega)).mpr q)
    have hy2 : ¬ yv (tkN D n) c = 20 := fun q => k_1 1 (by omega) ((yv_i (by omega)).mpr q)
    have hy3 : ¬ yv (tkN D n) c = 21 := fun q => k_1 2 (by omega) ((yv_i (by omega)).mpr q)
    have m1 : (-1 : Int32).toInt = -1 := by decide
    refine a_istore_n (by decide) rfl dX12_readTest_4 ?_
    refine a_aload_n rfl dX12_readTest_5 ?_
    refine a_iload_n rfl dX12_readTest_6 ?_
    refine r_if_lt 14 dX12_readTest_7 (by decide) (fun h_7 => ?_) (fun h_7 => absurd h_7 (by omega))
    refine n_iconst 0 rfl dX12_readTest_14 ?_
    refine n_callV (mi' := miX12_must) dX12_readTest_15 lX12_228 mX12_must (by decide) rfl rfl rfl (c_X12_must (b := decide (yv (tkN D n) c = 19 ∨ yv (tkN D n) c = 20 ∨ yv (tkN D n) c = 21)) hDl hn hU (if_neg (fun q => absurd (of_decide_eq_true q) (by omega))).symm (fun M_15 hc_15 hf_15 => ?_) d) rfl rfl (by omega) (by decide) (Nat.le_of_ble_eq_true rfl)
    show AW _ _ _ _ _ _ _
    rw [← ta_b] at hc_15
    refine a_aload_n rfl dX12_readTest_18 ?_
    refine a_geta dX12_readTest_19 fX12_35 (by decide) rfl rfl ?_
    refine a_iload_n rfl dX12_readTest_22 ?_
    refine n_iconst 5 rfl dX12_readTest_23 ?_
    refine n_iadd dX12_readTest_24 ?_
    refine a_iload_n rfl dX12_readTest_25 ?_
    refine n_iast (by omega) (by decide) rfl (by decide) dX12_readTest_26 ?_
    refine a_aload_n rfl dX12_readTest_27 ?_
    refine a_geta dX12_readTest_28 fX12_35 (by decide) rfl rfl ?_
    refine a_iload_n rfl dX12_readTest_31 ?_
    refine n_iconst 1 rfl dX12_readTest_32 ?_
    refine n_iadd dX12_readTest_33 ?_
    refine a_aload_n rfl dX12_readTest_34 ?_
    refine n_iconst 0 rfl dX12_readTest_35 ?_
    refine a_iload_n rfl dX12_readTest_36 ?_
    refine n_iconst 1 rfl dX12_readTest_37 ?_
    refine r_icmp_ne 45 (by omega) dX12_readTest_38 (by decide) (fun h_38 => ?_) (fun h_38 => ?_)
    · have hf_19 : fr (wsP w) M (siM M_15 137 (w + 5) (-1)) := (hf_15.mo (fun _ _ z => mu_ws z)).si (Or.inr (by omega))
      refine n_iconst 1 rfl dX12_readTest_45 ?_
      refine n_callV (mi' := miX12_readTold) dX12_readTest_46 lX12_268 mX12_readTold (by decide) rfl rfl rfl (c_readTold1 (c := yTa (tkN D n) c) (b := 0) hDl hn (MU_si hc_15) (by omega) (VM_ws hM hF hw hf_19) hF (VNM_ws hN hf_19) (fun M_46 v_46 hc_46 hv_46 hf_46 => ?_) d) rfl rfl (by omega) (by decide) (Nat.le_of_ble_eq_true rfl)
      show AW _ _ _ _ _ _ _
      have hb_46 : MU M_46 D n (yTb (tkN D n) S N c) := by unfold yTb; rw [if_neg (by omega)]; exact hc_46
      have hn_46 : (yTb (tkN D n) S N c).2.1 = 0 → v_46 = nI (yWho (tkN D n) S N 18 c) := fun q => by
        have h20 : ¬ yv (tkN D n) c = 20 := by omega
        unfold yTb at q; rw [if_neg h20] at q
        obtain ⟨j, hj, hv⟩ := hv_46 q
        rw [hv, show yWho (tkN D n) S N 18 c = (nmS (tkN D n) S N (yTa (tkN D n) c)).getD 0 from if_neg h20, hj]; rfl
      have hg_46 : fr (wsP w) M (siM M_46 137 (w + 1) v_46) := (hf_19.t (hf_46.mo (fun _ _ z => mu_ws z))).si (Or.inr (by omega))
      refine n_iast (by omega) (by decide) rfl (by decide) dX12_readTest_49 ?_
      have hU5 : MU (siM M_46 137 (w + 1) v_46) D n (yTb (tkN D n) S N c) := MU_si hb_46
      have h5_50 : (siM M_46 137 (w + 1) v_46).1 137 (w + 5) = -1 := siN (hf_46.i siS (by unfold muP; omega)) (by omega)
      have hf7b : (yTb (tkN D n) S N c).2.1 ≤ 7 := hU5.2.2.2.2
      have hgb : ¬ (yTb (tkN D n) S N c).2.1 = 0 := fun q => absurd (yTa_0 (yTb_0 q).1).2.1 (by omega)
      have hKGb := tkN_G (D := D) hn (yTb (tkN D n) S N c).1
      have hkdb : kd (tkN D n) (yTb (tkN D n) S N c) ≤ 6 := hKGb.1
      obtain ⟨mb0, mb1, mb2, mb3, mb4, mb5⟩ := mkd_i hkdb
      refine a_aload_n rfl dX12_readTest_50 ?_
      refine g_i hU5.2.2.1 (by decide) rfl fX12_212 rfl dX12_readTest_51 ?_
      refine n_if_gt 62 (by omega) dX12_readTest_54 (by decide) (fun h_54 => ?_) (fun h_54 => absurd h_54 (by omega))
      refine a_vret dX12_readTest_62 rfl ?_
      by_cases hg : (yTb (tkN D n) S N c).2.1 = 0
      · exact absurd (yTa_0 (yTb_0 hg).1).2.1 (by omega)
      · have e : yTc (tkN D n) S N c = yTb (tkN D n) S N c := by
          unfold yTc
          split
          · rw [cmp_f hg, num_f hg]
          · rfl
        rw [e] at hQ
        exact hQ _ hU5 (fun q => absurd q hg) hg_46
    · refine n_iconst 0 rfl dX12_readTest_41 ?_
      have hf_19 : fr (wsP w) M (siM M_15 137 (w + 5) (-1)) := (hf_15.mo (fun _ _ z => mu_ws z)).si (Or.inr (by omega))
      refine a_goto 46 dX12_readTest_42 (by decide) ?_
      refine n_callV (mi' := miX12_readTold) dX12_readTest_46 lX12_268 mX12_readTold (by decide) rfl rfl rfl (c_readTold0 (c := yTa (tkN D n) c) (b := 0) hDl hn (MU_si hc_15) (by omega) (VM_ws hM hF hw hf_19) hF (VNM_ws hN hf_19) (fun M_46 v_46 hc_46 hv_46 hf_46 => ?_) d) rfl rfl (by omega) (by decide) (Nat.le_of_ble_eq_true rfl)
      show AW _ _ _ _ _ _ _
      have hb_46 : MU M_46 D n (yTb (tkN D n) S N c) := by unfold yTb; rw [if_pos (by omega)]; exact hc_46
      have hn_46 : (yTb (tkN D n) S N c).2.1 = 0 → v_46 = nI (yWho (tkN D n) S N 18 c) := fun q => by
        have h20 : yv (tkN D n) c = 20 := by omega
        unfold yTb at q; rw [if_pos h20] at q
        obtain ⟨j, hj, hv⟩ := hv_46 q
        rw [hv, show yWho (tkN D n) S N 18 c = (nmM (tkN D n) S N (yTa (tkN D n) c)).getD 0 from if_pos h20, hj]; rfl
      have hg_46 : fr (wsP w) M (siM M_46 137 (w + 1) v_46) := (hf_19.t (hf_46.mo (fun _ _ z => mu_ws z))).si (Or.inr (by omega))
      refine n_iast (by omega) (by decide) rfl (by decide) dX12_readTest_49 ?_
      have hU5 : MU (siM M_46 137 (w + 1) v_46) D n (yTb (tkN D n) S N c) := MU_si hb_46
      have h5_50 : (siM M_46 137 (w + 1) v_46).1 137 (w + 5) = -1 := siN (hf_46.i siS (by unfold muP; omega)) (by omega)
      have hf7b : (yTb (tkN D n) S N c).2.1 ≤ 7 := hU5.2.2.2.2
      have hgb : ¬ (yTb (tkN D n) S N c).2.1 = 0 := fun q => absurd (yTa_0 (yTb_0 q).1).2.1 (by omega)
      have hKGb := tkN_G (D := D) hn (yTb (tkN D n) S N c).1
      have hkdb : kd (tkN D n) (yTb (tkN D n) S N c) ≤ 6 := hKGb.1
      obtain ⟨mb0, mb1, mb2, mb3, mb4, mb5⟩ := mkd_i hkdb
      refine a_aload_n rfl dX12_readTest_50 ?_
      refine g_i hU5.2.2.1 (by decide) rfl fX12_212 rfl dX12_readTest_51 ?_
      refine n_if_gt 62 (by omega) dX12_readTest_54 (by decide) (fun h_54 => ?_) (fun h_54 => absurd h_54 (by omega))
      refine a_vret dX12_readTest_62 rfl ?_
      by_cases hg : (yTb (tkN D n) S N c).2.1 = 0
      · exact absurd (yTa_0 (yTb_0 hg).1).2.1 (by omega)
      · have e : yTc (tkN D n) S N c = yTb (tkN D n) S N c := by
          unfold yTc
          split
          · rw [cmp_f hg, num_f hg]
          · rfl
        rw [e] at hQ
        exact hQ _ hU5 (fun q => absurd q hg) hg_46

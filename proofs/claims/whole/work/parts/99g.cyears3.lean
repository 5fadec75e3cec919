def RDY (S : ST) (N : NM) (M0 M : Mm) (tk : Nat → TK) (n : Nat) (R : YS) (f : Nat) (x : YS) : Prop := TX M tk n ∧ CU M n x.1 ∧ M.1 15 1 = nI x.2.2.1 ∧ x.2.2.1 ≤ 3 ∧ (x.1.2.1 = 0 → YX 50 M (1, x.2.1.1, x.2.1.2) ∧ (∀ j, j < x.2.2.1 → M.1 16 j = nI (x.2.2.2 j)) ∧ wfS S x.2.1.1 x.2.1.2 x.2.2.1 x.2.2.2) ∧ fr ryP M0 M ∧ lpY tk S N f x = R ∧ scN x.2.1.2 x.2.1.1 = scN x.2.1.2 x.2.1.1
theorem TX_ry {M M' : Mm} {tk : Nat → TK} {n : Nat} (h : TX M tk n) (hf : fr ryP M M') : TX M' tk n := TX_fr h hf (fun k j z => by unfold ryP cuP; omega)
theorem cu_ry {k j : Nat} (h : cuP k j) : ryP k j := Or.inl h
theorem yDp_le {v L D : Nat} {O : Nat → Nat} (h3 : D ≤ 3) (ho : yOp v → D < 3) : (yDp v L D O).1 ≤ 3 := by
  unfold yDp
  by_cases e : yOp v
  · rw [if_pos e]; exact ho e
  · rw [if_neg e]
    by_cases e2 : v = 23
    · rw [if_pos e2]; exact Nat.le_trans (Nat.sub_le _ _) h3
    · rw [if_neg e2]; exact h3
theorem RY_end {S : ST} {N : NM} {M0 M : Mm} {tk : Nat → TK} {n : Nat} {R : YS} {f : Nat} {x : YS} (h : RDY S N M0 M tk n R f x) (hg : f = 0 ∨ ¬ (x.1.2.1 = 0 ∧ kd tk x.1 ≠ 0)) : x = R := by
  obtain ⟨h1, h2, h3, h4, h5, h6, h7, h8⟩ := h
  rcases hg with e | e
  · subst e; exact h7
  · rw [lpY_e e] at h7; exact h7
theorem RY_0 {S : ST} {N : NM} {M : Mm} {tk : Nat → TK} {n : Nat} (hT : TX M tk n) (hC : CU M n (0, 0, 0)) : RDY S N M (siM (siM (siM (siM (siM M 50 0 (nI 0)) 50 1 (nI 0)) 50 2 (nI 0)) 50 0 (nI 1)) 15 1 (nI 0)) tk n (lpY tk S N 300 y0) (300 - 0) y0 := by
  have hf : fr (fun k j => (k = 50 ∧ j ≤ 2) ∨ k = 15) M (siM (siM (siM (siM (siM M 50 0 (nI 0)) 50 1 (nI 0)) 50 2 (nI 0)) 50 0 (nI 1)) 15 1 (nI 0)) := ((((fr.r.si (by omega)).si (by omega)).si (by omega)).si (by omega)).si (by omega)
  exact ⟨TX_fr hT hf (fun k j z => by omega), CU_fr hC hf (fun j a b => by omega), siS, Nat.zero_le _, fun _ => ⟨⟨siN siS (by omega), siN (siN (siN siS (by omega)) (by omega)) (by omega), siN (siN siS (by omega)) (by omega), fun i hi => absurd (show i < 0 from hi) (Nat.not_lt_zero i)⟩, fun j hj => absurd (show j < 0 from hj) (Nat.not_lt_zero j), wf_0⟩, hf.mo (fun k j z => z.elim (fun z => Or.inr (Or.inl (by omega))) (fun z => Or.inr (Or.inr (Or.inl z)))), rfl, rfl⟩
theorem RY_a {S : ST} {N : NM} {M0 M M1 M2 : Mm} {tk : Nat → TK} {n : Nat} {R : YS} {f : Nat} {x : YS} (hK : TKG tk) (h : RDY S N M0 M tk n R (f + 1) x) (h0 : x.1.2.1 = 0) (hk : kd tk x.1 ≠ 0) (hb : (ybG tk (yv tk x.1) (scN x.2.1.2 x.2.1.1) x.2.2.1 x.1).2.1 = 0) (hd : M1.1 15 1 = nI (yDp (yv tk x.1) x.2.1.1 x.2.2.1 x.2.2.2).1) (hy : (yC tk S N (yv tk x.1) (ybG tk (yv tk x.1) (scN x.2.1.2 x.2.1.1) x.2.2.1 x.1)).2.1 = 0 → YX 50 M1 (1, x.2.1.1 + 1, yIt tk S N (yv tk x.1) (ybG tk (yv tk x.1) (scN x.2.1.2 x.2.1.1) x.2.2.1 x.1) x.2.1.1 x.2.1.2 x.2.2.1 x.2.2.2) ∧ ∀ j, j < (yDp (yv tk x.1) x.2.1.1 x.2.2.1 x.2.2.2).1 → M1.1 16 j = nI ((yDp (yv tk x.1) x.2.1.1 x.2.2.1 x.2.2.2).2 j)) (hf : fr ryP M M1) (hc : CU M2 n (endC tk (yC tk S N (yv tk x.1) (ybG tk (yv tk x.1) (scN x.2.1.2 x.2.1.1) x.2.2.1 x.1)))) (hf2 : fr cuP M1 M2) : RDY S N M0 M2 tk n R f (ysT tk S N x) := by
  obtain ⟨h1, h2, h3, h4, h5, h6, h7, h8⟩ := h
  have e : ysT tk S N x = (endC tk (yC tk S N (yv tk x.1) (ybG tk (yv tk x.1) (scN x.2.1.2 x.2.1.1) x.2.2.1 x.1)), (x.2.1.1 + 1, yIt tk S N (yv tk x.1) (ybG tk (yv tk x.1) (scN x.2.1.2 x.2.1.1) x.2.2.1 x.1) x.2.1.1 x.2.1.2 x.2.2.1 x.2.2.2), yDp (yv tk x.1) x.2.1.1 x.2.2.1 x.2.2.2) := if_pos hb
  have hb2 := yb_0 hb
  rw [lpY_s h0 hk] at h7
  refine ⟨TX_cu (TX_ry h1 hf) hf2, by rw [e]; exact hc, ?_, by rw [e]; exact yDp_le h4 hb2.2.2.2.1, fun q => ?_, h6.t (hf.t (hf2.mo (fun _ _ z => cu_ry z))), h7, rfl⟩
  · rw [e]; exact ((hf2 15 1 (by unfold cuP; omega)).1).trans hd
  · have w := (ys_wf hK q (h5 h0).2.2).1
    rw [e] at q w ⊢
    have g := hy (end_0 q).1
    exact ⟨YX_cu g.1 hf2, fun j hj => ((hf2 16 j (by unfold cuP; omega)).1).trans (g.2 j hj), w⟩
theorem RY_b {S : ST} {N : NM} {M0 M M1 M2 : Mm} {tk : Nat → TK} {n : Nat} {R : YS} {f : Nat} {x : YS} (h : RDY S N M0 M tk n R (f + 1) x) (h0 : x.1.2.1 = 0) (hk : kd tk x.1 ≠ 0) (hb : ¬ (ybG tk (yv tk x.1) (scN x.2.1.2 x.2.1.1) x.2.2.1 x.1).2.1 = 0) (hf : fr cuP M M1) (hc : CU M2 n (endC tk (ybG tk (yv tk x.1) (scN x.2.1.2 x.2.1.1) x.2.2.1 x.1))) (hf2 : fr cuP M1 M2) : RDY S N M0 M2 tk n R f (ysT tk S N x) := by
  obtain ⟨h1, h2, h3, h4, h5, h6, h7, h8⟩ := h
  have e : ysT tk S N x = (endC tk (ybG tk (yv tk x.1) (scN x.2.1.2 x.2.1.1) x.2.2.1 x.1), x.2) := if_neg hb
  have hg := hf.t hf2
  rw [lpY_s h0 hk] at h7
  refine ⟨TX_cu h1 hg, by rw [e]; exact hc, by rw [e]; exact ((hg 15 1 (by unfold cuP; omega)).1).trans h3, by rw [e]; exact h4, fun q => ?_, h6.t (hg.mo (fun _ _ z => cu_ry z)), h7, rfl⟩
  rw [e] at q
  exact absurd (end_0 q).1 hb

set_option maxRecDepth 100000 in
set_option maxHeartbeats 800000 in
theorem c_X10_readInto {M : Mm} {tk : Nat → TK} {n : Nat} (hK : TKG tk) (hT : TX M tk n) (hC : CU M n (0, 0, 0)) {S : ST} {N : NM} (hV : VX 17 M S) (hF : WF S) (hN : VN 17 M S N) {Q : Option Value → Mm → Prop} (hQ : ∀ M', CU M' n (finY tk (lpY tk S N 300 y0)).1 → ((finY tk (lpY tk S N 300 y0)).1.2.1 = 0 → YX 50 M' (1, (finY tk (lpY tk S N 300 y0)).2.1.1, (finY tk (lpY tk S N 300 y0)).2.1.2) ∧ wfS S (finY tk (lpY tk S N 300 y0)).2.1.1 (finY tk (lpY tk S N 300 y0)).2.1.2 0 (finY tk (lpY tk S N 300 y0)).2.2.2) → TX M' tk n → fr ryP M M' → Q none M') (d : Nat) : AMt miX10_readInto (d + 6) [.ref 15, .ref 50, .ref 10, .ref 17] M Q := by
  refine AMt.of (by decide) (Nat.le_of_ble_eq_true rfl) ?_
  show AW miX10_readInto (d + 6) (mxA Q) 0 [(0, some (.ref 15)), (1, some (.ref 50)), (2, some (.ref 10)), (3, some (.ref 17))] [] M
  refine a_aload_n rfl dX10_readInto_0 ?_
  refine n_callV (mi' := miX9_makeEmpty) dX10_readInto_1 lX10_15 mX9_makeEmpty (by decide) rfl rfl rfl (c_X9_makeEmpty isW37 ?_ d) rfl rfl (by omega) (by decide) (Nat.le_of_ble_eq_true rfl)
  show AW _ _ _ _ _ _ _
  refine a_aload_n rfl dX10_readInto_4 ?_
  refine n_iconst 1 rfl dX10_readInto_5 ?_
  refine a_putz dX10_readInto_6 pX10_20 (by decide) rfl rfl (Or.inr rfl) ?_
  refine a_aload_n rfl dX10_readInto_9 ?_
  refine n_iconst 0 rfl dX10_readInto_10 ?_
  refine a_puti dX10_readInto_11 pX10_24 (by decide) rfl rfl ?_
  refine n_iconst 0 rfl dX10_readInto_14 ?_
  refine a_istore (by decide) rfl dX10_readInto_15 ?_
  have loop_17 : ∀ i, i ≤ 300 → ∀ M1, (∃ x, RDY S N M M1 tk n (lpY tk S N 300 y0) (300 - i) x) → AW miX10_readInto (d + 6) (mxA Q) 17 [(0, some (.ref 15)), (1, some (.ref 50)), (2, some (.ref 10)), (3, some (.ref 17)), (4, some (.int (nI i)))] [] M1 := by
    refine up (W := fun i => ∀ M1, (∃ x, RDY S N M M1 tk n (lpY tk S N 300 y0) (300 - i) x) → AW miX10_readInto (d + 6) (mxA Q) 17 [(0, some (.ref 15)), (1, some (.ref 50)), (2, some (.ref 10)), (3, some (.ref 17)), (4, some (.int (nI i)))] [] M1) 300 (fun M1 hI_17 => ?_) (fun i hi_17 ih_17 M1 hI_17 => ?_)
    · obtain ⟨x, hx⟩ := hI_17
      refine a_iload rfl dX10_readInto_17 ?_
      refine n_sipush 300 rfl dX10_readInto_19 ?_
      refine n_icmp_ge 72 (by omega) (by omega) dX10_readInto_22 (by decide) (fun h_22 => ?_) (fun h_22 => absurd h_22 (by omega))
      have hR := RY_end hx (Or.inl (by omega))
      have h3x := hx.2.2.2.1
      refine a_aload_n rfl dX10_readInto_72 ?_
      refine g_i hx.2.2.1 (by decide) rfl fX10_24 rfl dX10_readInto_73 ?_
      refine n_if_le 84 (by omega) dX10_readInto_76 (by decide) (fun h_76 => ?_) (fun h_76 => ?_)
      · refine a_vret dX10_readInto_84 rfl ?_
        have e : finY tk (lpY tk S N 300 y0) = x := by rw [← hR]; exact if_neg (by omega)
        rw [e] at hQ
        have h0x : x.2.2.1 = 0 := by omega
        exact hQ _ hx.2.1 (fun q => ⟨(hx.2.2.2.2.1 q).1, h0x ▸ (hx.2.2.2.2.1 q).2.2⟩) hx.1 hx.2.2.2.2.2.1
      · refine a_aload_n rfl dX10_readInto_79 ?_
        refine n_iconst 2 rfl dX10_readInto_80 ?_
        refine n_callV (mi' := miX4_fail) dX10_readInto_81 lX10_52 mX4_fail (by decide) rfl rfl rfl (c_X4_fail (w := 2) hK hx.1 hx.2.1 (by omega) (fun M_81 hc_81 hf_81 => ?_) d) rfl rfl (by omega) (by decide) (Nat.le_of_ble_eq_true rfl)
        show AW _ _ _ _ _ _ _
        refine a_vret dX10_readInto_84 rfl ?_
        have e : finY tk (lpY tk S N 300 y0) = (flC tk 2 x.1, x.2) := by rw [← hR]; exact if_pos (by omega)
        rw [e] at hQ
        exact hQ _ hc_81 (fun q => absurd q (fl_z (by omega))) (TX_cu hx.1 hf_81) (hx.2.2.2.2.2.1.t (hf_81.mo (fun _ _ z => cu_ry z)))
    · obtain ⟨x, hx⟩ := hI_17
      refine a_iload rfl dX10_readInto_17 ?_
      refine n_sipush 300 rfl dX10_readInto_19 ?_
      refine n_icmp_ge 72 (by omega) (by omega) dX10_readInto_22 (by decide) (fun h_22 => absurd h_22 (by omega)) (fun h_22 => ?_)
      refine a_aload_n rfl dX10_readInto_25 ?_
      refine n_callV (mi' := miX4_goOn) dX10_readInto_26 lX10_28 mX4_goOn (by decide) rfl rfl rfl (c_X4_goOn hK hx.1 hx.2.1 (fun h_26 k_26 => ?_) (fun h_26 => ?_) d) rfl rfl (by omega) (by decide) (Nat.le_of_ble_eq_true rfl)
      · show AW _ _ _ _ _ _ _
        refine n_if_eq 72 (by decide) dX10_readInto_29 (by decide) (fun h => absurd h (by decide)) (fun _ => ?_)
        refine a_aload_n rfl dX10_readInto_32 ?_
        refine n_callV (mi' := miX4_keyword) dX10_readInto_33 lX10_34 mX4_keyword (by decide) rfl rfl rfl (c_kwv hK hx.1 hx.2.1 (fun x_33 hx_33 => ?_) d) rfl rfl (by omega) (by decide) (Nat.le_of_ble_eq_true rfl)
        show AW _ _ _ _ _ _ _
        refine a_istore (by decide) rfl dX10_readInto_36 ?_
        refine a_aload_n rfl dX10_readInto_38 ?_
        refine a_iload rfl dX10_readInto_39 ?_
        refine a_aload_n rfl dX10_readInto_41 ?_
        refine a_aload_n rfl dX10_readInto_42 ?_
        refine n_callV (mi' := miX10_begin) dX10_readInto_43 lX10_38 mX10_begin (by decide) rfl rfl rfl (c_X10_begin hK hx.1 hx.2.1 hx_33 hx.2.2.1 (hx.2.2.2.2.1 h_26).1.2.1 hx.2.2.2.1 (show scN x.2.1.2 x.2.1.1 ≤ 60 from Nat.le_trans (hx.2.2.2.2.1 h_26).2.2.1.2.1 (by decide)) (fun M_43 hc_43 hf_43 => ?_) d) rfl rfl (by omega) (by decide) (Nat.le_of_ble_eq_true rfl)
        show AW _ _ _ _ _ _ _
        refine a_aload_n rfl dX10_readInto_46 ?_
        refine n_callV (mi' := miX4_areGood) dX10_readInto_47 lX10_42 mX4_areGood (by decide) rfl rfl rfl (c_X4_areGood hK (TX_cu hx.1 hf_43) hc_43 (fun h_47 => ?_) (fun h_47 => ?_) d) rfl rfl (by omega) (by decide) (Nat.le_of_ble_eq_true rfl)
        · show AW _ _ _ _ _ _ _
          refine n_if_eq 62 (by decide) dX10_readInto_50 (by decide) (fun h => absurd h (by decide)) (fun _ => ?_)
          have hb := yb_0 h_47
          have hv9 : yv tk x.1 < 99 := by omega
          obtain rfl : x_33 = nI (yv tk x.1) := kv_e hx_33 hv9
          refine a_aload_n rfl dX10_readInto_53 ?_
          refine a_iload rfl dX10_readInto_54 ?_
          refine a_aload_n rfl dX10_readInto_56 ?_
          refine a_aload_n rfl dX10_readInto_57 ?_
          refine a_aload_n rfl dX10_readInto_58 ?_
          refine n_callV (mi' := miX10_readRest) dX10_readInto_59 lX10_45 mX10_readRest (by decide) rfl rfl rfl (c_X10_readRest (S := S) (N := N) (O := x.2.2.2) hK (TX_cu hx.1 hf_43) hc_43 (VX_fr hV (fun k j a b => ((hx.2.2.2.2.2.1.t (hf_43.mo (fun _ _ z => cu_ry z))) k j (by unfold ryP cuP; omega)).1)) hF (VN_fr0 hN (hx.2.2.2.2.2.1.t (hf_43.mo (fun _ _ z => cu_ry z))) (fun k j a b => by unfold ryP cuP; omega)) (YX_cu (hx.2.2.2.2.1 h_26).1 hf_43) (hf_43.i hx.2.2.1 (by unfold cuP; omega)) (fun j hj => hf_43.i ((hx.2.2.2.2.1 h_26).2.1 j hj) (by unfold cuP; omega)) (hx.2.2.2.2.1 h_26).2.2 hb.2.1 hb.2.2.1 hb.2.2.2.1 (fun M_59 hc_59 hd_59 hy_59 hf_59 => ?_) d) rfl rfl (by omega) (by decide) (Nat.le_of_ble_eq_true rfl)
          show AW _ _ _ _ _ _ _
          refine a_aload_n rfl dX10_readInto_62 ?_
          refine n_callV (mi' := miX4_takeEndOfPart) dX10_readInto_63 lX10_49 mX4_takeEndOfPart (by decide) rfl rfl rfl (c_X4_takeEndOfPart hK (TX_ry (TX_cu hx.1 hf_43) hf_59) hc_59 (fun M_63 hc_63 hf_63 => ?_) d) rfl rfl (by omega) (by decide) (Nat.le_of_ble_eq_true rfl)
          show AW _ _ _ _ _ _ _
          refine n_iinc (c := 1) rfl rfl (by decide) rfl dX10_readInto_66 ?_
          refine a_goto 17 dX10_readInto_69 (by decide) ?_
          exact a_bk (ih_17 _ ⟨ysT tk S N x, RY_a hK ((show 300 - i = (300 - (i + 1)) + 1 by omega) ▸ hx) h_26 k_26 h_47 hd_59 hy_59 ((hf_43.mo (fun _ _ z => cu_ry z)).t hf_59) hc_63 hf_63⟩) ⟨rfl, rfl, rfl, rfl, rfl, trivial⟩
        · show AW _ _ _ _ _ _ _
          refine n_if_eq 62 (by decide) dX10_readInto_50 (by decide) (fun _ => ?_) (fun h => absurd h (by decide))
          refine a_aload_n rfl dX10_readInto_62 ?_
          refine n_callV (mi' := miX4_takeEndOfPart) dX10_readInto_63 lX10_49 mX4_takeEndOfPart (by decide) rfl rfl rfl (c_X4_takeEndOfPart hK (TX_cu hx.1 hf_43) hc_43 (fun M_63 hc_63 hf_63 => ?_) d) rfl rfl (by omega) (by decide) (Nat.le_of_ble_eq_true rfl)
          show AW _ _ _ _ _ _ _
          refine n_iinc (c := 1) rfl rfl (by decide) rfl dX10_readInto_66 ?_
          refine a_goto 17 dX10_readInto_69 (by decide) ?_
          exact a_bk (ih_17 _ ⟨ysT tk S N x, RY_b ((show 300 - i = (300 - (i + 1)) + 1 by omega) ▸ hx) h_26 k_26 h_47 hf_43 hc_63 hf_63⟩) ⟨rfl, rfl, rfl, rfl, rfl, trivial⟩
      · show AW _ _ _ _ _ _ _
        refine n_if_eq 72 (by decide) dX10_readInto_29 (by decide) (fun _ => ?_) (fun h => absurd h (by decide))
        have hR := RY_end hx (Or.inr h_26)
        have h3x := hx.2.2.2.1
        refine a_aload_n rfl dX10_readInto_72 ?_
        refine g_i hx.2.2.1 (by decide) rfl fX10_24 rfl dX10_readInto_73 ?_
        refine n_if_le 84 (by omega) dX10_readInto_76 (by decide) (fun h_76 => ?_) (fun h_76 => ?_)
        · refine a_vret dX10_readInto_84 rfl ?_
          have e : finY tk (lpY tk S N 300 y0) = x := by rw [← hR]; exact if_neg (by omega)
          rw [e] at hQ
          have h0x : x.2.2.1 = 0 := by omega
          exact hQ _ hx.2.1 (fun q => ⟨(hx.2.2.2.2.1 q).1, h0x ▸ (hx.2.2.2.2.1 q).2.2⟩) hx.1 hx.2.2.2.2.2.1
        · refine a_aload_n rfl dX10_readInto_79 ?_
          refine n_iconst 2 rfl dX10_readInto_80 ?_
          refine n_callV (mi' := miX4_fail) dX10_readInto_81 lX10_52 mX4_fail (by decide) rfl rfl rfl (c_X4_fail (w := 2) hK hx.1 hx.2.1 (by omega) (fun M_81 hc_81 hf_81 => ?_) d) rfl rfl (by omega) (by decide) (Nat.le_of_ble_eq_true rfl)
          show AW _ _ _ _ _ _ _
          refine a_vret dX10_readInto_84 rfl ?_
          have e : finY tk (lpY tk S N 300 y0) = (flC tk 2 x.1, x.2) := by rw [← hR]; exact if_pos (by omega)
          rw [e] at hQ
          exact hQ _ hc_81 (fun q => absurd q (fl_z (by omega))) (TX_cu hx.1 hf_81) (hx.2.2.2.2.2.1.t (hf_81.mo (fun _ _ z => cu_ry z)))
  exact a_bk (loop_17 0 (by omega) _ ⟨y0, RY_0 hT hC⟩) ⟨rfl, rfl, rfl, rfl, rfl, trivial⟩

def yeR (T : TT) (n : Nat) : YS := finY (tkN (dT T) n) (lpY (tkN (dT T) n) (tS T) (tN T) 300 y0)
def sp_years (x : Int32) (T : TT) : AN := if 0 ≤ x.toInt ∧ x.toInt ≤ (tP T).1 ∧ x.toInt ≤ 300 then (if (yeR T (idx x)).1.2.1 = 0 then (nI (scN (yeR T (idx x)).2.1.2 (yeR T (idx x)).2.1.1), tfT T (tS T, tN T, (1, (yeR T (idx x)).2.1.1, (yeR T (idx x)).2.1.2)) (nI 0) (-1) 0) else (-1, tfT T (tW T) (nI (yeR T (idx x)).1.2.1) (nI (yeR T (idx x)).1.2.2) 10)) else (-1, st' T 5)
theorem ry_tx {k j : Nat} (h : ryP k j) : txP k j := by unfold ryP cuP at h; unfold txP; omega
def y1P (k j : Nat) : Prop := (k = 0 ∧ (j = 0 ∨ j = 4)) ∨ (10 ≤ k ∧ k < 17) ∨ (50 ≤ k ∧ k < 57)
theorem tyX {M : Mm} {S : ST} {N : NM} {Y : YR} (hV : VX 17 M S) (hN : VN 17 M S N) (hY : YX 50 M Y) (h60 : Y.2.1 ≤ 60) : WX 17 (tyM M 17 37 Y) (S, N, Y) ∧ fr (fun k _ => 30 ≤ k ∧ k < 37) M (tyM M 17 37 Y) :=
  ⟨⟨VX_fr hV (fun k j a b => by rw [ty_o (by omega)]), hN, ty_YX (by omega) hY h60⟩, fun k j hk => ⟨by rw [ty_o (by omega)], rfl⟩⟩

set_option maxRecDepth 100000 in
set_option maxHeartbeats 800000 in
theorem c_X11_years {M : Mm} {T : TT} (hI : IX M T) (hG : TG T) (hB : TB_ T) {x : Int32} {Q : Option Value → Mm → Prop} (hQ : ∀ M', IX M' (sp_years x T).2 → keM M M' → Q (some (.int (sp_years x T).1)) M') (d : Nat) : AMt miX11_years (d + 7) [.ref 0, .int x] M Q := by
  refine AMt.of (by decide) (Nat.le_of_ble_eq_true rfl) ?_
  show AW miX11_years (d + 7) (mxA Q) 0 [(0, some (.ref 0)), (1, some (.int x))] [] M
  have hV : VX 17 M (tS T) := hI.1.1
  have hF : WF (tS T) := hG.1.1
  have hm : tS T 0 2 ≤ 6 := WF_m hF
  have hh : tS T 0 3 ≤ 10 := WF_h hF
  have hs : tS T 0 4 ≤ 7 := WF_s hF
  have hn : tS T 0 5 ≤ 8 := WF_n hF
  have hp9 : (tP T).1 ≤ 900 := hG.2.2.1
  refine a_iload_n rfl dX11_years_0 ?_
  refine r_if_lt 19 dX11_years_1 (by decide) (fun h_1 => ?_) (fun h_1 => ?_)
  · refine a_aload_n rfl dX11_years_19 ?_
    refine n_iconst 5 rfl dX11_years_20 ?_
    refine n_callV (mi' := miX11_none) dX11_years_21 lX11_131 mX11_none (by decide) rfl rfl rfl (c_X11_none ?_ d) rfl rfl (by omega) (by decide) (Nat.le_of_ble_eq_true rfl)
    show AW _ _ _ _ _ _ _
    refine a_iret dX11_years_24 rfl ?_
    exact fin_q hQ hI hG (by unfold sp_years; rw [if_neg (by omega)]) fr.r
  · refine a_iload_n rfl dX11_years_4 ?_
    refine a_aload_n rfl dX11_years_5 ?_
    refine g_i hI.2.2.1.1 (by decide) rfl fX11_24 rfl dX11_years_6 ?_
    refine r_icmp_gt 19 (by omega) dX11_years_9 (by decide) (fun h_9 => ?_) (fun h_9 => ?_)
    · refine a_aload_n rfl dX11_years_19 ?_
      refine n_iconst 5 rfl dX11_years_20 ?_
      refine n_callV (mi' := miX11_none) dX11_years_21 lX11_131 mX11_none (by decide) rfl rfl rfl (c_X11_none ?_ d) rfl rfl (by omega) (by decide) (Nat.le_of_ble_eq_true rfl)
      show AW _ _ _ _ _ _ _
      refine a_iret dX11_years_24 rfl ?_
      exact fin_q hQ hI hG (by unfold sp_years; rw [if_neg (by omega)]) fr.r
    · refine a_iload_n rfl dX11_years_12 ?_
      refine n_sipush 300 rfl dX11_years_13 ?_
      refine r_icmp_le 25 (by omega) dX11_years_16 (by decide) (fun h_16 => ?_) (fun h_16 => ?_)
      · obtain ⟨q, hq, rfl⟩ := inR_of (x := x) (m := 901) (by omega) (by omega) (by omega)
        have t_q : (nI q).toInt = (q : Int) := nI_toInt (by omega)
        have i_q : idx (nI q) = q := idx_nI (by omega)
        refine a_aload_n rfl dX11_years_25 ?_
        refine a_geta dX11_years_26 fX11_37 (by decide) rfl rfl ?_
        refine a_aload_n rfl dX11_years_29 ?_
        refine a_geta dX11_years_30 fX11_20 (by decide) rfl rfl ?_
        refine a_iload_n rfl dX11_years_33 ?_
        refine n_callV (mi' := miX4_open) dX11_years_34 lX11_159 mX4_open (by decide) rfl rfl rfl (c_X4_open (D := dT T) (n := q) (fun j hj => (hI.2.2.1.2 j (by omega)).trans (byN_e (hB j (by omega)))) (fun j => byN_lt _) (by omega) (fun M_34 c_34 hT_34 ha_34 hb_34 hp_34 hf_34 => ?_) d) rfl rfl (by omega) (by decide) (Nat.le_of_ble_eq_true rfl)
        show AW _ _ _ _ _ _ _
        refine a_aload_n rfl dX11_years_37 ?_
        refine n_iconst 0 rfl dX11_years_38 ?_
        refine a_puti dX11_years_39 pX11_24 (by decide) rfl rfl ?_
        have hs_34 : fr (fun k j => k = 0 ∧ j = 4) M_34 (siM M_34 0 4 (nI 0)) := fr.r.si (by omega)
        refine a_aload_n rfl dX11_years_42 ?_
        refine a_geta dX11_years_43 fX11_51 (by decide) rfl rfl ?_
        refine a_aload_n rfl dX11_years_46 ?_
        refine a_geta dX11_years_47 fX11_62 (by decide) rfl rfl ?_
        refine a_geta dX11_years_50 fX11_180 (by decide) rfl rfl ?_
        refine a_aload_n rfl dX11_years_53 ?_
        refine a_geta dX11_years_54 fX11_37 (by decide) rfl rfl ?_
        refine a_aload_n rfl dX11_years_57 ?_
        refine a_geta dX11_years_58 fX11_58 (by decide) rfl rfl ?_
        have hF34 : fr (fun k j => k < 17) M (siM M_34 0 4 (nI 0)) := (hf_34.mo (fun k j h => by unfold tkP at h; omega)).t (hs_34.mo (fun k j h => by omega))
        refine n_callV (mi' := miX10_readInto) dX11_years_61 lX11_184 mX10_readInto (by decide) rfl rfl rfl (c_X10_readInto (tk := tkN (dT T) q) (n := c_34) (S := tS T) (N := tN T) (tkN_G (by omega)) (TX_fr hT_34 hs_34 (fun k j z => by omega)) ⟨hT_34.2.1, hs_34.i ha_34 (by omega), hs_34.i hb_34 (by omega), (hs_34.i hp_34 (by omega)).trans (if_pos rfl).symm, Nat.zero_le _⟩ (VX_fr hV (fun k j a b => (hF34 k j (by omega)).1)) hF (VN_fr0 hI.1.2.1 hF34 (fun k j a b => by omega)) (fun M_61 hc_61 hy_61 hT_61 hf_61 => ?_) d) rfl rfl (by omega) (by decide) (Nat.le_of_ble_eq_true rfl)
        show AW _ _ _ _ _ _ _
        have h4_61 : M_61.1 0 4 = nI 0 := hf_61.i siS (by unfold ryP cuP; omega)
        have hg2_61 : fr y1P M M_61 := ((hf_34.mo (fun k j h => by unfold tkP at h; unfold y1P; omega)).si (by unfold y1P; omega)).t (hf_61.mo (fun k j h => by unfold ryP cuP at h; unfold y1P; omega))
        have hg_61 : fr txP M M_61 := hg2_61.mo (fun k j h => by unfold y1P at h; unfold txP; omega)
        have hf2w : fr y1P M (siM M_61 0 0 (nI 10)) := hg2_61.si (by unfold y1P; omega)
        refine a_aload_n rfl dX11_years_64 ?_
        refine a_geta dX11_years_65 fX11_37 (by decide) rfl rfl ?_
        refine n_callV (mi' := miX4_areGood) dX11_years_68 lX11_167 mX4_areGood (by decide) rfl rfl rfl (c_X4_areGood (tkN_G (by omega)) hT_61 hc_61 (fun h_68 => ?_) (fun h_68 => ?_) d) rfl rfl (by omega) (by decide) (Nat.le_of_ble_eq_true rfl)
        · show AW _ _ _ _ _ _ _
          refine n_if_ne 81 (by decide) dX11_years_71 (by decide) (fun _ => ?_) (fun h => absurd h (by decide))
          refine a_aload_n rfl dX11_years_81 ?_
          refine a_geta dX11_years_82 fX11_58 (by decide) rfl rfl ?_
          refine a_geta dX11_years_85 fX11_180 (by decide) rfl rfl ?_
          refine a_aload_n rfl dX11_years_88 ?_
          refine a_geta dX11_years_89 fX11_62 (by decide) rfl rfl ?_
          refine a_geta dX11_years_92 fX11_180 (by decide) rfl rfl ?_
          have hwf := (hy_61 h_68).2.1
          have hwf : (yeR T q).2.1.1 + 0 ≤ 2 * scN (yeR T q).2.1.2 (yeR T q).2.1.1 ∧ scN (yeR T q).2.1.2 (yeR T q).2.1.1 ≤ 30 ∧ 0 ≤ 3 := hwf
          have hw_95 : WX 17 (tyM M_61 17 37 (1, (yeR T q).2.1.1, (yeR T q).2.1.2)) (tS T, tN T, (1, (yeR T q).2.1.1, (yeR T q).2.1.2)) ∧ fr (fun k _ => 30 ≤ k ∧ k < 37) M_61 (tyM M_61 17 37 (1, (yeR T q).2.1.1, (yeR T q).2.1.2)) := tyX (VX_fr hV (fun k j a b => (hg2_61 k j (by unfold y1P; omega)).1)) (VN_fr0 hI.1.2.1 hg2_61 (fun k j a b => by unfold y1P; omega)) (hy_61 h_68).1 (show (yeR T q).2.1.1 ≤ 60 by omega)
          refine n_callV (mi' := miX9_takeFrom) dX11_years_95 lX11_187 mX9_takeFrom (by decide) rfl rfl rfl (c_X9_takeFrom (w := 17) (u := 37) (Y := (1, (yeR T q).2.1.1, (yeR T q).2.1.2)) isW17 isW37 (by omega) (hy_61 h_68).1 (Nat.le_refl _) ?_ d) rfl rfl (by omega) (by decide) (Nat.le_of_ble_eq_true rfl)
          show AW _ _ _ _ _ _ _
          refine a_aload_n rfl dX11_years_98 ?_
          refine a_aload_n rfl dX11_years_99 ?_
          refine a_geta dX11_years_100 fX11_58 (by decide) rfl rfl ?_
          refine a_geta dX11_years_103 fX11_180 (by decide) rfl rfl ?_
          refine g_i hw_95.1.2.2.2.1 (by decide) rfl fX11_192 rfl dX11_years_106 ?_
          refine n_callV (mi' := miX11_answer) dX11_years_109 lX11_177 mX11_answer (by decide) rfl rfl rfl (c_X11_answer ?_ d) rfl rfl (by omega) (by decide) (Nat.le_of_ble_eq_true rfl)
          show AW _ _ _ _ _ _ _
          refine a_iret dX11_years_112 rfl ?_
          have e : sp_years (nI q) T = (nI (scN (yeR T q).2.1.2 (yeR T q).2.1.1), tfT T (tS T, tN T, (1, (yeR T q).2.1.1, (yeR T q).2.1.2)) (nI 0) (-1) 0) := by unfold sp_years; rw [if_pos (by omega), i_q, if_pos (show (yeR T q).1.2.1 = 0 from h_68)]
          rw [e] at hQ
          have hf2 : fr txP M (siM (tyM M_61 17 37 (1, (yeR T q).2.1.1, (yeR T q).2.1.2)) 0 0 (nI 0)) := (hg_61.t (hw_95.2.mo (fun k j z => by unfold txP; omega))).si (by unfold txP; omega)
          have hx := IX_tx (n := 0) hI (WX_eq hw_95.1 (fun k a b => funext fun j => siN rfl (by omega)) (fun _ _ _ => rfl)) (siN (hw_95.2.i h4_61 (by omega)) (by omega)) siS ⟨siN (hw_95.2.i (hc_61.2.2.1.trans (congrArg nI h_68)) (by omega)) (by omega), siN (hw_95.2.i (hc_61.2.2.2.1.trans (if_pos h_68)) (by omega)) (by omega)⟩ hf2
          exact hQ _ hx.1 hx.2
        · show AW _ _ _ _ _ _ _
          refine n_if_ne 81 (by decide) dX11_years_71 (by decide) (fun h => absurd h (by decide)) (fun _ => ?_)
          refine a_aload_n rfl dX11_years_74 ?_
          refine n_bipush 10 rfl dX11_years_75 ?_
          refine n_callV (mi' := miX11_none) dX11_years_77 lX11_131 mX11_none (by decide) rfl rfl rfl (c_X11_none ?_ d) rfl rfl (by omega) (by decide) (Nat.le_of_ble_eq_true rfl)
          show AW _ _ _ _ _ _ _
          refine a_iret dX11_years_80 rfl ?_
          have e : sp_years (nI q) T = (-1, tfT T (tW T) (nI (yeR T q).1.2.1) (nI (yeR T q).1.2.2) 10) := by unfold sp_years; rw [if_pos (by omega), i_q, if_neg (show ¬ (yeR T q).1.2.1 = 0 from h_68)]
          rw [e] at hQ
          have hf2 : fr txP M (siM M_61 0 0 (nI 10)) := (hg_61).si (by unfold txP; omega)
          have hx := IX_tx (n := 10) hI (WX_fr hI.1 hf2w (fun k j a b => by unfold y1P; omega)) (siN h4_61 (by omega)) siS ⟨siN hc_61.2.2.1 (by omega), siN (hc_61.2.2.2.1.trans (if_neg h_68)) (by omega)⟩ hf2
          exact hQ _ hx.1 hx.2
      · refine a_aload_n rfl dX11_years_19 ?_
        refine n_iconst 5 rfl dX11_years_20 ?_
        refine n_callV (mi' := miX11_none) dX11_years_21 lX11_131 mX11_none (by decide) rfl rfl rfl (c_X11_none ?_ d) rfl rfl (by omega) (by decide) (Nat.le_of_ble_eq_true rfl)
        show AW _ _ _ _ _ _ _
        refine a_iret dX11_years_24 rfl ?_
        exact fin_q hQ hI hG (by unfold sp_years; rw [if_neg (by omega)]) fr.r

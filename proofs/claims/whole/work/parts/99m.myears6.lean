def mvT (k j : Nat) : Prop := mtP k j ∨ (k = 132 ∧ j = 25)
def mvP (k j : Nat) : Prop := mwP k j ∨ (k = 132 ∧ j = 25)
theorem mv_mv {k j : Nat} (h : mvT k j) : mvP k j := h.elim (fun z => Or.inl (Or.inl z)) Or.inr
theorem yz_mv {k j : Nat} (h : yzP k j) : mvT k j := by unfold yzP muP at h; unfold mvT mtP woP; omega
theorem IM_ty {M M1 : Mm} {T : TT} {W' : WD} {a b : Int32} {n : Nat} (h : IM M T) (hG : TG T) (hW : WM 0 M1 W') (h8' : M1.1 132 8 = nI 0) (h0 : M1.1 132 0 = nI n) (hF : M1.1 132 10 = a ∧ M1.1 132 11 = b) (hf : fr mvP M M1) : IM M1 (tfT T W' a b n) ∧ keX M M1 := by
  obtain ⟨h1, h2, h3, h4, h5, h6, h7, h8⟩ := h
  have h3k : (tK T).1 ≤ 3 := hG.2.2.2.2.2.1
  exact ⟨⟨hW, RM_fr h2 hf (fun k j a b => by unfold mvP mwP mtP woP; omega), ⟨h8', fun j hj => absurd (show j < 0 from hj) (Nat.not_lt_zero j)⟩, ⟨h0, hf.l h4.2.1 (by unfold mvP mwP mtP woP; omega), hf.l h4.2.2 (by unfold mvP mwP mtP woP; omega)⟩, hF, ⟨hf.i h6.1 (by unfold mvP mwP mtP woP; omega), fun q j hj => hf.i (h6.2 q j hj) (by unfold mvP mwP mtP woP; omega)⟩, hf.i h7 (by unfold mvP mwP mtP woP; omega), fun i hi => WM_fr (h8 i hi) (hG.2.2.2.2.2.2.1 i hi) hf (fun j a b => by have hi : i < (tK T).1 := hi; unfold mvP mwP mtP woP; omega) (fun j a b => by have hi : i < (tK T).1 := hi; unfold mvP mwP mtP woP; omega)⟩, keX_fr hf (fun k j z => by unfold mvP mwP mtP woP at z; omega)⟩
theorem ym_cp {M M' : Mm} {L : Nat} {s : Nat → Nat → Nat} {O : Nat → Nat} (hZ : YZM M L s 0 O) (h90 : M'.1 137 90 = nI 1) (h91 : M'.1 137 91 = nI (scN s L)) (hc : ∀ j, j < 9 * scN s L → M'.1 137 (92 + j) = M.1 137 (1540 + j)) : YM 0 M' (1, L, s) := by
  refine ⟨h90, h91, fun i hi h23 => ?_⟩
  have hi : i < L := hi
  have hl : scN s i + 1 ≤ scN s L := scN_lt hi h23
  have y := hZ.2 i hi h23
  have e : ∀ j, j < 9 → M'.1 137 (0 + 92 + 9 * scN s i + j) = M.1 137 (1540 + 9 * scN s i + j) := fun j hj => by
    rw [show 0 + 92 + 9 * scN s i + j = 92 + (9 * scN s i + j) by omega, hc _ (by omega), Nat.add_assoc]
  obtain ⟨y0, y1, y2, y3, y4⟩ := y.1
  exact ⟨(e 0 (by omega)).trans y0, fun q => (e 1 (by omega)).trans (y1 q), fun q => (e 1 (by omega)).trans (y2 q), fun q => (e 2 (by omega)).trans (y3 q), fun q => ⟨(e 5 (by omega)).trans (y4 q).1, fun z => ⟨(e 6 (by omega)).trans ((y4 q).2 z).1, (e 7 (by omega)).trans ((y4 q).2 z).2⟩⟩, (e 8 (by omega)).trans (y.2 (fun j hj => absurd hj (Nat.not_lt_zero j)))⟩
theorem YE_0 {M M' : Mm} {D : Nat → Nat} {n : Nat} {S : ST} {N : NM} (hU : MU M D n (0, 0, 0)) (hf : fr (fun k j => k = 132 ∧ j = 25) M M') (h25 : M'.1 132 25 = nI 0) : MYS M' D n S N (finY (tkN D n) (lpY (tkN D n) S N 300 y0)) 0 y0 :=
  ⟨MU_fr hU hf (fun k j z => by omega), fun _ => ⟨⟨h25, fun i hi => absurd (show i < 0 from hi) (Nat.not_lt_zero i)⟩, wf_0, Nat.zero_le _, Nat.zero_le _⟩, rfl⟩
theorem YE_end {M : Mm} {D : Nat → Nat} {n k : Nat} {S : ST} {N : NM} {R y : YS} (h : MYS M D n S N R k y) (hg : ¬ (y.1.2.1 = 0 ∧ kd (tkN D n) y.1 ≠ 0)) (hd : y.1.2.1 = 0 → y.2.2.1 = 0) : R.1 = y.1 ∧ (y.1.2.1 = 0 → R = y) := by
  have e := h.2.2
  rw [lpY_e hg] at e
  rw [← e]
  unfold finY
  by_cases c : 0 < y.2.2.1
  · rw [if_pos c]
    have hz : ¬ y.1.2.1 = 0 := fun q => by have := hd q; omega
    exact ⟨fl_n hz, fun q => absurd q hz⟩
  · rw [if_neg c]
    exact ⟨rfl, fun _ => rfl⟩

set_option maxRecDepth 100000 in
set_option maxHeartbeats 800000 in
theorem c_X12_years {M : Mm} {T : TT} (hI : IM M T) (hG : TG T) (hB : TB_ T) {x0 : Int32} {Q : Option Value → Mm → Prop} (hQ : ∀ M', IM M' (sp_years x0 T).2 → keX M M' → Q (some (.int (sp_years x0 T).1)) M') (d : Nat) : AMt miX12_years (d + 13) [.ref 132, .int x0] M Q := by
  refine AMt.of (by decide) (Nat.le_of_ble_eq_true rfl) ?_
  show AW miX12_years (d + 13) (mxA Q) 0 [(0, some (.ref 132)), (1, some (.int x0))] [] M
  have hF : WF (tS T) := hG.1.1
  have hM : VM 0 M (tS T) := hI.1.1
  have hM1 := m0_VM hM hF
  have hm := WF_m hF
  have hh := WF_h hF
  have hs := WF_s hF
  have hn := WF_n hF
  have hp9 : (tP T).1 ≤ 900 := hG.2.2.1
  refine a_aload_n rfl dX12_years_0 ?_
  refine n_iconst 0 rfl dX12_years_1 ?_
  refine a_puti dX12_years_2 pX12_69 (by decide) rfl rfl ?_
  refine a_aload_n rfl dX12_years_5 ?_
  refine n_iconst 0 rfl dX12_years_6 ?_
  refine a_puti dX12_years_7 pX12_72 (by decide) rfl rfl ?_
  show AW miX12_years (d + 13) (mxA Q) 10 [(0, some (.ref 132)), (1, some (.int x0))] [] (m0 M)
  refine a_aload_n rfl dX12_years_10 ?_
  refine a_iload_n rfl dX12_years_11 ?_
  refine n_sipush 300 rfl dX12_years_12 ?_
  refine n_callV (mi' := miX12_starts) dX12_years_15 lX12_301 mX12_starts (by decide) rfl rfl rfl (c_X12_starts (B := (tP T).2) ((m0_o (by omega)).trans hI.2.2.1.1) hp9 (fun j hj => (m0_o (by omega)).trans (hI.2.2.1.2 j hj)) (fun j hj => hB j hj) (by omega) (fun q_15 e_15 a_15 b_15 M_15 hU_15 h8_15 hf_15 => ?_) (fun h_15 => ?_) d) rfl rfl (by omega) (by decide) (Nat.le_of_ble_eq_true rfl)
  · show AW _ _ _ _ _ _ _
    have hx0 : x0.toInt = (q_15 : Int) := by rw [e_15]; exact nI_toInt (by omega)
    have i_q : idx x0 = q_15 := by unfold idx; rw [hx0]; exact Int.toNat_natCast q_15
    have hq9 : q_15 ≤ 900 := by omega
    have hD9 : ∀ j, dT T j < 256 := fun j => byN_lt _
    refine n_if_ne 23 (by decide) dX12_years_18 (by decide) (fun _ => ?_) (fun h => absurd h (by decide))
    refine a_aload_n rfl dX12_years_23 ?_
    refine n_iconst 0 rfl dX12_years_24 ?_
    refine a_puti dX12_years_25 pX12_319 (by decide) rfl rfl ?_
    have hfs : fr (fun k j => k = 132 ∧ j = 25) M_15 (siM M_15 132 25 (nI 0)) := fr.r.si ⟨rfl, rfl⟩
    have hfv : fr mvT M (siM M_15 132 25 (nI 0)) := ((m0_fr2.mo (fun k j h => by unfold mvT mtP woP; omega)).t (hf_15.mo (fun k j h => by unfold stP at h; unfold mvT mtP woP; omega))).t (hfs.mo (fun k j h => Or.inr h))
    have hVb : VM 0 (siM M_15 132 25 (nI 0)) (tS T) := VM_e hM (fun j hj => (hfv 137 j (by unfold mvT mtP woP; omega)).1) hF
    have hNb : VNM 0 (siM M_15 132 25 (nI 0)) (tS T) (tN T) := ⟨fun j hj => ((hfv 139 _ (by unfold mvT mtP woP; omega)).2).trans (hI.1.2.1.1 j hj), fun j hj => ((hfv 139 _ (by unfold mvT mtP woP; omega)).2).trans (hI.1.2.1.2 j hj)⟩
    have hY0 : MYS (siM M_15 132 25 (nI 0)) (dT T) q_15 (tS T) (tN T) (yeR T q_15) 0 y0 := YE_0 hU_15 hfs siS
    have h8b : (siM M_15 132 25 (nI 0)).1 132 8 = nI 0 := siN h8_15 (by omega)
    have loop_28 : ∀ (f : Nat) (k1 : Nat) (y : YS) (M1 : Mm), 301 ≤ k1 + f → (MYS M1 (dT T) q_15 (tS T) (tN T) (yeR T q_15) k1 y ∧ (y.1.2.1 = 0 → y.2.2.1 = 0) ∧ fr yzP (siM M_15 132 25 (nI 0)) M1) → AW miX12_years (d + 13) (mxA Q) 28 [(0, some (.ref 132)), (1, some (.int x0))] [] M1 := by
      intro f
      induction f with
      | zero =>
        intro k1 y M1 hL_28 hI_28
        have hy := hI_28
        have hf7 : y.1.2.1 ≤ 7 := hy.1.1.2.2.2.2
        have hkd : kd (tkN (dT T) q_15) y.1 ≤ 6 := (tkN_G (D := dT T) hq9 y.1.1).1
        obtain ⟨mk0, mk1, mk2, mk3, mk4, mk5⟩ := mkd_i hkd
        have hkk : y.1.2.1 = 0 → kd (tkN (dT T) q_15) y.1 ≠ 0 → k1 < 300 := fun a b => Nat.lt_of_le_of_lt (hy.1.2.1 a).2.2.1 (Nat.lt_of_lt_of_le (tk_ln b) b_15)
        refine a_aload_n rfl dX12_years_28 ?_
        refine g_i hy.1.1.2.2.1 (by decide) rfl fX12_212 rfl dX12_years_29 ?_
        refine n_if_ne 50 (by omega) dX12_years_32 (by decide) (fun h_32 => ?_) (fun h_32 => ?_)
        · have hR := YE_end hy.1 (fun z => h_32 z.1) hy.2.1
          have hgv : fr mvT M M1 := hfv.t (hy.2.2.mo (fun _ _ z => yz_mv z))
          have h8x : M1.1 132 8 = nI 0 := hy.2.2.i h8b (by unfold yzP muP; omega)
          have h0x : M1.1 132 0 = nI 0 := hy.2.2.i (siN (hf_15.i m0_s (by unfold stP; omega)) (by omega)) (by unfold yzP muP; omega)
          refine a_aload_n rfl dX12_years_50 ?_
          refine n_callV (mi' := miX12_isWell) dX12_years_51 lX12_310 mX12_isWell (by decide) rfl rfl rfl (c_X12_isWell hD9 hq9 hy.1.1 (fun h_51 => ?_) (fun h_51 => ?_) d) rfl rfl (by omega) (by decide) (Nat.le_of_ble_eq_true rfl)
          · show AW _ _ _ _ _ _ _
            obtain ⟨nn, hnn⟩ : ∃ nn, scN y.2.1.2 y.2.1.1 = nn := ⟨_, rfl⟩
            have h25 : (siM (siM M1 132 10 (nI y.1.2.1)) 132 11 (-1)).1 132 25 = nI nn := by rw [← hnn]; exact siN (siN (hy.1.2.1 h_51).1.1 (by omega)) (by omega)
            have hn30 : nn ≤ 30 := by rw [← hnn]; exact (hy.1.2.1 h_51).2.1.1.2.1
            refine n_if_ne 59 (by decide) dX12_years_54 (by decide) (fun _ => ?_) (fun h => absurd h (by decide))
            refine a_aload_n rfl dX12_years_59 ?_
            refine a_geta dX12_years_60 fX12_35 (by decide) rfl rfl ?_
            refine n_bipush 90 rfl dX12_years_63 ?_
            refine n_iconst 1 rfl dX12_years_65 ?_
            refine n_iast (by omega) (by decide) rfl (by decide) dX12_years_66 ?_
            refine a_aload_n rfl dX12_years_67 ?_
            refine a_geta dX12_years_68 fX12_35 (by decide) rfl rfl ?_
            refine n_bipush 91 rfl dX12_years_71 ?_
            refine a_aload_n rfl dX12_years_73 ?_
            refine g_i (siN h25 (by omega)) (by decide) rfl fX12_319 rfl dX12_years_74 ?_
            refine n_iast (by omega) (by decide) rfl (by decide) dX12_years_77 ?_
            refine n_iconst 0 rfl dX12_years_78 ?_
            refine a_istore_n (by decide) rfl dX12_years_79 ?_
            have loop_80 : ∀ i, i ≤ (9 * nn) → ∀ M2, ((∀ j, j < i → (M2).1 137 (92 + j) = (siM (siM (siM (siM M1 132 10 (nI y.1.2.1)) 132 11 (-1)) 137 90 (nI 1)) 137 91 (nI nn)).1 137 (1540 + j)) ∧ frM (fun k j => k = 137 ∧ 92 ≤ j ∧ j < 92 + 9 * nn) (siM (siM (siM (siM M1 132 10 (nI y.1.2.1)) 132 11 (-1)) 137 90 (nI 1)) 137 91 (nI nn)) M2) → AW miX12_years (d + 13) (mxA Q) 80 [(0, some (.ref 132)), (1, some (.int x0)), (2, some (.int (nI i)))] [] M2 := by
              refine up (W := fun i => ∀ M2, ((∀ j, j < i → (M2).1 137 (92 + j) = (siM (siM (siM (siM M1 132 10 (nI y.1.2.1)) 132 11 (-1)) 137 90 (nI 1)) 137 91 (nI nn)).1 137 (1540 + j)) ∧ frM (fun k j => k = 137 ∧ 92 ≤ j ∧ j < 92 + 9 * nn) (siM (siM (siM (siM M1 132 10 (nI y.1.2.1)) 132 11 (-1)) 137 90 (nI 1)) 137 91 (nI nn)) M2) → AW miX12_years (d + 13) (mxA Q) 80 [(0, some (.ref 132)), (1, some (.int x0)), (2, some (.int (nI i)))] [] M2) ((9 * nn)) (fun M2 hI_80 => ?_) (fun i hi_80 ih_80 M2 hI_80 => ?_)
              · refine a_iload_n rfl dX12_years_80 ?_
                refine n_bipush 9 rfl dX12_years_81 ?_
                refine a_aload_n rfl dX12_years_83 ?_
                refine g_i (hI_80.2.i (siN (siN h25 (by omega)) (by omega)) (by omega)) (by decide) rfl fX12_319 rfl dX12_years_84 ?_
                refine n_imul dX12_years_87 ?_
                refine n_icmp_ge 116 (by omega) (by omega) dX12_years_88 (by decide) (fun h_88 => ?_) (fun h_88 => absurd h_88 (by omega))
                refine a_aload_n rfl dX12_years_116 ?_
                refine g_i (hI_80.2.i (siN (siN h25 (by omega)) (by omega)) (by omega)) (by decide) rfl fX12_319 rfl dX12_years_117 ?_
                refine a_iret dX12_years_120 rfl ?_
                have e : sp_years x0 T = (nI (scN y.2.1.2 y.2.1.1), tfT T (tS T, tN T, (1, y.2.1.1, y.2.1.2)) (nI 0) (-1) 0) := by unfold sp_years; rw [if_pos (by omega), i_q, hR.2 h_51, if_pos h_51]
                rw [e, hnn] at hQ
                have hg9 : fr mvP M (siM (siM (siM (siM M1 132 10 (nI y.1.2.1)) 132 11 (-1)) 137 90 (nI 1)) 137 91 (nI nn)) := ((((hgv.mo (fun _ _ h => mv_mv h)).si (by unfold mvP mwP mtP; omega)).si (by unfold mvP mwP mtP; omega)).si (by unfold mvP mwP mtP; omega)).si (by unfold mvP mwP mtP; omega)
                have hg2 : fr mvP M M2 := hg9.t (hI_80.2.f.mo (fun k j h => by unfold mvP mwP; omega))
                have hV2 : VM 0 M2 (tS T) := VM_e (VM_yz hVb hF hy.2.2) (fun j hj => ((hI_80.2.f 137 j (by omega)).1).trans (siN (siN (siN (siN rfl (by omega)) (by omega)) (by omega)) (by omega))) hF
                have hN2 : VNM 0 M2 (tS T) (tN T) := by
                  have h := VNM_yz hNb hy.2.2
                  exact ⟨fun j hj => ((hI_80.2.f 139 _ (by omega)).2).trans (h.1 j hj), fun j hj => ((hI_80.2.f 139 _ (by omega)).2).trans (h.2 j hj)⟩
                have hZ9 : YZM M1 y.2.1.1 y.2.1.2 0 y.2.2.2 := by have h := (hy.1.2.1 h_51).1; rw [hy.2.1 h_51] at h; exact h
                have hY2 : YM 0 M2 (1, y.2.1.1, y.2.1.2) := ym_cp hZ9 (hI_80.2.i (siN siS (by omega)) (by omega)) (by rw [hnn]; exact hI_80.2.i siS (by omega)) (fun j hj => (hI_80.1 j (by rw [hnn] at hj; exact hj)).trans (siN (siN (siN (siN rfl (by omega)) (by omega)) (by omega)) (by omega)))
                have hz := IM_ty (n := 0) hI hG (W' := (tS T, tN T, (1, y.2.1.1, y.2.1.2))) ⟨hV2, hN2, hY2⟩ (hI_80.2.i (siN (siN (siN (siN h8x (by omega)) (by omega)) (by omega)) (by omega)) (by omega)) (hI_80.2.i (siN (siN (siN (siN h0x (by omega)) (by omega)) (by omega)) (by omega)) (by omega)) ⟨hI_80.2.i (siN (siN (siN (siS.trans (congrArg nI h_51)) (by omega)) (by omega)) (by omega)) (by omega), hI_80.2.i (siN (siN siS (by omega)) (by omega)) (by omega)⟩ hg2
                exact hQ _ hz.1 hz.2
              · refine a_iload_n rfl dX12_years_80 ?_
                refine n_bipush 9 rfl dX12_years_81 ?_
                refine a_aload_n rfl dX12_years_83 ?_
                refine g_i (hI_80.2.i (siN (siN h25 (by omega)) (by omega)) (by omega)) (by decide) rfl fX12_319 rfl dX12_years_84 ?_
                refine n_imul dX12_years_87 ?_
                refine n_icmp_ge 116 (by omega) (by omega) dX12_years_88 (by decide) (fun h_88 => absurd h_88 (by omega)) (fun h_88 => ?_)
                refine a_aload_n rfl dX12_years_91 ?_
                refine a_geta dX12_years_92 fX12_35 (by decide) rfl rfl ?_
                refine n_bipush 92 rfl dX12_years_95 ?_
                refine a_iload_n rfl dX12_years_97 ?_
                refine n_iadd dX12_years_98 ?_
                refine a_aload_n rfl dX12_years_99 ?_
                refine a_geta dX12_years_100 fX12_35 (by decide) rfl rfl ?_
                refine n_sipush 1540 rfl dX12_years_103 ?_
                refine a_iload_n rfl dX12_years_106 ?_
                refine n_iadd dX12_years_107 ?_
                refine n_iald (by omega) (by decide) rfl (by decide) dX12_years_108 ?_
                refine n_iast (by omega) (by decide) rfl (by decide) dX12_years_109 ?_
                refine n_iinc (c := 1) rfl rfl (by decide) rfl dX12_years_110 ?_
                refine a_goto 80 dX12_years_113 (by decide) ?_
                exact a_bk (ih_80 _ ⟨fun j hj => by
                    by_cases e : j = i
                    · rw [e]; exact siS.trans (hI_80.2.1 137 (1540 + i) (by omega))
                    · exact siN (hI_80.1 j (by omega)) (by omega), hI_80.2.si (by omega)⟩) ⟨rfl, rfl, rfl, trivial⟩
            exact a_bk (loop_80 0 (by omega) _ ⟨fun j hj => absurd hj (Nat.not_lt_zero _), frM.r⟩) ⟨rfl, rfl, rfl, trivial⟩
          · show AW _ _ _ _ _ _ _
            refine n_if_ne 59 (by decide) dX12_years_54 (by decide) (fun h => absurd h (by decide)) (fun _ => ?_)
            refine a_iconst (-1) rfl dX12_years_57 ?_
            refine a_iret dX12_years_58 rfl ?_
            have e : sp_years x0 T = (-1, tfT T (tW T) (nI y.1.2.1) (nI y.1.2.2) 10) := by unfold sp_years; rw [if_pos (by omega), i_q, hR.1, if_neg h_51]
            rw [e] at hQ
            have hf2t : fr mvT M (siM (siM (siM M1 132 10 (nI y.1.2.1)) 132 11 (nI y.1.2.2)) 132 0 (nI 10)) := ((hgv.si (by unfold mvT mtP; omega)).si (by unfold mvT mtP; omega)).si (by unfold mvT mtP; omega)
            have hz := IM_ty (n := 10) hI hG (WM_fr hI.1 hG.1 hf2t (fun j a b => by unfold mvT mtP woP; omega) (fun j a b => by unfold mvT mtP woP; omega)) (siN (siN (siN h8x (by omega)) (by omega)) (by omega)) siS ⟨siN (siN siS (by omega)) (by omega), siN siS (by omega)⟩ (hf2t.mo (fun _ _ h => mv_mv h))
            exact hQ _ hz.1 hz.2
        · refine a_aload_n rfl dX12_years_35 ?_
          refine g_i (show M1.1 132 14 = nI (mkd (kd (tkN (dT T) q_15) y.1)) from hy.1.1.2.1.1) (by decide) rfl fX12_124 rfl dX12_years_36 ?_
          refine n_if_eq 50 (by omega) dX12_years_39 (by decide) (fun h_39 => ?_) (fun h_39 => absurd h_39 (by omega))
          have hR := YE_end hy.1 (fun z => z.2 (mk0.mp h_39)) hy.2.1
          have hgv : fr mvT M M1 := hfv.t (hy.2.2.mo (fun _ _ z => yz_mv z))
          have h8x : M1.1 132 8 = nI 0 := hy.2.2.i h8b (by unfold yzP muP; omega)
          have h0x : M1.1 132 0 = nI 0 := hy.2.2.i (siN (hf_15.i m0_s (by unfold stP; omega)) (by omega)) (by unfold yzP muP; omega)
          refine a_aload_n rfl dX12_years_50 ?_
          refine n_callV (mi' := miX12_isWell) dX12_years_51 lX12_310 mX12_isWell (by decide) rfl rfl rfl (c_X12_isWell hD9 hq9 hy.1.1 (fun h_51 => ?_) (fun h_51 => ?_) d) rfl rfl (by omega) (by decide) (Nat.le_of_ble_eq_true rfl)
          · show AW _ _ _ _ _ _ _
            obtain ⟨nn, hnn⟩ : ∃ nn, scN y.2.1.2 y.2.1.1 = nn := ⟨_, rfl⟩
            have h25 : (siM (siM M1 132 10 (nI y.1.2.1)) 132 11 (-1)).1 132 25 = nI nn := by rw [← hnn]; exact siN (siN (hy.1.2.1 h_51).1.1 (by omega)) (by omega)
            have hn30 : nn ≤ 30 := by rw [← hnn]; exact (hy.1.2.1 h_51).2.1.1.2.1
            refine n_if_ne 59 (by decide) dX12_years_54 (by decide) (fun _ => ?_) (fun h => absurd h (by decide))
            refine a_aload_n rfl dX12_years_59 ?_
            refine a_geta dX12_years_60 fX12_35 (by decide) rfl rfl ?_
            refine n_bipush 90 rfl dX12_years_63 ?_
            refine n_iconst 1 rfl dX12_years_65 ?_
            refine n_iast (by omega) (by decide) rfl (by decide) dX12_years_66 ?_
            refine a_aload_n rfl dX12_years_67 ?_
            refine a_geta dX12_years_68 fX12_35 (by decide) rfl rfl ?_
            refine n_bipush 91 rfl dX12_years_71 ?_
            refine a_aload_n rfl dX12_years_73 ?_
            refine g_i (siN h25 (by omega)) (by decide) rfl fX12_319 rfl dX12_years_74 ?_
            refine n_iast (by omega) (by decide) rfl (by decide) dX12_years_77 ?_
            refine n_iconst 0 rfl dX12_years_78 ?_
            refine a_istore_n (by decide) rfl dX12_years_79 ?_
            have loop_80 : ∀ i, i ≤ (9 * nn) → ∀ M2, ((∀ j, j < i → (M2).1 137 (92 + j) = (siM (siM (siM (siM M1 132 10 (nI y.1.2.1)) 132 11 (-1)) 137 90 (nI 1)) 137 91 (nI nn)).1 137 (1540 + j)) ∧ frM (fun k j => k = 137 ∧ 92 ≤ j ∧ j < 92 + 9 * nn) (siM (siM (siM (siM M1 132 10 (nI y.1.2.1)) 132 11 (-1)) 137 90 (nI 1)) 137 91 (nI nn)) M2) → AW miX12_years (d + 13) (mxA Q) 80 [(0, some (.ref 132)), (1, some (.int x0)), (2, some (.int (nI i)))] [] M2 := by
              refine up (W := fun i => ∀ M2, ((∀ j, j < i → (M2).1 137 (92 + j) = (siM (siM (siM (siM M1 132 10 (nI y.1.2.1)) 132 11 (-1)) 137 90 (nI 1)) 137 91 (nI nn)).1 137 (1540 + j)) ∧ frM (fun k j => k = 137 ∧ 92 ≤ j ∧ j < 92 + 9 * nn) (siM (siM (siM (siM M1 132 10 (nI y.1.2.1)) 132 11 (-1)) 137 90 (nI 1)) 137 91 (nI nn)) M2) → AW miX12_years (d + 13) (mxA Q) 80 [(0, some (.ref 132)), (1, some (.int x0)), (2, some (.int (nI i)))] [] M2) ((9 * nn)) (fun M2 hI_80 => ?_) (fun i hi_80 ih_80 M2 hI_80 => ?_)
              · refine a_iload_n rfl dX12_years_80 ?_
                refine n_bipush 9 rfl dX12_years_81 ?_
                refine a_aload_n rfl dX12_years_83 ?_
                refine g_i (hI_80.2.i (siN (siN h25 (by omega)) (by omega)) (by omega)) (by decide) rfl fX12_319 rfl dX12_years_84 ?_
                refine n_imul dX12_years_87 ?_
                refine n_icmp_ge 116 (by omega) (by omega) dX12_years_88 (by decide) (fun h_88 => ?_) (fun h_88 => absurd h_88 (by omega))
                refine a_aload_n rfl dX12_years_116 ?_
                refine g_i (hI_80.2.i (siN (siN h25 (by omega)) (by omega)) (by omega)) (by decide) rfl fX12_319 rfl dX12_years_117 ?_
                refine a_iret dX12_years_120 rfl ?_
                have e : sp_years x0 T = (nI (scN y.2.1.2 y.2.1.1), tfT T (tS T, tN T, (1, y.2.1.1, y.2.1.2)) (nI 0) (-1) 0) := by unfold sp_years; rw [if_pos (by omega), i_q, hR.2 h_51, if_pos h_51]
                rw [e, hnn] at hQ
                have hg9 : fr mvP M (siM (siM (siM (siM M1 132 10 (nI y.1.2.1)) 132 11 (-1)) 137 90 (nI 1)) 137 91 (nI nn)) := ((((hgv.mo (fun _ _ h => mv_mv h)).si (by unfold mvP mwP mtP; omega)).si (by unfold mvP mwP mtP; omega)).si (by unfold mvP mwP mtP; omega)).si (by unfold mvP mwP mtP; omega)
                have hg2 : fr mvP M M2 := hg9.t (hI_80.2.f.mo (fun k j h => by unfold mvP mwP; omega))
                have hV2 : VM 0 M2 (tS T) := VM_e (VM_yz hVb hF hy.2.2) (fun j hj => ((hI_80.2.f 137 j (by omega)).1).trans (siN (siN (siN (siN rfl (by omega)) (by omega)) (by omega)) (by omega))) hF
                have hN2 : VNM 0 M2 (tS T) (tN T) := by
                  have h := VNM_yz hNb hy.2.2
                  exact ⟨fun j hj => ((hI_80.2.f 139 _ (by omega)).2).trans (h.1 j hj), fun j hj => ((hI_80.2.f 139 _ (by omega)).2).trans (h.2 j hj)⟩
                have hZ9 : YZM M1 y.2.1.1 y.2.1.2 0 y.2.2.2 := by have h := (hy.1.2.1 h_51).1; rw [hy.2.1 h_51] at h; exact h
                have hY2 : YM 0 M2 (1, y.2.1.1, y.2.1.2) := ym_cp hZ9 (hI_80.2.i (siN siS (by omega)) (by omega)) (by rw [hnn]; exact hI_80.2.i siS (by omega)) (fun j hj => (hI_80.1 j (by rw [hnn] at hj; exact hj)).trans (siN (siN (siN (siN rfl (by omega)) (by omega)) (by omega)) (by omega)))
                have hz := IM_ty (n := 0) hI hG (W' := (tS T, tN T, (1, y.2.1.1, y.2.1.2))) ⟨hV2, hN2, hY2⟩ (hI_80.2.i (siN (siN (siN (siN h8x (by omega)) (by omega)) (by omega)) (by omega)) (by omega)) (hI_80.2.i (siN (siN (siN (siN h0x (by omega)) (by omega)) (by omega)) (by omega)) (by omega)) ⟨hI_80.2.i (siN (siN (siN (siS.trans (congrArg nI h_51)) (by omega)) (by omega)) (by omega)) (by omega), hI_80.2.i (siN (siN siS (by omega)) (by omega)) (by omega)⟩ hg2
                exact hQ _ hz.1 hz.2
              · refine a_iload_n rfl dX12_years_80 ?_
                refine n_bipush 9 rfl dX12_years_81 ?_
                refine a_aload_n rfl dX12_years_83 ?_
                refine g_i (hI_80.2.i (siN (siN h25 (by omega)) (by omega)) (by omega)) (by decide) rfl fX12_319 rfl dX12_years_84 ?_
                refine n_imul dX12_years_87 ?_
                refine n_icmp_ge 116 (by omega) (by omega) dX12_years_88 (by decide) (fun h_88 => absurd h_88 (by omega)) (fun h_88 => ?_)
                refine a_aload_n rfl dX12_years_91 ?_
                refine a_geta dX12_years_92 fX12_35 (by decide) rfl rfl ?_
                refine n_bipush 92 rfl dX12_years_95 ?_
                refine a_iload_n rfl dX12_years_97 ?_
                refine n_iadd dX12_years_98 ?_
                refine a_aload_n rfl dX12_years_99 ?_
                refine a_geta dX12_years_100 fX12_35 (by decide) rfl rfl ?_
                refine n_sipush 1540 rfl dX12_years_103 ?_
                refine a_iload_n rfl dX12_years_106 ?_
                refine n_iadd dX12_years_107 ?_
                refine n_iald (by omega) (by decide) rfl (by decide) dX12_years_108 ?_
                refine n_iast (by omega) (by decide) rfl (by decide) dX12_years_109 ?_
                refine n_iinc (c := 1) rfl rfl (by decide) rfl dX12_years_110 ?_
                refine a_goto 80 dX12_years_113 (by decide) ?_
                exact a_bk (ih_80 _ ⟨fun j hj => by
                    by_cases e : j = i
                    · rw [e]; exact siS.trans (hI_80.2.1 137 (1540 + i) (by omega))
                    · exact siN (hI_80.1 j (by omega)) (by omega), hI_80.2.si (by omega)⟩) ⟨rfl, rfl, rfl, trivial⟩
            exact a_bk (loop_80 0 (by omega) _ ⟨fun j hj => absurd hj (Nat.not_lt_zero _), frM.r⟩) ⟨rfl, rfl, rfl, trivial⟩
          · show AW _ _ _ _ _ _ _
            refine n_if_ne 59 (by decide) dX12_years_54 (by decide) (fun h => absurd h (by decide)) (fun _ => ?_)
            refine a_iconst (-1) rfl dX12_years_57 ?_
            refine a_iret dX12_years_58 rfl ?_
            have e : sp_years x0 T = (-1, tfT T (tW T) (nI y.1.2.1) (nI y.1.2.2) 10) := by unfold sp_years; rw [if_pos (by omega), i_q, hR.1, if_neg h_51]
            rw [e] at hQ
            have hf2t : fr mvT M (siM (siM (siM M1 132 10 (nI y.1.2.1)) 132 11 (nI y.1.2.2)) 132 0 (nI 10)) := ((hgv.si (by unfold mvT mtP; omega)).si (by unfold mvT mtP; omega)).si (by unfold mvT mtP; omega)
            have hz := IM_ty (n := 10) hI hG (WM_fr hI.1 hG.1 hf2t (fun j a b => by unfold mvT mtP woP; omega) (fun j a b => by unfold mvT mtP woP; omega)) (siN (siN (siN h8x (by omega)) (by omega)) (by omega)) siS ⟨siN (siN siS (by omega)) (by omega), siN siS (by omega)⟩ (hf2t.mo (fun _ _ h => mv_mv h))
            exact hQ _ hz.1 hz.2
      | succ f ih_28 =>
        intro k1 y M1 hL_28 hI_28
        have hy := hI_28
        have hf7 : y.1.2.1 ≤ 7 := hy.1.1.2.2.2.2
        have hkd : kd (tkN (dT T) q_15) y.1 ≤ 6 := (tkN_G (D := dT T) hq9 y.1.1).1
        obtain ⟨mk0, mk1, mk2, mk3, mk4, mk5⟩ := mkd_i hkd
        have hkk : y.1.2.1 = 0 → kd (tkN (dT T) q_15) y.1 ≠ 0 → k1 < 300 := fun a b => Nat.lt_of_le_of_lt (hy.1.2.1 a).2.2.1 (Nat.lt_of_lt_of_le (tk_ln b) b_15)
        refine a_aload_n rfl dX12_years_28 ?_
        refine g_i hy.1.1.2.2.1 (by decide) rfl fX12_212 rfl dX12_years_29 ?_
        refine n_if_ne 50 (by omega) dX12_years_32 (by decide) (fun h_32 => ?_) (fun h_32 => ?_)
        · have hR := YE_end hy.1 (fun z => h_32 z.1) hy.2.1
          have hgv : fr mvT M M1 := hfv.t (hy.2.2.mo (fun _ _ z => yz_mv z))
          have h8x : M1.1 132 8 = nI 0 := hy.2.2.i h8b (by unfold yzP muP; omega)
          have h0x : M1.1 132 0 = nI 0 := hy.2.2.i (siN (hf_15.i m0_s (by unfold stP; omega)) (by omega)) (by unfold yzP muP; omega)
          refine a_aload_n rfl dX12_years_50 ?_
          refine n_callV (mi' := miX12_isWell) dX12_years_51 lX12_310 mX12_isWell (by decide) rfl rfl rfl (c_X12_isWell hD9 hq9 hy.1.1 (fun h_51 => ?_) (fun h_51 => ?_) d) rfl rfl (by omega) (by decide) (Nat.le_of_ble_eq_true rfl)
          · show AW _ _ _ _ _ _ _
            obtain ⟨nn, hnn⟩ : ∃ nn, scN y.2.1.2 y.2.1.1 = nn := ⟨_, rfl⟩
            have h25 : (siM (siM M1 132 10 (nI y.1.2.1)) 132 11 (-1)).1 132 25 = nI nn := by rw [← hnn]; exact siN (siN (hy.1.2.1 h_51).1.1 (by omega)) (by omega)
            have hn30 : nn ≤ 30 := by rw [← hnn]; exact (hy.1.2.1 h_51).2.1.1.2.1
            refine n_if_ne 59 (by decide) dX12_years_54 (by decide) (fun _ => ?_) (fun h => absurd h (by decide))
            refine a_aload_n rfl dX12_years_59 ?_
            refine a_geta dX12_years_60 fX12_35 (by decide) rfl rfl ?_
            refine n_bipush 90 rfl dX12_years_63 ?_
            refine n_iconst 1 rfl dX12_years_65 ?_
            refine n_iast (by omega) (by decide) rfl (by decide) dX12_years_66 ?_
            refine a_aload_n rfl dX12_years_67 ?_
            refine a_geta dX12_years_68 fX12_35 (by decide) rfl rfl ?_
            refine n_bipush 91 rfl dX12_years_71 ?_
            refine a_aload_n rfl dX12_years_73 ?_
            refine g_i (siN h25 (by omega)) (by decide) rfl fX12_319 rfl dX12_years_74 ?_
            refine n_iast (by omega) (by decide) rfl (by decide) dX12_years_77 ?_
            refine n_iconst 0 rfl dX12_years_78 ?_
            refine a_istore_n (by decide) rfl dX12_years_79 ?_
            have loop_80 : ∀ i, i ≤ (9 * nn) → ∀ M2, ((∀ j, j < i → (M2).1 137 (92 + j) = (siM (siM (siM (siM M1 132 10 (nI y.1.2.1)) 132 11 (-1)) 137 90 (nI 1)) 137 91 (nI nn)).1 137 (1540 + j)) ∧ frM (fun k j => k = 137 ∧ 92 ≤ j ∧ j < 92 + 9 * nn) (siM (siM (siM (siM M1 132 10 (nI y.1.2.1)) 132 11 (-1)) 137 90 (nI 1)) 137 91 (nI nn)) M2) → AW miX12_years (d + 13) (mxA Q) 80 [(0, some (.ref 132)), (1, some (.int x0)), (2, some (.int (nI i)))] [] M2 := by
              refine up (W := fun i => ∀ M2, ((∀ j, j < i → (M2).1 137 (92 + j) = (siM (siM (siM (siM M1 132 10 (nI y.1.2.1)) 132 11 (-1)) 137 90 (nI 1)) 137 91 (nI nn)).1 137 (1540 + j)) ∧ frM (fun k j => k = 137 ∧ 92 ≤ j ∧ j < 92 + 9 * nn) (siM (siM (siM (siM M1 132 10 (nI y.1.2.1)) 132 11 (-1)) 137 90 (nI 1)) 137 91 (nI nn)) M2) → AW miX12_years (d + 13) (mxA Q) 80 [(0, some (.ref 132)), (1, some (.int x0)), (2, some (.int (nI i)))] [] M2) ((9 * nn)) (fun M2 hI_80 => ?_) (fun i hi_80 ih_80 M2 hI_80 => ?_)
              · refine a_iload_n rfl dX12_years_80 ?_
                refine n_bipush 9 rfl dX12_years_81 ?_
                refine a_aload_n rfl dX12_years_83 ?_
                refine g_i (hI_80.2.i (siN (siN h25 (by omega)) (by omega)) (by omega)) (by decide) rfl fX12_319 rfl dX12_years_84 ?_
                refine n_imul dX12_years_87 ?_
                refine n_icmp_ge 116 (by omega) (by omega) dX12_years_88 (by decide) (fun h_88 => ?_) (fun h_88 => absurd h_88 (by omega))
                refine a_aload_n rfl dX12_years_116 ?_
                refine g_i (hI_80.2.i (siN (siN h25 (by omega)) (by omega)) (by omega)) (by decide) rfl fX12_319 rfl dX12_years_117 ?_
                refine a_iret dX12_years_120 rfl ?_
                have e : sp_years x0 T = (nI (scN y.2.1.2 y.2.1.1), tfT T (tS T, tN T, (1, y.2.1.1, y.2.1.2)) (nI 0) (-1) 0) := by unfold sp_years; rw [if_pos (by omega), i_q, hR.2 h_51, if_pos h_51]
                rw [e, hnn] at hQ
                have hg9 : fr mvP M (siM (siM (siM (siM M1 132 10 (nI y.1.2.1)) 132 11 (-1)) 137 90 (nI 1)) 137 91 (nI nn)) := ((((hgv.mo (fun _ _ h => mv_mv h)).si (by unfold mvP mwP mtP; omega)).si (by unfold mvP mwP mtP; omega)).si (by unfold mvP mwP mtP; omega)).si (by unfold mvP mwP mtP; omega)
                have hg2 : fr mvP M M2 := hg9.t (hI_80.2.f.mo (fun k j h => by unfold mvP mwP; omega))
                have hV2 : VM 0 M2 (tS T) := VM_e (VM_yz hVb hF hy.2.2) (fun j hj => ((hI_80.2.f 137 j (by omega)).1).trans (siN (siN (siN (siN rfl (by omega)) (by omega)) (by omega)) (by omega))) hF
                have hN2 : VNM 0 M2 (tS T) (tN T) := by
                  have h := VNM_yz hNb hy.2.2
                  exact ⟨fun j hj => ((hI_80.2.f 139 _ (by omega)).2).trans (h.1 j hj), fun j hj => ((hI_80.2.f 139 _ (by omega)).2).trans (h.2 j hj)⟩
                have hZ9 : YZM M1 y.2.1.1 y.2.1.2 0 y.2.2.2 := by have h := (hy.1.2.1 h_51).1; rw [hy.2.1 h_51] at h; exact h
                have hY2 : YM 0 M2 (1, y.2.1.1, y.2.1.2) := ym_cp hZ9 (hI_80.2.i (siN siS (by omega)) (by omega)) (by rw [hnn]; exact hI_80.2.i siS (by omega)) (fun j hj => (hI_80.1 j (by rw [hnn] at hj; exact hj)).trans (siN (siN (siN (siN rfl (by omega)) (by omega)) (by omega)) (by omega)))
                have hz := IM_ty (n := 0) hI hG (W' := (tS T, tN T, (1, y.2.1.1, y.2.1.2))) ⟨hV2, hN2, hY2⟩ (hI_80.2.i (siN (siN (siN (siN h8x (by omega)) (by omega)) (by omega)) (by omega)) (by omega)) (hI_80.2.i (siN (siN (siN (siN h0x (by omega)) (by omega)) (by omega)) (by omega)) (by omega)) ⟨hI_80.2.i (siN (siN (siN (siS.trans (congrArg nI h_51)) (by omega)) (by omega)) (by omega)) (by omega), hI_80.2.i (siN (siN siS (by omega)) (by omega)) (by omega)⟩ hg2
                exact hQ _ hz.1 hz.2
              · refine a_iload_n rfl dX12_years_80 ?_
                refine n_bipush 9 rfl dX12_years_81 ?_
                refine a_aload_n rfl dX12_years_83 ?_
                refine g_i (hI_80.2.i (siN (siN h25 (by omega)) (by omega)) (by omega)) (by decide) rfl fX12_319 rfl dX12_years_84 ?_
                refine n_imul dX12_years_87 ?_
                refine n_icmp_ge 116 (by omega) (by omega) dX12_years_88 (by decide) (fun h_88 => absurd h_88 (by omega)) (fun h_88 => ?_)
                refine a_aload_n rfl dX12_years_91 ?_
                refine a_geta dX12_years_92 fX12_35 (by decide) rfl rfl ?_
                refine n_bipush 92 rfl dX12_years_95 ?_
                refine a_iload_n rfl dX12_years_97 ?_
                refine n_iadd dX12_years_98 ?_
                refine a_aload_n rfl dX12_years_99 ?_
                refine a_geta dX12_years_100 fX12_35 (by decide) rfl rfl ?_
                refine n_sipush 1540 rfl dX12_years_103 ?_
                refine a_iload_n rfl dX12_years_106 ?_
                refine n_iadd dX12_years_107 ?_
                refine n_iald (by omega) (by decide) rfl (by decide) dX12_years_108 ?_
                refine n_iast (by omega) (by decide) rfl (by decide) dX12_years_109 ?_
                refine n_iinc (c := 1) rfl rfl (by decide) rfl dX12_years_110 ?_
                refine a_goto 80 dX12_years_113 (by decide) ?_
                exact a_bk (ih_80 _ ⟨fun j hj => by
                    by_cases e : j = i
                    · rw [e]; exact siS.trans (hI_80.2.1 137 (1540 + i) (by omega))
                    · exact siN (hI_80.1 j (by omega)) (by omega), hI_80.2.si (by omega)⟩) ⟨rfl, rfl, rfl, trivial⟩
            exact a_bk (loop_80 0 (by omega) _ ⟨fun j hj => absurd hj (Nat.not_lt_zero _), frM.r⟩) ⟨rfl, rfl, rfl, trivial⟩
          · show AW _ _ _ _ _ _ _
            refine n_if_ne 59 (by decide) dX12_years_54 (by decide) (fun h => absurd h (by decide)) (fun _ => ?_)
            refine a_iconst (-1) rfl dX12_years_57 ?_
            refine a_iret dX12_years_58 rfl ?_
            have e : sp_years x0 T = (-1, tfT T (tW T) (nI y.1.2.1) (nI y.1.2.2) 10) := by unfold sp_years; rw [if_pos (by omega), i_q, hR.1, if_neg h_51]
            rw [e] at hQ
            have hf2t : fr mvT M (siM (siM (siM M1 132 10 (nI y.1.2.1)) 132 11 (nI y.1.2.2)) 132 0 (nI 10)) := ((hgv.si (by unfold mvT mtP; omega)).si (by unfold mvT mtP; omega)).si (by unfold mvT mtP; omega)
            have hz := IM_ty (n := 10) hI hG (WM_fr hI.1 hG.1 hf2t (fun j a b => by unfold mvT mtP woP; omega) (fun j a b => by unfold mvT mtP woP; omega)) (siN (siN (siN h8x (by omega)) (by omega)) (by omega)) siS ⟨siN (siN siS (by omega)) (by omega), siN siS (by omega)⟩ (hf2t.mo (fun _ _ h => mv_mv h))
            exact hQ _ hz.1 hz.2
        · refine a_aload_n rfl dX12_years_35 ?_
          refine g_i (show M1.1 132 14 = nI (mkd (kd (tkN (dT T) q_15) y.1)) from hy.1.1.2.1.1) (by decide) rfl fX12_124 rfl dX12_years_36 ?_
          refine n_if_eq 50 (by omega) dX12_years_39 (by decide) (fun h_39 => ?_) (fun h_39 => ?_)
          · have hR := YE_end hy.1 (fun z => z.2 (mk0.mp h_39)) hy.2.1
            have hgv : fr mvT M M1 := hfv.t (hy.2.2.mo (fun _ _ z => yz_mv z))
            have h8x : M1.1 132 8 = nI 0 := hy.2.2.i h8b (by unfold yzP muP; omega)
            have h0x : M1.1 132 0 = nI 0 := hy.2.2.i (siN (hf_15.i m0_s (by unfold stP; omega)) (by omega)) (by unfold yzP muP; omega)
            refine a_aload_n rfl dX12_years_50 ?_
            refine n_callV (mi' := miX12_isWell) dX12_years_51 lX12_310 mX12_isWell (by decide) rfl rfl rfl (c_X12_isWell hD9 hq9 hy.1.1 (fun h_51 => ?_) (fun h_51 => ?_) d) rfl rfl (by omega) (by decide) (Nat.le_of_ble_eq_true rfl)
            · show AW _ _ _ _ _ _ _
              obtain ⟨nn, hnn⟩ : ∃ nn, scN y.2.1.2 y.2.1.1 = nn := ⟨_, rfl⟩
              have h25 : (siM (siM M1 132 10 (nI y.1.2.1)) 132 11 (-1)).1 132 25 = nI nn := by rw [← hnn]; exact siN (siN (hy.1.2.1 h_51).1.1 (by omega)) (by omega)
              have hn30 : nn ≤ 30 := by rw [← hnn]; exact (hy.1.2.1 h_51).2.1.1.2.1
              refine n_if_ne 59 (by decide) dX12_years_54 (by decide) (fun _ => ?_) (fun h => absurd h (by decide))
              refine a_aload_n rfl dX12_years_59 ?_
              refine a_geta dX12_years_60 fX12_35 (by decide) rfl rfl ?_
              refine n_bipush 90 rfl dX12_years_63 ?_
              refine n_iconst 1 rfl dX12_years_65 ?_
              refine n_iast (by omega) (by decide) rfl (by decide) dX12_years_66 ?_
              refine a_aload_n rfl dX12_years_67 ?_
              refine a_geta dX12_years_68 fX12_35 (by decide) rfl rfl ?_
              refine n_bipush 91 rfl dX12_years_71 ?_
              refine a_aload_n rfl dX12_years_73 ?_
              refine g_i (siN h25 (by omega)) (by decide) rfl fX12_319 rfl dX12_years_74 ?_
              refine n_iast (by omega) (by decide) rfl (by decide) dX12_years_77 ?_
              refine n_iconst 0 rfl dX12_years_78 ?_
              refine a_istore_n (by decide) rfl dX12_years_79 ?_
              have loop_80 : ∀ i, i ≤ (9 * nn) → ∀ M2, ((∀ j, j < i → (M2).1 137 (92 + j) = (siM (siM (siM (siM M1 132 10 (nI y.1.2.1)) 132 11 (-1)) 137 90 (nI 1)) 137 91 (nI nn)).1 137 (1540 + j)) ∧ frM (fun k j => k = 137 ∧ 92 ≤ j ∧ j < 92 + 9 * nn) (siM (siM (siM (siM M1 132 10 (nI y.1.2.1)) 132 11 (-1)) 137 90 (nI 1)) 137 91 (nI nn)) M2) → AW miX12_years (d + 13) (mxA Q) 80 [(0, some (.ref 132)), (1, some (.int x0)), (2, some (.int (nI i)))] [] M2 := by
                refine up (W := fun i => ∀ M2, ((∀ j, j < i → (M2).1 137 (92 + j) = (siM (siM (siM (siM M1 132 10 (nI y.1.2.1)) 132 11 (-1)) 137 90 (nI 1)) 137 91 (nI nn)).1 137 (1540 + j)) ∧ frM (fun k j => k = 137 ∧ 92 ≤ j ∧ j < 92 + 9 * nn) (siM (siM (siM (siM M1 132 10 (nI y.1.2.1)) 132 11 (-1)) 137 90 (nI 1)) 137 91 (nI nn)) M2) → AW miX12_years (d + 13) (mxA Q) 80 [(0, some (.ref 132)), (1, some (.int x0)), (2, some (.int (nI i)))] [] M2) ((9 * nn)) (fun M2 hI_80 => ?_) (fun i hi_80 ih_80 M2 hI_80 => ?_)
                · refine a_iload_n rfl dX12_years_80 ?_
                  refine n_bipush 9 rfl dX12_years_81 ?_
                  refine a_aload_n rfl dX12_years_83 ?_
                  refine g_i (hI_80.2.i (siN (siN h25 (by omega)) (by omega)) (by omega)) (by decide) rfl fX12_319 rfl dX12_years_84 ?_
                  refine n_imul dX12_years_87 ?_
                  refine n_icmp_ge 116 (by omega) (by omega) dX12_years_88 (by decide) (fun h_88 => ?_) (fun h_88 => absurd h_88 (by omega))
                  refine a_aload_n rfl dX12_years_116 ?_
                  refine g_i (hI_80.2.i (siN (siN h25 (by omega)) (by omega)) (by omega)) (by decide) rfl fX12_319 rfl dX12_years_117 ?_
                  refine a_iret dX12_years_120 rfl ?_
                  have e : sp_years x0 T = (nI (scN y.2.1.2 y.2.1.1), tfT T (tS T, tN T, (1, y.2.1.1, y.2.1.2)) (nI 0) (-1) 0) := by unfold sp_years; rw [if_pos (by omega), i_q, hR.2 h_51, if_pos h_51]
                  rw [e, hnn] at hQ
                  have hg9 : fr mvP M (siM (siM (siM (siM M1 132 10 (nI y.1.2.1)) 132 11 (-1)) 137 90 (nI 1)) 137 91 (nI nn)) := ((((hgv.mo (fun _ _ h => mv_mv h)).si (by unfold mvP mwP mtP; omega)).si (by unfold mvP mwP mtP; omega)).si (by unfold mvP mwP mtP; omega)).si (by unfold mvP mwP mtP; omega)
                  have hg2 : fr mvP M M2 := hg9.t (hI_80.2.f.mo (fun k j h => by unfold mvP mwP; omega))
                  have hV2 : VM 0 M2 (tS T) := VM_e (VM_yz hVb hF hy.2.2) (fun j hj => ((hI_80.2.f 137 j (by omega)).1).trans (siN (siN (siN (siN rfl (by omega)) (by omega)) (by omega)) (by omega))) hF
                  have hN2 : VNM 0 M2 (tS T) (tN T) := by
                    have h := VNM_yz hNb hy.2.2
                    exact ⟨fun j hj => ((hI_80.2.f 139 _ (by omega)).2).trans (h.1 j hj), fun j hj => ((hI_80.2.f 139 _ (by omega)).2).trans (h.2 j hj)⟩
                  have hZ9 : YZM M1 y.2.1.1 y.2.1.2 0 y.2.2.2 := by have h := (hy.1.2.1 h_51).1; rw [hy.2.1 h_51] at h; exact h
                  have hY2 : YM 0 M2 (1, y.2.1.1, y.2.1.2) := ym_cp hZ9 (hI_80.2.i (siN siS (by omega)) (by omega)) (by rw [hnn]; exact hI_80.2.i siS (by omega)) (fun j hj => (hI_80.1 j (by rw [hnn] at hj; exact hj)).trans (siN (siN (siN (siN rfl (by omega)) (by omega)) (by omega)) (by omega)))
                  have hz := IM_ty (n := 0) hI hG (W' := (tS T, tN T, (1, y.2.1.1, y.2.1.2))) ⟨hV2, hN2, hY2⟩ (hI_80.2.i (siN (siN (siN (siN h8x (by omega)) (by omega)) (by omega)) (by omega)) (by omega)) (hI_80.2.i (siN (siN (siN (siN h0x (by omega)) (by omega)) (by omega)) (by omega)) (by omega)) ⟨hI_80.2.i (siN (siN (siN (siS.trans (congrArg nI h_51)) (by omega)) (by omega)) (by omega)) (by omega), hI_80.2.i (siN (siN siS (by omega)) (by omega)) (by omega)⟩ hg2
                  exact hQ _ hz.1 hz.2
                · refine a_iload_n rfl dX12_years_80 ?_
                  refine n_bipush 9 rfl dX12_years_81 ?_
                  refine a_aload_n rfl dX12_years_83 ?_
                  refine g_i (hI_80.2.i (siN (siN h25 (by omega)) (by omega)) (by omega)) (by decide) rfl fX12_319 rfl dX12_years_84 ?_
                  refine n_imul dX12_years_87 ?_
                  refine n_icmp_ge 116 (by omega) (by omega) dX12_years_88 (by decide) (fun h_88 => absurd h_88 (by omega)) (fun h_88 => ?_)
                  refine a_aload_n rfl dX12_years_91 ?_
                  refine a_geta dX12_years_92 fX12_35 (by decide) rfl rfl ?_
                  refine n_bipush 92 rfl dX12_years_95 ?_
                  refine a_iload_n rfl dX12_years_97 ?_
                  refine n_iadd dX12_years_98 ?_
                  refine a_aload_n rfl dX12_years_99 ?_
                  refine a_geta dX12_years_100 fX12_35 (by decide) rfl rfl ?_
                  refine n_sipush 1540 rfl dX12_years_103 ?_
                  refine a_iload_n rfl dX12_years_106 ?_
                  refine n_iadd dX12_years_107 ?_
                  refine n_iald (by omega) (by decide) rfl (by decide) dX12_years_108 ?_
                  refine n_iast (by omega) (by decide) rfl (by decide) dX12_years_109 ?_
                  refine n_iinc (c := 1) rfl rfl (by decide) rfl dX12_years_110 ?_
                  refine a_goto 80 dX12_years_113 (by decide) ?_
                  exact a_bk (ih_80 _ ⟨fun j hj => by
                    by_cases e : j = i
                    · rw [e]; exact siS.trans (hI_80.2.1 137 (1540 + i) (by omega))
                    · exact siN (hI_80.1 j (by omega)) (by omega), hI_80.2.si (by omega)⟩) ⟨rfl, rfl, rfl, trivial⟩
              exact a_bk (loop_80 0 (by omega) _ ⟨fun j hj => absurd hj (Nat.not_lt_zero _), frM.r⟩) ⟨rfl, rfl, rfl, trivial⟩
            · show AW _ _ _ _ _ _ _
              refine n_if_ne 59 (by decide) dX12_years_54 (by decide) (fun h => absurd h (by decide)) (fun _ => ?_)
              refine a_iconst (-1) rfl dX12_years_57 ?_
              refine a_iret dX12_years_58 rfl ?_
              have e : sp_years x0 T = (-1, tfT T (tW T) (nI y.1.2.1) (nI y.1.2.2) 10) := by unfold sp_years; rw [if_pos (by omega), i_q, hR.1, if_neg h_51]
              rw [e] at hQ
              have hf2t : fr mvT M (siM (siM (siM M1 132 10 (nI y.1.2.1)) 132 11 (nI y.1.2.2)) 132 0 (nI 10)) := ((hgv.si (by unfold mvT mtP; omega)).si (by unfold mvT mtP; omega)).si (by unfold mvT mtP; omega)
              have hz := IM_ty (n := 10) hI hG (WM_fr hI.1 hG.1 hf2t (fun j a b => by unfold mvT mtP woP; omega) (fun j a b => by unfold mvT mtP woP; omega)) (siN (siN (siN h8x (by omega)) (by omega)) (by omega)) siS ⟨siN (siN siS (by omega)) (by omega), siN siS (by omega)⟩ (hf2t.mo (fun _ _ h => mv_mv h))
              exact hQ _ hz.1 hz.2
          · refine a_aload_n rfl dX12_years_42 ?_
            refine n_iconst 0 rfl dX12_years_43 ?_
            refine n_callV (mi' := miX12_readStep) dX12_years_44 lX12_325 mX12_readStep (by decide) rfl rfl rfl (c_rsN 3 hD9 hq9 b_15 hF (e := 0) rfl hy.1 h_32 (hy.2.1 h_32) (fun q => absurd q.2 (Nat.lt_irrefl 0)) (Or.inl (fun q => h_39 (mk0.mpr q))) (VM_yz hVb hF hy.2.2) (VNM_yz hNb hy.2.2) (fun M_44 x_44 k_44 hX_44 hl_44 hg_44 hr_44 => ?_) d) rfl rfl (by omega) (by decide) (Nat.le_of_ble_eq_true rfl)
            show AW _ _ _ _ _ _ _
            refine a_goto 28 dX12_years_47 (by decide) ?_
            exact a_bk (ih_28 k_44 x_44 _ (by clear hX_44 hg_44 hr_44; omega) ⟨hX_44, fun q => (hg_44 q).1, hy.2.2.t hr_44⟩) ⟨rfl, rfl, trivial⟩
    exact a_bk (loop_28 301 0 y0 _ (Nat.le_refl _) ⟨hY0, fun _ => rfl, fr.r⟩) ⟨rfl, rfl, trivial⟩
  · show AW _ _ _ _ _ _ _
    refine n_if_ne 23 (by decide) dX12_years_18 (by decide) (fun h => absurd h (by decide)) (fun _ => ?_)
    refine a_iconst (-1) rfl dX12_years_21 ?_
    refine a_iret dX12_years_22 rfl ?_
    have h_15b : ¬ (0 ≤ x0.toInt ∧ x0.toInt ≤ (tP T).1 ∧ x0.toInt ≤ 300) := by omega
    have e : sp_years x0 T = (-1, st' T 5) := by unfold sp_years; rw [if_neg h_15b]
    rw [e] at hQ
    have hy := IM_s5 (M' := siM (m0 M) 132 0 (nI 5)) hI hG siS (m0_fr2.si (by omega))
    exact hQ _ hy.1 hy.2

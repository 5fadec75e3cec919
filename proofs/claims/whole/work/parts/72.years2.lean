theorem RW_dr {w d0 : Nat} {M : Mm} {S : ST} {dr mi br cr x : Nat} (h : RW w d0 M (S, dr, mi, br, cr)) (hw : isW w) : RW w d0 (siM M 118 0 (nI x)) (S, x, mi, br, cr) := RW_mk (VX_si h.1 hw) siS (siN h.2.2.1 (by omega)) (siN h.2.2.2.1 (by omega)) (siN h.2.2.2.2.1 (by omega)) (siN h.2.2.2.2.2 (by omega))
/-- whether what a WHEN asks is so -/
def soN (S : ST) (s : Nat → Nat) : Bool := if s 3 = 20 then decide (100 ≤ S 2 (s 1)) else if s 3 = 21 then (if s 4 = 60 then decide (hgP S (s 1) < s 2) else if s 4 = 62 then decide (s 2 < hgP S (s 1)) else decide (hgP S (s 1) = s 2)) else decide (hgP S (s 1) = 0)
theorem so_cmp {s : Nat → Nat} {x : Int32} {c : Nat} (hx : x = if s 3 = 21 then nI (s 4) else -1) (h4 : s 3 = 21 → s 4 = 60 ∨ s 4 = 61 ∨ s 4 = 62) (h : x.toInt = (c : Int)) : s 3 = 21 ∧ s 4 = c := by
  by_cases e : s 3 = 21
  · rw [hx, if_pos e, nI_toInt (by rcases h4 e with q | q | q <;> omega)] at h
    exact ⟨e, by omega⟩
  · rw [hx, if_neg e] at h
    exact absurd h (by show ¬ (-1 : Int) = _; omega)
theorem so_def {s : Nat → Nat} {x : Int32} (hx : x = if s 3 = 21 then nI (s 4) else -1) (h4 : s 3 = 21 → s 4 = 60 ∨ s 4 = 61 ∨ s 4 = 62) (h60 : ¬ x.toInt = 60) (h61 : ¬ x.toInt = 61) (h62 : ¬ x.toInt = 62) : ¬ s 3 = 21 := by
  intro e
  rw [hx, if_pos e, nI_toInt (by rcases h4 e with q | q | q <;> omega)] at h60 h61 h62
  rcases h4 e with q | q | q <;> omega

set_option maxRecDepth 100000 in
set_option maxHeartbeats 800000 in
theorem c_X2_draw {M : Mm} {dr n : Nat} (h0 : M.1 118 0 = nI dr) (hdr : dr < 65536) (hn : 0 < n) (hn9 : n < 1000) {Q : Option Value → Mm → Prop} (hQ : Q (some (.int (nI (drw dr / 8 % n)))) (siM M 118 0 (nI (drw dr)))) (d : Nat) : AMt miX2_draw (d) [.ref 118, .int (nI n)] M Q := by
  refine AMt.of (by decide) (Nat.le_of_ble_eq_true rfl) ?_
  show AW miX2_draw (d) (mxA Q) 0 [(0, some (.ref 118)), (1, some (.int (nI n)))] [] M
  refine a_aload_n rfl dX2_draw_0 ?_
  refine a_aload_n rfl dX2_draw_1 ?_
  refine g_i h0 (by decide) rfl fX2_23 rfl dX2_draw_2 ?_
  refine n_sipush 2971 rfl dX2_draw_5 ?_
  refine n_imul dX2_draw_8 ?_
  refine n_sipush 10973 rfl dX2_draw_9 ?_
  refine n_iadd dX2_draw_12 ?_
  refine a_ldc kX2_137 dX2_draw_13 ?_
  refine a_eqi (y := nI 65536) rfl ?_
  refine n_irem (by omega) (by omega) (by omega) dX2_draw_15 ?_
  refine a_puti dX2_draw_16 pX2_23 (by decide) rfl rfl ?_
  refine a_iload_n rfl dX2_draw_19 ?_
  refine n_if_le 35 (by omega) dX2_draw_20 (by decide) (fun h_20 => absurd h_20 (by omega)) (fun h_20 => ?_)
  refine a_aload_n rfl dX2_draw_23 ?_
  refine g_i siS (by decide) rfl fX2_23 rfl dX2_draw_24 ?_
  refine n_bipush 8 rfl dX2_draw_27 ?_
  refine n_idiv (by omega) (by omega) (by omega) dX2_draw_29 ?_
  refine a_iload_n rfl dX2_draw_30 ?_
  refine n_irem (by omega) (by omega) (by omega) dX2_draw_31 ?_
  refine a_goto 36 dX2_draw_32 (by decide) ?_
  refine a_iret dX2_draw_36 rfl ?_
  exact hQ

set_option maxRecDepth 100000 in
set_option maxHeartbeats 800000 in
theorem c_X2_doAny {w d0 : Nat} (hw : isW w) {M : Mm} {S : ST} {dr mi br cr : Nat} (hR : RW w d0 M (S, dr, mi, br, cr)) (hF : WF S) (hd9 : S 0 1 ≤ 9999) (hd0 : d0 ≤ S 0 1) (hdr : dr < 65536) {Q : Option Value → Mm → Prop} (hQ : ∀ M', RW w d0 M' (rAny (S, dr, mi, br, cr)) → FY w M M' → Q none M') (d : Nat) : AMt miX2_doAny (d + 4) [.ref 118, .ref w] M Q := by
  refine AMt.of (by decide) (Nat.le_of_ble_eq_true rfl) ?_
  show AW miX2_doAny (d + 4) (mxA Q) 0 [(0, some (.ref 118)), (1, some (.ref w))] [] M
  obtain ⟨hV, h0, h4, h5, h6, h7⟩ : VX w M S ∧ M.1 118 0 = nI dr ∧ M.1 118 4 = nI mi ∧ M.1 118 5 = nI (S 0 1 - d0) ∧ M.1 118 6 = nI br ∧ M.1 118 7 = nI cr := id hR
  have hww : w = 17 ∨ w = 37 ∨ w = 58 ∨ w = 78 ∨ w = 98 := hw
  have hm := WF_m hF
  have hh := WF_h hF
  have hs := WF_s hF
  have hn := WF_n hF
  have hod := WF_odds hF
  refine a_aload_n rfl dX2_doAny_0 ?_
  refine g_i (VX_2 hV) (isW_lt hw (i := 0) (by decide)) (layW_0 hw) fX2_127 rfl dX2_doAny_1 ?_
  refine n_if_ne 18 (by omega) dX2_doAny_4 (by decide) (fun h_4 => ?_) (fun h_4 => ?_)
  · refine a_aload_n rfl dX2_doAny_18 ?_
    refine a_aload_n rfl dX2_doAny_19 ?_
    refine g_i (VX_2 hV) (isW_lt hw (i := 0) (by decide)) (layW_0 hw) fX2_127 rfl dX2_doAny_20 ?_
    refine n_callV (mi' := miX2_draw) dX2_doAny_23 lX2_130 mX2_draw (by decide) rfl rfl rfl (c_X2_draw h0 hdr (by omega) (by omega) ?_ d) rfl rfl (by omega) (by decide) (Nat.le_of_ble_eq_true rfl)
    show AW _ _ _ _ _ _ _
    have hR1 := RW_dr (x := drw dr) hR hw
    have hmod : drw dr / 8 % S 0 2 < S 0 2 := Nat.mod_lt _ (by omega)
    refine a_istore_n (by decide) rfl dX2_doAny_26 ?_
    refine a_aload_n rfl dX2_doAny_27 ?_
    refine n_bipush 16 rfl dX2_doAny_28 ?_
    refine n_callV (mi' := miX2_draw) dX2_doAny_30 lX2_130 mX2_draw (by decide) rfl rfl rfl (c_X2_draw siS (drw_lt _) (by omega) (by omega) ?_ d) rfl rfl (by omega) (by decide) (Nat.le_of_ble_eq_true rfl)
    show AW _ _ _ _ _ _ _
    have hR2 := RW_dr (x := drw (drw dr)) hR1 hw
    refine a_aload_n rfl dX2_doAny_33 ?_
    refine g_i (siN (siN (VX_0 hV) (by omega)) (by omega)) (isW_lt hw (i := 0) (by decide)) (layW_0 hw) fX2_134 rfl dX2_doAny_34 ?_
    refine n_icmp_ge 57 (by omega) (by omega) dX2_doAny_37 (by decide) (fun h_37 => ?_) (fun h_37 => ?_)
    · refine a_aload_n rfl dX2_doAny_57 ?_
      refine a_aload_n rfl dX2_doAny_58 ?_
      refine n_iconst 1 rfl dX2_doAny_59 ?_
      refine n_callV (mi' := miX2_doDays) dX2_doAny_60 lX2_75 mX2_doDays (by decide) rfl rfl rfl (c_X2_doDays hw hR2 hF hd9 hd0 (drw_lt _) (n := 1) (by omega) (fun M_60 hr_60 hf_60 => ?_) d) rfl rfl (by omega) (by decide) (Nat.le_of_ble_eq_true rfl)
      show AW _ _ _ _ _ _ _
      refine a_vret dX2_doAny_63 rfl ?_
      exact hQ _ (by rw [show rAny (S, dr, mi, br, cr) = rDay 1 (S, drw (drw dr), mi, br, cr) from (if_neg h_4).trans (if_neg (show ¬ drw (drw dr) / 8 % 16 < S 0 0 by omega))]; exact hr_60) (((fr.r.si (by unfold fyP; omega)).si (by unfold fyP; omega)).t hf_60)
    · refine a_aload_n rfl dX2_doAny_40 ?_
      refine a_aload_n rfl dX2_doAny_41 ?_
      refine a_iload_n rfl dX2_doAny_42 ?_
      refine a_aload_n rfl dX2_doAny_43 ?_
      refine n_bipush 50 rfl dX2_doAny_44 ?_
      refine n_callV (mi' := miX2_draw) dX2_doAny_46 lX2_130 mX2_draw (by decide) rfl rfl rfl (c_X2_draw siS (drw_lt _) (by omega) (by omega) ?_ d) rfl rfl (by omega) (by decide) (Nat.le_of_ble_eq_true rfl)
      show AW _ _ _ _ _ _ _
      have hR3 := RW_dr (x := drw (drw (drw dr))) hR2 hw
      refine n_iconst 1 rfl dX2_doAny_49 ?_
      refine n_iadd dX2_doAny_50 ?_
      refine n_callV (mi' := miX2_doCrisis) dX2_doAny_51 lX2_82 mX2_doCrisis (by decide) rfl rfl rfl (c_X2_doCrisis hw hR3 hF hd9 hd0 (drw_lt _) hmod (by omega) (fun M_51 hr_51 hf_51 => ?_) d) rfl rfl (by omega) (by decide) (Nat.le_of_ble_eq_true rfl)
      show AW _ _ _ _ _ _ _
      refine a_goto 63 dX2_doAny_54 (by decide) ?_
      refine a_vret dX2_doAny_63 rfl ?_
      exact hQ _ (by rw [show rAny (S, dr, mi, br, cr) = rCr (drw dr / 8 % S 0 2) (drw (drw (drw dr)) / 8 % 50 + 1) (S, drw (drw (drw dr)), mi, br, cr) from (if_neg h_4).trans (if_pos (show drw (drw dr) / 8 % 16 < S 0 0 by omega))]; exact hr_51) ((((fr.r.si (by unfold fyP; omega)).si (by unfold fyP; omega)).si (by unfold fyP; omega)).t hf_51)
  · refine a_aload_n rfl dX2_doAny_7 ?_
    refine a_dup rfl dX2_doAny_8 ?_
    refine g_i h4 (by decide) rfl fX2_33 rfl dX2_doAny_9 ?_
    refine n_iconst 1 rfl dX2_doAny_12 ?_
    refine n_iadd dX2_doAny_13 ?_
    refine a_puti dX2_doAny_14 pX2_33 (by decide) rfl rfl ?_
    refine a_vret dX2_doAny_17 rfl ?_
    exact hQ _ (by rw [show rAny (S, dr, mi, br, cr) = (S, dr, mi + 1, br, cr) from if_pos h_4]; exact RW_mk (VX_si hV hw) (siN h0 (by omega)) siS (siN h5 (by omega)) (siN h6 (by omega)) (siN h7 (by omega))) (fr.r.si (by unfold fyP; omega))

set_option maxRecDepth 100000 in
set_option maxHeartbeats 800000 in
theorem c_X2_isSo {w : Nat} (hw : isW w) {M : Mm} {S : ST} (hV : VX w M S) (hF : WF S) {s : Nat → Nat} {i : Nat} (hi : i < 60) (hy1 : M.1 (w + 16) i = nI (s 1)) (hy2 : M.1 (w + 18) i = nI (s 2)) (hy3 : M.1 (w + 15) i = nI (s 3)) (hy4 : M.1 (w + 17) i = if s 3 = 21 then nI (s 4) else -1) (h3 : 19 ≤ s 3 ∧ s 3 ≤ 21) (hm20 : s 3 = 20 → s 1 < S 0 2) (hm19 : s 3 ≠ 20 → s 1 < S 0 4) (h2 : s 3 = 21 → s 2 ≤ 99) (h4 : s 3 = 21 → s 4 = 60 ∨ s 4 = 61 ∨ s 4 = 62) {Q : Option Value → Mm → Prop} (h1 : soN S s = true → Q (some (.int (nI 1))) M) (h0 : soN S s = false → Q (some (.int (nI 0))) M) (d : Nat) : AMt miX2_isSo (d + 2) [.ref w, .ref (w + 13), .int (nI i)] M Q := by
  refine AMt.of (by decide) (Nat.le_of_ble_eq_true rfl) ?_
  show AW miX2_isSo (d + 2) (mxA Q) 0 [(0, some (.ref w)), (1, some (.ref (w + 13))), (2, some (.int (nI i)))] [] M
  have hm := WF_m hF
  have hh := WF_h hF
  have hs := WF_s hF
  have hn := WF_n hF
  have hb1 : s 1 < 7 := by
    by_cases e : s 3 = 20
    · have := hm20 e; omega
    · have := hm19 e; omega
  refine a_aload_n rfl dX2_isSo_0 ?_
  refine a_geta dX2_isSo_1 fX2_69 (isW_lt hw (i := 13) (by decide)) (layW_13 hw) rfl ?_
  refine a_iload_n rfl dX2_isSo_4 ?_
  refine v_iald (by omega) hy1 (isW_lt hw (i := 16) (by decide)) (layW_16 hw) (by decide) dX2_isSo_5 ?_
  refine a_istore_n (by decide) rfl dX2_isSo_6 ?_
  refine a_aload_n rfl dX2_isSo_7 ?_
  refine a_geta dX2_isSo_8 fX2_138 (isW_lt hw (i := 13) (by decide)) (layW_13 hw) rfl ?_
  refine a_iload_n rfl dX2_isSo_11 ?_
  refine v_iald (by omega) hy3 (isW_lt hw (i := 15) (by decide)) (layW_15 hw) (by decide) dX2_isSo_12 ?_
  refine n_bipush 20 rfl dX2_isSo_13 ?_
  refine n_icmp_ne 43 (by omega) (by omega) dX2_isSo_15 (by decide) (fun h_15 => ?_) (fun h_15 => ?_)
  · refine a_aload_n rfl dX2_isSo_43 ?_
    refine a_iload_n rfl dX2_isSo_44 ?_
    refine n_callV (mi' := miX6_hasSitter) dX2_isSo_45 lX2_121 mX6_hasSitter (isW_lt hw (i := 0) (by decide)) (layW_0 hw) rfl rfl (c_X6_hasSitterN hw hV hF (by omega) (fun h_45 => ?_) (fun h_45 => ?_) d) rfl rfl (by omega) (by decide) (Nat.le_of_ble_eq_true rfl)
    · show AW _ _ _ _ _ _ _
      refine n_if_eq 59 (by decide) dX2_isSo_48 (by decide) (fun h => absurd h (by decide)) (fun _ => ?_)
      refine a_aload_n rfl dX2_isSo_51 ?_
      refine a_iload_n rfl dX2_isSo_52 ?_
      refine n_callV (mi' := miX6_heightNow) dX2_isSo_53 lX2_141 mX6_heightNow (isW_lt hw (i := 0) (by decide)) (layW_0 hw) rfl rfl (c_X6_heightNow hw hV hF (by omega) ?_ d) rfl rfl (by omega) (by decide) (Nat.le_of_ble_eq_true rfl)
      show AW _ _ _ _ _ _ _
      have hhl := hgt_le (S 6 (s 1)) (S 2 (S 7 (s 1)))
      have htl := WF_tall hF (s 1) h_45
      have hgE : hgP S (s 1) = hgt (S 6 (s 1)) (S 2 (S 7 (s 1))) := rfl
      refine a_goto 60 dX2_isSo_56 (by decide) ?_
      refine a_istore (by decide) rfl dX2_isSo_60 ?_
      refine a_aload_n rfl dX2_isSo_62 ?_
      refine a_geta dX2_isSo_63 fX2_144 (isW_lt hw (i := 13) (by decide)) (layW_13 hw) rfl ?_
      refine a_iload_n rfl dX2_isSo_66 ?_
      refine n_iald (by omega) (isW_lt hw (i := 17) (by decide)) (layW_17 hw) (by decide) dX2_isSo_67 ?_
      by_cases hs_68_60 : (M.1 (w + 17) i).toInt = 60
      · refine a_tabIn 96 dX2_isSo_68 (by omega) (by omega) (by rw [hs_68_60]; rfl) (by decide) ?_
        refine a_iload rfl dX2_isSo_96 ?_
        have h29 : s 2 ≤ 99 := h2 (so_cmp (c := 60) hy4 h4 hs_68_60).1
        refine a_aload_n rfl dX2_isSo_98 ?_
        refine a_geta dX2_isSo_99 fX2_72 (isW_lt hw (i := 13) (by decide)) (layW_13 hw) rfl ?_
        refine a_iload_n rfl dX2_isSo_102 ?_
        refine v_iald (by omega) hy2 (isW_lt hw (i := 18) (by decide)) (layW_18 hw) (by decide) dX2_isSo_103 ?_
        refine n_icmp_ge 111 (by omega) (by omega) dX2_isSo_104 (by decide) (fun h_104 => ?_) (fun h_104 => ?_)
        · refine n_iconst 0 rfl dX2_isSo_111 ?_
          refine a_zret dX2_isSo_112 rfl (Or.inl rfl) ?_
          obtain ⟨hc3, hc4⟩ := so_cmp (c := 60) hy4 h4 hs_68_60
          exact h0 (by unfold soN; rw [if_neg h_15, if_pos hc3, if_pos hc4]; exact decide_eq_false (by omega))
        · refine n_iconst 1 rfl dX2_isSo_107 ?_
          refine a_goto 112 dX2_isSo_108 (by decide) ?_
          refine a_zret dX2_isSo_112 rfl (Or.inr rfl) ?_
          obtain ⟨hc3, hc4⟩ := so_cmp (c := 60) hy4 h4 hs_68_60
          exact h1 (by unfold soN; rw [if_neg h_15, if_pos hc3, if_pos hc4]; exact decide_eq_true (by omega))
      by_cases hs_68_61 : (M.1 (w + 17) i).toInt = 61
      · refine a_tabIn 130 dX2_isSo_68 (by omega) (by omega) (by rw [hs_68_61]; rfl) (by decide) ?_
        refine a_iload rfl dX2_isSo_130 ?_
        have h29 : s 2 ≤ 99 := h2 (so_cmp (c := 61) hy4 h4 hs_68_61).1
        refine a_aload_n rfl dX2_isSo_132 ?_
        refine a_geta dX2_isSo_133 fX2_72 (isW_lt hw (i := 13) (by decide)) (layW_13 hw) rfl ?_
        refine a_iload_n rfl dX2_isSo_136 ?_
        refine v_iald (by omega) hy2 (isW_lt hw (i := 18) (by decide)) (layW_18 hw) (by decide) dX2_isSo_137 ?_
        refine n_icmp_ne 145 (by omega) (by omega) dX2_isSo_138 (by decide) (fun h_138 => ?_) (fun h_138 => ?_)
        · refine n_iconst 0 rfl dX2_isSo_145 ?_
          refine a_zret dX2_isSo_146 rfl (Or.inl rfl) ?_
          obtain ⟨hc3, hc4⟩ := so_cmp (c := 61) hy4 h4 hs_68_61
          exact h0 (by unfold soN; rw [if_neg h_15, if_pos hc3, if_neg (by omega), if_neg (by omega)]; exact decide_eq_false (by omega))
        · refine n_iconst 1 rfl dX2_isSo_141 ?_
          refine a_goto 146 dX2_isSo_142 (by decide) ?_
          refine a_zret dX2_isSo_146 rfl (Or.inr rfl) ?_
          obtain ⟨hc3, hc4⟩ := so_cmp (c := 61) hy4 h4 hs_68_61
          exact h1 (by unfold soN; rw [if_neg h_15, if_pos hc3, if_neg (by omega), if_neg (by omega)]; exact decide_eq_true (by omega))
      by_cases hs_68_62 : (M.1 (w + 17) i).toInt = 62
      · refine a_tabIn 113 dX2_isSo_68 (by omega) (by omega) (by rw [hs_68_62]; rfl) (by decide) ?_
        refine a_iload rfl dX2_isSo_113 ?_
        have h29 : s 2 ≤ 99 := h2 (so_cmp (c := 62) hy4 h4 hs_68_62).1
        refine a_aload_n rfl dX2_isSo_115 ?_
        refine a_geta dX2_isSo_116 fX2_72 (isW_lt hw (i := 13) (by decide)) (layW_13 hw) rfl ?_
        refine a_iload_n rfl dX2_isSo_119 ?_
        refine v_iald (by omega) hy2 (isW_lt hw (i := 18) (by decide)) (layW_18 hw) (by decide) dX2_isSo_120 ?_
        refine n_icmp_le 128 (by omega) (by omega) dX2_isSo_121 (by decide) (fun h_121 => ?_) (fun h_121 => ?_)
        · refine n_iconst 0 rfl dX2_isSo_128 ?_
          refine a_zret dX2_isSo_129 rfl (Or.inl rfl) ?_
          obtain ⟨hc3, hc4⟩ := so_cmp (c := 62) hy4 h4 hs_68_62
          exact h0 (by unfold soN; rw [if_neg h_15, if_pos hc3, if_neg (by omega), if_pos hc4]; exact decide_eq_false (by omega))
        · refine n_iconst 1 rfl dX2_isSo_124 ?_
          refine a_goto 129 dX2_isSo_125 (by decide) ?_
          refine a_zret dX2_isSo_129 rfl (Or.inr rfl) ?_
          obtain ⟨hc3, hc4⟩ := so_cmp (c := 62) hy4 h4 hs_68_62
          exact h1 (by unfold soN; rw [if_neg h_15, if_pos hc3, if_neg (by omega), if_pos hc4]; exact decide_eq_true (by omega))
      refine a_tabOut 147 dX2_isSo_68 (by omega) (by decide) ?_
      refine a_iload rfl dX2_isSo_147 ?_
      refine n_if_ne 156 (by omega) dX2_isSo_149 (by decide) (fun h_149 => ?_) (fun h_149 => ?_)
      · refine n_iconst 0 rfl dX2_isSo_156 ?_
        refine a_zret dX2_isSo_157 rfl (Or.inl rfl) ?_
        have hn21 := so_def hy4 h4 hs_68_60 hs_68_61 hs_68_62
        exact h0 (by unfold soN; rw [if_neg h_15, if_neg hn21]; exact decide_eq_false (by omega))
      · refine n_iconst 1 rfl dX2_isSo_152 ?_
        refine a_goto 157 dX2_isSo_153 (by decide) ?_
        refine a_zret dX2_isSo_157 rfl (Or.inr rfl) ?_
        have hn21 := so_def hy4 h4 hs_68_60 hs_68_61 hs_68_62
        exact h1 (by unfold soN; rw [if_neg h_15, if_neg hn21]; exact decide_eq_true (by omega))
    · show AW _ _ _ _ _ _ _
      refine n_if_eq 59 (by decide) dX2_isSo_48 (by decide) (fun _ => ?_) (fun h => absurd h (by decide))
      refine n_iconst 0 rfl dX2_isSo_59 ?_
      refine a_istore (by decide) rfl dX2_isSo_60 ?_
      refine a_aload_n rfl dX2_isSo_62 ?_
      refine a_geta dX2_isSo_63 fX2_144 (isW_lt hw (i := 13) (by decide)) (layW_13 hw) rfl ?_
      refine a_iload_n rfl dX2_isSo_66 ?_
      refine n_iald (by omega) (isW_lt hw (i := 17) (by decide)) (layW_17 hw) (by decide) dX2_isSo_67 ?_
      by_cases hs_68_60 : (M.1 (w + 17) i).toInt = 60
      · refine a_tabIn 96 dX2_isSo_68 (by omega) (by omega) (by rw [hs_68_60]; rfl) (by decide) ?_
        refine a_iload rfl dX2_isSo_96 ?_
        have h29 : s 2 ≤ 99 := h2 (so_cmp (c := 60) hy4 h4 hs_68_60).1
        refine a_aload_n rfl dX2_isSo_98 ?_
        refine a_geta dX2_isSo_99 fX2_72 (isW_lt hw (i := 13) (by decide)) (layW_13 hw) rfl ?_
        refine a_iload_n rfl dX2_isSo_102 ?_
        refine v_iald (by omega) hy2 (isW_lt hw (i := 18) (by decide)) (layW_18 hw) (by decide) dX2_isSo_103 ?_
        refine n_icmp_ge 111 (by omega) (by omega) dX2_isSo_104 (by decide) (fun h_104 => ?_) (fun h_104 => ?_)
        · refine n_iconst 0 rfl dX2_isSo_111 ?_
          refine a_zret dX2_isSo_112 rfl (Or.inl rfl) ?_
          exact absurd (hm19 h_15) h_45
        · refine n_iconst 1 rfl dX2_isSo_107 ?_
          refine a_goto 112 dX2_isSo_108 (by decide) ?_
          refine a_zret dX2_isSo_112 rfl (Or.inr rfl) ?_
          exact absurd (hm19 h_15) h_45
      by_cases hs_68_61 : (M.1 (w + 17) i).toInt = 61
      · refine a_tabIn 130 dX2_isSo_68 (by omega) (by omega) (by rw [hs_68_61]; rfl) (by decide) ?_
        refine a_iload rfl dX2_isSo_130 ?_
        have h29 : s 2 ≤ 99 := h2 (so_cmp (c := 61) hy4 h4 hs_68_61).1
        refine a_aload_n rfl dX2_isSo_132 ?_
        refine a_geta dX2_isSo_133 fX2_72 (isW_lt hw (i := 13) (by decide)) (layW_13 hw) rfl ?_
        refine a_iload_n rfl dX2_isSo_136 ?_
        refine v_iald (by omega) hy2 (isW_lt hw (i := 18) (by decide)) (layW_18 hw) (by decide) dX2_isSo_137 ?_
        refine n_icmp_ne 145 (by omega) (by omega) dX2_isSo_138 (by decide) (fun h_138 => ?_) (fun h_138 => ?_)
        · refine n_iconst 0 rfl dX2_isSo_145 ?_
          refine a_zret dX2_isSo_146 rfl (Or.inl rfl) ?_
          exact absurd (hm19 h_15) h_45
        · refine n_iconst 1 rfl dX2_isSo_141 ?_
          refine a_goto 146 dX2_isSo_142 (by decide) ?_
          refine a_zret dX2_isSo_146 rfl (Or.inr rfl) ?_
          exact absurd (hm19 h_15) h_45
      by_cases hs_68_62 : (M.1 (w + 17) i).toInt = 62
      · refine a_tabIn 113 dX2_isSo_68 (by omega) (by omega) (by rw [hs_68_62]; rfl) (by decide) ?_
        refine a_iload rfl dX2_isSo_113 ?_
        have h29 : s 2 ≤ 99 := h2 (so_cmp (c := 62) hy4 h4 hs_68_62).1
        refine a_aload_n rfl dX2_isSo_115 ?_
        refine a_geta dX2_isSo_116 fX2_72 (isW_lt hw (i := 13) (by decide)) (layW_13 hw) rfl ?_
        refine a_iload_n rfl dX2_isSo_119 ?_
        refine v_iald (by omega) hy2 (isW_lt hw (i := 18) (by decide)) (layW_18 hw) (by decide) dX2_isSo_120 ?_
        refine n_icmp_le 128 (by omega) (by omega) dX2_isSo_121 (by decide) (fun h_121 => ?_) (fun h_121 => ?_)
        · refine n_iconst 0 rfl dX2_isSo_128 ?_
          refine a_zret dX2_isSo_129 rfl (Or.inl rfl) ?_
          exact absurd (hm19 h_15) h_45
        · refine n_iconst 1 rfl dX2_isSo_124 ?_
          refine a_goto 129 dX2_isSo_125 (by decide) ?_
          refine a_zret dX2_isSo_129 rfl (Or.inr rfl) ?_
          exact absurd (hm19 h_15) h_45
      refine a_tabOut 147 dX2_isSo_68 (by omega) (by decide) ?_
      refine a_iload rfl dX2_isSo_147 ?_
      refine n_if_ne 156 (by decide) dX2_isSo_149 (by decide) (fun h => absurd h (by decide)) (fun _ => ?_)
      refine n_iconst 1 rfl dX2_isSo_152 ?_
      refine a_goto 157 dX2_isSo_153 (by decide) ?_
      refine a_zret dX2_isSo_157 rfl (Or.inr rfl) ?_
      exact absurd (hm19 h_15) h_45
  · refine a_aload_n rfl dX2_isSo_18 ?_
    refine a_iload_n rfl dX2_isSo_19 ?_
    refine n_callV (mi' := miX6_hasMatter) dX2_isSo_20 lX2_111 mX6_hasMatter (isW_lt hw (i := 0) (by decide)) (layW_0 hw) rfl rfl (c_X6_hasMatterN hw hV hF (by omega) (fun h_20 => ?_) (fun h_20 => ?_) d) rfl rfl (by omega) (by decide) (Nat.le_of_ble_eq_true rfl)
    · show AW _ _ _ _ _ _ _
      refine n_if_eq 41 (by decide) dX2_isSo_23 (by decide) (fun h => absurd h (by decide)) (fun _ => ?_)
      refine a_aload_n rfl dX2_isSo_26 ?_
      refine a_geta dX2_isSo_27 fX2_114 (isW_lt hw (i := 0) (by decide)) (layW_0 hw) rfl ?_
      have hcl := WF_clear hF (s 1) h_20
      refine a_iload_n rfl dX2_isSo_30 ?_
      refine v_iald (by omega) (VX_a3 hV (by omega)) (isW_lt hw (i := 3) (by decide)) (layW_3 hw) (by decide) dX2_isSo_31 ?_
      refine n_bipush 100 rfl dX2_isSo_32 ?_
      refine n_icmp_lt 41 (by omega) (by omega) dX2_isSo_34 (by decide) (fun h_34 => ?_) (fun h_34 => ?_)
      · refine n_iconst 0 rfl dX2_isSo_41 ?_
        refine a_zret dX2_isSo_42 rfl (Or.inl rfl) ?_
        exact h0 (by unfold soN; rw [if_pos h_15]; exact decide_eq_false (by omega))
      · refine n_iconst 1 rfl dX2_isSo_37 ?_
        refine a_goto 42 dX2_isSo_38 (by decide) ?_
        refine a_zret dX2_isSo_42 rfl (Or.inr rfl) ?_
        exact h1 (by unfold soN; rw [if_pos h_15]; exact decide_eq_true (by omega))
    · show AW _ _ _ _ _ _ _
      refine n_if_eq 41 (by decide) dX2_isSo_23 (by decide) (fun _ => ?_) (fun h => absurd h (by decide))
      refine n_iconst 0 rfl dX2_isSo_41 ?_
      refine a_zret dX2_isSo_42 rfl (Or.inl rfl) ?_
      exact absurd (hm20 h_15) h_20

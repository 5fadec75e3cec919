theorem RW_at {w d0 : Nat} {M : Mm} {R : RN} {j : Nat} {x : Int32} (h : RW w d0 M R) (hw : isW w) (hj : j = 1 ∨ j = 3 ∨ j = 8) : RW w d0 (siM M 118 j x) R := ⟨VX_si h.1 hw, siN h.2.1 (by omega), siN h.2.2.1 (by omega), siN h.2.2.2.1 (by omega), siN h.2.2.2.2.1 (by omega), siN h.2.2.2.2.2 (by omega)⟩
theorem RW_tl {w d0 : Nat} {M : Mm} {R : RN} {j : Nat} {x : Int32} (h : RW w d0 M R) (hw : isW w) : RW w d0 (siM M 119 j x) R := ⟨VX_fr h.1 (fun k i a b => siN rfl (by unfold isW at hw; omega)), siN h.2.1 (by omega), siN h.2.2.1 (by omega), siN h.2.2.2.1 (by omega), siN h.2.2.2.2.1 (by omega), siN h.2.2.2.2.2 (by omega)⟩
def gyP (w k j : Nat) : Prop := fyP w k j ∨ (k = 118 ∧ j = 1) ∨ k = 119
abbrev GY (w : Nat) (M M1 : Mm) : Prop := fr (gyP w) M M1
def upT (tl : Nat → Int32) (a : Nat) (x : Int32) : Nat → Int32 := fun j => if j = a then x else tl j
theorem upT_si {M : Mm} {tl : Nat → Int32} {a : Nat} {x : Int32} (h : ∀ j, M.1 119 j = tl j) : ∀ j, (siM M 119 a x).1 119 j = upT tl a x j := by
  intro j
  by_cases e : j = a
  · subst e; rw [siS]; exact (if_pos rfl).symm
  · rw [siN (h j) (by omega)]; exact (if_neg e).symm

set_option maxRecDepth 100000 in
set_option maxHeartbeats 800000 in
theorem c_doStep13 {w d0 : Nat} (hw : isW w) {M : Mm} {S : ST} {dr mi br cr : Nat} (hR : RW w d0 M (S, dr, mi, br, cr)) (hF : WF S) (hd9 : S 0 1 ≤ 9999) (hd0 : d0 ≤ S 0 1) (hdr : dr < 65536) {a : Nat} {s : Nat → Nat} {tl : Nat → Int32} (ha60 : a < 60) (hat : M.1 118 1 = nI a) (htl : ∀ j, M.1 119 j = tl j) (hyv : M.1 (w + 14) a = nI (s 0)) (hyn : M.1 (w + 18) a = nI (s 2)) (hv : s 0 = 13) (h2 : s 2 ≤ 40) {Q : Option Value → Mm → Prop} (hQ : ∀ M', RW w d0 M' (rDay (s 2) (S, dr, mi, br, cr)) → M'.1 118 1 = nI (a + 1) → (∀ j, M'.1 119 j = tl j) → GY w M M' → Q none M') (d : Nat) : AMt miX2_doStep (d + 6) [.ref 118, .ref w, .ref (w + 13)] M Q := by
  refine AMt.of (by decide) (Nat.le_of_ble_eq_true rfl) ?_
  show AW miX2_doStep (d + 6) (mxA Q) 0 [(0, some (.ref 118)), (1, some (.ref w)), (2, some (.ref (w + 13)))] [] M
  obtain ⟨hV, h0, h4, h5, h6, h7⟩ : VX w M S ∧ M.1 118 0 = nI dr ∧ M.1 118 4 = nI mi ∧ M.1 118 5 = nI (S 0 1 - d0) ∧ M.1 118 6 = nI br ∧ M.1 118 7 = nI cr := id hR
  have hww : w = 17 ∨ w = 37 ∨ w = 58 ∨ w = 78 ∨ w = 98 := hw
  have hm := WF_m hF
  have hh := WF_h hF
  have hs := WF_s hF
  have hn := WF_n hF
  have hR1 := RW_at (j := 1) (x := nI (a + 1)) hR hw (Or.inl rfl)
  refine a_aload_n rfl dX2_doStep_0 ?_
  refine g_i hat (by decide) rfl fX2_27 rfl dX2_doStep_1 ?_
  refine a_istore_n (by decide) rfl dX2_doStep_4 ?_
  refine a_aload_n rfl dX2_doStep_5 ?_
  refine a_geta dX2_doStep_6 fX2_69 (isW_lt hw (i := 13) (by decide)) (layW_13 hw) rfl ?_
  refine a_iload_n rfl dX2_doStep_9 ?_
  refine n_iald (by omega) (isW_lt hw (i := 16) (by decide)) (layW_16 hw) (by decide) dX2_doStep_10 ?_
  refine a_istore (by decide) rfl dX2_doStep_11 ?_
  refine a_aload_n rfl dX2_doStep_13 ?_
  refine a_geta dX2_doStep_14 fX2_72 (isW_lt hw (i := 13) (by decide)) (layW_13 hw) rfl ?_
  refine a_iload_n rfl dX2_doStep_17 ?_
  refine v_iald (by omega) hyn (isW_lt hw (i := 18) (by decide)) (layW_18 hw) (by decide) dX2_doStep_18 ?_
  refine a_istore (by decide) rfl dX2_doStep_19 ?_
  refine a_aload_n rfl dX2_doStep_21 ?_
  refine a_iload_n rfl dX2_doStep_22 ?_
  refine n_iconst 1 rfl dX2_doStep_23 ?_
  refine n_iadd dX2_doStep_24 ?_
  refine a_puti dX2_doStep_25 pX2_27 (by decide) rfl rfl ?_
  refine a_aload_n rfl dX2_doStep_28 ?_
  refine a_geta dX2_doStep_29 fX2_53 (isW_lt hw (i := 13) (by decide)) (layW_13 hw) rfl ?_
  refine a_iload_n rfl dX2_doStep_32 ?_
  refine v_iald (by omega) (siN (hyv.trans (congrArg nI hv)) (by omega)) (isW_lt hw (i := 14) (by decide)) (layW_14 hw) (by decide) dX2_doStep_33 ?_
  refine a_tabIn 88 dX2_doStep_34 (by decide) (by decide) rfl (by decide) ?_
  refine a_aload_n rfl dX2_doStep_88 ?_
  refine a_aload_n rfl dX2_doStep_89 ?_
  refine a_iload rfl dX2_doStep_90 ?_
  refine n_callV (mi' := miX2_doDays) dX2_doStep_92 lX2_75 mX2_doDays (by decide) rfl rfl rfl (c_X2_doDays hw hR1 hF hd9 hd0 hdr (by omega) (fun M_92 hr_92 hf_92 => ?_) d) rfl rfl (by omega) (by decide) (Nat.le_of_ble_eq_true rfl)
  show AW _ _ _ _ _ _ _
  refine a_goto 189 dX2_doStep_95 (by decide) ?_
  refine a_vret dX2_doStep_189 rfl ?_
  exact hQ _ hr_92 (((hf_92 118 1 (by unfold fyP; omega)).1).trans siS) (fun j => ((hf_92 119 j (by unfold fyP; omega)).1).trans ((siN rfl (by omega)).trans (htl j))) ((fr.r.si (Or.inr (Or.inl ⟨rfl, rfl⟩))).t (hf_92.mo (fun k j h => Or.inl h)))

set_option maxRecDepth 100000 in
set_option maxHeartbeats 800000 in
theorem c_doStep14 {w d0 : Nat} (hw : isW w) {M : Mm} {S : ST} {dr mi br cr : Nat} (hR : RW w d0 M (S, dr, mi, br, cr)) (hF : WF S) (hd9 : S 0 1 ≤ 9999) (hd0 : d0 ≤ S 0 1) (hdr : dr < 65536) {a : Nat} {s : Nat → Nat} {tl : Nat → Int32} (ha60 : a < 60) (hat : M.1 118 1 = nI a) (htl : ∀ j, M.1 119 j = tl j) (hyv : M.1 (w + 14) a = nI (s 0)) (hyn : M.1 (w + 18) a = nI (s 2)) (hv : s 0 = 14) (h2 : s 2 ≤ 7) {Q : Option Value → Mm → Prop} (hQ : ∀ M', RW w d0 M' (rBr (s 2) (S, dr, mi, br, cr)) → M'.1 118 1 = nI (a + 1) → (∀ j, M'.1 119 j = tl j) → GY w M M' → Q none M') (d : Nat) : AMt miX2_doStep (d + 6) [.ref 118, .ref w, .ref (w + 13)] M Q := by
  refine AMt.of (by decide) (Nat.le_of_ble_eq_true rfl) ?_
  show AW miX2_doStep (d + 6) (mxA Q) 0 [(0, some (.ref 118)), (1, some (.ref w)), (2, some (.ref (w + 13)))] [] M
  obtain ⟨hV, h0, h4, h5, h6, h7⟩ : VX w M S ∧ M.1 118 0 = nI dr ∧ M.1 118 4 = nI mi ∧ M.1 118 5 = nI (S 0 1 - d0) ∧ M.1 118 6 = nI br ∧ M.1 118 7 = nI cr := id hR
  have hww : w = 17 ∨ w = 37 ∨ w = 58 ∨ w = 78 ∨ w = 98 := hw
  have hm := WF_m hF
  have hh := WF_h hF
  have hs := WF_s hF
  have hn := WF_n hF
  have hR1 := RW_at (j := 1) (x := nI (a + 1)) hR hw (Or.inl rfl)
  refine a_aload_n rfl dX2_doStep_0 ?_
  refine g_i hat (by decide) rfl fX2_27 rfl dX2_doStep_1 ?_
  refine a_istore_n (by decide) rfl dX2_doStep_4 ?_
  refine a_aload_n rfl dX2_doStep_5 ?_
  refine a_geta dX2_doStep_6 fX2_69 (isW_lt hw (i := 13) (by decide)) (layW_13 hw) rfl ?_
  refine a_iload_n rfl dX2_doStep_9 ?_
  refine n_iald (by omega) (isW_lt hw (i := 16) (by decide)) (layW_16 hw) (by decide) dX2_doStep_10 ?_
  refine a_istore (by decide) rfl dX2_doStep_11 ?_
  refine a_aload_n rfl dX2_doStep_13 ?_
  refine a_geta dX2_doStep_14 fX2_72 (isW_lt hw (i := 13) (by decide)) (layW_13 hw) rfl ?_
  refine a_iload_n rfl dX2_doStep_17 ?_
  refine v_iald (by omega) hyn (isW_lt hw (i := 18) (by decide)) (layW_18 hw) (by decide) dX2_doStep_18 ?_
  refine a_istore (by decide) rfl dX2_doStep_19 ?_
  refine a_aload_n rfl dX2_doStep_21 ?_
  refine a_iload_n rfl dX2_doStep_22 ?_
  refine n_iconst 1 rfl dX2_doStep_23 ?_
  refine n_iadd dX2_doStep_24 ?_
  refine a_puti dX2_doStep_25 pX2_27 (by decide) rfl rfl ?_
  refine a_aload_n rfl dX2_doStep_28 ?_
  refine a_geta dX2_doStep_29 fX2_53 (isW_lt hw (i := 13) (by decide)) (layW_13 hw) rfl ?_
  refine a_iload_n rfl dX2_doStep_32 ?_
  refine v_iald (by omega) (siN (hyv.trans (congrArg nI hv)) (by omega)) (isW_lt hw (i := 14) (by decide)) (layW_14 hw) (by decide) dX2_doStep_33 ?_
  refine a_tabIn 98 dX2_doStep_34 (by decide) (by decide) rfl (by decide) ?_
  refine a_aload_n rfl dX2_doStep_98 ?_
  refine a_aload_n rfl dX2_doStep_99 ?_
  refine a_iload rfl dX2_doStep_100 ?_
  refine n_callV (mi' := miX2_doBring) dX2_doStep_102 lX2_79 mX2_doBring (by decide) rfl rfl rfl (c_X2_doBring hw hR1 hF hd9 hd0 hdr (by omega) (fun M_102 hr_102 hf_102 => ?_) d) rfl rfl (by omega) (by decide) (Nat.le_of_ble_eq_true rfl)
  show AW _ _ _ _ _ _ _
  refine a_goto 189 dX2_doStep_105 (by decide) ?_
  refine a_vret dX2_doStep_189 rfl ?_
  exact hQ _ hr_102 (((hf_102 118 1 (by unfold fyP; omega)).1).trans siS) (fun j => ((hf_102 119 j (by unfold fyP; omega)).1).trans ((siN rfl (by omega)).trans (htl j))) ((fr.r.si (Or.inr (Or.inl ⟨rfl, rfl⟩))).t (hf_102.mo (fun k j h => Or.inl h)))

set_option maxRecDepth 100000 in
set_option maxHeartbeats 800000 in
theorem c_doStep15 {w d0 : Nat} (hw : isW w) {M : Mm} {S : ST} {dr mi br cr : Nat} (hR : RW w d0 M (S, dr, mi, br, cr)) (hF : WF S) (hd9 : S 0 1 ≤ 9999) (hd0 : d0 ≤ S 0 1) (hdr : dr < 65536) {a : Nat} {s : Nat → Nat} {tl : Nat → Int32} (ha60 : a < 60) (hat : M.1 118 1 = nI a) (htl : ∀ j, M.1 119 j = tl j) (hyv : M.1 (w + 14) a = nI (s 0)) (hyn : M.1 (w + 18) a = nI (s 2)) (hv : s 0 = 15) (hyw : M.1 (w + 16) a = nI (s 1)) (h1 : s 1 < S 0 2) (h2 : s 2 ≤ 100) {Q : Option Value → Mm → Prop} (hQ : ∀ M', RW w d0 M' (rCr (s 1) (s 2) (S, dr, mi, br, cr)) → M'.1 118 1 = nI (a + 1) → (∀ j, M'.1 119 j = tl j) → GY w M M' → Q none M') (d : Nat) : AMt miX2_doStep (d + 6) [.ref 118, .ref w, .ref (w + 13)] M Q := by
  refine AMt.of (by decide) (Nat.le_of_ble_eq_true rfl) ?_
  show AW miX2_doStep (d + 6) (mxA Q) 0 [(0, some (.ref 118)), (1, some (.ref w)), (2, some (.ref (w + 13)))] [] M
  obtain ⟨hV, h0, h4, h5, h6, h7⟩ : VX w M S ∧ M.1 118 0 = nI dr ∧ M.1 118 4 = nI mi ∧ M.1 118 5 = nI (S 0 1 - d0) ∧ M.1 118 6 = nI br ∧ M.1 118 7 = nI cr := id hR
  have hww : w = 17 ∨ w = 37 ∨ w = 58 ∨ w = 78 ∨ w = 98 := hw
  have hm := WF_m hF
  have hh := WF_h hF
  have hs := WF_s hF
  have hn := WF_n hF
  have hR1 := RW_at (j := 1) (x := nI (a + 1)) hR hw (Or.inl rfl)
  refine a_aload_n rfl dX2_doStep_0 ?_
  refine g_i hat (by decide) rfl fX2_27 rfl dX2_doStep_1 ?_
  refine a_istore_n (by decide) rfl dX2_doStep_4 ?_
  refine a_aload_n rfl dX2_doStep_5 ?_
  refine a_geta dX2_doStep_6 fX2_69 (isW_lt hw (i := 13) (by decide)) (layW_13 hw) rfl ?_
  refine a_iload_n rfl dX2_doStep_9 ?_
  refine v_iald (by omega) hyw (isW_lt hw (i := 16) (by decide)) (layW_16 hw) (by decide) dX2_doStep_10 ?_
  refine a_istore (by decide) rfl dX2_doStep_11 ?_
  refine a_aload_n rfl dX2_doStep_13 ?_
  refine a_geta dX2_doStep_14 fX2_72 (isW_lt hw (i := 13) (by decide)) (layW_13 hw) rfl ?_
  refine a_iload_n rfl dX2_doStep_17 ?_
  refine v_iald (by omega) hyn (isW_lt hw (i := 18) (by decide)) (layW_18 hw) (by decide) dX2_doStep_18 ?_
  refine a_istore (by decide) rfl dX2_doStep_19 ?_
  refine a_aload_n rfl dX2_doStep_21 ?_
  refine a_iload_n rfl dX2_doStep_22 ?_
  refine n_iconst 1 rfl dX2_doStep_23 ?_
  refine n_iadd dX2_doStep_24 ?_
  refine a_puti dX2_doStep_25 pX2_27 (by decide) rfl rfl ?_
  refine a_aload_n rfl dX2_doStep_28 ?_
  refine a_geta dX2_doStep_29 fX2_53 (isW_lt hw (i := 13) (by decide)) (layW_13 hw) rfl ?_
  refine a_iload_n rfl dX2_doStep_32 ?_
  refine v_iald (by omega) (siN (hyv.trans (congrArg nI hv)) (by omega)) (isW_lt hw (i := 14) (by decide)) (layW_14 hw) (by decide) dX2_doStep_33 ?_
  refine a_tabIn 108 dX2_doStep_34 (by decide) (by decide) rfl (by decide) ?_
  refine a_aload_n rfl dX2_doStep_108 ?_
  refine a_aload_n rfl dX2_doStep_109 ?_
  refine a_iload rfl dX2_doStep_110 ?_
  refine a_iload rfl dX2_doStep_112 ?_
  refine n_callV (mi' := miX2_doCrisis) dX2_doStep_114 lX2_82 mX2_doCrisis (by decide) rfl rfl rfl (c_X2_doCrisis hw hR1 hF hd9 hd0 hdr h1 (by omega) (fun M_114 hr_114 hf_114 => ?_) d) rfl rfl (by omega) (by decide) (Nat.le_of_ble_eq_true rfl)
  show AW _ _ _ _ _ _ _
  refine a_goto 189 dX2_doStep_117 (by decide) ?_
  refine a_vret dX2_doStep_189 rfl ?_
  exact hQ _ hr_114 (((hf_114 118 1 (by unfold fyP; omega)).1).trans siS) (fun j => ((hf_114 119 j (by unfold fyP; omega)).1).trans ((siN rfl (by omega)).trans (htl j))) ((fr.r.si (Or.inr (Or.inl ⟨rfl, rfl⟩))).t (hf_114.mo (fun k j h => Or.inl h)))

set_option maxRecDepth 100000 in
set_option maxHeartbeats 800000 in
theorem c_doStep16 {w d0 : Nat} (hw : isW w) {M : Mm} {S : ST} {dr mi br cr : Nat} (hR : RW w d0 M (S, dr, mi, br, cr)) (hF : WF S) (hd9 : S 0 1 ≤ 9999) (hd0 : d0 ≤ S 0 1) (hdr : dr < 65536) {a : Nat} {s : Nat → Nat} {tl : Nat → Int32} (ha60 : a < 60) (hat : M.1 118 1 = nI a) (htl : ∀ j, M.1 119 j = tl j) (hyv : M.1 (w + 14) a = nI (s 0)) (hyn : M.1 (w + 18) a = nI (s 2)) (hv : s 0 = 16) (hyw : M.1 (w + 16) a = nI (s 1)) (h1 : s 1 < S 0 4) (h2 : s 2 < S 0 2) {Q : Option Value → Mm → Prop} (hQ : ∀ M', RW w d0 M' (rTu (s 1) (s 2) (S, dr, mi, br, cr)) → M'.1 118 1 = nI (a + 1) → (∀ j, M'.1 119 j = tl j) → GY w M M' → Q none M') (d : Nat) : AMt miX2_doStep (d + 6) [.ref 118, .ref w, .ref (w + 13)] M Q := by
  refine AMt.of (by decide) (Nat.le_of_ble_eq_true rfl) ?_
  show AW miX2_doStep (d + 6) (mxA Q) 0 [(0, some (.ref 118)), (1, some (.ref w)), (2, some (.ref (w + 13)))] [] M
  obtain ⟨hV, h0, h4, h5, h6, h7⟩ : VX w M S ∧ M.1 118 0 = nI dr ∧ M.1 118 4 = nI mi ∧ M.1 118 5 = nI (S 0 1 - d0) ∧ M.1 118 6 = nI br ∧ M.1 118 7 = nI cr := id hR
  have hww : w = 17 ∨ w = 37 ∨ w = 58 ∨ w = 78 ∨ w = 98 := hw
  have hm := WF_m hF
  have hh := WF_h hF
  have hs := WF_s hF
  have hn := WF_n hF
  have hR1 := RW_at (j := 1) (x := nI (a + 1)) hR hw (Or.inl rfl)
  refine a_aload_n rfl dX2_doStep_0 ?_
  refine g_i hat (by decide) rfl fX2_27 rfl dX2_doStep_1 ?_
  refine a_istore_n (by decide) rfl dX2_doStep_4 ?_
  refine a_aload_n rfl dX2_doStep_5 ?_
  refine a_geta dX2_doStep_6 fX2_69 (isW_lt hw (i := 13) (by decide)) (layW_13 hw) rfl ?_
  refine a_iload_n rfl dX2_doStep_9 ?_
  refine v_iald (by omega) hyw (isW_lt hw (i := 16) (by decide)) (layW_16 hw) (by decide) dX2_doStep_10 ?_
  refine a_istore (by decide) rfl dX2_doStep_11 ?_
  refine a_aload_n rfl dX2_doStep_13 ?_
  refine a_geta dX2_doStep_14 fX2_72 (isW_lt hw (i := 13) (by decide)) (layW_13 hw) rfl ?_
  refine a_iload_n rfl dX2_doStep_17 ?_
  refine v_iald (by omega) hyn (isW_lt hw (i := 18) (by decide)) (layW_18 hw) (by decide) dX2_doStep_18 ?_
  refine a_istore (by decide) rfl dX2_doStep_19 ?_
  refine a_aload_n rfl dX2_doStep_21 ?_
  refine a_iload_n rfl dX2_doStep_22 ?_
  refine n_iconst 1 rfl dX2_doStep_23 ?_
  refine n_iadd dX2_doStep_24 ?_
  refine a_puti dX2_doStep_25 pX2_27 (by decide) rfl rfl ?_
  refine a_aload_n rfl dX2_doStep_28 ?_
  refine a_geta dX2_doStep_29 fX2_53 (isW_lt hw (i := 13) (by decide)) (layW_13 hw) rfl ?_
  refine a_iload_n rfl dX2_doStep_32 ?_
  refine v_iald (by omega) (siN (hyv.trans (congrArg nI hv)) (by omega)) (isW_lt hw (i := 14) (by decide)) (layW_14 hw) (by decide) dX2_doStep_33 ?_
  refine a_tabIn 120 dX2_doStep_34 (by decide) (by decide) rfl (by decide) ?_
  refine a_aload_n rfl dX2_doStep_120 ?_
  refine a_aload_n rfl dX2_doStep_121 ?_
  refine a_iload rfl dX2_doStep_122 ?_
  refine a_iload rfl dX2_doStep_124 ?_
  refine n_callV (mi' := miX2_doTurn) dX2_doStep_126 lX2_86 mX2_doTurn (by decide) rfl rfl rfl (c_X2_doTurn hw hR1 hF hd9 hd0 hdr h1 h2 (fun M_126 hr_126 hf_126 => ?_) d) rfl rfl (by omega) (by decide) (Nat.le_of_ble_eq_true rfl)
  show AW _ _ _ _ _ _ _
  refine a_goto 189 dX2_doStep_129 (by decide) ?_
  refine a_vret dX2_doStep_189 rfl ?_
  exact hQ _ hr_126 (((hf_126 118 1 (by unfold fyP; omega)).1).trans siS) (fun j => ((hf_126 119 j (by unfold fyP; omega)).1).trans ((siN rfl (by omega)).trans (htl j))) ((fr.r.si (Or.inr (Or.inl ⟨rfl, rfl⟩))).t (hf_126.mo (fun k j h => Or.inl h)))

set_option maxRecDepth 100000 in
set_option maxHeartbeats 800000 in
theorem c_doStep17 {w d0 : Nat} (hw : isW w) {M : Mm} {S : ST} {dr mi br cr : Nat} (hR : RW w d0 M (S, dr, mi, br, cr)) (hF : WF S) (hd9 : S 0 1 ≤ 9999) (hd0 : d0 ≤ S 0 1) (hdr : dr < 65536) {a : Nat} {s : Nat → Nat} {tl : Nat → Int32} (ha60 : a < 60) (hat : M.1 118 1 = nI a) (htl : ∀ j, M.1 119 j = tl j) (hyv : M.1 (w + 14) a = nI (s 0)) (hyn : M.1 (w + 18) a = nI (s 2)) (hv : s 0 = 17)  {Q : Option Value → Mm → Prop} (hQ : ∀ M', RW w d0 M' (rAny (S, dr, mi, br, cr)) → M'.1 118 1 = nI (a + 1) → (∀ j, M'.1 119 j = tl j) → GY w M M' → Q none M') (d : Nat) : AMt miX2_doStep (d + 6) [.ref 118, .ref w, .ref (w + 13)] M Q := by
  refine AMt.of (by decide) (Nat.le_of_ble_eq_true rfl) ?_
  show AW miX2_doStep (d + 6) (mxA Q) 0 [(0, some (.ref 118)), (1, some (.ref w)), (2, some (.ref (w + 13)))] [] M
  obtain ⟨hV, h0, h4, h5, h6, h7⟩ : VX w M S ∧ M.1 118 0 = nI dr ∧ M.1 118 4 = nI mi ∧ M.1 118 5 = nI (S 0 1 - d0) ∧ M.1 118 6 = nI br ∧ M.1 118 7 = nI cr := id hR
  have hww : w = 17 ∨ w = 37 ∨ w = 58 ∨ w = 78 ∨ w = 98 := hw
  have hm := WF_m hF
  have hh := WF_h hF
  have hs := WF_s hF
  have hn := WF_n hF
  have hR1 := RW_at (j := 1) (x := nI (a + 1)) hR hw (Or.inl rfl)
  refine a_aload_n rfl dX2_doStep_0 ?_
  refine g_i hat (by decide) rfl fX2_27 rfl dX2_doStep_1 ?_
  refine a_istore_n (by decide) rfl dX2_doStep_4 ?_
  refine a_aload_n rfl dX2_doStep_5 ?_
  refine a_geta dX2_doStep_6 fX2_69 (isW_lt hw (i := 13) (by decide)) (layW_13 hw) rfl ?_
  refine a_iload_n rfl dX2_doStep_9 ?_
  refine n_iald (by omega) (isW_lt hw (i := 16) (by decide)) (layW_16 hw) (by decide) dX2_doStep_10 ?_
  refine a_istore (by decide) rfl dX2_doStep_11 ?_
  refine a_aload_n rfl dX2_doStep_13 ?_
  refine a_geta dX2_doStep_14 fX2_72 (isW_lt hw (i := 13) (by decide)) (layW_13 hw) rfl ?_
  refine a_iload_n rfl dX2_doStep_17 ?_
  refine v_iald (by omega) hyn (isW_lt hw (i := 18) (by decide)) (layW_18 hw) (by decide) dX2_doStep_18 ?_
  refine a_istore (by decide) rfl dX2_doStep_19 ?_
  refine a_aload_n rfl dX2_doStep_21 ?_
  refine a_iload_n rfl dX2_doStep_22 ?_
  refine n_iconst 1 rfl dX2_doStep_23 ?_
  refine n_iadd dX2_doStep_24 ?_
  refine a_puti dX2_doStep_25 pX2_27 (by decide) rfl rfl ?_
  refine a_aload_n rfl dX2_doStep_28 ?_
  refine a_geta dX2_doStep_29 fX2_53 (isW_lt hw (i := 13) (by decide)) (layW_13 hw) rfl ?_
  refine a_iload_n rfl dX2_doStep_32 ?_
  refine v_iald (by omega) (siN (hyv.trans (congrArg nI hv)) (by omega)) (isW_lt hw (i := 14) (by decide)) (layW_14 hw) (by decide) dX2_doStep_33 ?_
  refine a_tabIn 132 dX2_doStep_34 (by decide) (by decide) rfl (by decide) ?_
  refine a_aload_n rfl dX2_doStep_132 ?_
  refine a_aload_n rfl dX2_doStep_133 ?_
  refine n_callV (mi' := miX2_doAny) dX2_doStep_134 lX2_89 mX2_doAny (by decide) rfl rfl rfl (c_X2_doAny hw hR1 hF hd9 hd0 hdr (fun M_134 hr_134 hf_134 => ?_) d) rfl rfl (by omega) (by decide) (Nat.le_of_ble_eq_true rfl)
  show AW _ _ _ _ _ _ _
  refine a_goto 189 dX2_doStep_137 (by decide) ?_
  refine a_vret dX2_doStep_189 rfl ?_
  exact hQ _ hr_134 (((hf_134 118 1 (by unfold fyP; omega)).1).trans siS) (fun j => ((hf_134 119 j (by unfold fyP; omega)).1).trans ((siN rfl (by omega)).trans (htl j))) ((fr.r.si (Or.inr (Or.inl ⟨rfl, rfl⟩))).t (hf_134.mo (fun k j h => Or.inl h)))

set_option maxRecDepth 100000 in
set_option maxHeartbeats 800000 in
theorem c_doStep22 {w d0 : Nat} (hw : isW w) {M : Mm} {S : ST} {dr mi br cr : Nat} (hR : RW w d0 M (S, dr, mi, br, cr)) (hF : WF S) (hd9 : S 0 1 ≤ 9999) (hd0 : d0 ≤ S 0 1) (hdr : dr < 65536) {a : Nat} {s : Nat → Nat} {tl : Nat → Int32} (ha60 : a < 60) (hat : M.1 118 1 = nI a) (htl : ∀ j, M.1 119 j = tl j) (hyv : M.1 (w + 14) a = nI (s 0)) (hyn : M.1 (w + 18) a = nI (s 2)) (hv : s 0 = 22) {Q : Option Value → Mm → Prop} (hQ : ∀ M', RW w d0 M' ((S, dr, mi, br, cr)) → M'.1 118 1 = nI (a + 1) → (∀ j, M'.1 119 j = upT tl a (nI (s 2)) j) → GY w M M' → Q none M') (d : Nat) : AMt miX2_doStep (d + 6) [.ref 118, .ref w, .ref (w + 13)] M Q := by
  refine AMt.of (by decide) (Nat.le_of_ble_eq_true rfl) ?_
  show AW miX2_doStep (d + 6) (mxA Q) 0 [(0, some (.ref 118)), (1, some (.ref w)), (2, some (.ref (w + 13)))] [] M
  obtain ⟨hV, h0, h4, h5, h6, h7⟩ : VX w M S ∧ M.1 118 0 = nI dr ∧ M.1 118 4 = nI mi ∧ M.1 118 5 = nI (S 0 1 - d0) ∧ M.1 118 6 = nI br ∧ M.1 118 7 = nI cr := id hR
  have hww : w = 17 ∨ w = 37 ∨ w = 58 ∨ w = 78 ∨ w = 98 := hw
  have hm := WF_m hF
  have hh := WF_h hF
  have hs := WF_s hF
  have hn := WF_n hF
  have hR1 := RW_at (j := 1) (x := nI (a + 1)) hR hw (Or.inl rfl)
  refine a_aload_n rfl dX2_doStep_0 ?_
  refine g_i hat (by decide) rfl fX2_27 rfl dX2_doStep_1 ?_
  refine a_istore_n (by decide) rfl dX2_doStep_4 ?_
  refine a_aload_n rfl dX2_doStep_5 ?_
  refine a_geta dX2_doStep_6 fX2_69 (isW_lt hw (i := 13) (by decide)) (layW_13 hw) rfl ?_
  refine a_iload_n rfl dX2_doStep_9 ?_
  refine n_iald (by omega) (isW_lt hw (i := 16) (by decide)) (layW_16 hw) (by decide) dX2_doStep_10 ?_
  refine a_istore (by decide) rfl dX2_doStep_11 ?_
  refine a_aload_n rfl dX2_doStep_13 ?_
  refine a_geta dX2_doStep_14 fX2_72 (isW_lt hw (i := 13) (by decide)) (layW_13 hw) rfl ?_
  refine a_iload_n rfl dX2_doStep_17 ?_
  refine v_iald (by omega) hyn (isW_lt hw (i := 18) (by decide)) (layW_18 hw) (by decide) dX2_doStep_18 ?_
  refine a_istore (by decide) rfl dX2_doStep_19 ?_
  refine a_aload_n rfl dX2_doStep_21 ?_
  refine a_iload_n rfl dX2_doStep_22 ?_
  refine n_iconst 1 rfl dX2_doStep_23 ?_
  refine n_iadd dX2_doStep_24 ?_
  refine a_puti dX2_doStep_25 pX2_27 (by decide) rfl rfl ?_
  refine a_aload_n rfl dX2_doStep_28 ?_
  refine a_geta dX2_doStep_29 fX2_53 (isW_lt hw (i := 13) (by decide)) (layW_13 hw) rfl ?_
  refine a_iload_n rfl dX2_doStep_32 ?_
  refine v_iald (by omega) (siN (hyv.trans (congrArg nI hv)) (by omega)) (isW_lt hw (i := 14) (by decide)) (layW_14 hw) (by decide) dX2_doStep_33 ?_
  refine a_tabIn 170 dX2_doStep_34 (by decide) (by decide) rfl (by decide) ?_
  refine a_aload_n rfl dX2_doStep_170 ?_
  refine a_geta dX2_doStep_171 fX2_11 (by decide) rfl rfl ?_
  refine a_iload_n rfl dX2_doStep_174 ?_
  refine a_iload rfl dX2_doStep_175 ?_
  refine n_iast (by omega) (by decide) rfl (by decide) dX2_doStep_177 ?_
  refine a_goto 189 dX2_doStep_178 (by decide) ?_
  refine a_vret dX2_doStep_189 rfl ?_
  exact hQ _ (RW_tl hR1 hw) (siN siS (by omega)) (upT_si (fun j => siN (htl j) (by omega))) ((fr.r.si (Or.inr (Or.inl ⟨rfl, rfl⟩))).si (Or.inr (Or.inr rfl)))

set_option maxRecDepth 100000 in
set_option maxHeartbeats 800000 in
theorem c_doStep24 {w d0 : Nat} (hw : isW w) {M : Mm} {S : ST} {dr mi br cr : Nat} (hR : RW w d0 M (S, dr, mi, br, cr)) (hF : WF S) (hd9 : S 0 1 ≤ 9999) (hd0 : d0 ≤ S 0 1) (hdr : dr < 65536) {a : Nat} {s : Nat → Nat} {tl : Nat → Int32} (ha60 : a < 60) (hat : M.1 118 1 = nI a) (htl : ∀ j, M.1 119 j = tl j) (hyv : M.1 (w + 14) a = nI (s 0)) (hyn : M.1 (w + 18) a = nI (s 2)) (hv : s 0 = 24) {l : Nat} (hyl : M.1 (w + 13) 2 = nI l) {Q : Option Value → Mm → Prop} (hQ : ∀ M', RW w d0 M' ((S, dr, mi, br, cr)) → M'.1 118 1 = nI (l) → (∀ j, M'.1 119 j = tl j) → GY w M M' → Q none M') (d : Nat) : AMt miX2_doStep (d + 6) [.ref 118, .ref w, .ref (w + 13)] M Q := by
  refine AMt.of (by decide) (Nat.le_of_ble_eq_true rfl) ?_
  show AW miX2_doStep (d + 6) (mxA Q) 0 [(0, some (.ref 118)), (1, some (.ref w)), (2, some (.ref (w + 13)))] [] M
  obtain ⟨hV, h0, h4, h5, h6, h7⟩ : VX w M S ∧ M.1 118 0 = nI dr ∧ M.1 118 4 = nI mi ∧ M.1 118 5 = nI (S 0 1 - d0) ∧ M.1 118 6 = nI br ∧ M.1 118 7 = nI cr := id hR
  have hww : w = 17 ∨ w = 37 ∨ w = 58 ∨ w = 78 ∨ w = 98 := hw
  have hm := WF_m hF
  have hh := WF_h hF
  have hs := WF_s hF
  have hn := WF_n hF
  have hR1 := RW_at (j := 1) (x := nI (a + 1)) hR hw (Or.inl rfl)
  refine a_aload_n rfl dX2_doStep_0 ?_
  refine g_i hat (by decide) rfl fX2_27 rfl dX2_doStep_1 ?_
  refine a_istore_n (by decide) rfl dX2_doStep_4 ?_
  refine a_aload_n rfl dX2_doStep_5 ?_
  refine a_geta dX2_doStep_6 fX2_69 (isW_lt hw (i := 13) (by decide)) (layW_13 hw) rfl ?_
  refine a_iload_n rfl dX2_doStep_9 ?_
  refine n_iald (by omega) (isW_lt hw (i := 16) (by decide)) (layW_16 hw) (by decide) dX2_doStep_10 ?_
  refine a_istore (by decide) rfl dX2_doStep_11 ?_
  refine a_aload_n rfl dX2_doStep_13 ?_
  refine a_geta dX2_doStep_14 fX2_72 (isW_lt hw (i := 13) (by decide)) (layW_13 hw) rfl ?_
  refine a_iload_n rfl dX2_doStep_17 ?_
  refine v_iald (by omega) hyn (isW_lt hw (i := 18) (by decide)) (layW_18 hw) (by decide) dX2_doStep_18 ?_
  refine a_istore (by decide) rfl dX2_doStep_19 ?_
  refine a_aload_n rfl dX2_doStep_21 ?_
  refine a_iload_n rfl dX2_doStep_22 ?_
  refine n_iconst 1 rfl dX2_doStep_23 ?_
  refine n_iadd dX2_doStep_24 ?_
  refine a_puti dX2_doStep_25 pX2_27 (by decide) rfl rfl ?_
  refine a_aload_n rfl dX2_doStep_28 ?_
  refine a_geta dX2_doStep_29 fX2_53 (isW_lt hw (i := 13) (by decide)) (layW_13 hw) rfl ?_
  refine a_iload_n rfl dX2_doStep_32 ?_
  refine v_iald (by omega) (siN (hyv.trans (congrArg nI hv)) (by omega)) (isW_lt hw (i := 14) (by decide)) (layW_14 hw) (by decide) dX2_doStep_33 ?_
  refine a_tabOut 181 dX2_doStep_34 (by decide) (by decide) ?_
  refine a_aload_n rfl dX2_doStep_181 ?_
  refine a_aload_n rfl dX2_doStep_182 ?_
  refine g_i (siN hyl (by omega)) (isW_lt hw (i := 13) (by decide)) (layW_13 hw) fX2_50 rfl dX2_doStep_183 ?_
  refine a_puti dX2_doStep_186 pX2_27 (by decide) rfl rfl ?_
  refine a_vret dX2_doStep_189 rfl ?_
  exact hQ _ (RW_at hR1 hw (Or.inl rfl)) siS (fun j => siN (siN (htl j) (by omega)) (by omega)) ((fr.r.si (Or.inr (Or.inl ⟨rfl, rfl⟩))).si (Or.inr (Or.inl ⟨rfl, rfl⟩)))

set_option maxRecDepth 100000 in
set_option maxHeartbeats 800000 in
theorem c_doStep18 {w d0 : Nat} (hw : isW w) {M : Mm} {S : ST} {dr mi br cr : Nat} (hR : RW w d0 M (S, dr, mi, br, cr)) (hF : WF S) (hd9 : S 0 1 ≤ 9999) (hd0 : d0 ≤ S 0 1) (hdr : dr < 65536) {a : Nat} {s : Nat → Nat} {tl : Nat → Int32} (ha60 : a < 60) (hat : M.1 118 1 = nI a) (htl : ∀ j, M.1 119 j = tl j) (hyv : M.1 (w + 14) a = nI (s 0)) (hyn : M.1 (w + 18) a = nI (s 2)) (hv : s 0 = 18) (hyw : M.1 (w + 16) a = nI (s 1)) (hyt : M.1 (w + 15) a = nI (s 3)) (hyc : M.1 (w + 17) a = if s 3 = 21 then nI (s 4) else -1) (hyp : M.1 (w + 19) a = nI (s 5)) (hs3 : 19 ≤ s 3 ∧ s 3 ≤ 21) (hm20 : s 3 = 20 → s 1 < S 0 2) (hm19 : s 3 ≠ 20 → s 1 < S 0 4) (hs2 : s 3 = 21 → s 2 ≤ 99) (hs4 : s 3 = 21 → s 4 = 60 ∨ s 4 = 61 ∨ s 4 = 62) {Q : Option Value → Mm → Prop} (hQ : ∀ M', RW w d0 M' ((S, dr, mi, br, cr)) → M'.1 118 1 = nI (if soN S s = true then a + 1 else s 5 + 1) → (∀ j, M'.1 119 j = tl j) → GY w M M' → Q none M') (d : Nat) : AMt miX2_doStep (d + 6) [.ref 118, .ref w, .ref (w + 13)] M Q := by
  refine AMt.of (by decide) (Nat.le_of_ble_eq_true rfl) ?_
  show AW miX2_doStep (d + 6) (mxA Q) 0 [(0, some (.ref 118)), (1, some (.ref w)), (2, some (.ref (w + 13)))] [] M
  obtain ⟨hV, h0, h4, h5, h6, h7⟩ : VX w M S ∧ M.1 118 0 = nI dr ∧ M.1 118 4 = nI mi ∧ M.1 118 5 = nI (S 0 1 - d0) ∧ M.1 118 6 = nI br ∧ M.1 118 7 = nI cr := id hR
  have hww : w = 17 ∨ w = 37 ∨ w = 58 ∨ w = 78 ∨ w = 98 := hw
  have hm := WF_m hF
  have hh := WF_h hF
  have hs := WF_s hF
  have hn := WF_n hF
  have hR1 := RW_at (j := 1) (x := nI (a + 1)) hR hw (Or.inl rfl)
  refine a_aload_n rfl dX2_doStep_0 ?_
  refine g_i hat (by decide) rfl fX2_27 rfl dX2_doStep_1 ?_
  refine a_istore_n (by decide) rfl dX2_doStep_4 ?_
  refine a_aload_n rfl dX2_doStep_5 ?_
  refine a_geta dX2_doStep_6 fX2_69 (isW_lt hw (i := 13) (by decide)) (layW_13 hw) rfl ?_
  refine a_iload_n rfl dX2_doStep_9 ?_
  refine v_iald (by omega) hyw (isW_lt hw (i := 16) (by decide)) (layW_16 hw) (by decide) dX2_doStep_10 ?_
  refine a_istore (by decide) rfl dX2_doStep_11 ?_
  refine a_aload_n rfl dX2_doStep_13 ?_
  refine a_geta dX2_doStep_14 fX2_72 (isW_lt hw (i := 13) (by decide)) (layW_13 hw) rfl ?_
  refine a_iload_n rfl dX2_doStep_17 ?_
  refine v_iald (by omega) hyn (isW_lt hw (i := 18) (by decide)) (layW_18 hw) (by decide) dX2_doStep_18 ?_
  refine a_istore (by decide) rfl dX2_doStep_19 ?_
  refine a_aload_n rfl dX2_doStep_21 ?_
  refine a_iload_n rfl dX2_doStep_22 ?_
  refine n_iconst 1 rfl dX2_doStep_23 ?_
  refine n_iadd dX2_doStep_24 ?_
  refine a_puti dX2_doStep_25 pX2_27 (by decide) rfl rfl ?_
  refine a_aload_n rfl dX2_doStep_28 ?_
  refine a_geta dX2_doStep_29 fX2_53 (isW_lt hw (i := 13) (by decide)) (layW_13 hw) rfl ?_
  refine a_iload_n rfl dX2_doStep_32 ?_
  refine v_iald (by omega) (siN (hyv.trans (congrArg nI hv)) (by omega)) (isW_lt hw (i := 14) (by decide)) (layW_14 hw) (by decide) dX2_doStep_33 ?_
  refine a_tabIn 140 dX2_doStep_34 (by decide) (by decide) rfl (by decide) ?_
  refine a_aload_n rfl dX2_doStep_140 ?_
  refine a_aload_n rfl dX2_doStep_141 ?_
  refine a_aload_n rfl dX2_doStep_142 ?_
  refine a_iload_n rfl dX2_doStep_143 ?_
  refine n_callS (mi' := miX2_isSo) dX2_doStep_144 lX2_93 mX2_isSo (c_X2_isSo hw hR1.1 hF ha60 (siN hyw (by omega)) (siN hyn (by omega)) (siN hyt (by omega)) (siN hyc (by omega)) hs3 hm20 hm19 hs2 hs4 (fun h_144 => ?_) (fun h_144 => ?_) d) rfl rfl (by omega) (by decide) (Nat.le_of_ble_eq_true rfl)
  · show AW _ _ _ _ _ _ _
    refine n_if_eq 156 (by decide) dX2_doStep_147 (by decide) (fun h => absurd h (by decide)) (fun _ => ?_)
    refine a_iload_n rfl dX2_doStep_150 ?_
    refine n_iconst 1 rfl dX2_doStep_151 ?_
    refine n_iadd dX2_doStep_152 ?_
    refine a_goto 164 dX2_doStep_153 (by decide) ?_
    refine a_puti dX2_doStep_164 pX2_27 (by decide) rfl rfl ?_
    refine a_goto 189 dX2_doStep_167 (by decide) ?_
    refine a_vret dX2_doStep_189 rfl ?_
    exact hQ _ (RW_at hR1 hw (Or.inl rfl)) (siS.trans (congrArg nI (if_pos h_144).symm)) (fun j => siN (siN (htl j) (by omega)) (by omega)) ((fr.r.si (Or.inr (Or.inl ⟨rfl, rfl⟩))).si (Or.inr (Or.inl ⟨rfl, rfl⟩)))
  · show AW _ _ _ _ _ _ _
    refine n_if_eq 156 (by decide) dX2_doStep_147 (by decide) (fun _ => ?_) (fun h => absurd h (by decide))
    refine a_aload_n rfl dX2_doStep_156 ?_
    refine a_geta dX2_doStep_157 fX2_66 (isW_lt hw (i := 13) (by decide)) (layW_13 hw) rfl ?_
    refine a_iload_n rfl dX2_doStep_160 ?_
    refine v_iald (by omega) (siN hyp (by omega)) (isW_lt hw (i := 19) (by decide)) (layW_19 hw) (by decide) dX2_doStep_161 ?_
    refine n_iconst 1 rfl dX2_doStep_162 ?_
    refine n_iadd dX2_doStep_163 ?_
    refine a_puti dX2_doStep_164 pX2_27 (by decide) rfl rfl ?_
    refine a_goto 189 dX2_doStep_167 (by decide) ?_
    refine a_vret dX2_doStep_189 rfl ?_
    exact hQ _ (RW_at hR1 hw (Or.inl rfl)) (siS.trans (congrArg nI (if_neg (by rw [h_144]; exact Bool.false_ne_true)).symm)) (fun j => siN (siN (htl j) (by omega)) (by omega)) ((fr.r.si (Or.inr (Or.inl ⟨rfl, rfl⟩))).si (Or.inr (Or.inl ⟨rfl, rfl⟩)))

theorem dec_t {n : Nat} (h : 1 ≤ n) : nI n - nI 1 = nI (n - 1) := pk_sub h

set_option maxRecDepth 100000 in
set_option maxHeartbeats 800000 in
theorem c_passEnd18 {w d0 : Nat} (hw : isW w) {M : Mm} {S : ST} {dr mi br cr : Nat} (hR : RW w d0 M (S, dr, mi, br, cr)) (hF : WF S) (hd9 : S 0 1 ≤ 9999) (hd0 : d0 ≤ S 0 1) (hdr : dr < 65536) {a p : Nat} {tl : Nat → Int32} (ha60 : a < 60) (hp60 : p < 60) (hat : M.1 118 1 = nI a) (htl : ∀ j, M.1 119 j = tl j) (hyp : M.1 (w + 19) a = nI p) (hyv : M.1 (w + 14) p = nI 18) {Q : Option Value → Mm → Prop} (hQ : ∀ M', RW w d0 M' ((S, dr, mi, br, cr)) → M'.1 118 1 = nI (a + 1) → (∀ j, M'.1 119 j = tl j) → GY w M M' → Q none M') (d : Nat) : AMt miX2_passEnd (d + 1) [.ref 118, .ref (w + 13)] M Q := by
  refine AMt.of (by decide) (Nat.le_of_ble_eq_true rfl) ?_
  show AW miX2_passEnd (d + 1) (mxA Q) 0 [(0, some (.ref 118)), (1, some (.ref (w + 13)))] [] M
  obtain ⟨hV, h0, h4, h5, h6, h7⟩ : VX w M S ∧ M.1 118 0 = nI dr ∧ M.1 118 4 = nI mi ∧ M.1 118 5 = nI (S 0 1 - d0) ∧ M.1 118 6 = nI br ∧ M.1 118 7 = nI cr := id hR
  have hww : w = 17 ∨ w = 37 ∨ w = 58 ∨ w = 78 ∨ w = 98 := hw
  have hm := WF_m hF
  have hh := WF_h hF
  have hs := WF_s hF
  have hn := WF_n hF
  have hR1 := RW_at (j := 1) (x := nI (a + 1)) hR hw (Or.inl rfl)
  refine a_aload_n rfl dX2_passEnd_0 ?_
  refine a_geta dX2_passEnd_1 fX2_66 (isW_lt hw (i := 13) (by decide)) (layW_13 hw) rfl ?_
  refine a_aload_n rfl dX2_passEnd_4 ?_
  refine g_i hat (by decide) rfl fX2_27 rfl dX2_passEnd_5 ?_
  refine v_iald (by omega) hyp (isW_lt hw (i := 19) (by decide)) (layW_19 hw) (by decide) dX2_passEnd_8 ?_
  refine a_istore_n (by decide) rfl dX2_passEnd_9 ?_
  refine a_aload_n rfl dX2_passEnd_10 ?_
  refine a_dup rfl dX2_passEnd_11 ?_
  refine g_i hat (by decide) rfl fX2_27 rfl dX2_passEnd_12 ?_
  refine n_iconst 1 rfl dX2_passEnd_15 ?_
  refine n_iadd dX2_passEnd_16 ?_
  refine a_puti dX2_passEnd_17 pX2_27 (by decide) rfl rfl ?_
  refine a_iload_n rfl dX2_passEnd_20 ?_
  refine n_if_lt (tgt := 61) (by omega) dX2_passEnd_21 (by decide) ?_
  refine a_aload_n rfl dX2_passEnd_24 ?_
  refine a_geta dX2_passEnd_25 fX2_53 (isW_lt hw (i := 13) (by decide)) (layW_13 hw) rfl ?_
  refine a_iload_n rfl dX2_passEnd_28 ?_
  refine v_iald (by omega) (siN hyv (by omega)) (isW_lt hw (i := 14) (by decide)) (layW_14 hw) (by decide) dX2_passEnd_29 ?_
  refine n_bipush 22 rfl dX2_passEnd_30 ?_
  refine n_icmp_ne 61 (by omega) (by omega) dX2_passEnd_32 (by decide) (fun h_32 => ?_) (fun h_32 => absurd h_32 (by omega))
  refine a_vret dX2_passEnd_61 rfl ?_
  exact hQ _ hR1 siS (fun j => siN (htl j) (by omega)) (fr.r.si (Or.inr (Or.inl ⟨rfl, rfl⟩)))

set_option maxRecDepth 100000 in
set_option maxHeartbeats 800000 in
theorem c_passEnd22 {w d0 : Nat} (hw : isW w) {M : Mm} {S : ST} {dr mi br cr : Nat} (hR : RW w d0 M (S, dr, mi, br, cr)) (hF : WF S) (hd9 : S 0 1 ≤ 9999) (hd0 : d0 ≤ S 0 1) (hdr : dr < 65536) {a p n : Nat} {tl : Nat → Int32} (ha60 : a < 60) (hp60 : p < 60) (hat : M.1 118 1 = nI a) (htl : ∀ j, M.1 119 j = tl j) (hyp : M.1 (w + 19) a = nI p) (hyv : M.1 (w + 14) p = nI 22) (htn : tl p = nI n) (hn1 : 1 ≤ n) (hn99 : n ≤ 99) {Q : Option Value → Mm → Prop} (hQ : ∀ M', RW w d0 M' ((S, dr, mi, br, cr)) → M'.1 118 1 = nI (if n = 1 then a + 1 else p + 1) → (∀ j, M'.1 119 j = upT tl p (nI (n - 1)) j) → GY w M M' → Q none M') (d : Nat) : AMt miX2_passEnd (d + 1) [.ref 118, .ref (w + 13)] M Q := by
  refine AMt.of (by decide) (Nat.le_of_ble_eq_true rfl) ?_
  show AW miX2_passEnd (d + 1) (mxA Q) 0 [(0, some (.ref 118)), (1, some (.ref (w + 13)))] [] M
  obtain ⟨hV, h0, h4, h5, h6, h7⟩ : VX w M S ∧ M.1 118 0 = nI dr ∧ M.1 118 4 = nI mi ∧ M.1 118 5 = nI (S 0 1 - d0) ∧ M.1 118 6 = nI br ∧ M.1 118 7 = nI cr := id hR
  have hww : w = 17 ∨ w = 37 ∨ w = 58 ∨ w = 78 ∨ w = 98 := hw
  have hm := WF_m hF
  have hh := WF_h hF
  have hs := WF_s hF
  have hn := WF_n hF
  have hR1 := RW_at (j := 1) (x := nI (a + 1)) hR hw (Or.inl rfl)
  refine a_aload_n rfl dX2_passEnd_0 ?_
  refine a_geta dX2_passEnd_1 fX2_66 (isW_lt hw (i := 13) (by decide)) (layW_13 hw) rfl ?_
  refine a_aload_n rfl dX2_passEnd_4 ?_
  refine g_i hat (by decide) rfl fX2_27 rfl dX2_passEnd_5 ?_
  refine v_iald (by omega) hyp (isW_lt hw (i := 19) (by decide)) (layW_19 hw) (by decide) dX2_passEnd_8 ?_
  refine a_istore_n (by decide) rfl dX2_passEnd_9 ?_
  refine a_aload_n rfl dX2_passEnd_10 ?_
  refine a_dup rfl dX2_passEnd_11 ?_
  refine g_i hat (by decide) rfl fX2_27 rfl dX2_passEnd_12 ?_
  refine n_iconst 1 rfl dX2_passEnd_15 ?_
  refine n_iadd dX2_passEnd_16 ?_
  refine a_puti dX2_passEnd_17 pX2_27 (by decide) rfl rfl ?_
  refine a_iload_n rfl dX2_passEnd_20 ?_
  refine n_if_lt (tgt := 61) (by omega) dX2_passEnd_21 (by decide) ?_
  refine a_aload_n rfl dX2_passEnd_24 ?_
  refine a_geta dX2_passEnd_25 fX2_53 (isW_lt hw (i := 13) (by decide)) (layW_13 hw) rfl ?_
  refine a_iload_n rfl dX2_passEnd_28 ?_
  refine v_iald (by omega) (siN hyv (by omega)) (isW_lt hw (i := 14) (by decide)) (layW_14 hw) (by decide) dX2_passEnd_29 ?_
  refine n_bipush 22 rfl dX2_passEnd_30 ?_
  refine n_icmp_ne 61 (by omega) (by omega) dX2_passEnd_32 (by decide) (fun h_32 => absurd h_32 (by omega)) (fun h_32 => ?_)
  refine a_aload_n rfl dX2_passEnd_35 ?_
  refine a_geta dX2_passEnd_36 fX2_11 (by decide) rfl rfl ?_
  refine a_iload_n rfl dX2_passEnd_39 ?_
  refine a_dup2i rfl rfl dX2_passEnd_40 ?_
  refine v_iald (by omega) (siN ((htl _).trans htn) (by omega)) (by decide) rfl (by decide) dX2_passEnd_41 ?_
  refine n_iconst 1 rfl dX2_passEnd_42 ?_
  refine n_isub (by omega) dX2_passEnd_43 ?_
  refine n_iast (by omega) (by decide) rfl (by decide) dX2_passEnd_44 ?_
  refine a_aload_n rfl dX2_passEnd_45 ?_
  refine a_geta dX2_passEnd_46 fX2_11 (by decide) rfl rfl ?_
  refine a_iload_n rfl dX2_passEnd_49 ?_
  refine v_iald (by omega) siS (by decide) rfl (by decide) dX2_passEnd_50 ?_
  refine n_if_le 61 (by omega) dX2_passEnd_51 (by decide) (fun h_51 => ?_) (fun h_51 => ?_)
  · refine a_vret dX2_passEnd_61 rfl ?_
    exact hQ _ (RW_tl hR1 hw) ((siN siS (by omega)).trans (congrArg nI (if_pos (show n = 1 by omega)).symm)) (upT_si (fun j => siN (htl j) (by omega))) ((fr.r.si (Or.inr (Or.inl ⟨rfl, rfl⟩))).si (Or.inr (Or.inr rfl)))
  · refine a_aload_n rfl dX2_passEnd_54 ?_
    refine a_iload_n rfl dX2_passEnd_55 ?_
    refine n_iconst 1 rfl dX2_passEnd_56 ?_
    refine n_iadd dX2_passEnd_57 ?_
    refine a_puti dX2_passEnd_58 pX2_27 (by decide) rfl rfl ?_
    refine a_vret dX2_passEnd_61 rfl ?_
    exact hQ _ (RW_at (RW_tl hR1 hw) hw (Or.inl rfl)) (siS.trans (congrArg nI (if_neg (show ¬ n = 1 by omega)).symm)) (fun j => siN (upT_si (fun j => siN (htl j) (by omega)) j) (by omega)) (((fr.r.si (Or.inr (Or.inl ⟨rfl, rfl⟩))).si (Or.inr (Or.inr rfl))).si (Or.inr (Or.inl ⟨rfl, rfl⟩)))

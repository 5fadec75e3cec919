/-- a run's wood, its draws, what was missed, brought, what crises came -/
abbrev RN : Type := ST × Nat × Nat × Nat × Nat
def rMi (R : RN) : RN := (R.1, R.2.1, R.2.2.1 + 1, R.2.2.2)
def rDay (n : Nat) (R : RN) : RN := if R.1 0 1 + n ≤ 9999 then (dayN R.1 n, R.2) else rMi R
def rBr (k : Nat) (R : RN) : RN := if k < R.1 0 5 ∧ R.1 11 k = 0 ∧ R.1 2 (R.1 9 k) < 100 then (comeN R.1 k, R.2.1, R.2.2.1, R.2.2.2.1 + 1, R.2.2.2.2) else rMi R
def rCr (k n : Nat) (R : RN) : RN := if R.1 2 k = 0 then rMi R else (hupd R.1 k (R.1 2 k - n), R.2.1, R.2.2.1, R.2.2.2.1, R.2.2.2.2 + 1)
def rTu (p k : Nat) (R : RN) : RN := if R.1 7 p = k then rMi R else (upS2 R.1 7 p k, R.2)
def drw (d : Nat) : Nat := (d * 2971 + 10973) % 65536
def setD (R : RN) (d : Nat) : RN := (R.1, d, R.2.2)
def rAny (R : RN) : RN := if R.1 0 2 = 0 then rMi R else if drw (drw R.2.1) / 8 % 16 < R.1 0 0 then rCr (drw R.2.1 / 8 % R.1 0 2) (drw (drw (drw R.2.1)) / 8 % 50 + 1) (setD R (drw (drw (drw R.2.1)))) else rDay 1 (setD R (drw (drw R.2.1)))
theorem drw_lt (d : Nat) : drw d < 65536 := Nat.mod_lt _ (by decide)
def RW (w d0 : Nat) (M : Mm) (R : RN) : Prop := VX w M R.1 ∧ M.1 118 0 = nI R.2.1 ∧ M.1 118 4 = nI R.2.2.1 ∧ M.1 118 5 = nI (R.1 0 1 - d0) ∧ M.1 118 6 = nI R.2.2.2.1 ∧ M.1 118 7 = nI R.2.2.2.2
theorem RW_mk {w d0 : Nat} {M : Mm} {S : ST} {dr mi br cr : Nat} (a : VX w M S) (b : M.1 118 0 = nI dr) (c : M.1 118 4 = nI mi) (e : M.1 118 5 = nI (S 0 1 - d0)) (f : M.1 118 6 = nI br) (g : M.1 118 7 = nI cr) : RW w d0 M (S, dr, mi, br, cr) := ⟨a, b, c, e, f, g⟩
def fyP (w k j : Nat) : Prop := (k = 118 ∧ (j = 0 ∨ 4 ≤ j ∧ j ≤ 7)) ∨ k = w + 3 ∨ k = w + 9 ∨ (k = w ∧ (j = 1 ∨ j = 6))
abbrev FY (w : Nat) (M M1 : Mm) : Prop := fr (fyP w) M M1
theorem VX_si {w : Nat} {M : Mm} {S : ST} (h : VX w M S) {j : Nat} {x : Int32} (hw : isW w) : VX w (siM M 118 j x) S := VX_fr h (fun k i a b => siN rfl (by unfold isW at hw; omega))

set_option maxRecDepth 100000 in
set_option maxHeartbeats 800000 in
theorem c_X2_doDays {w d0 : Nat} (hw : isW w) {M : Mm} {S : ST} {dr mi br cr : Nat} (hR : RW w d0 M (S, dr, mi, br, cr)) (hF : WF S) (hd9 : S 0 1 ≤ 9999) (hd0 : d0 ≤ S 0 1) (hdr : dr < 65536) {n : Nat} (hn9 : n ≤ 1000) {Q : Option Value → Mm → Prop} (hQ : ∀ M', RW w d0 M' (rDay n (S, dr, mi, br, cr)) → FY w M M' → Q none M') (d : Nat) : AMt miX2_doDays (d + 3) [.ref 118, .ref w, .int (nI n)] M Q := by
  refine AMt.of (by decide) (Nat.le_of_ble_eq_true rfl) ?_
  show AW miX2_doDays (d + 3) (mxA Q) 0 [(0, some (.ref 118)), (1, some (.ref w)), (2, some (.int (nI n)))] [] M
  obtain ⟨hV, h0, h4, h5, h6, h7⟩ : VX w M S ∧ M.1 118 0 = nI dr ∧ M.1 118 4 = nI mi ∧ M.1 118 5 = nI (S 0 1 - d0) ∧ M.1 118 6 = nI br ∧ M.1 118 7 = nI cr := id hR
  have hww : w = 17 ∨ w = 37 ∨ w = 58 ∨ w = 78 ∨ w = 98 := hw
  have hm := WF_m hF
  have hh := WF_h hF
  have hs := WF_s hF
  have hn := WF_n hF
  refine a_aload_n rfl dX2_doDays_0 ?_
  refine a_iload_n rfl dX2_doDays_1 ?_
  refine n_callV (mi' := miX6_hasDays) dX2_doDays_2 lX2_97 mX6_hasDays (isW_lt hw (i := 0) (by decide)) (layW_0 hw) rfl rfl (c_X6_hasDays hw hV hF hd9 (by omega) (fun h_2 => ?_) (fun h_2 => ?_) d) rfl rfl (by omega) (by decide) (Nat.le_of_ble_eq_true rfl)
  · show AW _ _ _ _ _ _ _
    refine n_if_eq 26 (by decide) dX2_doDays_5 (by decide) (fun h => absurd h (by decide)) (fun _ => ?_)
    refine a_aload_n rfl dX2_doDays_8 ?_
    refine a_iload_n rfl dX2_doDays_9 ?_
    refine n_callV (mi' := miX6_goDays) dX2_doDays_10 lX2_101 mX6_goDays (isW_lt hw (i := 0) (by decide)) (layW_0 hw) rfl rfl (c_X6_goDays hw hV hF (by omega) (fun M_10 hV_10 hf_10 => ?_) d) rfl rfl (by omega) (by decide) (Nat.le_of_ble_eq_true rfl)
    show AW _ _ _ _ _ _ _
    refine a_aload_n rfl dX2_doDays_13 ?_
    refine a_dup rfl dX2_doDays_14 ?_
    refine g_i (hf_10.i h5 (by omega)) (by decide) rfl fX2_36 rfl dX2_doDays_15 ?_
    refine a_iload_n rfl dX2_doDays_18 ?_
    refine n_iadd dX2_doDays_19 ?_
    refine a_puti dX2_doDays_20 pX2_36 (by decide) rfl rfl ?_
    refine a_goto 36 dX2_doDays_23 (by decide) ?_
    refine a_vret dX2_doDays_36 rfl ?_
    exact hQ _ (by rw [show rDay n (S, dr, mi, br, cr) = (dayN S n, dr, mi, br, cr) from if_pos h_2]; exact RW_mk (VX_si hV_10 hw) (siN (hf_10.i h0 (by omega)) (by omega)) (siN (hf_10.i h4 (by omega)) (by omega)) (siS.trans (congrArg nI (show S 0 1 - d0 + n = S 0 1 + n - d0 by omega))) (siN (hf_10.i h6 (by omega)) (by omega)) (siN (hf_10.i h7 (by omega)) (by omega))) ((hf_10.f.mo (fun k j h => by unfold fyP; omega)).si (by unfold fyP; omega))
  · show AW _ _ _ _ _ _ _
    refine n_if_eq 26 (by decide) dX2_doDays_5 (by decide) (fun _ => ?_) (fun h => absurd h (by decide))
    refine a_aload_n rfl dX2_doDays_26 ?_
    refine a_dup rfl dX2_doDays_27 ?_
    refine g_i h4 (by decide) rfl fX2_33 rfl dX2_doDays_28 ?_
    refine n_iconst 1 rfl dX2_doDays_31 ?_
    refine n_iadd dX2_doDays_32 ?_
    refine a_puti dX2_doDays_33 pX2_33 (by decide) rfl rfl ?_
    refine a_vret dX2_doDays_36 rfl ?_
    exact hQ _ (by rw [show rDay n (S, dr, mi, br, cr) = (S, dr, mi + 1, br, cr) from if_neg h_2]; exact RW_mk (VX_si hV hw) (siN h0 (by omega)) siS (siN h5 (by omega)) (siN h6 (by omega)) (siN h7 (by omega))) (fr.r.si (by unfold fyP; omega))

set_option maxRecDepth 100000 in
set_option maxHeartbeats 800000 in
theorem c_X2_doBring {w d0 : Nat} (hw : isW w) {M : Mm} {S : ST} {dr mi br cr : Nat} (hR : RW w d0 M (S, dr, mi, br, cr)) (hF : WF S) (hd9 : S 0 1 ≤ 9999) (hd0 : d0 ≤ S 0 1) (hdr : dr < 65536) {n : Nat} (hn9 : n ≤ 30) {Q : Option Value → Mm → Prop} (hQ : ∀ M', RW w d0 M' (rBr n (S, dr, mi, br, cr)) → FY w M M' → Q none M') (d : Nat) : AMt miX2_doBring (d + 3) [.ref 118, .ref w, .int (nI n)] M Q := by
  refine AMt.of (by decide) (Nat.le_of_ble_eq_true rfl) ?_
  show AW miX2_doBring (d + 3) (mxA Q) 0 [(0, some (.ref 118)), (1, some (.ref w)), (2, some (.int (nI n)))] [] M
  obtain ⟨hV, h0, h4, h5, h6, h7⟩ : VX w M S ∧ M.1 118 0 = nI dr ∧ M.1 118 4 = nI mi ∧ M.1 118 5 = nI (S 0 1 - d0) ∧ M.1 118 6 = nI br ∧ M.1 118 7 = nI cr := id hR
  have hww : w = 17 ∨ w = 37 ∨ w = 58 ∨ w = 78 ∨ w = 98 := hw
  have hm := WF_m hF
  have hh := WF_h hF
  have hs := WF_s hF
  have hn := WF_n hF
  refine a_aload_n rfl dX2_doBring_0 ?_
  refine a_iload_n rfl dX2_doBring_1 ?_
  refine n_callV (mi' := miX6_canCome) dX2_doBring_2 lX2_105 mX6_canCome (isW_lt hw (i := 0) (by decide)) (layW_0 hw) rfl rfl (c_X6_canCome hw hV hF (by omega) (fun hx_2 hb_2 hc_2 => ?_) (fun h_2 => ?_) d) rfl rfl (by omega) (by decide) (Nat.le_of_ble_eq_true rfl)
  · show AW _ _ _ _ _ _ _
    refine n_if_eq 26 (by decide) dX2_doBring_5 (by decide) (fun h => absurd h (by decide)) (fun _ => ?_)
    refine a_aload_n rfl dX2_doBring_8 ?_
    refine a_iload_n rfl dX2_doBring_9 ?_
    refine n_callV (mi' := miX6_come) dX2_doBring_10 lX2_108 mX6_come (isW_lt hw (i := 0) (by decide)) (layW_0 hw) rfl rfl (c_X6_come hw hV hF hx_2 (fun hV_10 => ?_) d) rfl rfl (by omega) (by decide) (Nat.le_of_ble_eq_true rfl)
    show AW _ _ _ _ _ _ _
    refine a_aload_n rfl dX2_doBring_13 ?_
    refine a_dup rfl dX2_doBring_14 ?_
    refine g_i (siN (siN h6 (by omega)) (by omega)) (by decide) rfl fX2_39 rfl dX2_doBring_15 ?_
    refine n_iconst 1 rfl dX2_doBring_18 ?_
    refine n_iadd dX2_doBring_19 ?_
    refine a_puti dX2_doBring_20 pX2_39 (by decide) rfl rfl ?_
    refine a_goto 36 dX2_doBring_23 (by decide) ?_
    refine a_vret dX2_doBring_36 rfl ?_
    have n118 : ∀ {h : Int32} {j : Nat} (e : M.1 118 j = h), True := fun _ => trivial
    exact hQ _ (by rw [show rBr n (S, dr, mi, br, cr) = (comeN S n, dr, mi, br + 1, cr) from if_pos ⟨hx_2, (came_bit hF hx_2).mp hb_2, hc_2⟩]; exact RW_mk (VX_si hV_10 hw) (siN (siN (siN h0 (by omega)) (by omega)) (by omega)) (siN (siN (siN h4 (by omega)) (by omega)) (by omega)) (siN (siN (siN h5 (by omega)) (by omega)) (by omega)) siS (siN (siN (siN h7 (by omega)) (by omega)) (by omega))) (((fr.r.si (by unfold fyP; omega)).si (by unfold fyP; omega)).si (by unfold fyP; omega))
  · show AW _ _ _ _ _ _ _
    refine n_if_eq 26 (by decide) dX2_doBring_5 (by decide) (fun _ => ?_) (fun h => absurd h (by decide))
    refine a_aload_n rfl dX2_doBring_26 ?_
    refine a_dup rfl dX2_doBring_27 ?_
    refine g_i h4 (by decide) rfl fX2_33 rfl dX2_doBring_28 ?_
    refine n_iconst 1 rfl dX2_doBring_31 ?_
    refine n_iadd dX2_doBring_32 ?_
    refine a_puti dX2_doBring_33 pX2_33 (by decide) rfl rfl ?_
    refine a_vret dX2_doBring_36 rfl ?_
    exact hQ _ (by rw [show rBr n (S, dr, mi, br, cr) = (S, dr, mi + 1, br, cr) from if_neg (fun q => h_2 ⟨q.1, (came_bit hF q.1).mpr q.2.1, q.2.2⟩)]; exact RW_mk (VX_si hV hw) (siN h0 (by omega)) siS (siN h5 (by omega)) (siN h6 (by omega)) (siN h7 (by omega))) (fr.r.si (by unfold fyP; omega))

set_option maxRecDepth 100000 in
set_option maxHeartbeats 800000 in
theorem c_X2_doCrisis {w d0 : Nat} (hw : isW w) {M : Mm} {S : ST} {dr mi br cr : Nat} (hR : RW w d0 M (S, dr, mi, br, cr)) (hF : WF S) (hd9 : S 0 1 ≤ 9999) (hd0 : d0 ≤ S 0 1) (hdr : dr < 65536) {a n : Nat} (ha : a < S 0 2) (hn9 : n ≤ 1000) {Q : Option Value → Mm → Prop} (hQ : ∀ M', RW w d0 M' (rCr a n (S, dr, mi, br, cr)) → FY w M M' → Q none M') (d : Nat) : AMt miX2_doCrisis (d + 3) [.ref 118, .ref w, .int (nI a), .int (nI n)] M Q := by
  refine AMt.of (by decide) (Nat.le_of_ble_eq_true rfl) ?_
  show AW miX2_doCrisis (d + 3) (mxA Q) 0 [(0, some (.ref 118)), (1, some (.ref w)), (2, some (.int (nI a))), (3, some (.int (nI n)))] [] M
  obtain ⟨hV, h0, h4, h5, h6, h7⟩ : VX w M S ∧ M.1 118 0 = nI dr ∧ M.1 118 4 = nI mi ∧ M.1 118 5 = nI (S 0 1 - d0) ∧ M.1 118 6 = nI br ∧ M.1 118 7 = nI cr := id hR
  have hww : w = 17 ∨ w = 37 ∨ w = 58 ∨ w = 78 ∨ w = 98 := hw
  have hm := WF_m hF
  have hh := WF_h hF
  have hs := WF_s hF
  have hn := WF_n hF
  have hca := WF_clear hF a ha
  refine a_aload_n rfl dX2_doCrisis_0 ?_
  refine a_iload_n rfl dX2_doCrisis_1 ?_
  refine n_callV (mi' := miX6_hasMatter) dX2_doCrisis_2 lX2_111 mX6_hasMatter (isW_lt hw (i := 0) (by decide)) (layW_0 hw) rfl rfl (c_X6_hasMatterN hw hV hF (by omega) (fun h_2 => ?_) (fun h_2 => ?_) d) rfl rfl (by omega) (by decide) (Nat.le_of_ble_eq_true rfl)
  · show AW _ _ _ _ _ _ _
    refine n_if_eq 36 (by decide) dX2_doCrisis_5 (by decide) (fun h => absurd h (by decide)) (fun _ => ?_)
    refine a_aload_n rfl dX2_doCrisis_8 ?_
    refine a_geta dX2_doCrisis_9 fX2_114 (isW_lt hw (i := 0) (by decide)) (layW_0 hw) rfl ?_
    refine a_iload_n rfl dX2_doCrisis_12 ?_
    refine v_iald (by omega) (VX_a3 hV (by omega)) (isW_lt hw (i := 3) (by decide)) (layW_3 hw) (by decide) dX2_doCrisis_13 ?_
    refine n_if_le 36 (by omega) dX2_doCrisis_14 (by decide) (fun h_14 => ?_) (fun h_14 => ?_)
    · refine a_aload_n rfl dX2_doCrisis_36 ?_
      refine a_dup rfl dX2_doCrisis_37 ?_
      refine g_i h4 (by decide) rfl fX2_33 rfl dX2_doCrisis_38 ?_
      refine n_iconst 1 rfl dX2_doCrisis_41 ?_
      refine n_iadd dX2_doCrisis_42 ?_
      refine a_puti dX2_doCrisis_43 pX2_33 (by decide) rfl rfl ?_
      refine a_vret dX2_doCrisis_46 rfl ?_
      exact hQ _ (by rw [show rCr a n (S, dr, mi, br, cr) = (S, dr, mi + 1, br, cr) from if_pos (show S 2 a = 0 by omega)]; exact RW_mk (VX_si hV hw) (siN h0 (by omega)) siS (siN h5 (by omega)) (siN h6 (by omega)) (siN h7 (by omega))) (fr.r.si (by unfold fyP; omega))
    · refine a_aload_n rfl dX2_doCrisis_17 ?_
      refine a_iload_n rfl dX2_doCrisis_18 ?_
      refine a_iload_n rfl dX2_doCrisis_19 ?_
      refine n_callV (mi' := miX6_worsen) dX2_doCrisis_20 lX2_117 mX6_worsen (isW_lt hw (i := 0) (by decide)) (layW_0 hw) rfl rfl (c_X6_worsen hw hV hF (by omega) (by omega) (fun hV_20 => ?_) d) rfl rfl (by omega) (by decide) (Nat.le_of_ble_eq_true rfl)
      show AW _ _ _ _ _ _ _
      refine a_aload_n rfl dX2_doCrisis_23 ?_
      refine a_dup rfl dX2_doCrisis_24 ?_
      refine g_i (siN h7 (by omega)) (by decide) rfl fX2_42 rfl dX2_doCrisis_25 ?_
      refine n_iconst 1 rfl dX2_doCrisis_28 ?_
      refine n_iadd dX2_doCrisis_29 ?_
      refine a_puti dX2_doCrisis_30 pX2_42 (by decide) rfl rfl ?_
      refine a_goto 46 dX2_doCrisis_33 (by decide) ?_
      refine a_vret dX2_doCrisis_46 rfl ?_
      exact hQ _ (by rw [show rCr a n (S, dr, mi, br, cr) = (hupd S a (S 2 a - n), dr, mi, br, cr + 1) from if_neg (show ¬ S 2 a = 0 by omega)]; exact RW_mk (VX_si hV_20 hw) (siN (siN h0 (by omega)) (by omega)) (siN (siN h4 (by omega)) (by omega)) (siN (siN h5 (by omega)) (by omega)) (siN (siN h6 (by omega)) (by omega)) siS) ((fr.r.si (by unfold fyP; omega)).si (by unfold fyP; omega))
  · show AW _ _ _ _ _ _ _
    refine n_if_eq 36 (by decide) dX2_doCrisis_5 (by decide) (fun _ => ?_) (fun h => absurd h (by decide))
    refine a_aload_n rfl dX2_doCrisis_36 ?_
    refine a_dup rfl dX2_doCrisis_37 ?_
    refine g_i h4 (by decide) rfl fX2_33 rfl dX2_doCrisis_38 ?_
    refine n_iconst 1 rfl dX2_doCrisis_41 ?_
    refine n_iadd dX2_doCrisis_42 ?_
    refine a_puti dX2_doCrisis_43 pX2_33 (by decide) rfl rfl ?_
    refine a_vret dX2_doCrisis_46 rfl ?_
    exact absurd ha h_2

set_option maxRecDepth 100000 in
set_option maxHeartbeats 800000 in
theorem c_X2_doTurn {w d0 : Nat} (hw : isW w) {M : Mm} {S : ST} {dr mi br cr : Nat} (hR : RW w d0 M (S, dr, mi, br, cr)) (hF : WF S) (hd9 : S 0 1 ≤ 9999) (hd0 : d0 ≤ S 0 1) (hdr : dr < 65536) {a n : Nat} (ha : a < S 0 4) (hn9 : n < S 0 2) {Q : Option Value → Mm → Prop} (hQ : ∀ M', RW w d0 M' (rTu a n (S, dr, mi, br, cr)) → FY w M M' → Q none M') (d : Nat) : AMt miX2_doTurn (d + 3) [.ref 118, .ref w, .int (nI a), .int (nI n)] M Q := by
  refine AMt.of (by decide) (Nat.le_of_ble_eq_true rfl) ?_
  show AW miX2_doTurn (d + 3) (mxA Q) 0 [(0, some (.ref 118)), (1, some (.ref w)), (2, some (.int (nI a))), (3, some (.int (nI n)))] [] M
  obtain ⟨hV, h0, h4, h5, h6, h7⟩ : VX w M S ∧ M.1 118 0 = nI dr ∧ M.1 118 4 = nI mi ∧ M.1 118 5 = nI (S 0 1 - d0) ∧ M.1 118 6 = nI br ∧ M.1 118 7 = nI cr := id hR
  have hww : w = 17 ∨ w = 37 ∨ w = 58 ∨ w = 78 ∨ w = 98 := hw
  have hm := WF_m hF
  have hh := WF_h hF
  have hs := WF_s hF
  have hn := WF_n hF
  have hfo := WF_for hF a ha
  refine a_aload_n rfl dX2_doTurn_0 ?_
  refine a_iload_n rfl dX2_doTurn_1 ?_
  refine n_callV (mi' := miX6_hasSitter) dX2_doTurn_2 lX2_121 mX6_hasSitter (isW_lt hw (i := 0) (by decide)) (layW_0 hw) rfl rfl (c_X6_hasSitterN hw hV hF (by omega) (fun h_2 => ?_) (fun h_2 => ?_) d) rfl rfl (by omega) (by decide) (Nat.le_of_ble_eq_true rfl)
  · show AW _ _ _ _ _ _ _
    refine n_if_eq 36 (by decide) dX2_doTurn_5 (by decide) (fun h => absurd h (by decide)) (fun _ => ?_)
    refine a_aload_n rfl dX2_doTurn_8 ?_
    refine a_iload_n rfl dX2_doTurn_9 ?_
    refine n_callV (mi' := miX6_hasMatter) dX2_doTurn_10 lX2_111 mX6_hasMatter (isW_lt hw (i := 0) (by decide)) (layW_0 hw) rfl rfl (c_X6_hasMatterN hw hV hF (by omega) (fun h_10 => ?_) (fun h_10 => ?_) d) rfl rfl (by omega) (by decide) (Nat.le_of_ble_eq_true rfl)
    · show AW _ _ _ _ _ _ _
      refine n_if_eq 36 (by decide) dX2_doTurn_13 (by decide) (fun h => absurd h (by decide)) (fun _ => ?_)
      refine a_aload_n rfl dX2_doTurn_16 ?_
      refine a_geta dX2_doTurn_17 fX2_124 (isW_lt hw (i := 0) (by decide)) (layW_0 hw) rfl ?_
      refine a_iload_n rfl dX2_doTurn_20 ?_
      refine v_iald (by omega) (VX_a9 hV (by omega)) (isW_lt hw (i := 9) (by decide)) (layW_9 hw) (by decide) dX2_doTurn_21 ?_
      refine a_iload_n rfl dX2_doTurn_22 ?_
      refine n_icmp_eq 36 (by omega) (by omega) dX2_doTurn_23 (by decide) (fun h_23 => ?_) (fun h_23 => ?_)
      · refine a_aload_n rfl dX2_doTurn_36 ?_
        refine a_dup rfl dX2_doTurn_37 ?_
        refine g_i h4 (by decide) rfl fX2_33 rfl dX2_doTurn_38 ?_
        refine n_iconst 1 rfl dX2_doTurn_41 ?_
        refine n_iadd dX2_doTurn_42 ?_
        refine a_puti dX2_doTurn_43 pX2_33 (by decide) rfl rfl ?_
        refine a_vret dX2_doTurn_46 rfl ?_
        exact hQ _ (by rw [show rTu a n (S, dr, mi, br, cr) = (S, dr, mi + 1, br, cr) from if_pos h_23]; exact RW_mk (VX_si hV hw) (siN h0 (by omega)) siS (siN h5 (by omega)) (siN h6 (by omega)) (siN h7 (by omega))) (fr.r.si (by unfold fyP; omega))
      · refine a_aload_n rfl dX2_doTurn_26 ?_
        refine a_geta dX2_doTurn_27 fX2_124 (isW_lt hw (i := 0) (by decide)) (layW_0 hw) rfl ?_
        refine a_iload_n rfl dX2_doTurn_30 ?_
        refine a_iload_n rfl dX2_doTurn_31 ?_
        refine n_iast (by omega) (isW_lt hw (i := 9) (by decide)) (layW_9 hw) (by decide) dX2_doTurn_32 ?_
        refine a_goto 46 dX2_doTurn_33 (by decide) ?_
        refine a_vret dX2_doTurn_46 rfl ?_
        exact hQ _ (by rw [show rTu a n (S, dr, mi, br, cr) = (upS2 S 7 a n, dr, mi, br, cr) from if_neg h_23]; exact RW_mk (VX_set7 hV ha) (siN h0 (by omega)) (siN h4 (by omega)) (siN h5 (by omega)) (siN h6 (by omega)) (siN h7 (by omega))) (fr.r.si (by unfold fyP; omega))
    · show AW _ _ _ _ _ _ _
      refine n_if_eq 36 (by decide) dX2_doTurn_13 (by decide) (fun _ => ?_) (fun h => absurd h (by decide))
      refine a_aload_n rfl dX2_doTurn_36 ?_
      refine a_dup rfl dX2_doTurn_37 ?_
      refine g_i h4 (by decide) rfl fX2_33 rfl dX2_doTurn_38 ?_
      refine n_iconst 1 rfl dX2_doTurn_41 ?_
      refine n_iadd dX2_doTurn_42 ?_
      refine a_puti dX2_doTurn_43 pX2_33 (by decide) rfl rfl ?_
      refine a_vret dX2_doTurn_46 rfl ?_
      exact absurd hn9 h_10
  · show AW _ _ _ _ _ _ _
    refine n_if_eq 36 (by decide) dX2_doTurn_5 (by decide) (fun _ => ?_) (fun h => absurd h (by decide))
    refine a_aload_n rfl dX2_doTurn_36 ?_
    refine a_dup rfl dX2_doTurn_37 ?_
    refine g_i h4 (by decide) rfl fX2_33 rfl dX2_doTurn_38 ?_
    refine n_iconst 1 rfl dX2_doTurn_41 ?_
    refine n_iadd dX2_doTurn_42 ?_
    refine a_puti dX2_doTurn_43 pX2_33 (by decide) rfl rfl ?_
    refine a_vret dX2_doTurn_46 rfl ?_
    exact absurd ha h_2

def emW : ST := fun a b => if a = 0 ∧ b = 0 then 4 else 0
theorem WF_em : WF emW := by
  refine ⟨by decide, by decide, by decide, by decide, by decide, by decide, ?_, ?_, ?_, ?_, ?_, ?_, ?_, ?_, ?_, ?_, ?_, ?_⟩ <;> exact fun j hj => absurd (show j < 0 from hj) (Nat.not_lt_zero j)
def Y0 : YR := (0, 0, fun _ _ => 0)
theorem em_V {M : Mm} {w : Nat} (hw : isW w) : VX w (emM M w) emW ∧ YX (w + 13) (emM M w) Y0 ∧ fr (fun k j => (k = w ∧ j ≤ 6) ∨ (k = w + 13 ∧ j ≤ 2)) M (emM M w) := by
  unfold emM
  refine ⟨VX_intro (siN (siN (siN (siN (siN (siN (siN (siN (siN siS (by omega)) (by omega)) (by omega)) (by omega)) (by omega)) (by omega)) (by omega)) (by omega)) (by omega)) (siN (siN (siN (siN (siN (siN (siN (siN siS (by omega)) (by omega)) (by omega)) (by omega)) (by omega)) (by omega)) (by omega)) (by omega)) (siN (siN (siN (siN (siN (siN (siN siS (by omega)) (by omega)) (by omega)) (by omega)) (by omega)) (by omega)) (by omega)) (siN (siN (siN (siN (siN (siN siS (by omega)) (by omega)) (by omega)) (by omega)) (by omega)) (by omega)) (siN (siN (siN (siN (siN siS (by omega)) (by omega)) (by omega)) (by omega)) (by omega)) (siN (siN (siN (siN siS (by omega)) (by omega)) (by omega)) (by omega)) (siN (siN (siN siS (by omega)) (by omega)) (by omega)) (fun j hj => absurd hj (Nat.not_lt_zero j)) (fun j hj => absurd hj (Nat.not_lt_zero j)) (fun j hj => absurd hj (Nat.not_lt_zero j)) (fun j hj => absurd hj (Nat.not_lt_zero j)) (fun j hj => absurd hj (Nat.not_lt_zero j)) (fun j hj => absurd hj (Nat.not_lt_zero j)) (fun j hj => absurd hj (Nat.not_lt_zero j)) (fun j hj => absurd hj (Nat.not_lt_zero j)) (fun j hj => absurd hj (Nat.not_lt_zero j)) (fun j hj => absurd hj (Nat.not_lt_zero j)), ⟨(siN (siN siS (by omega)) (by omega)), (siN siS (by omega)), siS, fun i hi => absurd hi (Nat.not_lt_zero i)⟩, ?_⟩
  exact (((((((((fr.r.si (by omega)).si (by omega)).si (by omega)).si (by omega)).si (by omega)).si (by omega)).si (by omega)).si (by omega)).si (by omega)).si (by omega)
def w0 : PW := ((0, 0, 0), emW, (fun _ _ => 0), 0)
theorem pt_day {tk : Nat → TK} {t : Nat} {S : ST} {N : NM} {c : CC} : (ptA tk t S N c).2.1 0 1 = S 0 1 := by
  unfold ptA
  split
  · rfl
  · split
    · simp [ptM, addMN]
    · split
      · simp [ptH, addHN]
      · split
        · simp [ptS, addSN]
        · split
          · simp [ptN, addNN]
          · rfl
/-- in the midst of reading a wood -/
def riP (k j : Nat) : Prop := cuP k j ∨ (37 ≤ k ∧ k < 57) ∨ (k = 14 ∧ j = 0)
def RDW (M0 M : Mm) (tk : Nat → TK) (n : Nat) (R : PW) (f : Nat) (x : PW) : Prop := TX M tk n ∧ CU M n x.1 ∧ (x.1.2.1 = 0 → VX 37 M x.2.1 ∧ VN 37 M x.2.1 x.2.2.1 ∧ WF x.2.1 ∧ x.2.1 0 1 = 0) ∧ M.1 14 0 = nI x.2.2.2 ∧ x.2.2.2 ≤ 1 ∧ YX 50 M Y0 ∧ fr riP M0 M ∧ lpW tk f x = R
theorem rw_ri {k j : Nat} (h : rwP k j) : riP k j := h.elim Or.inl (fun z => Or.inr (z.elim (fun z => Or.inl (by omega)) Or.inr))
theorem YX_rw {M M' : Mm} (h : YX 50 M Y0) (hf : fr rwP M M') : YX 50 M' Y0 := YX_eq h (fun k a b => funext fun j => (hf k j (by unfold rwP cuP; omega)).1)
theorem RI_end {M0 M : Mm} {tk : Nat → TK} {n : Nat} {R : PW} {f : Nat} {x : PW} (h : RDW M0 M tk n R f x) (hg : f = 0 ∨ ¬ (x.1.2.1 = 0 ∧ kd tk x.1 ≠ 0)) : CU M n R.1 ∧ (R.1.2.1 = 0 → VX 37 M R.2.1 ∧ VN 37 M R.2.1 R.2.2.1 ∧ WF R.2.1 ∧ R.2.1 0 1 = 0) ∧ YX 50 M Y0 ∧ TX M tk n ∧ fr riP M0 M := by
  obtain ⟨h1, h2, h3, h4, h5, h6, h7, h8⟩ := h
  have e : x = R := by
    rcases hg with e | e
    · subst e; exact h8
    · rw [lpW_e e] at h8; exact h8
  subst e
  exact ⟨h2, h3, h6, h1, h7⟩

theorem RI_0 {M : Mm} {tk : Nat → TK} {n : Nat} (hT : TX M tk n) (hC : CU M n (0, 0, 0)) : RDW M (siM (emM M 37) 14 0 (nI 0)) tk n (lpW tk 900 w0) (900 - 0) w0 := by
  have h := em_V (M := M) isW37
  have hf : fr riP M (siM (emM M 37) 14 0 (nI 0)) := (h.2.2.mo (fun k j z => Or.inr (Or.inl (by omega)))).si (Or.inr (Or.inr ⟨rfl, rfl⟩))
  have hs : fr (fun k j => k = 14 ∧ j = 0) (emM M 37) (siM (emM M 37) 14 0 (nI 0)) := fr.r.si ⟨rfl, rfl⟩
  have hg : fr (fun k j => (k = 14 ∧ j = 0) ∨ (37 ≤ k ∧ k < 57)) M (siM (emM M 37) 14 0 (nI 0)) := (h.2.2.mo (fun k j z => by omega)).si (by omega)
  exact ⟨TX_fr hT hg (fun k j z => by omega), CU_fr hC hg (fun j a b => by omega), fun _ => ⟨VX_fr h.1 (fun k j a b => (hs k j (by omega)).1), ⟨fun j hj => absurd (show j < 0 from hj) (Nat.not_lt_zero j), fun j hj => absurd (show j < 0 from hj) (Nat.not_lt_zero j)⟩, WF_em, rfl⟩, siS, Nat.zero_le _, YX_eq h.2.1 (fun k a b => funext fun j => (hs k j (by omega)).1), hf, rfl⟩
theorem RI_step {M0 M M1 M2 : Mm} {tk : Nat → TK} {n : Nat} {R : PW} {f : Nat} {x : PW} (h : RDW M0 M tk n R (f + 1) x) (h0 : x.1.2.1 = 0) (hk : kd tk x.1 ≠ 0) (hc : CU M1 n (ptA tk x.2.2.2 x.2.1 x.2.2.1 x.1).1) (hv : (ptA tk x.2.2.2 x.2.1 x.2.2.1 x.1).1.2.1 = 0 → VX 37 M1 (ptA tk x.2.2.2 x.2.1 x.2.2.1 x.1).2.1 ∧ VN 37 M1 (ptA tk x.2.2.2 x.2.1 x.2.2.1 x.1).2.1 (ptA tk x.2.2.2 x.2.1 x.2.2.1 x.1).2.2) (ht : M1.1 14 0 = nI (if isK tk x.1 0 = true then 1 else x.2.2.2)) (hf : fr rwP M M1) (hc2 : CU M2 n (endC tk (ptA tk x.2.2.2 x.2.1 x.2.2.1 x.1).1)) (hf2 : fr cuP M1 M2) : RDW M0 M2 tk n R f (ptW tk x) := by
  obtain ⟨h1, h2, h3, h4, h5, h6, h7, h8⟩ := h
  have hg : fr rwP M M2 := hf.t (hf2.mo (fun _ _ z => cu_rd z))
  refine ⟨TX_fr h1 hg (fun k j z => by unfold rwP cuP; omega), hc2, fun z => ?_, ((hf2 14 0 (by unfold cuP; omega)).1).trans ht, ptW_t h5, YX_rw h6 hg, h7.t (hg.mo (fun _ _ z => rw_ri z)), by rw [lpW_s h0 hk] at h8; exact h8⟩
  have z1 := (end_0 (show (endC tk (ptA tk x.2.2.2 x.2.1 x.2.2.1 x.1).1).2.1 = 0 from z)).1
  exact ⟨VX_cu isW37 (hv z1).1 hf2, VN_cu isW37 (hv z1).2 hf2, (pt_WF z1 (h3 h0).2.2.1).1, pt_day.trans (h3 h0).2.2.2⟩

set_option maxRecDepth 100000 in
set_option maxHeartbeats 800000 in
theorem c_X7_readInto {M : Mm} {tk : Nat → TK} {n : Nat} (hK : TKG tk) (hT : TX M tk n) (hC : CU M n (0, 0, 0)) {Q : Option Value → Mm → Prop} (hQ : ∀ M', CU M' n (lpW tk 900 w0).1 → ((lpW tk 900 w0).1.2.1 = 0 → VX 37 M' (lpW tk 900 w0).2.1 ∧ VN 37 M' (lpW tk 900 w0).2.1 (lpW tk 900 w0).2.2.1 ∧ WF (lpW tk 900 w0).2.1 ∧ (lpW tk 900 w0).2.1 0 1 = 0) → YX 50 M' Y0 → TX M' tk n → fr riP M M' → Q none M') (d : Nat) : AMt miX7_readInto (d + 8) [.ref 14, .ref 37, .ref 10] M Q := by
  refine AMt.of (by decide) (Nat.le_of_ble_eq_true rfl) ?_
  show AW miX7_readInto (d + 8) (mxA Q) 0 [(0, some (.ref 14)), (1, some (.ref 37)), (2, some (.ref 10))] [] M
  refine a_aload_n rfl dX7_readInto_0 ?_
  refine n_callV (mi' := miX6_makeEmpty) dX7_readInto_1 lX7_9 mX6_makeEmpty (by decide) rfl rfl rfl (c_X6_makeEmpty isW37 ?_ d) rfl rfl (by omega) (by decide) (Nat.le_of_ble_eq_true rfl)
  show AW _ _ _ _ _ _ _
  refine a_aload_n rfl dX7_readInto_4 ?_
  refine n_iconst 0 rfl dX7_readInto_5 ?_
  refine a_putz dX7_readInto_6 pX7_14 (by decide) rfl rfl (Or.inl rfl) ?_
  refine n_iconst 0 rfl dX7_readInto_9 ?_
  refine a_istore_n (by decide) rfl dX7_readInto_10 ?_
  have loop_11 : ∀ i, i ≤ 900 → ∀ M1, (∃ x, RDW M M1 tk n (lpW tk 900 w0) (900 - i) x) → AW miX7_readInto (d + 8) (mxA Q) 11 [(0, some (.ref 14)), (1, some (.ref 37)), (2, some (.ref 10)), (3, some (.int (nI i)))] [] M1 := by
    refine up (W := fun i => ∀ M1, (∃ x, RDW M M1 tk n (lpW tk 900 w0) (900 - i) x) → AW miX7_readInto (d + 8) (mxA Q) 11 [(0, some (.ref 14)), (1, some (.ref 37)), (2, some (.ref 10)), (3, some (.int (nI i)))] [] M1) 900 (fun M1 hI_11 => ?_) (fun i hi_11 ih_11 M1 hI_11 => ?_)
    · obtain ⟨x, hx⟩ := hI_11
      refine a_iload_n rfl dX7_readInto_11 ?_
      refine n_sipush 900 rfl dX7_readInto_12 ?_
      refine n_icmp_ge 41 (by omega) (by omega) dX7_readInto_15 (by decide) (fun h_15 => ?_) (fun h_15 => absurd h_15 (by omega))
      refine a_vret dX7_readInto_41 rfl ?_
      have he := RI_end hx (Or.inl (by omega))
      exact hQ _ he.1 he.2.1 he.2.2.1 he.2.2.2.1 he.2.2.2.2
    · obtain ⟨x, hx⟩ := hI_11
      refine a_iload_n rfl dX7_readInto_11 ?_
      refine n_sipush 900 rfl dX7_readInto_12 ?_
      refine n_icmp_ge 41 (by omega) (by omega) dX7_readInto_15 (by decide) (fun h_15 => absurd h_15 (by omega)) (fun h_15 => ?_)
      refine a_aload_n rfl dX7_readInto_18 ?_
      refine n_callV (mi' := miX4_goOn) dX7_readInto_19 lX7_20 mX4_goOn (by decide) rfl rfl rfl (c_X4_goOn hK hx.1 hx.2.1 (fun h_19 k_19 => ?_) (fun h_19 => ?_) d) rfl rfl (by omega) (by decide) (Nat.le_of_ble_eq_true rfl)
      · show AW _ _ _ _ _ _ _
        refine n_if_eq 41 (by decide) dX7_readInto_22 (by decide) (fun h => absurd h (by decide)) (fun _ => ?_)
        refine a_aload_n rfl dX7_readInto_25 ?_
        refine a_aload_n rfl dX7_readInto_26 ?_
        refine a_aload_n rfl dX7_readInto_27 ?_
        refine n_callV (mi' := miX7_readPart) dX7_readInto_28 lX7_26 mX7_readPart (by decide) rfl rfl rfl (c_X7_readPart hK hx.1 hx.2.1 (hx.2.2.1 h_19).1 (hx.2.2.1 h_19).2.2.1 (hx.2.2.1 h_19).2.1 hx.2.2.2.1 hx.2.2.2.2.1 (fun M_28 hc_28 hv_28 ht_28 hf_28 => ?_) d) rfl rfl (by omega) (by decide) (Nat.le_of_ble_eq_true rfl)
        show AW _ _ _ _ _ _ _
        refine a_aload_n rfl dX7_readInto_31 ?_
        refine n_callV (mi' := miX4_takeEndOfPart) dX7_readInto_32 lX7_30 mX4_takeEndOfPart (by decide) rfl rfl rfl (c_X4_takeEndOfPart hK (TX_fr hx.1 hf_28 (fun k j z => by unfold rwP cuP; omega)) hc_28 (fun M_32 hc_32 hf_32 => ?_) d) rfl rfl (by omega) (by decide) (Nat.le_of_ble_eq_true rfl)
        show AW _ _ _ _ _ _ _
        refine n_iinc (c := 1) rfl rfl (by decide) rfl dX7_readInto_35 ?_
        refine a_goto 11 dX7_readInto_38 (by decide) ?_
        exact a_bk (ih_11 _ ⟨ptW tk x, RI_step ((show 900 - i = (900 - (i + 1)) + 1 by omega) ▸ hx) h_19 k_19 hc_28 hv_28 ht_28 hf_28 hc_32 hf_32⟩) ⟨rfl, rfl, rfl, rfl, trivial⟩
      · show AW _ _ _ _ _ _ _
        refine n_if_eq 41 (by decide) dX7_readInto_22 (by decide) (fun _ => ?_) (fun h => absurd h (by decide))
        refine a_vret dX7_readInto_41 rfl ?_
        have he := RI_end hx (Or.inr h_19)
        exact hQ _ he.1 he.2.1 he.2.2.1 he.2.2.2.1 he.2.2.2.2
  exact a_bk (loop_11 0 (by omega) _ ⟨w0, RI_0 hT hC⟩) ⟨rfl, rfl, rfl, rfl, trivial⟩

/-- the tape holds bytes -/
def TB_ (T : TT) : Prop := ∀ j, j < (tP T).1 → isByt ((tP T).2 j)
def dT (T : TT) (j : Nat) : Nat := byN ((tP T).2 j)
def woR (T : TT) (n : Nat) : PW := lpW (tkN (dT T) n) 900 w0
def tfT (T : TT) (W : WD) (a b : Int32) (n : Nat) : TT := st' (sF (sP (sW T W) (0, (tP T).2)) (a, b)) n
def sp_wood (x : Int32) (T : TT) : AN := if 0 ≤ x.toInt ∧ x.toInt ≤ (tP T).1 then (if (woR T (idx x)).1.2.1 = 0 then (nI ((woR T (idx x)).2.1 0 4), tfT T ((woR T (idx x)).2.1, (woR T (idx x)).2.2.1, Y0) (nI 0) (-1) 0) else (-1, tfT T (tW T) (nI (woR T (idx x)).1.2.1) (nI (woR T (idx x)).1.2.2) 10)) else (-1, st' T 5)
theorem WFY_0 {S : ST} (h : S 0 1 = 0) : WFY S Y0 := ⟨Nat.zero_le _, Nat.zero_le _, Nat.zero_le _, by rw [h]; exact Nat.zero_le _, fun i hi => absurd hi (Nat.not_lt_zero i)⟩
def txP (k j : Nat) : Prop := (k = 0 ∧ (j = 0 ∨ j = 4)) ∨ (10 ≤ k ∧ k < 57)
theorem IX_tx {M M1 : Mm} {T : TT} {W' : WD} {a b : Int32} {n : Nat} (h : IX M T) (hW : WX 17 M1 W') (h4 : M1.1 0 4 = nI 0) (h0 : M1.1 0 0 = nI n) (hF : M1.1 10 5 = a ∧ M1.1 10 6 = b) (hf : fr txP M M1) : IX M1 (tfT T W' a b n) ∧ keM M M1 := by
  obtain ⟨h1, h2, h3, h4', h5, h6, h7, h8⟩ := h
  exact ⟨⟨hW, RX_fr h2 hf (fun k j a b => by unfold txP; omega), ⟨h4, fun j hj => absurd (show j < 0 from hj) (Nat.not_lt_zero j)⟩, ⟨h0, hf.l h4'.2.1 (by unfold txP; omega), hf.l h4'.2.2 (by unfold txP; omega)⟩, hF, ⟨hf.i h6.1 (by unfold txP; omega), fun q j hj => hf.i (h6.2 q j hj) (by unfold txP; omega)⟩, hf.i h7 (by unfold txP; omega), fun i hi => WX_fr (h8 i hi) hf (fun k j a b => by unfold txP; omega)⟩, keM_fr hf (fun k j z => by unfold txP at z; omega)⟩
theorem tk_tx {k j : Nat} (h : tkP k j) : txP k j := by unfold tkP at h; unfold txP; omega
theorem ri_tx {k j : Nat} (h : riP k j) : txP k j := by unfold riP cuP at h; unfold txP; omega

def w1P (k j : Nat) : Prop := (k = 0 ∧ (j = 0 ∨ j = 4)) ∨ (10 ≤ k ∧ k < 17) ∨ (37 ≤ k ∧ k < 57)

set_option maxRecDepth 100000 in
set_option maxHeartbeats 800000 in
theorem c_X11_wood {M : Mm} {T : TT} (hI : IX M T) (hG : TG T) (hB : TB_ T) {x : Int32} {Q : Option Value → Mm → Prop} (hQ : ∀ M', IX M' (sp_wood x T).2 → keM M M' → Q (some (.int (sp_wood x T).1)) M') (d : Nat) : AMt miX11_wood (d + 9) [.ref 0, .int x] M Q := by
  refine AMt.of (by decide) (Nat.le_of_ble_eq_true rfl) ?_
  show AW miX11_wood (d + 9) (mxA Q) 0 [(0, some (.ref 0)), (1, some (.int x))] [] M
  have hV : VX 17 M (tS T) := hI.1.1
  have hF : WF (tS T) := hG.1.1
  have hm : tS T 0 2 ≤ 6 := WF_m hF
  have hh : tS T 0 3 ≤ 10 := WF_h hF
  have hs : tS T 0 4 ≤ 7 := WF_s hF
  have hn : tS T 0 5 ≤ 8 := WF_n hF
  have hp9 : (tP T).1 ≤ 900 := hG.2.2.1
  refine a_iload_n rfl dX11_wood_0 ?_
  refine r_if_lt 12 dX11_wood_1 (by decide) (fun h_1 => ?_) (fun h_1 => ?_)
  · refine a_aload_n rfl dX11_wood_12 ?_
    refine n_iconst 5 rfl dX11_wood_13 ?_
    refine n_callV (mi' := miX11_none) dX11_wood_14 lX11_131 mX11_none (by decide) rfl rfl rfl (c_X11_none ?_ d) rfl rfl (by omega) (by decide) (Nat.le_of_ble_eq_true rfl)
    show AW _ _ _ _ _ _ _
    refine a_iret dX11_wood_17 rfl ?_
    exact fin_q hQ hI hG (by unfold sp_wood; rw [if_neg (by omega)]) fr.r
  · refine a_iload_n rfl dX11_wood_4 ?_
    refine a_aload_n rfl dX11_wood_5 ?_
    refine g_i hI.2.2.1.1 (by decide) rfl fX11_24 rfl dX11_wood_6 ?_
    refine r_icmp_le 18 (by omega) dX11_wood_9 (by decide) (fun h_9 => ?_) (fun h_9 => ?_)
    · obtain ⟨q, hq, rfl⟩ := inR_of (x := x) (m := 901) (by omega) (by omega) (by omega)
      have t_q : (nI q).toInt = (q : Int) := nI_toInt (by omega)
      have i_q : idx (nI q) = q := idx_nI (by omega)
      refine a_aload_n rfl dX11_wood_18 ?_
      refine a_geta dX11_wood_19 fX11_37 (by decide) rfl rfl ?_
      refine a_aload_n rfl dX11_wood_22 ?_
      refine a_geta dX11_wood_23 fX11_20 (by decide) rfl rfl ?_
      refine a_iload_n rfl dX11_wood_26 ?_
      refine n_callV (mi' := miX4_open) dX11_wood_27 lX11_159 mX4_open (by decide) rfl rfl rfl (c_X4_open (D := dT T) (n := q) (fun j hj => (hI.2.2.1.2 j (by omega)).trans (byN_e (hB j (by omega)))) (fun j => byN_lt _) (by omega) (fun M_27 c_27 hT_27 ha_27 hb_27 hp_27 hf_27 => ?_) d) rfl rfl (by omega) (by decide) (Nat.le_of_ble_eq_true rfl)
      show AW _ _ _ _ _ _ _
      refine a_aload_n rfl dX11_wood_30 ?_
      refine n_iconst 0 rfl dX11_wood_31 ?_
      refine a_puti dX11_wood_32 pX11_24 (by decide) rfl rfl ?_
      have hs_27 : fr (fun k j => k = 0 ∧ j = 4) M_27 (siM M_27 0 4 (nI 0)) := fr.r.si (by omega)
      refine a_aload_n rfl dX11_wood_35 ?_
      refine a_geta dX11_wood_36 fX11_44 (by decide) rfl rfl ?_
      refine a_aload_n rfl dX11_wood_39 ?_
      refine a_geta dX11_wood_40 fX11_62 (by decide) rfl rfl ?_
      refine a_aload_n rfl dX11_wood_43 ?_
      refine a_geta dX11_wood_44 fX11_37 (by decide) rfl rfl ?_
      refine n_callV (mi' := miX7_readInto) dX11_wood_47 lX11_163 mX7_readInto (by decide) rfl rfl rfl (c_X7_readInto (tk := tkN (dT T) q) (n := c_27) (tkN_G (by omega)) (TX_fr hT_27 hs_27 (fun k j z => by omega)) ⟨hT_27.2.1, hs_27.i ha_27 (by omega), hs_27.i hb_27 (by omega), (hs_27.i hp_27 (by omega)).trans (if_pos rfl).symm, Nat.zero_le _⟩ (fun M_47 hc_47 hv_47 hy_47 hT_47 hf_47 => ?_) d) rfl rfl (by omega) (by decide) (Nat.le_of_ble_eq_true rfl)
      show AW _ _ _ _ _ _ _
      have h4_47 : M_47.1 0 4 = nI 0 := hf_47.i siS (by unfold riP cuP; omega)
      have hg_47 : fr txP M M_47 := ((hf_27.mo (fun _ _ h => tk_tx h)).si (by unfold txP; omega)).t (hf_47.mo (fun _ _ h => ri_tx h))
      have hg2_47 : fr w1P M M_47 := ((hf_27.mo (fun k j h => by unfold tkP at h; unfold w1P; omega)).si (by unfold w1P; omega)).t (hf_47.mo (fun k j h => by unfold riP cuP at h; unfold w1P; omega))
      have hf2w : fr w1P M (siM M_47 0 0 (nI 10)) := hg2_47.si (by unfold w1P; omega)
      refine a_aload_n rfl dX11_wood_50 ?_
      refine a_geta dX11_wood_51 fX11_37 (by decide) rfl rfl ?_
      refine n_callV (mi' := miX4_areGood) dX11_wood_54 lX11_167 mX4_areGood (by decide) rfl rfl rfl (c_X4_areGood (tkN_G (by omega)) hT_47 hc_47 (fun h_54 => ?_) (fun h_54 => ?_) d) rfl rfl (by omega) (by decide) (Nat.le_of_ble_eq_true rfl)
      · show AW _ _ _ _ _ _ _
        refine n_if_ne 67 (by decide) dX11_wood_57 (by decide) (fun _ => ?_) (fun h => absurd h (by decide))
        refine a_aload_n rfl dX11_wood_67 ?_
        refine a_geta dX11_wood_68 fX11_58 (by decide) rfl rfl ?_
        refine a_aload_n rfl dX11_wood_71 ?_
        refine a_geta dX11_wood_72 fX11_62 (by decide) rfl rfl ?_
        refine n_callV (mi' := miX6_takeFrom) dX11_wood_75 lX11_170 mX6_takeFrom (by decide) rfl rfl rfl (c_take (w := 17) (u := 37) (W := ((woR T q).2.1, (woR T q).2.2.1, Y0)) isW17 isW37 (by omega) ⟨(hv_47 h_54).1, (hv_47 h_54).2.1, hy_47⟩ ⟨(hv_47 h_54).2.2.1, WFY_0 (hv_47 h_54).2.2.2⟩ (fun M_75 hW_75 hf_75 => ?_) d) rfl rfl (by omega) (by decide) (Nat.le_of_ble_eq_true rfl)
        show AW _ _ _ _ _ _ _
        refine a_aload_n rfl dX11_wood_78 ?_
        refine a_aload_n rfl dX11_wood_79 ?_
        refine a_geta dX11_wood_80 fX11_58 (by decide) rfl rfl ?_
        refine g_i (VX_4 hW_75.1) (by decide) rfl fX11_174 rfl dX11_wood_83 ?_
        refine n_callV (mi' := miX11_answer) dX11_wood_86 lX11_177 mX11_answer (by decide) rfl rfl rfl (c_X11_answer ?_ d) rfl rfl (by omega) (by decide) (Nat.le_of_ble_eq_true rfl)
        show AW _ _ _ _ _ _ _
        refine a_iret dX11_wood_89 rfl ?_
        have e : sp_wood (nI q) T = (nI ((woR T q).2.1 0 4), tfT T ((woR T q).2.1, (woR T q).2.2.1, Y0) (nI 0) (-1) 0) := by unfold sp_wood; rw [if_pos (by omega), i_q, if_pos (show (woR T q).1.2.1 = 0 from h_54)]
        rw [e] at hQ
        have hf2 : fr txP M (siM M_75 0 0 (nI 0)) := (hg_47.t (hf_75.mo (fun k j z => by unfold txP; omega))).si (by unfold txP; omega)
        have hx := IX_tx (n := 0) hI (WX_eq hW_75 (fun k a b => funext fun j => siN rfl (by omega)) (fun _ _ _ => rfl)) (siN (hf_75.i h4_47 (by omega)) (by omega)) siS ⟨siN (hf_75.i (hc_47.2.2.1.trans (congrArg nI h_54)) (by omega)) (by omega), siN (hf_75.i (hc_47.2.2.2.1.trans (if_pos h_54)) (by omega)) (by omega)⟩ hf2
        exact hQ _ hx.1 hx.2
      · show AW _ _ _ _ _ _ _
        refine n_if_ne 67 (by decide) dX11_wood_57 (by decide) (fun h => absurd h (by decide)) (fun _ => ?_)
        refine a_aload_n rfl dX11_wood_60 ?_
        refine n_bipush 10 rfl dX11_wood_61 ?_
        refine n_callV (mi' := miX11_none) dX11_wood_63 lX11_131 mX11_none (by decide) rfl rfl rfl (c_X11_none ?_ d) rfl rfl (by omega) (by decide) (Nat.le_of_ble_eq_true rfl)
        show AW _ _ _ _ _ _ _
        refine a_iret dX11_wood_66 rfl ?_
        have e : sp_wood (nI q) T = (-1, tfT T (tW T) (nI (woR T q).1.2.1) (nI (woR T q).1.2.2) 10) := by unfold sp_wood; rw [if_pos (by omega), i_q, if_neg (show ¬ (woR T q).1.2.1 = 0 from h_54)]
        rw [e] at hQ
        have hf2 : fr txP M (siM M_47 0 0 (nI 10)) := (hg_47).si (by unfold txP; omega)
        have hx := IX_tx (n := 10) hI (WX_fr hI.1 hf2w (fun k j a b => by unfold w1P; omega)) (siN h4_47 (by omega)) siS ⟨siN hc_47.2.2.1 (by omega), siN (hc_47.2.2.2.1.trans (if_neg h_54)) (by omega)⟩ hf2
        exact hQ _ hx.1 hx.2
    · refine a_aload_n rfl dX11_wood_12 ?_
      refine n_iconst 5 rfl dX11_wood_13 ?_
      refine n_callV (mi' := miX11_none) dX11_wood_14 lX11_131 mX11_none (by decide) rfl rfl rfl (c_X11_none ?_ d) rfl rfl (by omega) (by decide) (Nat.le_of_ble_eq_true rfl)
      show AW _ _ _ _ _ _ _
      refine a_iret dX11_wood_17 rfl ?_
      exact fin_q hQ hI hG (by unfold sp_wood; rw [if_neg (by omega)]) fr.r

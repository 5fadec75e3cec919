/-- byte s / 8 of an int, as the tape has it -/
def byB (x : Int32) (s : Nat) : Int32 := vp_nar .byte ((x >>> (nI s &&& 31)).toInt8.toInt32)
def fdN (P : Nat × (Nat → Int32)) (a b c d e : Int32) : Nat → Int32 := fun j => if j < P.1 then P.2 j else byB (if (j - P.1) / 4 = 0 then a else if (j - P.1) / 4 = 1 then b else if (j - P.1) / 4 = 2 then c else if (j - P.1) / 4 = 3 then d else e) (24 - 8 * ((j - P.1) % 4))
def sp_feed (a b c d e : Int32) (T : TT) : AN := if (tP T).1 ≤ 880 then (nI ((tP T).1 + 20), sP T ((tP T).1 + 20, fdN (tP T) a b c d e)) else (-1, T)
theorem fd_at {P : Nat × (Nat → Int32)} {a b c d e : Int32} {q r : Nat} {x : Int32} (hr : r < 4) (hx : (if q = 0 then a else if q = 1 then b else if q = 2 then c else if q = 3 then d else e) = x) : fdN P a b c d e (P.1 + 4 * q + r) = byB x (24 - 8 * r) := by
  unfold fdN
  rw [if_neg (by omega), show (P.1 + 4 * q + r - P.1) / 4 = q by omega, show (P.1 + 4 * q + r - P.1) % 4 = r by omega, hx]
theorem fd_old {P : Nat × (Nat → Int32)} {a b c d e : Int32} {j : Nat} (h : j < P.1) : fdN P a b c d e j = P.2 j := by unfold fdN; rw [if_pos h]

set_option maxRecDepth 100000 in
set_option maxHeartbeats 800000 in
theorem c_X11_feedInt {M : Mm} {n : Nat} (hn : n ≤ 896) (h4 : M.1 0 4 = nI n) {x : Int32} {Q : Option Value → Mm → Prop} (hQ : ∀ M', M'.1 0 4 = nI (n + 4) → (∀ r, r < 4 → M'.1 1 (n + r) = byB x (24 - 8 * r)) → fr (fun k j => (k = 0 ∧ j = 4) ∨ (k = 1 ∧ n ≤ j ∧ j < n + 4)) M M' → Q none M') (d : Nat) : AMt miX11_feedInt (d) [.ref 0, .int x] M Q := by
  refine AMt.of (by decide) (Nat.le_of_ble_eq_true rfl) ?_
  show AW miX11_feedInt (d) (mxA Q) 0 [(0, some (.ref 0)), (1, some (.int x))] [] M
  refine n_bipush 24 rfl dX11_feedInt_0 ?_
  refine a_istore_n (by decide) rfl dX11_feedInt_2 ?_
  refine a_iload_n rfl dX11_feedInt_3 ?_
  refine n_if_lt (tgt := 46) (by omega) dX11_feedInt_4 (by decide) ?_
  refine a_aload_n rfl dX11_feedInt_7 ?_
  refine g_i h4 (by decide) rfl fX11_24 rfl dX11_feedInt_8 ?_
  refine n_sipush 900 rfl dX11_feedInt_11 ?_
  refine n_icmp_ge 40 (by omega) (by omega) dX11_feedInt_14 (by decide) (fun h_14 => absurd h_14 (by omega)) (fun h_14 => ?_)
  refine a_aload_n rfl dX11_feedInt_17 ?_
  refine a_geta dX11_feedInt_18 fX11_20 (by decide) rfl rfl ?_
  refine a_aload_n rfl dX11_feedInt_21 ?_
  refine g_i h4 (by decide) rfl fX11_24 rfl dX11_feedInt_22 ?_
  refine a_iload_n rfl dX11_feedInt_25 ?_
  refine a_iload_n rfl dX11_feedInt_26 ?_
  refine a_ishr dX11_feedInt_27 ?_
  refine a_i2b dX11_feedInt_28 ?_
  refine n_bast (by omega) (by decide) rfl (by decide) dX11_feedInt_29 ?_
  refine a_aload_n rfl dX11_feedInt_30 ?_
  refine a_dup rfl dX11_feedInt_31 ?_
  refine g_i (siN h4 (by omega)) (by decide) rfl fX11_24 rfl dX11_feedInt_32 ?_
  refine n_iconst 1 rfl dX11_feedInt_35 ?_
  refine n_iadd dX11_feedInt_36 ?_
  refine a_puti dX11_feedInt_37 pX11_24 (by decide) rfl rfl ?_
  refine n_dec (c := 8) rfl (by decide) (by decide) (by decide) rfl dX11_feedInt_40 ?_
  refine a_goto 3 dX11_feedInt_43 (by decide) ?_
  refine a_iload_n rfl dX11_feedInt_3 ?_
  refine n_if_lt (tgt := 46) (by omega) dX11_feedInt_4 (by decide) ?_
  refine a_aload_n rfl dX11_feedInt_7 ?_
  refine g_i siS (by decide) rfl fX11_24 rfl dX11_feedInt_8 ?_
  refine n_sipush 900 rfl dX11_feedInt_11 ?_
  refine n_icmp_ge 40 (by omega) (by omega) dX11_feedInt_14 (by decide) (fun h_14 => absurd h_14 (by omega)) (fun h_14 => ?_)
  refine a_aload_n rfl dX11_feedInt_17 ?_
  refine a_geta dX11_feedInt_18 fX11_20 (by decide) rfl rfl ?_
  refine a_aload_n rfl dX11_feedInt_21 ?_
  refine g_i siS (by decide) rfl fX11_24 rfl dX11_feedInt_22 ?_
  refine a_iload_n rfl dX11_feedInt_25 ?_
  refine a_iload_n rfl dX11_feedInt_26 ?_
  refine a_ishr dX11_feedInt_27 ?_
  refine a_i2b dX11_feedInt_28 ?_
  refine n_bast (by omega) (by decide) rfl (by decide) dX11_feedInt_29 ?_
  refine a_aload_n rfl dX11_feedInt_30 ?_
  refine a_dup rfl dX11_feedInt_31 ?_
  refine g_i (siN siS (by omega)) (by decide) rfl fX11_24 rfl dX11_feedInt_32 ?_
  refine n_iconst 1 rfl dX11_feedInt_35 ?_
  refine n_iadd dX11_feedInt_36 ?_
  refine a_puti dX11_feedInt_37 pX11_24 (by decide) rfl rfl ?_
  refine n_dec (c := 8) rfl (by decide) (by decide) (by decide) rfl dX11_feedInt_40 ?_
  refine a_goto 3 dX11_feedInt_43 (by decide) ?_
  refine a_iload_n rfl dX11_feedInt_3 ?_
  refine n_if_lt (tgt := 46) (by omega) dX11_feedInt_4 (by decide) ?_
  refine a_aload_n rfl dX11_feedInt_7 ?_
  refine g_i siS (by decide) rfl fX11_24 rfl dX11_feedInt_8 ?_
  refine n_sipush 900 rfl dX11_feedInt_11 ?_
  refine n_icmp_ge 40 (by omega) (by omega) dX11_feedInt_14 (by decide) (fun h_14 => absurd h_14 (by omega)) (fun h_14 => ?_)
  refine a_aload_n rfl dX11_feedInt_17 ?_
  refine a_geta dX11_feedInt_18 fX11_20 (by decide) rfl rfl ?_
  refine a_aload_n rfl dX11_feedInt_21 ?_
  refine g_i siS (by decide) rfl fX11_24 rfl dX11_feedInt_22 ?_
  refine a_iload_n rfl dX11_feedInt_25 ?_
  refine a_iload_n rfl dX11_feedInt_26 ?_
  refine a_ishr dX11_feedInt_27 ?_
  refine a_i2b dX11_feedInt_28 ?_
  refine n_bast (by omega) (by decide) rfl (by decide) dX11_feedInt_29 ?_
  refine a_aload_n rfl dX11_feedInt_30 ?_
  refine a_dup rfl dX11_feedInt_31 ?_
  refine g_i (siN siS (by omega)) (by decide) rfl fX11_24 rfl dX11_feedInt_32 ?_
  refine n_iconst 1 rfl dX11_feedInt_35 ?_
  refine n_iadd dX11_feedInt_36 ?_
  refine a_puti dX11_feedInt_37 pX11_24 (by decide) rfl rfl ?_
  refine n_dec (c := 8) rfl (by decide) (by decide) (by decide) rfl dX11_feedInt_40 ?_
  refine a_goto 3 dX11_feedInt_43 (by decide) ?_
  refine a_iload_n rfl dX11_feedInt_3 ?_
  refine n_if_lt (tgt := 46) (by omega) dX11_feedInt_4 (by decide) ?_
  refine a_aload_n rfl dX11_feedInt_7 ?_
  refine g_i siS (by decide) rfl fX11_24 rfl dX11_feedInt_8 ?_
  refine n_sipush 900 rfl dX11_feedInt_11 ?_
  refine n_icmp_ge 40 (by omega) (by omega) dX11_feedInt_14 (by decide) (fun h_14 => absurd h_14 (by omega)) (fun h_14 => ?_)
  refine a_aload_n rfl dX11_feedInt_17 ?_
  refine a_geta dX11_feedInt_18 fX11_20 (by decide) rfl rfl ?_
  refine a_aload_n rfl dX11_feedInt_21 ?_
  refine g_i siS (by decide) rfl fX11_24 rfl dX11_feedInt_22 ?_
  refine a_iload_n rfl dX11_feedInt_25 ?_
  refine a_iload_n rfl dX11_feedInt_26 ?_
  refine a_ishr dX11_feedInt_27 ?_
  refine a_i2b dX11_feedInt_28 ?_
  refine n_bast (by omega) (by decide) rfl (by decide) dX11_feedInt_29 ?_
  refine a_aload_n rfl dX11_feedInt_30 ?_
  refine a_dup rfl dX11_feedInt_31 ?_
  refine g_i (siN siS (by omega)) (by decide) rfl fX11_24 rfl dX11_feedInt_32 ?_
  refine n_iconst 1 rfl dX11_feedInt_35 ?_
  refine n_iadd dX11_feedInt_36 ?_
  refine a_puti dX11_feedInt_37 pX11_24 (by decide) rfl rfl ?_
  refine a_iinc rfl (by decide) rfl dX11_feedInt_40 ?_
  refine a_goto 3 dX11_feedInt_43 (by decide) ?_
  refine a_iload_n rfl dX11_feedInt_3 ?_
  refine r_if_lt 46 dX11_feedInt_4 (by decide) (fun h_4 => ?_) (fun h_4 => absurd (by decide) h_4)
  refine a_vret dX11_feedInt_46 rfl ?_
  refine hQ _ siS (fun r hr => ?_) (((((((((fr.r).si (by omega)).si (by omega)).si (by omega)).si (by omega)).si (by omega)).si (by omega)).si (by omega)).si (by omega))
  rcases (show r = 0 ∨ r = 1 ∨ r = 2 ∨ r = 3 by omega) with rfl | rfl | rfl | rfl
  · exact siN (siN (siN (siN (siN (siN (siN (siS) (by omega)) (by omega)) (by omega)) (by omega)) (by omega)) (by omega)) (by omega)
  · exact siN (siN (siN (siN (siN (siS) (by omega)) (by omega)) (by omega)) (by omega)) (by omega)
  · exact siN (siN (siN (siS) (by omega)) (by omega)) (by omega)
  · exact siN (siS) (by omega)

set_option maxRecDepth 100000 in
set_option maxHeartbeats 800000 in
theorem c_X12_lay {M : Mm} {n : Nat} (hn : n ≤ 896) (h4 : M.1 132 8 = nI n) {x : Int32} {Q : Option Value → Mm → Prop} (hQ : ∀ M', M'.1 132 8 = nI (n + 4) → (∀ r, r < 4 → M'.1 136 (n + r) = byB x (24 - 8 * r)) → fr (fun k j => (k = 132 ∧ j = 8) ∨ (k = 136 ∧ n ≤ j ∧ j < n + 4)) M M' → Q none M') (d : Nat) : AMt miX12_lay (d) [.ref 132, .int x] M Q := by
  refine AMt.of (by decide) (Nat.le_of_ble_eq_true rfl) ?_
  show AW miX12_lay (d) (mxA Q) 0 [(0, some (.ref 132)), (1, some (.int x))] [] M
  refine n_iconst 3 rfl dX12_lay_0 ?_
  refine a_istore_n (by decide) rfl dX12_lay_1 ?_
  refine a_iload_n rfl dX12_lay_2 ?_
  refine n_if_lt (tgt := 38) (by omega) dX12_lay_3 (by decide) ?_
  refine a_aload_n rfl dX12_lay_6 ?_
  refine a_geta dX12_lay_7 fX12_24 (by decide) rfl rfl ?_
  refine a_aload_n rfl dX12_lay_10 ?_
  refine g_i h4 (by decide) rfl fX12_235 rfl dX12_lay_11 ?_
  refine a_iload_n rfl dX12_lay_14 ?_
  refine n_bipush 8 rfl dX12_lay_15 ?_
  refine a_iload_n rfl dX12_lay_17 ?_
  refine n_imul dX12_lay_18 ?_
  refine a_ishr dX12_lay_19 ?_
  refine a_i2b dX12_lay_20 ?_
  refine n_bast (by omega) (by decide) rfl (by decide) dX12_lay_21 ?_
  refine a_aload_n rfl dX12_lay_22 ?_
  refine a_dup rfl dX12_lay_23 ?_
  refine g_i (siN h4 (by omega)) (by decide) rfl fX12_235 rfl dX12_lay_24 ?_
  refine n_iconst 1 rfl dX12_lay_27 ?_
  refine n_iadd dX12_lay_28 ?_
  refine a_puti dX12_lay_29 pX12_235 (by decide) rfl rfl ?_
  refine n_dec (c := 1) rfl (by decide) (by decide) (by decide) rfl dX12_lay_32 ?_
  refine a_goto 2 dX12_lay_35 (by decide) ?_
  refine a_iload_n rfl dX12_lay_2 ?_
  refine n_if_lt (tgt := 38) (by omega) dX12_lay_3 (by decide) ?_
  refine a_aload_n rfl dX12_lay_6 ?_
  refine a_geta dX12_lay_7 fX12_24 (by decide) rfl rfl ?_
  refine a_aload_n rfl dX12_lay_10 ?_
  refine g_i siS (by decide) rfl fX12_235 rfl dX12_lay_11 ?_
  refine a_iload_n rfl dX12_lay_14 ?_
  refine n_bipush 8 rfl dX12_lay_15 ?_
  refine a_iload_n rfl dX12_lay_17 ?_
  refine n_imul dX12_lay_18 ?_
  refine a_ishr dX12_lay_19 ?_
  refine a_i2b dX12_lay_20 ?_
  refine n_bast (by omega) (by decide) rfl (by decide) dX12_lay_21 ?_
  refine a_aload_n rfl dX12_lay_22 ?_
  refine a_dup rfl dX12_lay_23 ?_
  refine g_i (siN siS (by omega)) (by decide) rfl fX12_235 rfl dX12_lay_24 ?_
  refine n_iconst 1 rfl dX12_lay_27 ?_
  refine n_iadd dX12_lay_28 ?_
  refine a_puti dX12_lay_29 pX12_235 (by decide) rfl rfl ?_
  refine n_dec (c := 1) rfl (by decide) (by decide) (by decide) rfl dX12_lay_32 ?_
  refine a_goto 2 dX12_lay_35 (by decide) ?_
  refine a_iload_n rfl dX12_lay_2 ?_
  refine n_if_lt (tgt := 38) (by omega) dX12_lay_3 (by decide) ?_
  refine a_aload_n rfl dX12_lay_6 ?_
  refine a_geta dX12_lay_7 fX12_24 (by decide) rfl rfl ?_
  refine a_aload_n rfl dX12_lay_10 ?_
  refine g_i siS (by decide) rfl fX12_235 rfl dX12_lay_11 ?_
  refine a_iload_n rfl dX12_lay_14 ?_
  refine n_bipush 8 rfl dX12_lay_15 ?_
  refine a_iload_n rfl dX12_lay_17 ?_
  refine n_imul dX12_lay_18 ?_
  refine a_ishr dX12_lay_19 ?_
  refine a_i2b dX12_lay_20 ?_
  refine n_bast (by omega) (by decide) rfl (by decide) dX12_lay_21 ?_
  refine a_aload_n rfl dX12_lay_22 ?_
  refine a_dup rfl dX12_lay_23 ?_
  refine g_i (siN siS (by omega)) (by decide) rfl fX12_235 rfl dX12_lay_24 ?_
  refine n_iconst 1 rfl dX12_lay_27 ?_
  refine n_iadd dX12_lay_28 ?_
  refine a_puti dX12_lay_29 pX12_235 (by decide) rfl rfl ?_
  refine n_dec (c := 1) rfl (by decide) (by decide) (by decide) rfl dX12_lay_32 ?_
  refine a_goto 2 dX12_lay_35 (by decide) ?_
  refine a_iload_n rfl dX12_lay_2 ?_
  refine n_if_lt (tgt := 38) (by omega) dX12_lay_3 (by decide) ?_
  refine a_aload_n rfl dX12_lay_6 ?_
  refine a_geta dX12_lay_7 fX12_24 (by decide) rfl rfl ?_
  refine a_aload_n rfl dX12_lay_10 ?_
  refine g_i siS (by decide) rfl fX12_235 rfl dX12_lay_11 ?_
  refine a_iload_n rfl dX12_lay_14 ?_
  refine n_bipush 8 rfl dX12_lay_15 ?_
  refine a_iload_n rfl dX12_lay_17 ?_
  refine n_imul dX12_lay_18 ?_
  refine a_ishr dX12_lay_19 ?_
  refine a_i2b dX12_lay_20 ?_
  refine n_bast (by omega) (by decide) rfl (by decide) dX12_lay_21 ?_
  refine a_aload_n rfl dX12_lay_22 ?_
  refine a_dup rfl dX12_lay_23 ?_
  refine g_i (siN siS (by omega)) (by decide) rfl fX12_235 rfl dX12_lay_24 ?_
  refine n_iconst 1 rfl dX12_lay_27 ?_
  refine n_iadd dX12_lay_28 ?_
  refine a_puti dX12_lay_29 pX12_235 (by decide) rfl rfl ?_
  refine a_iinc rfl (by decide) rfl dX12_lay_32 ?_
  refine a_goto 2 dX12_lay_35 (by decide) ?_
  refine a_iload_n rfl dX12_lay_2 ?_
  refine r_if_lt 38 dX12_lay_3 (by decide) (fun h_3 => ?_) (fun h_3 => absurd (by decide) h_3)
  refine a_vret dX12_lay_38 rfl ?_
  refine hQ _ siS (fun r hr => ?_) (((((((((fr.r).si (by omega)).si (by omega)).si (by omega)).si (by omega)).si (by omega)).si (by omega)).si (by omega)).si (by omega))
  rcases (show r = 0 ∨ r = 1 ∨ r = 2 ∨ r = 3 by omega) with rfl | rfl | rfl | rfl
  · exact siN (siN (siN (siN (siN (siN (siN (siS) (by omega)) (by omega)) (by omega)) (by omega)) (by omega)) (by omega)) (by omega)
  · exact siN (siN (siN (siN (siN (siS) (by omega)) (by omega)) (by omega)) (by omega)) (by omega)
  · exact siN (siN (siN (siS) (by omega)) (by omega)) (by omega)
  · exact siN (siS) (by omega)

theorem IX_P {M M1 : Mm} {T : TT} {n : Nat} {f : Nat → Int32} (h : IX M T) (h4 : M1.1 0 4 = nI n) (hd : ∀ j, j < n → M1.1 1 j = f j) (hf : fr (fun k j => (k = 0 ∧ j = 4) ∨ k = 1) M M1) : IX M1 (sP T (n, f)) := by
  obtain ⟨h1, h2, h3, h4', h5, h6, h7, h8⟩ := h
  exact ⟨WX_fr h1 hf (fun k j a b => by omega), RX_fr h2 hf (fun k j a b => by omega), ⟨h4, hd⟩, ⟨hf.i h4'.1 (by omega), hf.l h4'.2.1 (by omega), hf.l h4'.2.2 (by omega)⟩, ⟨hf.i h5.1 (by omega), hf.i h5.2 (by omega)⟩, ⟨hf.i h6.1 (by omega), fun q j hj => hf.i (h6.2 q j hj) (by omega)⟩, hf.i h7 (by omega), fun i hi => WX_fr (h8 i hi) hf (fun k j a b => by omega)⟩
theorem IM_P {M M1 : Mm} {T : TT} {n : Nat} {f : Nat → Int32} (h : IM M T) (hG : TG T) (h4 : M1.1 132 8 = nI n) (hd : ∀ j, j < n → M1.1 136 j = f j) (hf : fr (fun k j => (k = 132 ∧ (j = 8 ∨ j = 1)) ∨ k = 136) M M1) : IM M1 (sP T (n, f)) := by
  obtain ⟨h1, h2, h3, h4', h5, h6, h7, h8⟩ := h
  exact ⟨WM_fr h1 hG.1 hf (fun j a b => by omega) (fun j a b => by omega), RM_fr h2 hf (fun k j a b => by omega), ⟨h4, hd⟩, ⟨hf.i h4'.1 (by omega), hf.l h4'.2.1 (by omega), hf.l h4'.2.2 (by omega)⟩, ⟨hf.i h5.1 (by omega), hf.i h5.2 (by omega)⟩, ⟨hf.i h6.1 (by omega), fun q j hj => hf.i (h6.2 q j hj) (by omega)⟩, hf.i h7 (by omega), fun i hi => WM_fr (h8 i hi) (hG.2.2.2.2.2.2.1 i hi) hf (fun j a b => by omega) (fun j a b => by omega)⟩

set_option maxRecDepth 100000 in
set_option maxHeartbeats 800000 in
theorem c_X11_feed {M : Mm} {T : TT} (hI : IX M T) (hG : TG T) {a b c u e : Int32} {Q : Option Value → Mm → Prop} (hQ : ∀ M', IX M' (sp_feed a b c u e T).2 → keM M M' → Q (some (.int (sp_feed a b c u e T).1)) M') (d : Nat) : AMt miX11_feed (d + 1) [.ref 0, .int a, .int b, .int c, .int u, .int e] M Q := by
  refine AMt.of (by decide) (Nat.le_of_ble_eq_true rfl) ?_
  show AW miX11_feed (d + 1) (mxA Q) 0 [(0, some (.ref 0)), (1, some (.int a)), (2, some (.int b)), (3, some (.int c)), (4, some (.int u)), (5, some (.int e))] [] M
  have hp9 : (tP T).1 ≤ 900 := hG.2.2.1
  refine a_aload_n rfl dX11_feed_0 ?_
  refine g_i hI.2.2.1.1 (by decide) rfl fX11_24 rfl dX11_feed_1 ?_
  refine n_sipush 880 rfl dX11_feed_4 ?_
  refine n_icmp_le 12 (by omega) (by omega) dX11_feed_7 (by decide) (fun h_7 => ?_) (fun h_7 => ?_)
  · refine a_aload_n rfl dX11_feed_12 ?_
    refine a_iload_n rfl dX11_feed_13 ?_
    refine n_callV (mi' := miX11_feedInt) dX11_feed_14 lX11_155 mX11_feedInt (by decide) rfl rfl rfl (c_X11_feedInt (n := (tP T).1 + 4 * 0) (by omega) hI.2.2.1.1 (fun M_14 ha_14 hb_14 hf_14 => ?_) d) rfl rfl (by omega) (by decide) (Nat.le_of_ble_eq_true rfl)
    show AW _ _ _ _ _ _ _
    refine a_aload_n rfl dX11_feed_17 ?_
    refine a_iload_n rfl dX11_feed_18 ?_
    refine n_callV (mi' := miX11_feedInt) dX11_feed_19 lX11_155 mX11_feedInt (by decide) rfl rfl rfl (c_X11_feedInt (n := (tP T).1 + 4 * 1) (by omega) (ha_14.trans (congrArg nI (by omega))) (fun M_19 ha_19 hb_19 hf_19 => ?_) d) rfl rfl (by omega) (by decide) (Nat.le_of_ble_eq_true rfl)
    show AW _ _ _ _ _ _ _
    refine a_aload_n rfl dX11_feed_22 ?_
    refine a_iload_n rfl dX11_feed_23 ?_
    refine n_callV (mi' := miX11_feedInt) dX11_feed_24 lX11_155 mX11_feedInt (by decide) rfl rfl rfl (c_X11_feedInt (n := (tP T).1 + 4 * 2) (by omega) (ha_19.trans (congrArg nI (by omega))) (fun M_24 ha_24 hb_24 hf_24 => ?_) d) rfl rfl (by omega) (by decide) (Nat.le_of_ble_eq_true rfl)
    show AW _ _ _ _ _ _ _
    refine a_aload_n rfl dX11_feed_27 ?_
    refine a_iload rfl dX11_feed_28 ?_
    refine n_callV (mi' := miX11_feedInt) dX11_feed_30 lX11_155 mX11_feedInt (by decide) rfl rfl rfl (c_X11_feedInt (n := (tP T).1 + 4 * 3) (by omega) (ha_24.trans (congrArg nI (by omega))) (fun M_30 ha_30 hb_30 hf_30 => ?_) d) rfl rfl (by omega) (by decide) (Nat.le_of_ble_eq_true rfl)
    show AW _ _ _ _ _ _ _
    refine a_aload_n rfl dX11_feed_33 ?_
    refine a_iload rfl dX11_feed_34 ?_
    refine n_callV (mi' := miX11_feedInt) dX11_feed_36 lX11_155 mX11_feedInt (by decide) rfl rfl rfl (c_X11_feedInt (n := (tP T).1 + 4 * 4) (by omega) (ha_30.trans (congrArg nI (by omega))) (fun M_36 ha_36 hb_36 hf_36 => ?_) d) rfl rfl (by omega) (by decide) (Nat.le_of_ble_eq_true rfl)
    show AW _ _ _ _ _ _ _
    refine a_aload_n rfl dX11_feed_39 ?_
    refine g_i (ha_36.trans (congrArg nI (show (tP T).1 + 4 * 4 + 4 = (tP T).1 + 20 by omega))) (by decide) rfl fX11_24 rfl dX11_feed_40 ?_
    refine a_iret dX11_feed_43 rfl ?_
    rw [show sp_feed a b c u e T = (nI ((tP T).1 + 20), sP T ((tP T).1 + 20, fdN (tP T) a b c u e)) by unfold sp_feed; rw [if_pos (by omega)]] at hQ
    have hall : ∀ j, j < (tP T).1 + 20 → M_36.1 1 j = fdN (tP T) a b c u e j := by
      intro j hj
      by_cases h0 : j < (tP T).1
      · rw [fd_old h0]; exact (hf_36.i (hf_30.i (hf_24.i (hf_19.i (hf_14.i (hI.2.2.1.2 j h0) (by omega)) (by omega)) (by omega)) (by omega)) (by omega))
      · obtain ⟨q, r, hr, hq, rfl⟩ : ∃ q r, r < 4 ∧ q < 5 ∧ j = (tP T).1 + 4 * q + r := ⟨(j - (tP T).1) / 4, (j - (tP T).1) % 4, by omega, by omega, by omega⟩
        rcases (show q = 0 ∨ q = 1 ∨ q = 2 ∨ q = 3 ∨ q = 4 by omega) with rfl | rfl | rfl | rfl | rfl
        · exact ((hf_36.i (hf_30.i (hf_24.i (hf_19.i (hb_14 r hr) (by omega)) (by omega)) (by omega)) (by omega))).trans (fd_at (P := tP T) (a := a) (b := b) (c := c) (d := u) (e := e) (q := 0) (r := r) (x := a) hr rfl).symm
        · exact ((hf_36.i (hf_30.i (hf_24.i (hb_19 r hr) (by omega)) (by omega)) (by omega))).trans (fd_at (P := tP T) (a := a) (b := b) (c := c) (d := u) (e := e) (q := 1) (r := r) (x := b) hr rfl).symm
        · exact ((hf_36.i (hf_30.i (hb_24 r hr) (by omega)) (by omega))).trans (fd_at (P := tP T) (a := a) (b := b) (c := c) (d := u) (e := e) (q := 2) (r := r) (x := c) hr rfl).symm
        · exact ((hf_36.i (hb_30 r hr) (by omega))).trans (fd_at (P := tP T) (a := a) (b := b) (c := c) (d := u) (e := e) (q := 3) (r := r) (x := u) hr rfl).symm
        · exact ((hb_36 r hr)).trans (fd_at (P := tP T) (a := a) (b := b) (c := c) (d := u) (e := e) (q := 4) (r := r) (x := e) hr rfl).symm
    have hfa : fr (fun k j => (k = 0 ∧ j = 4) ∨ k = 1) M M_36 := (((((fr.r.t (hf_14.mo (fun k j h => by omega))).t (hf_19.mo (fun k j h => by omega))).t (hf_24.mo (fun k j h => by omega))).t (hf_30.mo (fun k j h => by omega))).t (hf_36.mo (fun k j h => by omega)))
    exact hQ _ (IX_P hI (ha_36.trans (congrArg nI (by omega))) hall hfa) (keM_fr hfa (fun k j h => by omega))
  · refine a_iconst (-1) rfl dX11_feed_10 ?_
    refine a_iret dX11_feed_11 rfl ?_
    rw [show sp_feed a b c u e T = (-1, T) by unfold sp_feed; rw [if_neg (by omega)]] at hQ
    exact hQ M hI ⟨fun _ _ => rfl, fun _ _ => rfl⟩

set_option maxRecDepth 100000 in
set_option maxHeartbeats 800000 in
theorem c_X12_feed {M : Mm} {T : TT} (hI : IM M T) (hG : TG T) {a b c u e : Int32} {Q : Option Value → Mm → Prop} (hQ : ∀ M', IM M' (sp_feed a b c u e T).2 → keX M M' → Q (some (.int (sp_feed a b c u e T).1)) M') (d : Nat) : AMt miX12_feed (d + 1) [.ref 132, .int a, .int b, .int c, .int u, .int e] M Q := by
  refine AMt.of (by decide) (Nat.le_of_ble_eq_true rfl) ?_
  show AW miX12_feed (d + 1) (mxA Q) 0 [(0, some (.ref 132)), (1, some (.int a)), (2, some (.int b)), (3, some (.int c)), (4, some (.int u)), (5, some (.int e))] [] M
  have hp9 : (tP T).1 ≤ 900 := hG.2.2.1
  refine a_aload_n rfl dX12_feed_0 ?_
  refine n_iconst 0 rfl dX12_feed_1 ?_
  refine a_puti dX12_feed_2 pX12_69 (by decide) rfl rfl ?_
  refine a_aload_n rfl dX12_feed_5 ?_
  refine g_i (siN hI.2.2.1.1 (by omega)) (by decide) rfl fX12_235 rfl dX12_feed_6 ?_
  refine n_bipush 20 rfl dX12_feed_9 ?_
  refine n_iadd dX12_feed_11 ?_
  refine n_sipush 900 rfl dX12_feed_12 ?_
  refine n_icmp_le 20 (by omega) (by omega) dX12_feed_15 (by decide) (fun h_15 => ?_) (fun h_15 => ?_)
  · refine a_aload_n rfl dX12_feed_20 ?_
    refine a_iload_n rfl dX12_feed_21 ?_
    refine n_callV (mi' := miX12_lay) dX12_feed_22 lX12_238 mX12_lay (by decide) rfl rfl rfl (c_X12_lay (n := (tP T).1 + 4 * 0) (by omega) (siN hI.2.2.1.1 (by omega)) (fun M_22 ha_22 hb_22 hf_22 => ?_) d) rfl rfl (by omega) (by decide) (Nat.le_of_ble_eq_true rfl)
    show AW _ _ _ _ _ _ _
    refine a_aload_n rfl dX12_feed_25 ?_
    refine a_iload_n rfl dX12_feed_26 ?_
    refine n_callV (mi' := miX12_lay) dX12_feed_27 lX12_238 mX12_lay (by decide) rfl rfl rfl (c_X12_lay (n := (tP T).1 + 4 * 1) (by omega) (ha_22.trans (congrArg nI (by omega))) (fun M_27 ha_27 hb_27 hf_27 => ?_) d) rfl rfl (by omega) (by decide) (Nat.le_of_ble_eq_true rfl)
    show AW _ _ _ _ _ _ _
    refine a_aload_n rfl dX12_feed_30 ?_
    refine a_iload_n rfl dX12_feed_31 ?_
    refine n_callV (mi' := miX12_lay) dX12_feed_32 lX12_238 mX12_lay (by decide) rfl rfl rfl (c_X12_lay (n := (tP T).1 + 4 * 2) (by omega) (ha_27.trans (congrArg nI (by omega))) (fun M_32 ha_32 hb_32 hf_32 => ?_) d) rfl rfl (by omega) (by decide) (Nat.le_of_ble_eq_true rfl)
    show AW _ _ _ _ _ _ _
    refine a_aload_n rfl dX12_feed_35 ?_
    refine a_iload rfl dX12_feed_36 ?_
    refine n_callV (mi' := miX12_lay) dX12_feed_38 lX12_238 mX12_lay (by decide) rfl rfl rfl (c_X12_lay (n := (tP T).1 + 4 * 3) (by omega) (ha_32.trans (congrArg nI (by omega))) (fun M_38 ha_38 hb_38 hf_38 => ?_) d) rfl rfl (by omega) (by decide) (Nat.le_of_ble_eq_true rfl)
    show AW _ _ _ _ _ _ _
    refine a_aload_n rfl dX12_feed_41 ?_
    refine a_iload rfl dX12_feed_42 ?_
    refine n_callV (mi' := miX12_lay) dX12_feed_44 lX12_238 mX12_lay (by decide) rfl rfl rfl (c_X12_lay (n := (tP T).1 + 4 * 4) (by omega) (ha_38.trans (congrArg nI (by omega))) (fun M_44 ha_44 hb_44 hf_44 => ?_) d) rfl rfl (by omega) (by decide) (Nat.le_of_ble_eq_true rfl)
    show AW _ _ _ _ _ _ _
    refine a_aload_n rfl dX12_feed_47 ?_
    refine g_i (ha_44.trans (congrArg nI (show (tP T).1 + 4 * 4 + 4 = (tP T).1 + 20 by omega))) (by decide) rfl fX12_235 rfl dX12_feed_48 ?_
    refine a_iret dX12_feed_51 rfl ?_
    rw [show sp_feed a b c u e T = (nI ((tP T).1 + 20), sP T ((tP T).1 + 20, fdN (tP T) a b c u e)) by unfold sp_feed; rw [if_pos (by omega)]] at hQ
    have hall : ∀ j, j < (tP T).1 + 20 → M_44.1 136 j = fdN (tP T) a b c u e j := by
      intro j hj
      by_cases h0 : j < (tP T).1
      · rw [fd_old h0]; exact (hf_44.i (hf_38.i (hf_32.i (hf_27.i (hf_22.i (siN (hI.2.2.1.2 j h0) (by omega)) (by omega)) (by omega)) (by omega)) (by omega)) (by omega))
      · obtain ⟨q, r, hr, hq, rfl⟩ : ∃ q r, r < 4 ∧ q < 5 ∧ j = (tP T).1 + 4 * q + r := ⟨(j - (tP T).1) / 4, (j - (tP T).1) % 4, by omega, by omega, by omega⟩
        rcases (show q = 0 ∨ q = 1 ∨ q = 2 ∨ q = 3 ∨ q = 4 by omega) with rfl | rfl | rfl | rfl | rfl
        · exact ((hf_44.i (hf_38.i (hf_32.i (hf_27.i (hb_22 r hr) (by omega)) (by omega)) (by omega)) (by omega))).trans (fd_at (P := tP T) (a := a) (b := b) (c := c) (d := u) (e := e) (q := 0) (r := r) (x := a) hr rfl).symm
        · exact ((hf_44.i (hf_38.i (hf_32.i (hb_27 r hr) (by omega)) (by omega)) (by omega))).trans (fd_at (P := tP T) (a := a) (b := b) (c := c) (d := u) (e := e) (q := 1) (r := r) (x := b) hr rfl).symm
        · exact ((hf_44.i (hf_38.i (hb_32 r hr) (by omega)) (by omega))).trans (fd_at (P := tP T) (a := a) (b := b) (c := c) (d := u) (e := e) (q := 2) (r := r) (x := c) hr rfl).symm
        · exact ((hf_44.i (hb_38 r hr) (by omega))).trans (fd_at (P := tP T) (a := a) (b := b) (c := c) (d := u) (e := e) (q := 3) (r := r) (x := u) hr rfl).symm
        · exact ((hb_44 r hr)).trans (fd_at (P := tP T) (a := a) (b := b) (c := c) (d := u) (e := e) (q := 4) (r := r) (x := e) hr rfl).symm
    have hfa : fr (fun k j => (k = 132 ∧ (j = 8 ∨ j = 1)) ∨ k = 136) M M_44 := ((((((fr.r.si (by omega)).t (hf_22.mo (fun k j h => by omega))).t (hf_27.mo (fun k j h => by omega))).t (hf_32.mo (fun k j h => by omega))).t (hf_38.mo (fun k j h => by omega))).t (hf_44.mo (fun k j h => by omega)))
    exact hQ _ (IM_P hI hG (ha_44.trans (congrArg nI (by omega))) hall hfa) (keX_fr hfa (fun k j h => by omega))
  · refine a_iconst (-1) rfl dX12_feed_18 ?_
    refine a_iret dX12_feed_19 rfl ?_
    rw [show sp_feed a b c u e T = (-1, T) by unfold sp_feed; rw [if_neg (by omega)]] at hQ
    exact hQ _ (IM_th hI) keX_th

def chT (T : TT) (t i : Nat) : TT := st' (sR T (chR (tR T) (tS T) t i)) 0
theorem TG_R {T : TT} (hG : TG T) {R' : TRY} (hR : RG R') : TG (st' (sR T R') 0) := ⟨hG.1, hR, hG.2.2.1, Nat.zero_le _, hG.2.2.2.2⟩
theorem sp_write_ch {T : TT} (hG : TG T) {t i : Nat} (ht : t < 4) (hi : i < 2 ^ 31) (hl : (i : Int) + 1 ≤ lenI (tR T) t) : sp_write (nI t) (nI i) (nI (hghN (tS T) i)).toInt64 (chT T t i) = (nI 1, chT T t (i + 1)) := by
  have e1 : idx (nI t) = t := idx_nI (by omega)
  have e2 : idx (nI i) = i := idx_nI hi
  have e3 : (nI t).toInt = t := nI_toInt (by omega)
  have e4 : (nI i).toInt = i := nI_toInt hi
  have hl2 : lenI (chR (tR T) (tS T) t i) t = lenI (tR T) t := rfl
  unfold sp_write
  rw [if_pos (by unfold whyN; rw [if_pos (by omega), e1, if_neg (by show ¬ lenI (chR (tR T) (tS T) t i) t < 0; omega), if_pos (by show 0 ≤ (nI i).toInt ∧ (nI i).toInt + (1 : Nat) ≤ lenI (chR (tR T) (tS T) t i) t; omega)]), e1, e2]
  show (nI 1, st' (sR (chT T t i) (putR (chR (tR T) (tS T) t i) t i (cutN ((chR (tR T) (tS T) t i).1 t) _))) 0) = _
  rw [chR_s]; rfl

set_option maxRecDepth 100000 in
set_option maxHeartbeats 800000 in
theorem c_X12_copyHeights {M : Mm} {T : TT} (hI : IM M T) (hG : TG T) {x : Int32} {Q : Option Value → Mm → Prop} (hQ : ∀ M', IM M' (sp_copyHeights x T).2 → keX M M' → Q (some (.int (sp_copyHeights x T).1)) M') (d : Nat) : AMt miX12_copyHeights (d + 5) [.ref 132, .int x] M Q := by
  refine AMt.of (by decide) (Nat.le_of_ble_eq_true rfl) ?_
  show AW miX12_copyHeights (d + 5) (mxA Q) 0 [(0, some (.ref 132)), (1, some (.int x))] [] M
  have hF : WF (tS T) := hG.1.1
  have hM : VM 0 M (tS T) := hI.1.1
  have hM1 := m0_VM hM hF
  have hs : tS T 0 4 ≤ 7 := WF_s hF
  have hz0 : (nI 0).toInt = 0 := by decide
  refine a_aload_n rfl dX12_copyHeights_0 ?_
  refine n_iconst 0 rfl dX12_copyHeights_1 ?_
  refine a_puti dX12_copyHeights_2 pX12_69 (by decide) rfl rfl ?_
  refine a_aload_n rfl dX12_copyHeights_5 ?_
  refine n_iconst 0 rfl dX12_copyHeights_6 ?_
  refine a_puti dX12_copyHeights_7 pX12_72 (by decide) rfl rfl ?_
  show AW miX12_copyHeights (d + 5) (mxA Q) 10 [(0, some (.ref 132)), (1, some (.int x))] [] (m0 M)
  refine a_aload_n rfl dX12_copyHeights_10 ?_
  refine a_iload_n rfl dX12_copyHeights_11 ?_
  refine n_callV (mi' := miX12_isTray) dX12_copyHeights_12 lX12_379 mX12_isTray (by decide) rfl rfl rfl (c_X12_isTray (fun ha_12 hb_12 => ?_) (fun h_12 => ?_) d) rfl rfl (by omega) (by decide) (Nat.le_of_ble_eq_true rfl)
  · show AW _ _ _ _ _ _ _
    refine n_if_ne 24 (by decide) dX12_copyHeights_15 (by decide) (fun _ => ?_) (fun h => absurd h (by decide))
    obtain ⟨t, ht, rfl⟩ := inR_of (x := x) (m := 4) (by omega) (by omega) (by omega)
    have t_t : (nI t).toInt = (t : Int) := nI_toInt (by omega)
    have i_t : idx (nI t) = t := idx_nI (by omega)
    have hlt : ((m0 M).1 134 t).toInt = lenI (tR T) t := RM_len (RM_m0 hI.2.1) hG.2.1 (by omega)
    have hl60 := lenI_le hG.2.1 (t := t) (by omega)
    refine a_aload_n rfl dX12_copyHeights_24 ?_
    refine a_geta dX12_copyHeights_25 fX12_17 (by decide) rfl rfl ?_
    refine a_iload_n rfl dX12_copyHeights_28 ?_
    refine n_iald (by omega) (by decide) rfl (by decide) dX12_copyHeights_29 ?_
    refine r_if_ge 39 dX12_copyHeights_30 (by decide) (fun h_30 => ?_) (fun h_30 => ?_)
    · refine a_aload_n rfl dX12_copyHeights_39 ?_
      refine a_geta dX12_copyHeights_40 fX12_17 (by decide) rfl rfl ?_
      refine a_iload_n rfl dX12_copyHeights_43 ?_
      refine n_iald (by omega) (by decide) rfl (by decide) dX12_copyHeights_44 ?_
      refine a_aload_n rfl dX12_copyHeights_45 ?_
      refine a_geta dX12_copyHeights_46 fX12_35 (by decide) rfl rfl ?_
      refine n_iconst 2 rfl dX12_copyHeights_49 ?_
      refine v_iald (by omega) (VM_s2 hM1) (by decide) rfl (by decide) dX12_copyHeights_50 ?_
      refine r_icmp_ge 60 (by omega) dX12_copyHeights_51 (by decide) (fun h_51 => ?_) (fun h_51 => ?_)
      · refine n_iconst 0 rfl dX12_copyHeights_60 ?_
        refine a_istore_n (by decide) rfl dX12_copyHeights_61 ?_
        have loop_62 : ∀ i, i ≤ tS T 0 4 → ∀ M1, (IM M1 (chT T t i) ∧ keX M M1) → AW miX12_copyHeights (d + 5) (mxA Q) 62 [(0, some (.ref 132)), (1, some (.int (nI t))), (2, some (.int (nI i)))] [] M1 := by
          refine up (W := fun i => ∀ M1, (IM M1 (chT T t i) ∧ keX M M1) → AW miX12_copyHeights (d + 5) (mxA Q) 62 [(0, some (.ref 132)), (1, some (.int (nI t))), (2, some (.int (nI i)))] [] M1) (tS T 0 4) (fun M1 hI_62 => ?_) (fun i hi_62 ih_62 M1 hI_62 => ?_)
          · have hMi : VM 0 M1 (tS T) := hI_62.1.1.1
            refine a_iload_n rfl dX12_copyHeights_62 ?_
            refine a_aload_n rfl dX12_copyHeights_63 ?_
            refine a_geta dX12_copyHeights_64 fX12_35 (by decide) rfl rfl ?_
            refine n_iconst 2 rfl dX12_copyHeights_67 ?_
            refine v_iald (by omega) (VM_s2 hMi) (by decide) rfl (by decide) dX12_copyHeights_68 ?_
            refine n_icmp_ge 91 (by omega) (by omega) dX12_copyHeights_69 (by decide) (fun h_69 => ?_) (fun h_69 => absurd h_69 (by omega))
            refine a_aload_n rfl dX12_copyHeights_91 ?_
            refine a_geta dX12_copyHeights_92 fX12_35 (by decide) rfl rfl ?_
            refine n_iconst 2 rfl dX12_copyHeights_95 ?_
            refine v_iald (by omega) (VM_s2 hMi) (by decide) rfl (by decide) dX12_copyHeights_96 ?_
            refine a_iret dX12_copyHeights_97 rfl ?_
            rw [show sp_copyHeights (nI t) T = (nI (tS T 0 4), chT T t (tS T 0 4)) by unfold sp_copyHeights; rw [show whyN (tR T) (nI t) (nI 0) (tS T 0 4) = 0 by unfold whyN; rw [if_pos (by omega), i_t, if_neg (by omega), if_pos (by omega)], i_t]; rfl] at hQ
            exact hQ _ hI_62.1 hI_62.2
          · have hMi : VM 0 M1 (tS T) := hI_62.1.1.1
            refine a_iload_n rfl dX12_copyHeights_62 ?_
            refine a_aload_n rfl dX12_copyHeights_63 ?_
            refine a_geta dX12_copyHeights_64 fX12_35 (by decide) rfl rfl ?_
            refine n_iconst 2 rfl dX12_copyHeights_67 ?_
            refine v_iald (by omega) (VM_s2 hMi) (by decide) rfl (by decide) dX12_copyHeights_68 ?_
            refine n_icmp_ge 91 (by omega) (by omega) dX12_copyHeights_69 (by decide) (fun h_69 => absurd h_69 (by omega)) (fun h_69 => ?_)
            refine a_aload_n rfl dX12_copyHeights_72 ?_
            refine a_iload_n rfl dX12_copyHeights_73 ?_
            refine a_iload_n rfl dX12_copyHeights_74 ?_
            refine a_aload_n rfl dX12_copyHeights_75 ?_
            refine a_iload_n rfl dX12_copyHeights_76 ?_
            refine n_callV (mi' := miX12_heightOf) dX12_copyHeights_77 lX12_340 mX12_heightOf (by decide) rfl rfl rfl (c_X12_heightOf hMi hF (by omega) ?_ d) rfl rfl (by omega) (by decide) (Nat.le_of_ble_eq_true rfl)
            show AW _ _ _ _ _ _ _
            refine a_i2l dX12_copyHeights_80 ?_
            refine n_callV (mi' := miX12_write) dX12_copyHeights_81 lX12_382 mX12_write (by decide) rfl rfl rfl (c_X12_write (x := nI t) (p := nI i) (v := (nI (hghN (tS T) i)).toInt64) hI_62.1 (TG_R hG (by exact hG.2.1)) (fun M_81 hW_81 hk_81 => ?_) d) rfl rfl (by omega) (by decide) (Nat.le_of_ble_eq_true rfl)
            show AW _ _ _ _ _ _ _
            rw [sp_write_ch hG (by omega) (by omega) (by omega)] at hW_81
            refine a_eqi (y := nI 1) (by rw [sp_write_ch hG (by omega) (by omega) (by omega)]) ?_
            refine a_pop rfl dX12_copyHeights_84 ?_
            refine n_iinc (c := 1) rfl rfl (by decide) rfl dX12_copyHeights_85 ?_
            refine a_goto 62 dX12_copyHeights_88 (by decide) ?_
            exact a_bk (ih_62 _ ⟨hW_81, ⟨fun k hk => (hk_81.1 k hk).trans (hI_62.2.1 k hk), fun k hk => (hk_81.2 k hk).trans (hI_62.2.2 k hk)⟩⟩) ⟨rfl, rfl, rfl, trivial⟩
        have ch0 : IM (m0 M) (chT T t 0) := by
          unfold chT; rw [chR_0]
          exact IM_fr hI hG m0_s m0_fr
        exact a_bk (loop_62 0 (by omega) _ ⟨ch0, ⟨fun k hk => funext fun j => m0_o (by omega), fun _ _ => rfl⟩⟩) ⟨rfl, rfl, rfl, trivial⟩
      · refine a_aload_n rfl dX12_copyHeights_54 ?_
        refine n_iconst 4 rfl dX12_copyHeights_55 ?_
        refine n_callV (mi' := miX12_refuse) dX12_copyHeights_56 lX12_345 mX12_refuse (by decide) rfl rfl rfl (c_X12_refuse ?_ d) rfl rfl (by omega) (by decide) (Nat.le_of_ble_eq_true rfl)
        show AW _ _ _ _ _ _ _
        refine a_iret dX12_copyHeights_59 rfl ?_
        exact fin_qM hQ hI hG (by unfold sp_copyHeights; rw [show whyN (tR T) (nI t) (nI 0) (tS T 0 4) = 4 by unfold whyN; rw [if_pos (by omega), i_t, if_neg (by omega), if_neg (by omega)]]; rfl) siS (m0_fr.si (by unfold scM coM; omega))
    · refine a_aload_n rfl dX12_copyHeights_33 ?_
      refine n_iconst 3 rfl dX12_copyHeights_34 ?_
      refine n_callV (mi' := miX12_refuse) dX12_copyHeights_35 lX12_345 mX12_refuse (by decide) rfl rfl rfl (c_X12_refuse ?_ d) rfl rfl (by omega) (by decide) (Nat.le_of_ble_eq_true rfl)
      show AW _ _ _ _ _ _ _
      refine a_iret dX12_copyHeights_38 rfl ?_
      exact fin_qM hQ hI hG (by unfold sp_copyHeights; rw [show whyN (tR T) (nI t) (nI 0) (tS T 0 4) = 3 by unfold whyN; rw [if_pos (by omega), i_t, if_pos (by omega)]]; rfl) siS (m0_fr.si (by unfold scM coM; omega))
  · show AW _ _ _ _ _ _ _
    refine n_if_ne 24 (by decide) dX12_copyHeights_15 (by decide) (fun h => absurd h (by decide)) (fun _ => ?_)
    refine a_aload_n rfl dX12_copyHeights_18 ?_
    refine n_iconst 1 rfl dX12_copyHeights_19 ?_
    refine n_callV (mi' := miX12_refuse) dX12_copyHeights_20 lX12_345 mX12_refuse (by decide) rfl rfl rfl (c_X12_refuse ?_ d) rfl rfl (by omega) (by decide) (Nat.le_of_ble_eq_true rfl)
    show AW _ _ _ _ _ _ _
    refine a_iret dX12_copyHeights_23 rfl ?_
    exact fin_qM hQ hI hG (by unfold sp_copyHeights; rw [show whyN (tR T) x (nI 0) (tS T 0 4) = 1 by unfold whyN; rw [if_neg (by omega)]]; rfl) siS (m0_fr.si (by unfold scM coM; omega))

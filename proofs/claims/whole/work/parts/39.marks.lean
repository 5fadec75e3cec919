/-- M' is M outside P -/
def fr (P : Nat → Nat → Prop) (M M' : Mm) : Prop := ∀ k j, ¬ P k j → M'.1 k j = M.1 k j ∧ M'.2 k j = M.2 k j
theorem fr.r {P : Nat → Nat → Prop} {M : Mm} : fr P M M := fun _ _ _ => ⟨rfl, rfl⟩
theorem fr.t {P : Nat → Nat → Prop} {M M1 M2 : Mm} (a : fr P M M1) (b : fr P M1 M2) : fr P M M2 := fun k j h => ⟨(b k j h).1.trans (a k j h).1, (b k j h).2.trans (a k j h).2⟩
theorem fr.mo {P R : Nat → Nat → Prop} {M M1 : Mm} (a : fr R M M1) (h : ∀ k j, R k j → P k j) : fr P M M1 := fun k j hp => a k j (fun hr => hp (h k j hr))
theorem fr_ne {P : Nat → Nat → Prop} {k j k' j' : Nat} (hp : P k j) (h : ¬ P k' j') : k' ≠ k ∨ j' ≠ j := by
  by_cases e : k' = k
  · right; intro e2; subst e; subst e2; exact h hp
  · exact Or.inl e
theorem fr.si {P : Nat → Nat → Prop} {M M1 : Mm} {k j : Nat} {x : Int32} (a : fr P M M1) (hp : P k j) : fr P M (siM M1 k j x) := fun k' j' h => ⟨(siN rfl (fr_ne hp h)).trans (a k' j' h).1, (a k' j' h).2⟩
theorem fr.sl {P : Nat → Nat → Prop} {M M1 : Mm} {k j : Nat} {x : Int64} (a : fr P M M1) (hp : P k j) : fr P M (slM M1 k j x) := fun k' j' h => ⟨(a k' j' h).1, (slN rfl (fr_ne hp h)).trans (a k' j' h).2⟩
theorem fr.sr {P : Nat → Nat → Prop} {M M1 : Mm} {k : Nat} {f : Nat → Int32} (a : fr P M M1) (hp : ∀ j, P k j) : fr P M (srM M1 k f) := fun k' j' h => ⟨(srN rfl (fun e => h (by rw [e]; exact hp j'))).trans (a k' j' h).1, (a k' j' h).2⟩
theorem fr.i {P : Nat → Nat → Prop} {M M1 : Mm} (a : fr P M M1) {k j : Nat} {v : Int32} (h : M.1 k j = v) (hp : ¬ P k j) : M1.1 k j = v := (a k j hp).1.trans h
theorem fr.l {P : Nat → Nat → Prop} {M M1 : Mm} (a : fr P M M1) {k j : Nat} {v : Int64} (h : M.2 k j = v) (hp : ¬ P k j) : M1.2 k j = v := (a k j hp).2.trans h
/-- the class's cells that no later answer hangs on; the model's, with its STATUS -/
def scX (k j : Nat) : Prop := k < 132 ∧ ¬ coX k j
def scM (k j : Nat) : Prop := 132 ≤ k ∧ (¬ coM k j ∨ (k = 132 ∧ j = 0))
theorem IX_fr {M M1 : Mm} {T : TT} (h : IX M T) (hG : TG T) (hf : fr scX M M1) : IX M1 T := IX_eq h hG.2.2.2.2.2.1 (fun k j hc => (hf k j (fun q => q.2 hc)).1) (fun k j hc => (hf k j (fun q => q.2 hc)).2)
theorem keM_fr {P : Nat → Nat → Prop} {M M1 : Mm} (hf : fr P M M1) (hp : ∀ k j, P k j → k < 132) : keM M M1 := ⟨fun k hk => funext fun j => (hf k j (fun q => by have := hp k j q; omega)).1, fun k hk => funext fun j => (hf k j (fun q => by have := hp k j q; omega)).2⟩
theorem keX_fr {P : Nat → Nat → Prop} {M M1 : Mm} (hf : fr P M M1) (hp : ∀ k j, P k j → 132 ≤ k) : keX M M1 := ⟨fun k hk => funext fun j => (hf k j (fun q => by have := hp k j q; omega)).1, fun k hk => funext fun j => (hf k j (fun q => by have := hp k j q; omega)).2⟩
theorem keM_s {M M1 : Mm} {j : Nat} {x : Int32} (h : keM M M1) : keM M (siM M1 0 j x) := ⟨fun k hk => ((keM_st M1 j x).1 k hk).trans (h.1 k hk), h.2⟩
/-- the end of a question of the class's -/
theorem fin_q {Q : Option Value → Mm → Prop} {M M1 : Mm} {T : TT} {p : AN} {v : Int32} {n : Nat} (hQ : ∀ M', IX M' p.2 → keM M M' → Q (some (.int p.1)) M') (hI : IX M T) (hG : TG T) (e : p = (v, st' T n)) (hf : fr scX M M1) : Q (some (.int v)) (siM M1 0 0 (nI n)) := by
  subst e
  exact hQ _ (IX_st (IX_fr hI hG hf) n) (keM_s (keM_fr hf (fun k j h => h.1)))
/-- as IM, with another wood in block 0 and other MARKS -/
theorem IM_mk {M M1 : Mm} {T : TT} {W' : WD} {n : Nat} {K' : Nat × (Nat → WD)} (h : IM M T) (hG : TG T) (hW : WM 0 M1 W') (hst : M1.1 132 0 = nI n) (hk : M1.1 132 23 = nI K'.1) (hK : ∀ i, i < K'.1 → WM (i + 1) M1 (K'.2 i)) (he : ∀ k j, (k = 132 ∧ (j = 8 ∨ j = 10 ∨ j = 11 ∨ j = 38)) ∨ (133 ≤ k ∧ k ≤ 136) ∨ k = 146 → M1.1 k j = M.1 k j) (he2 : ∀ k j, (k = 132 ∧ (j = 2 ∨ j = 3)) ∨ k = 135 → M1.2 k j = M.2 k j) : IM M1 (st' (sK (sW T W') K') n) := by
  obtain ⟨h1, h2, h3, h4, h5, h6, h7, h8⟩ := h
  refine ⟨hW, fun t ht => ?_, ?_, ?_, ?_, ?_, hk, hK⟩
  · rw [he 133 t (by omega), he 134 t (by omega)]
    refine ⟨(h2 t ht).1, (h2 t ht).2.1, fun q hq => ⟨((h2 t ht).2.2 q hq).1, fun j hj => ?_⟩⟩
    rw [he2 135 _ (by omega)]
    exact ((h2 t ht).2.2 q hq).2 j hj
  · exact ⟨by rw [he _ _ (by omega)]; exact h3.1, fun j hj => by rw [he _ _ (by omega)]; exact h3.2 j hj⟩
  · exact ⟨hst, by rw [he2 _ _ (by omega)]; exact h4.2.1, by rw [he2 _ _ (by omega)]; exact h4.2.2⟩
  · exact ⟨by rw [he _ _ (by omega)]; exact h5.1, by rw [he _ _ (by omega)]; exact h5.2⟩
  · exact ⟨by rw [he _ _ (by omega)]; exact h6.1, fun q j hj => by rw [he _ _ (by omega)]; exact h6.2 q j hj⟩
theorem IM_fr {M M1 : Mm} {T : TT} {n : Nat} (h : IM M T) (hG : TG T) (hst : M1.1 132 0 = nI n) (hf : fr scM M M1) : IM M1 (st' T n) := by
  have h3 : (tK T).1 ≤ 3 := hG.2.2.2.2.2.1
  exact IM_mk (W' := tW T) (K' := tK T) h hG (WM_eq h.1 hG.1 (fun j _ hj => (hf _ _ (by unfold scM coM; omega)).1) (fun j _ hj => (hf _ _ (by unfold scM coM; omega)).2)) hst
    ((hf _ _ (by unfold scM coM; omega)).1.trans h.2.2.2.2.2.2.1)
    (fun i hi => WM_eq (h.2.2.2.2.2.2.2 i hi) (hG.2.2.2.2.2.2.1 i hi) (fun j _ hj => (hf _ _ (by unfold scM coM; omega)).1) (fun j _ hj => (hf _ _ (by unfold scM coM; omega)).2))
    (fun k j hc => (hf _ _ (by unfold scM coM; omega)).1) (fun k j hc => (hf _ _ (by unfold scM coM; omega)).2)
theorem m0_fr {M : Mm} : fr scM M (m0 M) := (fr.r.si (by unfold scM coM; omega)).si (by unfold scM coM; omega)
/-- the end of a question of the model's -/
theorem fin_qM {Q : Option Value → Mm → Prop} {M M1 : Mm} {T : TT} {p : AN} {v : Int32} {n : Nat} (hQ : ∀ M', IM M' p.2 → keX M M' → Q (some (.int p.1)) M') (hI : IM M T) (hG : TG T) (e : p = (v, st' T n)) (hst : M1.1 132 0 = nI n) (hf : fr scM M M1) : Q (some (.int v)) M1 := by
  subst e
  exact hQ _ (IM_fr hI hG hst hf) (keX_fr hf (fun k j h => h.1))

def sp_mark (T : TT) : AN := if (tK T).1 = 3 then (-1, st' T 7) else (nI ((tK T).1 + 1), st' (sK T ((tK T).1 + 1, fun i => if i = (tK T).1 then tW T else (tK T).2 i)) 0)
def sp_back (T : TT) : AN := if (tK T).1 = 0 then (-1, st' T 8) else (nI ((tK T).1 - 1), st' (sK (sW T ((tK T).2 ((tK T).1 - 1))) ((tK T).1 - 1, (tK T).2)) 0)
theorem c_take {w u : Nat} (hw : isW w) (hu : isW u) (hd : w + 19 < u ∨ u + 19 < w) {M : Mm} {W : WD} (h : WX u M W) (hG : WG W) {Q : Option Value → Mm → Prop} (hQ : ∀ M', WX w M' W → fr (fun k _ => w ≤ k ∧ k < w + 20) M M' → Q none M') (d : Nat) : AMt miX6_takeFrom (d + 1) [.ref w, .ref u] M Q :=
  c_X6_takeFrom hw hu hd h.1 h.2.2 hG.2.1 (hQ _ (tw_WX hd h hG) (fun k j hk => ⟨by rw [ty_o (by omega), tw_o (by omega)], by rw [ty_L, tw_o2 (by omega)]⟩)) d
/-- as IX, with another wood and other MARKS -/
theorem IX_mk {M M1 : Mm} {T : TT} {W' : WD} {n : Nat} {K' : Nat × (Nat → WD)} (h : IX M T) (hW : WX 17 M1 W') (hst : M1.1 0 0 = nI n) (hk : M1.1 0 12 = nI K'.1) (hK : ∀ i, i < K'.1 → WX (58 + 20 * i) M1 (K'.2 i)) (he : ∀ k j, ((k < 17 ∨ k = 120) ∧ ¬ (k = 0 ∧ (j = 0 ∨ j = 12))) → M1.1 k j = M.1 k j) (he2 : ∀ k j, k < 17 → M1.2 k j = M.2 k j) : IX M1 (st' (sK (sW T W') K') n) := by
  obtain ⟨h1, h2, h3, h4, h5, h6, h7, h8⟩ := h
  refine ⟨hW, fun t ht => ?_, ?_, ?_, ?_, ?_, hk, hK⟩
  · rw [he 8 t (by omega), he 9 t (by omega)]
    refine ⟨(h2 t ht).1, (h2 t ht).2.1, fun q hq => ⟨((h2 t ht).2.2 q hq).1, fun j hj => ?_⟩⟩
    rw [he2 _ _ (by omega)]
    exact ((h2 t ht).2.2 q hq).2 j hj
  · exact ⟨by rw [he _ _ (by omega)]; exact h3.1, fun j hj => by rw [he _ _ (by omega)]; exact h3.2 j hj⟩
  · exact ⟨hst, by rw [he2 _ _ (by omega)]; exact h4.2.1, by rw [he2 _ _ (by omega)]; exact h4.2.2⟩
  · exact ⟨by rw [he _ _ (by omega)]; exact h5.1, by rw [he _ _ (by omega)]; exact h5.2⟩
  · exact ⟨by rw [he _ _ (by omega)]; exact h6.1, fun q j hj => by rw [he _ _ (by omega)]; exact h6.2 q j hj⟩
theorem WX_fr {w : Nat} {M M1 : Mm} {W : WD} {P : Nat → Nat → Prop} (h : WX w M W) (hf : fr P M M1) (hp : ∀ k j, w ≤ k → k < w + 20 → ¬ P k j) : WX w M1 W := WX_eq h (fun k a b => funext fun j => (hf k j (hp k j a b)).1) (fun k a b => funext fun j => (hf k j (hp k j a b)).2)

set_option maxRecDepth 100000 in
set_option maxHeartbeats 800000 in
theorem c_X11_mark {M : Mm} {T : TT} (hI : IX M T) (hG : TG T) {Q : Option Value → Mm → Prop} (hQ : ∀ M', IX M' (sp_mark T).2 → keM M M' → Q (some (.int (sp_mark T).1)) M') (d : Nat) : AMt miX11_mark (d + 3) [.ref 0] M Q := by
  refine AMt.of (by decide) (Nat.le_of_ble_eq_true rfl) ?_
  show AW miX11_mark (d + 3) (mxA Q) 0 [(0, some (.ref 0))] [] M
  have hk3 : (tK T).1 ≤ 3 := hG.2.2.2.2.2.1
  refine a_aload_n rfl dX11_mark_0 ?_
  refine g_i hI.2.2.2.2.2.2.1 (by decide) rfl fX11_69 rfl dX11_mark_1 ?_
  refine n_iconst 3 rfl dX11_mark_4 ?_
  refine n_icmp_lt 15 (by omega) (by omega) dX11_mark_5 (by decide) (fun h_5 => ?_) (fun h_5 => ?_)
  · have hwm : isW (58 + 20 * (tK T).1) := by unfold isW; omega
    refine a_aload_n rfl dX11_mark_15 ?_
    refine a_geta dX11_mark_16 fX11_65 (by decide) rfl rfl ?_
    refine a_aload_n rfl dX11_mark_19 ?_
    refine g_i hI.2.2.2.2.2.2.1 (by decide) rfl fX11_69 rfl dX11_mark_20 ?_
    refine n_aald (by omega) (by decide) rfl (Or.inr rfl) (by decide) dX11_mark_23 ?_
    refine a_aload_n rfl dX11_mark_24 ?_
    refine a_geta dX11_mark_25 fX11_58 (by decide) rfl rfl ?_
    refine n_callV (mi' := miX6_takeFrom) dX11_mark_28 lX11_170 mX6_takeFrom (isW_lt hwm (i := 0) (by decide)) (layW_0 hwm) rfl rfl (c_take (w := 58 + 20 * (tK T).1) (u := 17) (W := tW T) (by unfold isW; omega) isW17 (by omega) hI.1 hG.1 (fun M_28 hW_28 hf_28 => ?_) d) rfl rfl (by omega) (by decide) (Nat.le_of_ble_eq_true rfl)
    show AW _ _ _ _ _ _ _
    refine a_aload_n rfl dX11_mark_31 ?_
    refine a_dup rfl dX11_mark_32 ?_
    refine g_i (hf_28.i hI.2.2.2.2.2.2.1 (by omega)) (by decide) rfl fX11_69 rfl dX11_mark_33 ?_
    refine n_iconst 1 rfl dX11_mark_36 ?_
    refine n_iadd dX11_mark_37 ?_
    refine a_puti dX11_mark_38 pX11_69 (by decide) rfl rfl ?_
    refine a_aload_n rfl dX11_mark_41 ?_
    refine a_aload_n rfl dX11_mark_42 ?_
    refine g_i siS (by decide) rfl fX11_69 rfl dX11_mark_43 ?_
    refine n_callV (mi' := miX11_answer) dX11_mark_46 lX11_177 mX11_answer (by decide) rfl rfl rfl (c_X11_answer ?_ d) rfl rfl (by omega) (by decide) (Nat.le_of_ble_eq_true rfl)
    show AW _ _ _ _ _ _ _
    refine a_iret dX11_mark_49 rfl ?_
    rw [show sp_mark T = (nI ((tK T).1 + 1), st' (sK T ((tK T).1 + 1, fun i => if i = (tK T).1 then tW T else (tK T).2 i)) 0) from by unfold sp_mark; rw [if_neg (by omega)]] at hQ
    have hf2 : fr (fun k j => (k = 0 ∧ (j = 0 ∨ j = 12)) ∨ (58 + 20 * (tK T).1 ≤ k ∧ k < 58 + 20 * (tK T).1 + 20)) M (siM (siM M_28 0 12 (nI ((tK T).1 + 1))) 0 0 (nI 0)) := ((hf_28.mo (fun k j h => Or.inr h)).si (by omega)).si (by omega)
    refine hQ _ (IX_mk (W' := tW T) (K' := ((tK T).1 + 1, fun i => if i = (tK T).1 then tW T else (tK T).2 i)) hI (WX_fr hI.1 hf2 (fun k j a b => by omega)) siS (siN siS (by omega)) (fun i hi => ?_) (fun k j h => (hf2 k j (by omega)).1) (fun k j h => ((hf_28 k j (by omega)).2))) (keM_fr hf2 (fun k j h => by omega))
    by_cases e : i = (tK T).1
    · subst e
      show WX _ _ (if (tK T).1 = (tK T).1 then tW T else _)
      rw [if_pos rfl]
      exact WX_eq hW_28 (fun k a b => funext fun j => siN (siN rfl (by omega)) (by omega)) (fun _ _ _ => rfl)
    · have hi2 : i < (tK T).1 + 1 := hi
      show WX (58 + 20 * i) _ (if i = (tK T).1 then tW T else (tK T).2 i)
      rw [if_neg e]
      exact WX_fr (hI.2.2.2.2.2.2.2 i (by omega)) hf2 (fun k j a b => by omega)
  · refine a_aload_n rfl dX11_mark_8 ?_
    refine n_bipush 7 rfl dX11_mark_9 ?_
    refine n_callV (mi' := miX11_none) dX11_mark_11 lX11_131 mX11_none (by decide) rfl rfl rfl (c_X11_none ?_ d) rfl rfl (by omega) (by decide) (Nat.le_of_ble_eq_true rfl)
    show AW _ _ _ _ _ _ _
    refine a_iret dX11_mark_14 rfl ?_
    exact fin_q hQ hI hG (by unfold sp_mark; rw [if_pos (by omega)]) fr.r

set_option maxRecDepth 100000 in
set_option maxHeartbeats 800000 in
theorem c_X11_back {M : Mm} {T : TT} (hI : IX M T) (hG : TG T) {Q : Option Value → Mm → Prop} (hQ : ∀ M', IX M' (sp_back T).2 → keM M M' → Q (some (.int (sp_back T).1)) M') (d : Nat) : AMt miX11_back (d + 3) [.ref 0] M Q := by
  refine AMt.of (by decide) (Nat.le_of_ble_eq_true rfl) ?_
  show AW miX11_back (d + 3) (mxA Q) 0 [(0, some (.ref 0))] [] M
  have hk3 : (tK T).1 ≤ 3 := hG.2.2.2.2.2.1
  refine a_aload_n rfl dX11_back_0 ?_
  refine g_i hI.2.2.2.2.2.2.1 (by decide) rfl fX11_69 rfl dX11_back_1 ?_
  refine n_if_gt 14 (by omega) dX11_back_4 (by decide) (fun h_4 => ?_) (fun h_4 => ?_)
  · have hwm : isW (58 + 20 * ((tK T).1 - 1)) := by unfold isW; omega
    refine a_aload_n rfl dX11_back_14 ?_
    refine a_dup rfl dX11_back_15 ?_
    refine g_i hI.2.2.2.2.2.2.1 (by decide) rfl fX11_69 rfl dX11_back_16 ?_
    refine n_iconst 1 rfl dX11_back_19 ?_
    refine n_isub (by omega) dX11_back_20 ?_
    refine a_puti dX11_back_21 pX11_69 (by decide) rfl rfl ?_
    refine a_aload_n rfl dX11_back_24 ?_
    refine a_geta dX11_back_25 fX11_58 (by decide) rfl rfl ?_
    refine a_aload_n rfl dX11_back_28 ?_
    refine a_geta dX11_back_29 fX11_65 (by decide) rfl rfl ?_
    refine a_aload_n rfl dX11_back_32 ?_
    refine g_i siS (by decide) rfl fX11_69 rfl dX11_back_33 ?_
    refine n_aald (by omega) (by decide) rfl (Or.inr rfl) (by decide) dX11_back_36 ?_
    refine n_callV (mi' := miX6_takeFrom) dX11_back_37 lX11_170 mX6_takeFrom (by decide) rfl rfl rfl (c_take (w := 17) (u := 58 + 20 * ((tK T).1 - 1)) (W := (tK T).2 ((tK T).1 - 1)) isW17 (by unfold isW; omega) (by omega) (WX_eq (hI.2.2.2.2.2.2.2 ((tK T).1 - 1) (by omega)) (fun k a b => funext fun j => siN rfl (by omega)) (fun _ _ _ => rfl)) (hG.2.2.2.2.2.2.1 _ (by omega)) (fun M_37 hW_37 hf_37 => ?_) d) rfl rfl (by omega) (by decide) (Nat.le_of_ble_eq_true rfl)
    show AW _ _ _ _ _ _ _
    refine a_aload_n rfl dX11_back_40 ?_
    refine a_aload_n rfl dX11_back_41 ?_
    refine g_i (hf_37.i siS (by omega)) (by decide) rfl fX11_69 rfl dX11_back_42 ?_
    refine n_callV (mi' := miX11_answer) dX11_back_45 lX11_177 mX11_answer (by decide) rfl rfl rfl (c_X11_answer ?_ d) rfl rfl (by omega) (by decide) (Nat.le_of_ble_eq_true rfl)
    show AW _ _ _ _ _ _ _
    refine a_iret dX11_back_48 rfl ?_
    rw [show sp_back T = (nI ((tK T).1 - 1), st' (sK (sW T ((tK T).2 ((tK T).1 - 1))) ((tK T).1 - 1, (tK T).2)) 0) from by unfold sp_back; rw [if_neg (by omega)]] at hQ
    have hf1 : fr (fun k j => (k = 0 ∧ (j = 0 ∨ j = 12)) ∨ (17 ≤ k ∧ k < 37)) M M_37 := (fr.r.si (by omega)).t (hf_37.mo (fun k j h => Or.inr (by omega)))
    have hf2 : fr (fun k j => (k = 0 ∧ (j = 0 ∨ j = 12)) ∨ (17 ≤ k ∧ k < 37)) M (siM M_37 0 0 (nI 0)) := hf1.si (by omega)
    exact hQ _ (IX_mk hI (WX_eq hW_37 (fun k a b => funext fun j => siN rfl (by omega)) (fun _ _ _ => rfl)) siS (siN (hf_37.i siS (by omega)) (by omega)) (fun i hi => WX_fr (hI.2.2.2.2.2.2.2 i (Nat.lt_of_lt_of_le hi (Nat.sub_le _ _))) hf2 (fun k j a b => by omega)) (fun k j h => (hf2 k j (by omega)).1) (fun k j h => (hf_37 k j (by omega)).2)) (keM_fr hf2 (fun k j h => by omega))
  · refine a_aload_n rfl dX11_back_7 ?_
    refine n_bipush 8 rfl dX11_back_8 ?_
    refine n_callV (mi' := miX11_none) dX11_back_10 lX11_131 mX11_none (by decide) rfl rfl rfl (c_X11_none ?_ d) rfl rfl (by omega) (by decide) (Nat.le_of_ble_eq_true rfl)
    show AW _ _ _ _ _ _ _
    refine a_iret dX11_back_13 rfl ?_
    exact fin_q hQ hI hG (by unfold sp_back; rw [if_pos (by omega)]) fr.r

theorem cpi_step {M M1 : Mm} {t f i : Nat} (htf : t ≠ f) (hi : i < 362) (h : (∀ j, M1.1 137 j = if 362 * t ≤ j ∧ j < 362 * t + i then M.1 137 (j - 362 * t + 362 * f) else M.1 137 j) ∧ (∀ k, k ≠ 137 → M1.1 k = M.1 k) ∧ M1.2 = M.2) : (fun M2 : Mm => (∀ j, M2.1 137 j = if 362 * t ≤ j ∧ j < 362 * t + (i + 1) then M.1 137 (j - 362 * t + 362 * f) else M.1 137 j) ∧ (∀ k, k ≠ 137 → M2.1 k = M.1 k) ∧ M2.2 = M.2) (siM M1 137 (362 * t + i) (M1.1 137 (362 * f + i))) := by
  refine ⟨fun j => ?_, fun k hk => (funext fun j => siN rfl (by omega)).trans (h.2.1 k hk), h.2.2⟩
  by_cases e : j = 362 * t + i
  · subst e
    rw [siS, h.1, if_neg (by omega), if_pos (by omega)]
    first | exact congrArg (M.1 137) (by omega) | exact congrArg (M.2 139) (by omega)
  · rw [siN (h.1 j) (by omega)]
    by_cases c : 362 * t ≤ j ∧ j < 362 * t + i
    · rw [if_pos c, if_pos (by omega)]
    · rw [if_neg c, if_neg (by omega)]
theorem cpl_step {M M1 M0 : Mm} {t f i : Nat} (htf : t ≠ f) (hi : i < 13) (h : (∀ j, M1.2 139 j = if 13 * t ≤ j ∧ j < 13 * t + i then M.2 139 (j - 13 * t + 13 * f) else M.2 139 j) ∧ (∀ k, k ≠ 139 → M1.2 k = M.2 k) ∧ M1.1 = M0.1) : (fun M2 : Mm => (∀ j, M2.2 139 j = if 13 * t ≤ j ∧ j < 13 * t + (i + 1) then M.2 139 (j - 13 * t + 13 * f) else M.2 139 j) ∧ (∀ k, k ≠ 139 → M2.2 k = M.2 k) ∧ M2.1 = M0.1) (slM M1 139 (13 * t + i) (M1.2 139 (13 * f + i))) := by
  refine ⟨fun j => ?_, fun k hk => (funext fun j => slN rfl (by omega)).trans (h.2.1 k hk), h.2.2⟩
  by_cases e : j = 13 * t + i
  · subst e
    rw [slS, h.1, if_neg (by omega), if_pos (by omega)]
    first | exact congrArg (M.1 137) (by omega) | exact congrArg (M.2 139) (by omega)
  · rw [slN (h.1 j) (by omega)]
    by_cases c : 13 * t ≤ j ∧ j < 13 * t + i
    · rw [if_pos c, if_pos (by omega)]
    · rw [if_neg c, if_neg (by omega)]

set_option maxRecDepth 100000 in
set_option maxHeartbeats 800000 in
theorem c_X12_copy {M : Mm} {f t : Nat} (hf : f < 5) (ht : t < 5) (htf : t ≠ f) {Q : Option Value → Mm → Prop} (hQ : ∀ M', (∀ j, j < 362 → M'.1 137 (362 * t + j) = M.1 137 (362 * f + j)) → (∀ j, j < 13 → M'.2 139 (13 * t + j) = M.2 139 (13 * f + j)) → fr (fun k j => (k = 137 ∧ 362 * t ≤ j ∧ j < 362 * t + 362) ∨ (k = 139 ∧ 13 * t ≤ j ∧ j < 13 * t + 13)) M M' → Q none M') (d : Nat) : AMt miX12_copy (d) [.ref 132, .int (nI f), .int (nI t)] M Q := by
  refine AMt.of (by decide) (Nat.le_of_ble_eq_true rfl) ?_
  show AW miX12_copy (d) (mxA Q) 0 [(0, some (.ref 132)), (1, some (.int (nI f))), (2, some (.int (nI t)))] [] M
  refine n_iconst 0 rfl dX12_copy_0 ?_
  refine a_istore_n (by decide) rfl dX12_copy_1 ?_
  have loop_2 : ∀ i, i ≤ 362 → ∀ M1, ((∀ j, (M1).1 137 j = if 362 * t ≤ j ∧ j < 362 * t + i then M.1 137 (j - 362 * t + 362 * f) else M.1 137 j) ∧ (∀ k, k ≠ 137 → (M1).1 k = M.1 k) ∧ (M1).2 = M.2) → AW miX12_copy (d) (mxA Q) 2 [(0, some (.ref 132)), (1, some (.int (nI f))), (2, some (.int (nI t))), (3, some (.int (nI i)))] [] M1 := by
    refine up (W := fun i => ∀ M1, ((∀ j, (M1).1 137 j = if 362 * t ≤ j ∧ j < 362 * t + i then M.1 137 (j - 362 * t + 362 * f) else M.1 137 j) ∧ (∀ k, k ≠ 137 → (M1).1 k = M.1 k) ∧ (M1).2 = M.2) → AW miX12_copy (d) (mxA Q) 2 [(0, some (.ref 132)), (1, some (.int (nI f))), (2, some (.int (nI t))), (3, some (.int (nI i)))] [] M1) 362 (fun M1 hI_2 => ?_) (fun i hi_2 ih_2 M1 hI_2 => ?_)
    · refine a_iload_n rfl dX12_copy_2 ?_
      refine n_sipush 362 rfl dX12_copy_3 ?_
      refine n_icmp_ge 39 (by omega) (by omega) dX12_copy_6 (by decide) (fun h_6 => ?_) (fun h_6 => absurd h_6 (by omega))
      refine n_iconst 0 rfl dX12_copy_39 ?_
      refine a_istore_n (by decide) rfl dX12_copy_40 ?_
      have loop_41 : ∀ i, i ≤ 13 → ∀ M2, ((∀ j, (M2).2 139 j = if 13 * t ≤ j ∧ j < 13 * t + i then M.2 139 (j - 13 * t + 13 * f) else M.2 139 j) ∧ (∀ k, k ≠ 139 → (M2).2 k = M.2 k) ∧ (M2).1 = M1.1) → AW miX12_copy (d) (mxA Q) 41 [(0, some (.ref 132)), (1, some (.int (nI f))), (2, some (.int (nI t))), (3, some (.int (nI i)))] [] M2 := by
        refine up (W := fun i => ∀ M2, ((∀ j, (M2).2 139 j = if 13 * t ≤ j ∧ j < 13 * t + i then M.2 139 (j - 13 * t + 13 * f) else M.2 139 j) ∧ (∀ k, k ≠ 139 → (M2).2 k = M.2 k) ∧ (M2).1 = M1.1) → AW miX12_copy (d) (mxA Q) 41 [(0, some (.ref 132)), (1, some (.int (nI f))), (2, some (.int (nI t))), (3, some (.int (nI i)))] [] M2) 13 (fun M2 hI_41 => ?_) (fun i hi_41 ih_41 M2 hI_41 => ?_)
        · refine a_iload_n rfl dX12_copy_41 ?_
          refine n_bipush 13 rfl dX12_copy_42 ?_
          refine n_icmp_ge 75 (by omega) (by omega) dX12_copy_44 (by decide) (fun h_44 => ?_) (fun h_44 => absurd h_44 (by omega))
          refine a_vret dX12_copy_75 rfl ?_
          refine hQ _ (fun j hj => ?_) (fun j hj => ?_) (fun k j h => ⟨?_, ?_⟩)
          · rw [hI_41.2.2, hI_2.1, if_pos (by omega)]; exact congrArg (M.1 137) (by omega)
          · rw [hI_41.1, if_pos (by omega)]; exact congrArg (M.2 139) (by omega)
          · rw [hI_41.2.2]
            by_cases e : k = 137
            · subst e; rw [hI_2.1, if_neg (by omega)]
            · rw [hI_2.2.1 k e]
          · by_cases e : k = 139
            · subst e; rw [hI_41.1, if_neg (by omega)]
            · rw [hI_41.2.1 k e]
        · refine a_iload_n rfl dX12_copy_41 ?_
          refine n_bipush 13 rfl dX12_copy_42 ?_
          refine n_icmp_ge 75 (by omega) (by omega) dX12_copy_44 (by decide) (fun h_44 => absurd h_44 (by omega)) (fun h_44 => ?_)
          refine a_aload_n rfl dX12_copy_47 ?_
          refine a_geta dX12_copy_48 fX12_41 (by decide) rfl rfl ?_
          refine n_bipush 13 rfl dX12_copy_51 ?_
          refine a_iload_n rfl dX12_copy_53 ?_
          refine n_imul dX12_copy_54 ?_
          refine a_iload_n rfl dX12_copy_55 ?_
          refine n_iadd dX12_copy_56 ?_
          refine a_aload_n rfl dX12_copy_57 ?_
          refine a_geta dX12_copy_58 fX12_41 (by decide) rfl rfl ?_
          refine n_bipush 13 rfl dX12_copy_61 ?_
          refine a_iload_n rfl dX12_copy_63 ?_
          refine n_imul dX12_copy_64 ?_
          refine a_iload_n rfl dX12_copy_65 ?_
          refine n_iadd dX12_copy_66 ?_
          refine n_lald (by omega) (by decide) rfl (by decide) dX12_copy_67 ?_
          refine n_last (by omega) (by decide) rfl (by decide) dX12_copy_68 ?_
          refine n_iinc (c := 1) rfl rfl (by decide) rfl dX12_copy_69 ?_
          refine a_goto 41 dX12_copy_72 (by decide) ?_
          exact a_bk (ih_41 _ (cpl_step htf hi_41 hI_41)) ⟨rfl, rfl, rfl, rfl, trivial⟩
      exact a_bk (loop_41 0 (by omega) _ ⟨fun j => by rw [if_neg (by omega), hI_2.2.2], fun _ _ => by rw [hI_2.2.2], rfl⟩) ⟨rfl, rfl, rfl, rfl, trivial⟩
    · refine a_iload_n rfl dX12_copy_2 ?_
      refine n_sipush 362 rfl dX12_copy_3 ?_
      refine n_icmp_ge 39 (by omega) (by omega) dX12_copy_6 (by decide) (fun h_6 => absurd h_6 (by omega)) (fun h_6 => ?_)
      refine a_aload_n rfl dX12_copy_9 ?_
      refine a_geta dX12_copy_10 fX12_35 (by decide) rfl rfl ?_
      refine n_sipush 362 rfl dX12_copy_13 ?_
      refine a_iload_n rfl dX12_copy_16 ?_
      refine n_imul dX12_copy_17 ?_
      refine a_iload_n rfl dX12_copy_18 ?_
      refine n_iadd dX12_copy_19 ?_
      refine a_aload_n rfl dX12_copy_20 ?_
      refine a_geta dX12_copy_21 fX12_35 (by decide) rfl rfl ?_
      refine n_sipush 362 rfl dX12_copy_24 ?_
      refine a_iload_n rfl dX12_copy_27 ?_
      refine n_imul dX12_copy_28 ?_
      refine a_iload_n rfl dX12_copy_29 ?_
      refine n_iadd dX12_copy_30 ?_
      refine n_iald (by omega) (by decide) rfl (by decide) dX12_copy_31 ?_
      refine n_iast (by omega) (by decide) rfl (by decide) dX12_copy_32 ?_
      refine n_iinc (c := 1) rfl rfl (by decide) rfl dX12_copy_33 ?_
      refine a_goto 2 dX12_copy_36 (by decide) ?_
      exact a_bk (ih_2 _ (cpi_step htf hi_2 hI_2)) ⟨rfl, rfl, rfl, rfl, trivial⟩
  exact a_bk (loop_2 0 (by omega) _ ⟨fun j => by rw [if_neg (by omega)], fun _ _ => rfl, rfl⟩) ⟨rfl, rfl, rfl, rfl, trivial⟩

theorem WM_cp {f t : Nat} {M M' : Mm} {W : WD} (h : WM f M W) (hG : WG W) (he : ∀ j, j < 362 → M'.1 137 (362 * t + j) = M.1 137 (362 * f + j)) (he2 : ∀ j, j < 13 → M'.2 139 (13 * t + j) = M.2 139 (13 * f + j)) : WM t M' W := by
  obtain ⟨h1, h2, h3⟩ := h
  obtain ⟨hF, hY⟩ := hG
  have hm := WF_m hF
  have hh := WF_h hF
  have hs := WF_s hF
  have hn := WF_n hF
  have e2 : ∀ {a j : Nat} {v : Int32}, M.1 137 (362 * f + a + j) = v → a + j < 362 → M'.1 137 (362 * t + a + j) = v := fun {a j v} h hj => by
    rw [Nat.add_assoc] at h ⊢; exact (he _ hj).trans h
  refine ⟨?_, ⟨fun j hj => (he2 j (by omega)).trans (h2.1 j hj), fun j hj => ?_⟩, ?_⟩
  · obtain ⟨a0, a1, a2, a3, a4, a5, b2, b1, b3, b4, b5, b6, b7, b8, b9, b10, b11⟩ := h1
    refine ⟨(he _ (by omega)).trans a0, (he _ (by omega)).trans a1, (he _ (by omega)).trans a2, (he _ (by omega)).trans a3, (he _ (by omega)).trans a4, (he _ (by omega)).trans a5, ?_, ?_, ?_, ?_, ?_, ?_, ?_, ?_, ?_, ?_, ?_⟩
    · exact fun j hj => e2 (b2 j hj) (by omega)
    · exact fun j hj => e2 (b1 j hj) (by omega)
    · exact fun j hj => e2 (b3 j hj) (by omega)
    · exact fun j hj => e2 (b4 j hj) (by omega)
    · exact fun j hj => e2 (b5 j hj) (by omega)
    · exact fun j hj => e2 (b6 j hj) (by omega)
    · exact fun j hj => e2 (b7 j hj) (by omega)
    · exact fun j hj => e2 (b8 j hj) (by omega)
    · exact fun j hj => e2 (b9 j hj) (by omega)
    · exact fun j hj => e2 (b10 j hj) (by omega)
    · exact fun j hj => e2 (b11 j hj) (by omega)
  · have := h2.2 j hj
    rw [Nat.add_assoc] at this ⊢
    exact (he2 _ (by omega)).trans this
  · obtain ⟨y0, y1, y2⟩ := h3
    refine ⟨(he _ (by omega)).trans y0, (he _ (by omega)).trans y1, fun i hi hv => ?_⟩
    have hsc : scN W.2.2.2.2 i + 1 ≤ scN W.2.2.2.2 W.2.2.2.1 := scN_lt hi hv
    have h30 := hY.2.2.1
    have q := y2 i hi hv
    have e3 : ∀ {a : Nat} {v : Int32}, M.1 137 (362 * f + 92 + 9 * scN W.2.2.2.2 i + a) = v → a < 9 → M'.1 137 (362 * t + 92 + 9 * scN W.2.2.2.2 i + a) = v := fun {a v} h ha => by
      rw [Nat.add_assoc, Nat.add_assoc] at h ⊢
      exact (he _ (by omega)).trans h
    refine ⟨e3 (a := 0) q.1 (by omega), fun c => e3 (q.2.1 c) (by omega), fun c => e3 (q.2.2.1 c) (by omega), fun c => e3 (q.2.2.2.1 c) (by omega), fun c => ⟨e3 (q.2.2.2.2.1 c).1 (by omega), fun c2 => ⟨e3 ((q.2.2.2.2.1 c).2 c2).1 (by omega), e3 ((q.2.2.2.2.1 c).2 c2).2 (by omega)⟩⟩, e3 q.2.2.2.2.2 (by omega)⟩
theorem WM_fr {b : Nat} {M M1 : Mm} {W : WD} {P : Nat → Nat → Prop} (h : WM b M W) (hG : WG W) (hf : fr P M M1) (hp : ∀ j, 362 * b ≤ j → j < 362 * b + 362 → ¬ P 137 j) (hp2 : ∀ j, 13 * b ≤ j → j < 13 * b + 13 → ¬ P 139 j) : WM b M1 W := WM_eq h hG (fun j a c => (hf _ j (hp j a c)).1) (fun j a c => (hf _ j (hp2 j a c)).2)

set_option maxRecDepth 100000 in
set_option maxHeartbeats 800000 in
theorem c_X12_mark {M : Mm} {T : TT} (hI : IM M T) (hG : TG T) {Q : Option Value → Mm → Prop} (hQ : ∀ M', IM M' (sp_mark T).2 → keX M M' → Q (some (.int (sp_mark T).1)) M') (d : Nat) : AMt miX12_mark (d + 4) [.ref 132] M Q := by
  refine AMt.of (by decide) (Nat.le_of_ble_eq_true rfl) ?_
  show AW miX12_mark (d + 4) (mxA Q) 0 [(0, some (.ref 132))] [] M
  have hk3 : (tK T).1 ≤ 3 := hG.2.2.2.2.2.1
  refine a_aload_n rfl dX12_mark_0 ?_
  refine n_iconst 0 rfl dX12_mark_1 ?_
  refine a_puti dX12_mark_2 pX12_69 (by decide) rfl rfl ?_
  refine a_aload_n rfl dX12_mark_5 ?_
  refine n_iconst 0 rfl dX12_mark_6 ?_
  refine a_puti dX12_mark_7 pX12_72 (by decide) rfl rfl ?_
  show AW miX12_mark (d + 4) (mxA Q) 10 [(0, some (.ref 132))] [] (m0 M)
  refine a_aload_n rfl dX12_mark_10 ?_
  refine g_i ((m0_o (by omega)).trans hI.2.2.2.2.2.2.1) (by decide) rfl fX12_592 rfl dX12_mark_11 ?_
  refine n_iconst 3 rfl dX12_mark_14 ?_
  refine n_icmp_ne 25 (by omega) (by omega) dX12_mark_15 (by decide) (fun h_15 => ?_) (fun h_15 => ?_)
  · refine a_aload_n rfl dX12_mark_25 ?_
    refine a_dup rfl dX12_mark_26 ?_
    refine g_i ((m0_o (by omega)).trans hI.2.2.2.2.2.2.1) (by decide) rfl fX12_592 rfl dX12_mark_27 ?_
    refine n_iconst 1 rfl dX12_mark_30 ?_
    refine n_iadd dX12_mark_31 ?_
    refine a_puti dX12_mark_32 pX12_592 (by decide) rfl rfl ?_
    refine a_aload_n rfl dX12_mark_35 ?_
    refine n_iconst 0 rfl dX12_mark_36 ?_
    refine a_aload_n rfl dX12_mark_37 ?_
    refine g_i siS (by decide) rfl fX12_592 rfl dX12_mark_38 ?_
    refine n_callV (mi' := miX12_copy) dX12_mark_41 lX12_313 mX12_copy (by decide) rfl rfl rfl (c_X12_copy (by omega) (by omega) (by omega) (fun M_41 ha_41 hb_41 hf_41 => ?_) d) rfl rfl (by omega) (by decide) (Nat.le_of_ble_eq_true rfl)
    show AW _ _ _ _ _ _ _
    refine a_aload_n rfl dX12_mark_44 ?_
    refine g_i (hf_41.i siS (by omega)) (by decide) rfl fX12_592 rfl dX12_mark_45 ?_
    refine a_iret dX12_mark_48 rfl ?_
    rw [show sp_mark T = (nI ((tK T).1 + 1), st' (sK T ((tK T).1 + 1, fun i => if i = (tK T).1 then tW T else (tK T).2 i)) 0) from by unfold sp_mark; rw [if_neg (by omega)]] at hQ
    have hf0 : fr (fun k j => (k = 132 ∧ (j = 0 ∨ j = 1 ∨ j = 23)) ∨ (k = 137 ∧ 362 * ((tK T).1 + 1) ≤ j ∧ j < 362 * ((tK T).1 + 1) + 362) ∨ (k = 139 ∧ 13 * ((tK T).1 + 1) ≤ j ∧ j < 13 * ((tK T).1 + 1) + 13)) M (siM (m0 M) 132 23 (nI ((tK T).1 + 1))) := ((fr.r.si (by omega)).si (by omega)).si (by omega)
    have hf2 : fr (fun k j => (k = 132 ∧ (j = 0 ∨ j = 1 ∨ j = 23)) ∨ (k = 137 ∧ 362 * ((tK T).1 + 1) ≤ j ∧ j < 362 * ((tK T).1 + 1) + 362) ∨ (k = 139 ∧ 13 * ((tK T).1 + 1) ≤ j ∧ j < 13 * ((tK T).1 + 1) + 13)) M M_41 := hf0.t (hf_41.mo (fun k j h => Or.inr h))
    refine hQ _ (IM_mk (W' := tW T) (K' := ((tK T).1 + 1, fun i => if i = (tK T).1 then tW T else (tK T).2 i)) hI hG (WM_fr hI.1 hG.1 hf2 (fun j a b => by omega) (fun j a b => by omega)) (hf_41.i (siN m0_s (by omega)) (by omega)) (hf_41.i siS (by omega)) (fun i hi => ?_) (fun k j h => (hf2 k j (by omega)).1) (fun k j h => (hf2 k j (by omega)).2)) (keX_fr hf2 (fun k j h => by omega))
    by_cases e : i = (tK T).1
    · subst e
      show WM _ _ (if (tK T).1 = (tK T).1 then tW T else _)
      rw [if_pos rfl]
      exact WM_cp (f := 0) hI.1 hG.1 (fun j hj => (ha_41 j hj).trans (siN (m0_o (by omega)) (by omega))) (fun j hj => hb_41 j hj)
    · have hi2 : i < (tK T).1 + 1 := hi
      show WM (i + 1) _ (if i = (tK T).1 then tW T else (tK T).2 i)
      rw [if_neg e]
      exact WM_fr (hI.2.2.2.2.2.2.2 i (by omega)) (hG.2.2.2.2.2.2.1 i (by omega)) hf2 (fun j a b => by omega) (fun j a b => by omega)
  · refine a_aload_n rfl dX12_mark_18 ?_
    refine n_bipush 7 rfl dX12_mark_19 ?_
    refine n_callV (mi' := miX12_refuse) dX12_mark_21 lX12_345 mX12_refuse (by decide) rfl rfl rfl (c_X12_refuse ?_ d) rfl rfl (by omega) (by decide) (Nat.le_of_ble_eq_true rfl)
    show AW _ _ _ _ _ _ _
    refine a_iret dX12_mark_24 rfl ?_
    exact fin_qM hQ hI hG (by unfold sp_mark; rw [if_pos (by omega)]) siS (m0_fr.si (by unfold scM coM; omega))

set_option maxRecDepth 100000 in
set_option maxHeartbeats 800000 in
theorem c_X12_back {M : Mm} {T : TT} (hI : IM M T) (hG : TG T) {Q : Option Value → Mm → Prop} (hQ : ∀ M', IM M' (sp_back T).2 → keX M M' → Q (some (.int (sp_back T).1)) M') (d : Nat) : AMt miX12_back (d + 4) [.ref 132] M Q := by
  refine AMt.of (by decide) (Nat.le_of_ble_eq_true rfl) ?_
  show AW miX12_back (d + 4) (mxA Q) 0 [(0, some (.ref 132))] [] M
  have hk3 : (tK T).1 ≤ 3 := hG.2.2.2.2.2.1
  refine a_aload_n rfl dX12_back_0 ?_
  refine n_iconst 0 rfl dX12_back_1 ?_
  refine a_puti dX12_back_2 pX12_69 (by decide) rfl rfl ?_
  refine a_aload_n rfl dX12_back_5 ?_
  refine n_iconst 0 rfl dX12_back_6 ?_
  refine a_puti dX12_back_7 pX12_72 (by decide) rfl rfl ?_
  show AW miX12_back (d + 4) (mxA Q) 10 [(0, some (.ref 132))] [] (m0 M)
  refine a_aload_n rfl dX12_back_10 ?_
  refine g_i ((m0_o (by omega)).trans hI.2.2.2.2.2.2.1) (by decide) rfl fX12_592 rfl dX12_back_11 ?_
  refine n_if_ne 24 (by omega) dX12_back_14 (by decide) (fun h_14 => ?_) (fun h_14 => ?_)
  · refine a_aload_n rfl dX12_back_24 ?_
    refine a_aload_n rfl dX12_back_25 ?_
    refine g_i ((m0_o (by omega)).trans hI.2.2.2.2.2.2.1) (by decide) rfl fX12_592 rfl dX12_back_26 ?_
    refine n_iconst 0 rfl dX12_back_29 ?_
    refine n_callV (mi' := miX12_copy) dX12_back_30 lX12_313 mX12_copy (by decide) rfl rfl rfl (c_X12_copy (by omega) (by omega) (by omega) (fun M_30 ha_30 hb_30 hf_30 => ?_) d) rfl rfl (by omega) (by decide) (Nat.le_of_ble_eq_true rfl)
    show AW _ _ _ _ _ _ _
    refine a_aload_n rfl dX12_back_33 ?_
    refine a_dup rfl dX12_back_34 ?_
    refine g_i (hf_30.i ((m0_o (by omega)).trans hI.2.2.2.2.2.2.1) (by omega)) (by decide) rfl fX12_592 rfl dX12_back_35 ?_
    refine n_iconst 1 rfl dX12_back_38 ?_
    refine n_isub (by omega) dX12_back_39 ?_
    refine a_puti dX12_back_40 pX12_592 (by decide) rfl rfl ?_
    refine a_aload_n rfl dX12_back_43 ?_
    refine g_i siS (by decide) rfl fX12_592 rfl dX12_back_44 ?_
    refine a_iret dX12_back_47 rfl ?_
    rw [show sp_back T = (nI ((tK T).1 - 1), st' (sK (sW T ((tK T).2 ((tK T).1 - 1))) ((tK T).1 - 1, (tK T).2)) 0) from by unfold sp_back; rw [if_neg (by omega)]] at hQ
    have hf0 : fr (fun k j => (k = 132 ∧ (j = 0 ∨ j = 1 ∨ j = 23)) ∨ (k = 137 ∧ 362 * 0 ≤ j ∧ j < 362 * 0 + 362) ∨ (k = 139 ∧ 13 * 0 ≤ j ∧ j < 13 * 0 + 13)) M (m0 M) := (fr.r.si (by omega)).si (by omega)
    have hf2 : fr (fun k j => (k = 132 ∧ (j = 0 ∨ j = 1 ∨ j = 23)) ∨ (k = 137 ∧ 362 * 0 ≤ j ∧ j < 362 * 0 + 362) ∨ (k = 139 ∧ 13 * 0 ≤ j ∧ j < 13 * 0 + 13)) M (siM M_30 132 23 (nI ((tK T).1 - 1))) := (hf0.t (hf_30.mo (fun k j h => Or.inr h))).si (by omega)
    exact hQ _ (IM_mk hI hG (WM_cp (t := 0) (hI.2.2.2.2.2.2.2 ((tK T).1 - 1) (by omega)) (hG.2.2.2.2.2.2.1 _ (by omega)) (fun j hj => by rw [show (tK T).1 - 1 + 1 = (tK T).1 by omega]; exact siN ((ha_30 j hj).trans (m0_o (by omega))) (by omega)) (fun j hj => by rw [show (tK T).1 - 1 + 1 = (tK T).1 by omega]; exact hb_30 j hj)) (siN (hf_30.i m0_s (by omega)) (by omega)) siS (fun i hi => WM_fr (hI.2.2.2.2.2.2.2 i (Nat.lt_of_lt_of_le hi (Nat.sub_le _ _))) (hG.2.2.2.2.2.2.1 i (Nat.lt_of_lt_of_le hi (Nat.sub_le _ _))) hf2 (fun j a b => by omega) (fun j a b => by omega)) (fun k j h => (hf2 k j (by omega)).1) (fun k j h => (hf2 k j (by omega)).2)) (keX_fr hf2 (fun k j h => by omega))
  · refine a_aload_n rfl dX12_back_17 ?_
    refine n_bipush 8 rfl dX12_back_18 ?_
    refine n_callV (mi' := miX12_refuse) dX12_back_20 lX12_345 mX12_refuse (by decide) rfl rfl rfl (c_X12_refuse ?_ d) rfl rfl (by omega) (by decide) (Nat.le_of_ble_eq_true rfl)
    show AW _ _ _ _ _ _ _
    refine a_iret dX12_back_23 rfl ?_
    exact fin_qM hQ hI hG (by unfold sp_back; rw [if_pos (by omega)]) siS (m0_fr.si (by unfold scM coM; omega))

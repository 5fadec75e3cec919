theorem dS_t {z : Nat} {V : Nat → Nat} {ok : Nat → Bool} {m t : Nat} (h1 : ok (m - t - 1) = true) (h2 : (dS z V ok m t).1 ≤ V (m - t - 1)) : dS z V ok m (t + 1) = (V (m - t - 1), some (m - t - 1)) := by rw [dS, if_pos ⟨h1, h2⟩]
theorem dS_f0 {z : Nat} {V : Nat → Nat} {ok : Nat → Bool} {m t : Nat} (h1 : ok (m - t - 1) = false) : dS z V ok m (t + 1) = dS z V ok m t := by rw [dS, if_neg (fun q => by rw [h1] at q; exact absurd q.1 Bool.false_ne_true)]
theorem dS_f1 {z : Nat} {V : Nat → Nat} {ok : Nat → Bool} {m t : Nat} (h2 : V (m - t - 1) < (dS z V ok m t).1) : dS z V ok m (t + 1) = dS z V ok m t := by rw [dS, if_neg (fun q => by omega)]
theorem dS_le {z : Nat} {V : Nat → Nat} {ok : Nat → Bool} {m : Nat} (hz : z ≤ 198) (hV : ∀ n, V n ≤ 198) : ∀ t, (dS z V ok m t).1 ≤ 198
  | 0 => hz
  | t + 1 => by
    rw [dS]
    split
    · exact hV _
    · exact dS_le hz hV t
theorem gMv_le {p q f : Nat} {S : ST} {v : Nat} (h : gMv p q f S = some v) : v < S 0 5 := by
  obtain ⟨r, hr⟩ := gA_ex (u := 1) (ok := gOk S) (V := gX p q f 1 S) (gOk_0 S)
  have r1 := (gA_in hr).1
  unfold gMv gR at h
  rw [hr] at h
  have h : (if r.2 = S 0 5 then none else some r.2) = some v := h
  by_cases c : r.2 = S 0 5
  · rw [if_pos c] at h; cases h
  · rw [if_neg c] at h; cases h; omega
theorem dn_s (a : Nat) : (nI a - nI 1) + Int32.ofInt (-1) = nI a - nI 1 - nI 1 := by
  rw [show Int32.ofInt (-1) = -nI 1 from rfl, ← Int32.sub_eq_add_neg]
def sp_game (p q n : Int32) (T : TT) : AN := if inN p (tS T 0 4) ∧ inN q (tS T 0 4) then (if ¬ idx p = idx q ∧ 0 ≤ n.toInt ∧ n.toInt ≤ 4 then (gI (gV (idx p) (idx q) (idx n) 1 (tS T)), st' T 0) else (-1, st' T 5)) else (-1, st' T 2)
def sp_moveOf (p q n : Int32) (T : TT) : AN := if inN p (tS T 0 4) ∧ inN q (tS T 0 4) then (if ¬ idx p = idx q ∧ 1 ≤ n.toInt ∧ n.toInt ≤ 4 then (match gMv (idx p) (idx q) (idx n - 1) (tS T) with
  | some v => (nI v, st' T 0)
  | none => (-1, st' T 8)) else (-1, st' T 5)) else (-1, st' T 2)

set_option maxRecDepth 100000 in
set_option maxHeartbeats 800000 in
theorem c_X1_begin {M : Mm} {S : ST} (hV : VX 17 M S) (hF : WF S) {p q : Nat} (hp : p < S 0 4) (hq : q < S 0 4) {Q : Option Value → Mm → Prop} (hQ : ∀ M', gC S S p q (bsN (fun j => S 11 j == 1) (S 0 5)) M' → fr (fun k _ => k = 130 ∨ k = 131) M M' → Q none M') (d : Nat) : AMt miX1_begin (d) [.ref 130, .ref 17, .int (nI p), .int (nI q)] M Q := by
  refine AMt.of (by decide) (Nat.le_of_ble_eq_true rfl) ?_
  show AW miX1_begin (d) (mxA Q) 0 [(0, some (.ref 130)), (1, some (.ref 17)), (2, some (.int (nI p))), (3, some (.int (nI q)))] [] M
  have hm := WF_m hF
  have hh := WF_h hF
  have hs := WF_s hF
  have hn := WF_n hF
  refine a_aload_n rfl dX1_begin_0 ?_
  refine a_iload_n rfl dX1_begin_1 ?_
  refine a_puti dX1_begin_2 pX1_15 (by decide) rfl rfl ?_
  refine a_aload_n rfl dX1_begin_5 ?_
  refine a_iload_n rfl dX1_begin_6 ?_
  refine a_puti dX1_begin_7 pX1_19 (by decide) rfl rfl ?_
  refine a_aload_n rfl dX1_begin_10 ?_
  refine a_geta dX1_begin_11 fX1_22 (by decide) rfl rfl ?_
  refine n_iconst 0 rfl dX1_begin_14 ?_
  refine a_aload_n rfl dX1_begin_15 ?_
  refine a_geta dX1_begin_16 fX1_9 (by decide) rfl rfl ?_
  refine n_iconst 0 rfl dX1_begin_19 ?_
  refine n_bipush 6 rfl dX1_begin_20 ?_
  refine n_copyi (by decide) rfl (by decide) rfl (by omega) (by omega) (by decide) (by decide) (Nat.le_of_ble_eq_true rfl) dX1_begin_22 lX1_27 ?_
  refine a_vret dX1_begin_25 rfl ?_
  refine hQ _ ⟨VX_fr hV (fun k j a b => ?_), hF, hF, fun _ _ _ _ => rfl, ?_, ?_, fun j hj => ?_, rfl, hp, hq⟩ (((fr.r.si (Or.inl rfl)).si (Or.inl rfl)).sr (fun _ => Or.inr rfl))
  · exact (((fr.r.si (Or.inl rfl)).si (Or.inl rfl)).sr (fun _ => Or.inr rfl) : fr (fun k _ => k = 130 ∨ k = 131) M _) k j (by omega) |>.1
  · exact srN (siN siS (by omega)) (by decide)
  · exact srN siS (by decide)
  · exact (srM_at _ _ _ _).trans ((if_pos (by omega)).trans (siN (siN (by rw [show 0 + (j - 0) = j by omega]; exact VX_a3 hV hj) (by omega)) (by omega)))

set_option maxRecDepth 100000 in
set_option maxHeartbeats 800000 in
theorem c_X1_valueOf {M : Mm} {S : ST} (hV : VX 17 M S) (hF : WF S) {p q : Nat} (hp : p < S 0 4) (hq : q < S 0 4) {f : Nat} (hf : f ≤ 4) {Q : Option Value → Mm → Prop} (hQ : ∀ M', fr (fun k _ => k = 130 ∨ k = 131) M M' → Q (some (.int (gI (gV p q f 1 S)))) M') (d : Nat) : AMt miX1_valueOf (d + 12) [.ref 130, .ref 17, .int (nI p), .int (nI q), .int (nI f)] M Q := by
  refine AMt.of (by decide) (Nat.le_of_ble_eq_true rfl) ?_
  show AW miX1_valueOf (d + 12) (mxA Q) 0 [(0, some (.ref 130)), (1, some (.ref 17)), (2, some (.int (nI p))), (3, some (.int (nI q))), (4, some (.int (nI f)))] [] M
  have hm := WF_m hF
  have hh := WF_h hF
  have hs := WF_s hF
  have hn := WF_n hF
  refine a_aload_n rfl dX1_valueOf_0 ?_
  refine a_aload_n rfl dX1_valueOf_1 ?_
  refine a_iload_n rfl dX1_valueOf_2 ?_
  refine a_iload_n rfl dX1_valueOf_3 ?_
  refine n_callV (mi' := miX1_begin) dX1_valueOf_4 lX1_33 mX1_begin (by decide) rfl rfl rfl (c_X1_begin hV hF hp hq (fun M_4 hg_4 hf_4 => ?_) d) rfl rfl (by omega) (by decide) (Nat.le_of_ble_eq_true rfl)
  show AW _ _ _ _ _ _ _
  have hV_4 : VX 17 M_4 S := hg_4.1
  refine a_aload_n rfl dX1_valueOf_7 ?_
  refine a_aload_n rfl dX1_valueOf_8 ?_
  refine a_iload rfl dX1_valueOf_9 ?_
  refine n_iconst 1 rfl dX1_valueOf_11 ?_
  refine a_aload_n rfl dX1_valueOf_12 ?_
  refine g_i (VX_6 hV_4) (by decide) rfl fX1_37 rfl dX1_valueOf_13 ?_
  refine n_callV (mi' := miX1_best) dX1_valueOf_16 lX1_40 mX1_best (by decide) rfl rfl rfl (c_X1_best f (by omega) hg_4 (by omega) ?_ d) rfl rfl (by omega) (by decide) (Nat.le_of_ble_eq_true rfl)
  show AW _ _ _ _ _ _ _
  refine a_iret dX1_valueOf_19 rfl ?_
  exact hQ _ hf_4

set_option maxRecDepth 100000 in
set_option maxHeartbeats 800000 in
theorem c_X1_firstNews {M : Mm} {S : ST} (hV : VX 17 M S) (hF : WF S) {p q : Nat} (hp : p < S 0 4) (hq : q < S 0 4) {f : Nat} (hf : f ≤ 3) {Q : Option Value → Mm → Prop} (h1 : ∀ M' v, gMv p q f S = some v → v ≤ 8 → fr (fun k _ => k = 130 ∨ k = 131) M M' → Q (some (.int (nI v))) M') (h0 : ∀ M', gMv p q f S = none → fr (fun k _ => k = 130 ∨ k = 131) M M' → Q (some (.int (-1))) M') (d : Nat) : AMt miX1_firstNews (d + 12) [.ref 130, .ref 17, .int (nI p), .int (nI q), .int (nI (f + 1))] M Q := by
  refine AMt.of (by decide) (Nat.le_of_ble_eq_true rfl) ?_
  show AW miX1_firstNews (d + 12) (mxA Q) 0 [(0, some (.ref 130)), (1, some (.ref 17)), (2, some (.int (nI p))), (3, some (.int (nI q))), (4, some (.int (nI (f + 1))))] [] M
  have hm := WF_m hF
  have hh := WF_h hF
  have hs := WF_s hF
  have hn := WF_n hF
  have hzl : gV p q f 0 S ≤ 198 := gV_le hF hp hq
  have hgw : ∀ n, gW p q f 1 S n ≤ 198 := fun n => gV_le (WF_comeN hF) (show p < S 0 4 from hp) (show q < S 0 4 from hq)
  refine a_aload_n rfl dX1_firstNews_0 ?_
  refine a_aload_n rfl dX1_firstNews_1 ?_
  refine a_iload_n rfl dX1_firstNews_2 ?_
  refine a_iload_n rfl dX1_firstNews_3 ?_
  refine n_callV (mi' := miX1_begin) dX1_firstNews_4 lX1_33 mX1_begin (by decide) rfl rfl rfl (c_X1_begin hV hF hp hq (fun M_4 hg_4 hf_4 => ?_) d) rfl rfl (by omega) (by decide) (Nat.le_of_ble_eq_true rfl)
  show AW _ _ _ _ _ _ _
  have hV_4 : VX 17 M_4 S := hg_4.1
  refine a_iconst (-1) rfl dX1_firstNews_7 ?_
  refine a_istore (by decide) rfl dX1_firstNews_8 ?_
  refine a_aload_n rfl dX1_firstNews_10 ?_
  refine a_aload_n rfl dX1_firstNews_11 ?_
  refine a_iload rfl dX1_firstNews_12 ?_
  refine n_iconst 1 rfl dX1_firstNews_14 ?_
  refine n_isub (by omega) dX1_firstNews_15 ?_
  refine a_eqi (y := nI f) (congrArg nI (by omega)) ?_
  refine n_iconst 0 rfl dX1_firstNews_16 ?_
  refine a_aload_n rfl dX1_firstNews_17 ?_
  refine g_i (VX_6 hV_4) (by decide) rfl fX1_37 rfl dX1_firstNews_18 ?_
  refine n_callV (mi' := miX1_best) dX1_firstNews_21 lX1_40 mX1_best (by decide) rfl rfl rfl (c_X1_best f (by omega) hg_4 (by omega) ?_ d) rfl rfl (by omega) (by decide) (Nat.le_of_ble_eq_true rfl)
  show AW _ _ _ _ _ _ _
  refine a_istore (by decide) rfl dX1_firstNews_24 ?_
  refine a_aload_n rfl dX1_firstNews_26 ?_
  refine g_i (VX_5 hV_4) (by decide) rfl fX1_44 rfl dX1_firstNews_27 ?_
  refine n_iconst 1 rfl dX1_firstNews_30 ?_
  refine a_isub dX1_firstNews_31 ?_
  refine a_istore (by decide) rfl dX1_firstNews_32 ?_
  have loop_34 : ∀ i, i ≤ S 0 5 → AW miX1_firstNews (d + 12) (mxA Q) 34 [(0, some (.ref 130)), (1, some (.ref 17)), (2, some (.int (nI p))), (3, some (.int (nI q))), (4, some (.int (nI (f + 1)))), (5, some (.int ((optI (dS (gV p q f 0 S) (gW p q f 1 S) (canB S) (S 0 5) i).2)))), (6, some (.int ((gI (dS (gV p q f 0 S) (gW p q f 1 S) (canB S) (S 0 5) i).1)))), (7, some (.int ((nI (S 0 5 - i) - nI 1))))] [] M_4 := by
    refine up (S 0 5) ?_ (fun i hi_34 ih_34 => ?_)
    · have hti : (nI (S 0 5 - S 0 5) - nI 1).toInt = ((S 0 5 - S 0 5 : Nat) : Int) - 1 := pk_sub_toInt (by omega) (by decide)
      refine a_iload rfl dX1_firstNews_34 ?_
      refine r_if_lt 90 dX1_firstNews_36 (by decide) (fun h_36 => ?_) (fun h_36 => absurd h_36 (by omega))
      refine a_iload rfl dX1_firstNews_90 ?_
      refine a_iret dX1_firstNews_92 rfl ?_
      rw [dS_mv]
      cases e : gMv p q f S with
      | none => exact h0 _ e hf_4
      | some v => exact h1 _ v e (by have := gMv_le e; omega) hf_4
    · have hti : (nI (S 0 5 - i) - nI 1).toInt = ((S 0 5 - i : Nat) : Int) - 1 := pk_sub_toInt (by omega) (by decide)
      have hvl := gI_t (hgw (S 0 5 - i - 1))
      have hdl := gI_t (dS_le (m := S 0 5) (ok := canB S) hzl hgw i)
      refine a_iload rfl dX1_firstNews_34 ?_
      refine r_if_lt 90 dX1_firstNews_36 (by decide) (fun h_36 => absurd h_36 (by omega)) (fun h_36 => ?_)
      refine a_aload_n rfl dX1_firstNews_39 ?_
      refine a_aload_n rfl dX1_firstNews_40 ?_
      refine a_aload_n rfl dX1_firstNews_41 ?_
      refine g_i (VX_6 hV_4) (by decide) rfl fX1_37 rfl dX1_firstNews_42 ?_
      refine a_iload rfl dX1_firstNews_45 ?_
      refine a_eqi (y := nI (S 0 5 - i - 1)) (pk_sub (show 1 ≤ S 0 5 - i by omega)) ?_
      refine n_callV (mi' := miX1_canCome) dX1_firstNews_47 lX1_47 mX1_canCome (by decide) rfl rfl rfl (c_X1_canCome hg_4 (by omega) (fun h_47 => ?_) (fun h_47 => ?_) d) rfl rfl (by omega) (by decide) (Nat.le_of_ble_eq_true rfl)
      · show AW _ _ _ _ _ _ _
        refine n_if_eq 84 (by decide) dX1_firstNews_50 (by decide) (fun h => absurd h (by decide)) (fun _ => ?_)
        refine a_aload_n rfl dX1_firstNews_53 ?_
        refine a_aload_n rfl dX1_firstNews_54 ?_
        refine a_iload rfl dX1_firstNews_55 ?_
        refine a_eqi (y := nI (S 0 5 - i - 1)) (pk_sub (show 1 ≤ S 0 5 - i by omega)) ?_
        refine a_iload rfl dX1_firstNews_57 ?_
        refine n_iconst 1 rfl dX1_firstNews_59 ?_
        refine a_aload_n rfl dX1_firstNews_60 ?_
        refine g_i (VX_6 hV_4) (by decide) rfl fX1_37 rfl dX1_firstNews_61 ?_
        refine n_callV (mi' := miX1_behind) dX1_firstNews_64 lX1_51 mX1_behind (by decide) rfl rfl rfl (c_X1_behind hg_4 (by omega) (by omega) (u := 1) (by omega) (fun {_ _ _ _} a b {_} e d => c_X1_best f (by omega) a b e d) ?_ d) rfl rfl (by omega) (by decide) (Nat.le_of_ble_eq_true rfl)
        show AW _ _ _ _ _ _ _
        refine a_istore (by decide) rfl dX1_firstNews_67 ?_
        refine a_iload rfl dX1_firstNews_69 ?_
        refine a_iload rfl dX1_firstNews_71 ?_
        refine u_icmp_lt 84 dX1_firstNews_73 (by decide) (fun h_73 => ?_) (fun h_73 => ?_)
        · refine a_iinc rfl (by decide) rfl dX1_firstNews_84 ?_
          refine a_goto 34 dX1_firstNews_87 (by decide) ?_
          rw [show nI (S 0 5 - (i + 1)) - nI 1 = (nI (S 0 5 - i) - nI 1) + Int32.ofInt (-1) by rw [dn_s, pk_sub (show 1 ≤ S 0 5 - i by omega), Nat.sub_sub]] at ih_34
          rw [dS_f1 (by omega)] at ih_34
          exact a_bk ih_34 ⟨rfl, rfl, rfl, rfl, rfl, rfl, rfl, rfl, trivial⟩
        · refine a_iload rfl dX1_firstNews_76 ?_
          refine a_istore (by decide) rfl dX1_firstNews_78 ?_
          refine a_iload rfl dX1_firstNews_80 ?_
          refine a_eqi (y := nI (S 0 5 - i - 1)) (pk_sub (show 1 ≤ S 0 5 - i by omega)) ?_
          refine a_istore (by decide) rfl dX1_firstNews_82 ?_
          refine a_iinc rfl (by decide) rfl dX1_firstNews_84 ?_
          refine a_goto 34 dX1_firstNews_87 (by decide) ?_
          rw [show nI (S 0 5 - (i + 1)) - nI 1 = (nI (S 0 5 - i) - nI 1) + Int32.ofInt (-1) by rw [dn_s, pk_sub (show 1 ≤ S 0 5 - i by omega), Nat.sub_sub]] at ih_34
          rw [dS_t h_47 (by omega)] at ih_34
          exact a_bk ih_34 ⟨rfl, rfl, rfl, rfl, rfl, rfl, rfl, rfl, trivial⟩
      · show AW _ _ _ _ _ _ _
        refine n_if_eq 84 (by decide) dX1_firstNews_50 (by decide) (fun _ => ?_) (fun h => absurd h (by decide))
        refine a_iinc rfl (by decide) rfl dX1_firstNews_84 ?_
        refine a_goto 34 dX1_firstNews_87 (by decide) ?_
        rw [show nI (S 0 5 - (i + 1)) - nI 1 = (nI (S 0 5 - i) - nI 1) + Int32.ofInt (-1) by rw [dn_s, pk_sub (show 1 ≤ S 0 5 - i by omega), Nat.sub_sub]] at ih_34
        rw [dS_f0 h_47] at ih_34
        exact a_bk ih_34 ⟨rfl, rfl, rfl, rfl, rfl, rfl, rfl, rfl, trivial⟩
  exact a_bk (loop_34 0 (by omega)) ⟨rfl, rfl, rfl, rfl, rfl, rfl, rfl, rfl, trivial⟩

set_option maxRecDepth 100000 in
set_option maxHeartbeats 800000 in
theorem c_X11_game {M : Mm} {T : TT} (hI : IX M T) (hG : TG T) {p : Int32} {q : Int32} {n : Int32} {Q : Option Value → Mm → Prop} (hQ : ∀ M', IX M' (sp_game p q n T).2 → keM M M' → Q (some (.int (sp_game p q n T).1)) M') (d : Nat) : AMt miX11_game (d + 14) [.ref 0, .int p, .int q, .int n] M Q := by
  refine AMt.of (by decide) (Nat.le_of_ble_eq_true rfl) ?_
  show AW miX11_game (d + 14) (mxA Q) 0 [(0, some (.ref 0)), (1, some (.int p)), (2, some (.int q)), (3, some (.int n))] [] M
  have hV : VX 17 M (tS T) := hI.1.1
  have hF : WF (tS T) := hG.1.1
  have hm : tS T 0 2 ≤ 6 := WF_m hF
  have hh : tS T 0 3 ≤ 10 := WF_h hF
  have hs : tS T 0 4 ≤ 7 := WF_s hF
  have hn : tS T 0 5 ≤ 8 := WF_n hF
  refine a_aload_n rfl dX11_game_0 ?_
  refine a_geta dX11_game_1 fX11_58 (by decide) rfl rfl ?_
  refine a_iload_n rfl dX11_game_4 ?_
  refine n_callV (mi' := miX6_hasSitter) dX11_game_5 lX11_259 mX6_hasSitter (by decide) rfl rfl rfl (c_X6_hasSitter isW17 hV hF (fun j_5 h_5 e_5 => ?_) (fun h_5 => ?_) d) rfl rfl (by omega) (by decide) (Nat.le_of_ble_eq_true rfl)
  · show AW _ _ _ _ _ _ _
    subst e_5
    have t_5 : (nI j_5).toInt = (j_5 : Int) := nI_toInt (by omega)
    refine n_if_eq 22 (by decide) dX11_game_8 (by decide) (fun h => absurd h (by decide)) (fun _ => ?_)
    refine a_aload_n rfl dX11_game_11 ?_
    refine a_geta dX11_game_12 fX11_58 (by decide) rfl rfl ?_
    refine a_iload_n rfl dX11_game_15 ?_
    refine n_callV (mi' := miX6_hasSitter) dX11_game_16 lX11_259 mX6_hasSitter (by decide) rfl rfl rfl (c_X6_hasSitter isW17 hV hF (fun j_16 h_16 e_16 => ?_) (fun h_16 => ?_) d) rfl rfl (by omega) (by decide) (Nat.le_of_ble_eq_true rfl)
    · show AW _ _ _ _ _ _ _
      subst e_16
      have t_16 : (nI j_16).toInt = (j_16 : Int) := nI_toInt (by omega)
      refine n_if_ne 28 (by decide) dX11_game_19 (by decide) (fun _ => ?_) (fun h => absurd h (by decide))
      refine a_iload_n rfl dX11_game_28 ?_
      refine a_iload_n rfl dX11_game_29 ?_
      refine n_icmp_eq 42 (by omega) (by omega) dX11_game_30 (by decide) (fun h_30 => ?_) (fun h_30 => ?_)
      · refine a_aload_n rfl dX11_game_42 ?_
        refine n_iconst 5 rfl dX11_game_43 ?_
        refine n_callV (mi' := miX11_none) dX11_game_44 lX11_131 mX11_none (by decide) rfl rfl rfl (c_X11_none ?_ d) rfl rfl (by omega) (by decide) (Nat.le_of_ble_eq_true rfl)
        show AW _ _ _ _ _ _ _
        refine a_iret dX11_game_47 rfl ?_
        exact fin_q hQ hI hG (by unfold sp_game; rw [if_pos (by omega), if_neg (by rw [idx_nI (show j_5 < 2 ^ 31 by omega), idx_nI (show j_16 < 2 ^ 31 by omega)]; omega)]) fr.r
      · refine a_iload_n rfl dX11_game_33 ?_
        refine r_if_lt 42 dX11_game_34 (by decide) (fun h_34 => ?_) (fun h_34 => ?_)
        · refine a_aload_n rfl dX11_game_42 ?_
          refine n_iconst 5 rfl dX11_game_43 ?_
          refine n_callV (mi' := miX11_none) dX11_game_44 lX11_131 mX11_none (by decide) rfl rfl rfl (c_X11_none ?_ d) rfl rfl (by omega) (by decide) (Nat.le_of_ble_eq_true rfl)
          show AW _ _ _ _ _ _ _
          refine a_iret dX11_game_47 rfl ?_
          exact fin_q hQ hI hG (by unfold sp_game; rw [if_pos (by omega), if_neg (by rw [idx_nI (show j_5 < 2 ^ 31 by omega), idx_nI (show j_16 < 2 ^ 31 by omega)]; omega)]) fr.r
        · refine a_iload_n rfl dX11_game_37 ?_
          refine n_iconst 4 rfl dX11_game_38 ?_
          refine r_icmp_le 48 (by omega) dX11_game_39 (by decide) (fun h_39 => ?_) (fun h_39 => ?_)
          · obtain ⟨t, ht, rfl⟩ := inR_of (x := n) (m := 5) (by omega) (by omega) (by omega)
            have t_t : (nI t).toInt = (t : Int) := nI_toInt (by omega)
            have i_t : idx (nI t) = t := idx_nI (by omega)
            refine a_aload_n rfl dX11_game_48 ?_
            refine a_aload_n rfl dX11_game_49 ?_
            refine a_geta dX11_game_50 fX11_104 (by decide) rfl rfl ?_
            refine a_aload_n rfl dX11_game_53 ?_
            refine a_geta dX11_game_54 fX11_58 (by decide) rfl rfl ?_
            refine a_iload_n rfl dX11_game_57 ?_
            refine a_iload_n rfl dX11_game_58 ?_
            refine a_iload_n rfl dX11_game_59 ?_
            refine n_callV (mi' := miX1_valueOf) dX11_game_60 lX11_397 mX1_valueOf (by decide) rfl rfl rfl (c_X1_valueOf hV hF h_5 h_16 (f := t) (by omega) (fun M_60 hf_60 => ?_) d) rfl rfl (by omega) (by decide) (Nat.le_of_ble_eq_true rfl)
            show AW _ _ _ _ _ _ _
            refine n_callV (mi' := miX11_answer) dX11_game_63 lX11_177 mX11_answer (by decide) rfl rfl rfl (c_X11_answer ?_ d) rfl rfl (by omega) (by decide) (Nat.le_of_ble_eq_true rfl)
            show AW _ _ _ _ _ _ _
            refine a_iret dX11_game_66 rfl ?_
            exact fin_q hQ hI hG (by unfold sp_game; rw [if_pos (by omega), if_pos (by rw [idx_nI (show j_5 < 2 ^ 31 by omega), idx_nI (show j_16 < 2 ^ 31 by omega)]; omega), idx_nI (show j_5 < 2 ^ 31 by omega), idx_nI (show j_16 < 2 ^ 31 by omega), i_t]) (hf_60.mo (fun k j h => by unfold scX coX; omega))
          · refine a_aload_n rfl dX11_game_42 ?_
            refine n_iconst 5 rfl dX11_game_43 ?_
            refine n_callV (mi' := miX11_none) dX11_game_44 lX11_131 mX11_none (by decide) rfl rfl rfl (c_X11_none ?_ d) rfl rfl (by omega) (by decide) (Nat.le_of_ble_eq_true rfl)
            show AW _ _ _ _ _ _ _
            refine a_iret dX11_game_47 rfl ?_
            exact fin_q hQ hI hG (by unfold sp_game; rw [if_pos (by omega), if_neg (by rw [idx_nI (show j_5 < 2 ^ 31 by omega), idx_nI (show j_16 < 2 ^ 31 by omega)]; omega)]) fr.r
    · show AW _ _ _ _ _ _ _
      have h_16 := not_inR h_16 (by omega)
      refine n_if_ne 28 (by decide) dX11_game_19 (by decide) (fun h => absurd h (by decide)) (fun _ => ?_)
      refine a_aload_n rfl dX11_game_22 ?_
      refine n_iconst 2 rfl dX11_game_23 ?_
      refine n_callV (mi' := miX11_none) dX11_game_24 lX11_131 mX11_none (by decide) rfl rfl rfl (c_X11_none ?_ d) rfl rfl (by omega) (by decide) (Nat.le_of_ble_eq_true rfl)
      show AW _ _ _ _ _ _ _
      refine a_iret dX11_game_27 rfl ?_
      exact fin_q hQ hI hG (by unfold sp_game; rw [if_neg (by omega)]) fr.r
  · show AW _ _ _ _ _ _ _
    have h_5 := not_inR h_5 (by omega)
    refine n_if_eq 22 (by decide) dX11_game_8 (by decide) (fun _ => ?_) (fun h => absurd h (by decide))
    refine a_aload_n rfl dX11_game_22 ?_
    refine n_iconst 2 rfl dX11_game_23 ?_
    refine n_callV (mi' := miX11_none) dX11_game_24 lX11_131 mX11_none (by decide) rfl rfl rfl (c_X11_none ?_ d) rfl rfl (by omega) (by decide) (Nat.le_of_ble_eq_true rfl)
    show AW _ _ _ _ _ _ _
    refine a_iret dX11_game_27 rfl ?_
    exact fin_q hQ hI hG (by unfold sp_game; rw [if_neg (by omega)]) fr.r

set_option maxRecDepth 100000 in
set_option maxHeartbeats 800000 in
theorem c_X11_moveOf {M : Mm} {T : TT} (hI : IX M T) (hG : TG T) {p : Int32} {q : Int32} {n : Int32} {Q : Option Value → Mm → Prop} (hQ : ∀ M', IX M' (sp_moveOf p q n T).2 → keM M M' → Q (some (.int (sp_moveOf p q n T).1)) M') (d : Nat) : AMt miX11_moveOf (d + 14) [.ref 0, .int p, .int q, .int n] M Q := by
  refine AMt.of (by decide) (Nat.le_of_ble_eq_true rfl) ?_
  show AW miX11_moveOf (d + 14) (mxA Q) 0 [(0, some (.ref 0)), (1, some (.int p)), (2, some (.int q)), (3, some (.int n))] [] M
  have hV : VX 17 M (tS T) := hI.1.1
  have hF : WF (tS T) := hG.1.1
  have hm : tS T 0 2 ≤ 6 := WF_m hF
  have hh : tS T 0 3 ≤ 10 := WF_h hF
  have hs : tS T 0 4 ≤ 7 := WF_s hF
  have hn : tS T 0 5 ≤ 8 := WF_n hF
  refine a_aload_n rfl dX11_moveOf_0 ?_
  refine a_geta dX11_moveOf_1 fX11_58 (by decide) rfl rfl ?_
  refine a_iload_n rfl dX11_moveOf_4 ?_
  refine n_callV (mi' := miX6_hasSitter) dX11_moveOf_5 lX11_259 mX6_hasSitter (by decide) rfl rfl rfl (c_X6_hasSitter isW17 hV hF (fun j_5 h_5 e_5 => ?_) (fun h_5 => ?_) d) rfl rfl (by omega) (by decide) (Nat.le_of_ble_eq_true rfl)
  · show AW _ _ _ _ _ _ _
    subst e_5
    have t_5 : (nI j_5).toInt = (j_5 : Int) := nI_toInt (by omega)
    refine n_if_eq 22 (by decide) dX11_moveOf_8 (by decide) (fun h => absurd h (by decide)) (fun _ => ?_)
    refine a_aload_n rfl dX11_moveOf_11 ?_
    refine a_geta dX11_moveOf_12 fX11_58 (by decide) rfl rfl ?_
    refine a_iload_n rfl dX11_moveOf_15 ?_
    refine n_callV (mi' := miX6_hasSitter) dX11_moveOf_16 lX11_259 mX6_hasSitter (by decide) rfl rfl rfl (c_X6_hasSitter isW17 hV hF (fun j_16 h_16 e_16 => ?_) (fun h_16 => ?_) d) rfl rfl (by omega) (by decide) (Nat.le_of_ble_eq_true rfl)
    · show AW _ _ _ _ _ _ _
      subst e_16
      have t_16 : (nI j_16).toInt = (j_16 : Int) := nI_toInt (by omega)
      refine n_if_ne 28 (by decide) dX11_moveOf_19 (by decide) (fun _ => ?_) (fun h => absurd h (by decide))
      refine a_iload_n rfl dX11_moveOf_28 ?_
      refine a_iload_n rfl dX11_moveOf_29 ?_
      refine n_icmp_eq 43 (by omega) (by omega) dX11_moveOf_30 (by decide) (fun h_30 => ?_) (fun h_30 => ?_)
      · refine a_aload_n rfl dX11_moveOf_43 ?_
        refine n_iconst 5 rfl dX11_moveOf_44 ?_
        refine n_callV (mi' := miX11_none) dX11_moveOf_45 lX11_131 mX11_none (by decide) rfl rfl rfl (c_X11_none ?_ d) rfl rfl (by omega) (by decide) (Nat.le_of_ble_eq_true rfl)
        show AW _ _ _ _ _ _ _
        refine a_iret dX11_moveOf_48 rfl ?_
        exact fin_q hQ hI hG (by unfold sp_moveOf; rw [if_pos (by omega), if_neg (by rw [idx_nI (show j_5 < 2 ^ 31 by omega), idx_nI (show j_16 < 2 ^ 31 by omega)]; omega)]) fr.r
      · refine a_iload_n rfl dX11_moveOf_33 ?_
        refine n_iconst 1 rfl dX11_moveOf_34 ?_
        refine r_icmp_lt 43 (by omega) dX11_moveOf_35 (by decide) (fun h_35 => ?_) (fun h_35 => ?_)
        · refine a_aload_n rfl dX11_moveOf_43 ?_
          refine n_iconst 5 rfl dX11_moveOf_44 ?_
          refine n_callV (mi' := miX11_none) dX11_moveOf_45 lX11_131 mX11_none (by decide) rfl rfl rfl (c_X11_none ?_ d) rfl rfl (by omega) (by decide) (Nat.le_of_ble_eq_true rfl)
          show AW _ _ _ _ _ _ _
          refine a_iret dX11_moveOf_48 rfl ?_
          exact fin_q hQ hI hG (by unfold sp_moveOf; rw [if_pos (by omega), if_neg (by rw [idx_nI (show j_5 < 2 ^ 31 by omega), idx_nI (show j_16 < 2 ^ 31 by omega)]; omega)]) fr.r
        · refine a_iload_n rfl dX11_moveOf_38 ?_
          refine n_iconst 4 rfl dX11_moveOf_39 ?_
          refine r_icmp_le 49 (by omega) dX11_moveOf_40 (by decide) (fun h_40 => ?_) (fun h_40 => ?_)
          · obtain ⟨t, ht, rfl⟩ := inR_of (x := n) (m := 5) (by omega) (by omega) (by omega)
            have t_t : (nI t).toInt = (t : Int) := nI_toInt (by omega)
            have i_t : idx (nI t) = t := idx_nI (by omega)
            obtain ⟨f, rfl⟩ : ∃ f, t = f + 1 := ⟨t - 1, by omega⟩
            refine a_aload_n rfl dX11_moveOf_49 ?_
            refine a_aload_n rfl dX11_moveOf_50 ?_
            refine a_geta dX11_moveOf_51 fX11_104 (by decide) rfl rfl ?_
            refine a_aload_n rfl dX11_moveOf_54 ?_
            refine a_geta dX11_moveOf_55 fX11_58 (by decide) rfl rfl ?_
            refine a_iload_n rfl dX11_moveOf_58 ?_
            refine a_iload_n rfl dX11_moveOf_59 ?_
            refine a_iload_n rfl dX11_moveOf_60 ?_
            refine n_callV (mi' := miX1_firstNews) dX11_moveOf_61 lX11_401 mX1_firstNews (by decide) rfl rfl rfl (c_X1_firstNews hV hF h_5 h_16 (f := f) (by omega) (fun M_61 v_61 he_61 hb_61 hf_61 => ?_) (fun M_61 he_61 hf_61 => ?_) d) rfl rfl (by omega) (by decide) (Nat.le_of_ble_eq_true rfl)
            · show AW _ _ _ _ _ _ _
              refine n_callV (mi' := miX11_answerIfThere) dX11_moveOf_64 lX11_247 mX11_answerIfThere (by decide) rfl rfl rfl (c_X11_answerIfThere (fun _ => ?_) (fun e => absurd e (nI_ne_m1 (by omega)))  d) rfl rfl (by omega) (by decide) (Nat.le_of_ble_eq_true rfl)
              show AW _ _ _ _ _ _ _
              refine a_iret dX11_moveOf_67 rfl ?_
              exact fin_q hQ hI hG (by unfold sp_moveOf; rw [if_pos (by omega), if_pos (by rw [idx_nI (show j_5 < 2 ^ 31 by omega), idx_nI (show j_16 < 2 ^ 31 by omega)]; omega), idx_nI (show j_5 < 2 ^ 31 by omega), idx_nI (show j_16 < 2 ^ 31 by omega), i_t, Nat.add_sub_cancel, he_61]) (hf_61.mo (fun k j h => by unfold scX coX; omega))
            · show AW _ _ _ _ _ _ _
              refine n_callV (mi' := miX11_answerIfThere) dX11_moveOf_64 lX11_247 mX11_answerIfThere (by decide) rfl rfl rfl (c_X11_answerIfThere (fun e => absurd rfl e) (fun _ => ?_)  d) rfl rfl (by omega) (by decide) (Nat.le_of_ble_eq_true rfl)
              show AW _ _ _ _ _ _ _
              refine a_iret dX11_moveOf_67 rfl ?_
              exact fin_q hQ hI hG (by unfold sp_moveOf; rw [if_pos (by omega), if_pos (by rw [idx_nI (show j_5 < 2 ^ 31 by omega), idx_nI (show j_16 < 2 ^ 31 by omega)]; omega), idx_nI (show j_5 < 2 ^ 31 by omega), idx_nI (show j_16 < 2 ^ 31 by omega), i_t, Nat.add_sub_cancel, he_61]) (hf_61.mo (fun k j h => by unfold scX coX; omega))
          · refine a_aload_n rfl dX11_moveOf_43 ?_
            refine n_iconst 5 rfl dX11_moveOf_44 ?_
            refine n_callV (mi' := miX11_none) dX11_moveOf_45 lX11_131 mX11_none (by decide) rfl rfl rfl (c_X11_none ?_ d) rfl rfl (by omega) (by decide) (Nat.le_of_ble_eq_true rfl)
            show AW _ _ _ _ _ _ _
            refine a_iret dX11_moveOf_48 rfl ?_
            exact fin_q hQ hI hG (by unfold sp_moveOf; rw [if_pos (by omega), if_neg (by rw [idx_nI (show j_5 < 2 ^ 31 by omega), idx_nI (show j_16 < 2 ^ 31 by omega)]; omega)]) fr.r
    · show AW _ _ _ _ _ _ _
      have h_16 := not_inR h_16 (by omega)
      refine n_if_ne 28 (by decide) dX11_moveOf_19 (by decide) (fun h => absurd h (by decide)) (fun _ => ?_)
      refine a_aload_n rfl dX11_moveOf_22 ?_
      refine n_iconst 2 rfl dX11_moveOf_23 ?_
      refine n_callV (mi' := miX11_none) dX11_moveOf_24 lX11_131 mX11_none (by decide) rfl rfl rfl (c_X11_none ?_ d) rfl rfl (by omega) (by decide) (Nat.le_of_ble_eq_true rfl)
      show AW _ _ _ _ _ _ _
      refine a_iret dX11_moveOf_27 rfl ?_
      exact fin_q hQ hI hG (by unfold sp_moveOf; rw [if_neg (by omega)]) fr.r
  · show AW _ _ _ _ _ _ _
    have h_5 := not_inR h_5 (by omega)
    refine n_if_eq 22 (by decide) dX11_moveOf_8 (by decide) (fun _ => ?_) (fun h => absurd h (by decide))
    refine a_aload_n rfl dX11_moveOf_22 ?_
    refine n_iconst 2 rfl dX11_moveOf_23 ?_
    refine n_callV (mi' := miX11_none) dX11_moveOf_24 lX11_131 mX11_none (by decide) rfl rfl rfl (c_X11_none ?_ d) rfl rfl (by omega) (by decide) (Nat.le_of_ble_eq_true rfl)
    show AW _ _ _ _ _ _ _
    refine a_iret dX11_moveOf_27 rfl ?_
    exact fin_q hQ hI hG (by unfold sp_moveOf; rw [if_neg (by omega)]) fr.r

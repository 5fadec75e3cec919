def sp_clearIn (k n : Int32) (T : TT) : AN := if inN k (tS T 0 2) then (if inN n 201 then (nI (pdI (tS T) (tS T 2) (idx n) (idx k)), st' T 0) else (-1, st' T 5)) else (-1, st' T 2)
def sp_heightIn (p n : Int32) (T : TT) : AN := if inN p (tS T 0 4) then (if inN n 201 then (nI (hiN (tS T) (idx p) (idx n) (tS T 7 (idx p))), st' T 0) else (-1, st' T 5)) else (-1, st' T 2)
def sp_downIn (p : Int32) (T : TT) : AN := if inN p (tS T 0 4) then (match dwN (tS T) (idx p) with
  | some v => (nI v, st' T 0)
  | none => (-1, st' T 8)) else (-1, st' T 2)
def whyO (T : TT) (p x n : Int32) : Nat := if inN x 4 then (if inN p (tS T 0 4) then twosN (tR T) (idx x) n else 2) else 1
def whyL (T : TT) (x n : Int32) : Nat := if inN x 4 then twosN (tR T) (idx x) n else 1
theorem whyO_le (T : TT) (p x n : Int32) : whyO T p x n ≤ 5 := by
  have := twosN_le (tR T) (idx x) n
  unfold whyO; split <;> (try split) <;> omega
theorem whyL_le (T : TT) (x n : Int32) : whyL T x n ≤ 5 := by
  have := twosN_le (tR T) (idx x) n
  unfold whyL; split <;> omega
theorem whyO_0 {T : TT} {p x n : Int32} (h : whyO T p x n = 0) : inN x 4 ∧ inN p (tS T 0 4) ∧ twosN (tR T) (idx x) n = 0 := by
  unfold whyO at h
  split at h
  · split at h
    · exact ⟨by assumption, by assumption, h⟩
    · omega
  · omega
theorem whyL_0 {T : TT} {x n : Int32} (h : whyL T x n = 0) : inN x 4 ∧ twosN (tR T) (idx x) n = 0 := by
  unfold whyL at h
  split at h
  · exact ⟨by assumption, h⟩
  · omega
def sp_out (p x n : Int32) (T : TT) : AN := if whyO T p x n = 0 then (nI (outN (tS T) (idx p) ((tR T).2.2 (idx x)) (idx n)), st' T 0) else (-1, st' T (whyO T p x n))
def sp_ask (p x n : Int32) (T : TT) : AN := if whyO T p x n = 0 then (if szN (outN (tS T) (idx p) ((tR T).2.2 (idx x)) (idx n)) < 2 then (-1, st' T 8) else (nI (askN (tS T) (idx p) (outN (tS T) (idx p) ((tR T).2.2 (idx x)) (idx n))), st' T 0)) else (-1, st' T (whyO T p x n))
def sp_laws (x n : Int32) (T : TT) : AN := if whyL T x n = 0 then (nI (lawsN ((tR T).2.2 (idx x)) (idx n)), st' T 0) else (-1, st' T (whyL T x n))
def sp_lawOf (x n w : Int32) (T : TT) : AN := if whyL T x n = 0 then (if inN w 2 then (match lawfN ((tR T).2.2 (idx x)) (idx n) with
  | some v => (nI (if idx w = 0 then v / 21 + 1 else v % 21), st' T 0)
  | none => (-1, st' T 8)) else (-1, st' T 5)) else (-1, st' T (whyL T x n))
theorem TWO_of {R : TRY} {t n : Nat} (h : ∀ i, i < n → twoB R t i = true) : TWO (R.2.2 t) n := fun i hi => of_decide_eq_true (h i hi)

set_option maxRecDepth 100000 in
set_option maxHeartbeats 800000 in
theorem c_X11_clearIn {M : Mm} {T : TT} (hI : IX M T) (hG : TG T) {k : Int32} {n : Int32} {Q : Option Value → Mm → Prop} (hQ : ∀ M', IX M' (sp_clearIn k n T).2 → keM M M' → Q (some (.int (sp_clearIn k n T).1)) M') (d : Nat) : AMt miX11_clearIn (d + 3) [.ref 0, .int k, .int n] M Q := by
  refine AMt.of (by decide) (Nat.le_of_ble_eq_true rfl) ?_
  show AW miX11_clearIn (d + 3) (mxA Q) 0 [(0, some (.ref 0)), (1, some (.int k)), (2, some (.int n))] [] M
  have hV : VX 17 M (tS T) := hI.1.1
  have hF : WF (tS T) := hG.1.1
  have hm : tS T 0 2 ≤ 6 := WF_m hF
  have hh : tS T 0 3 ≤ 10 := WF_h hF
  have hs : tS T 0 4 ≤ 7 := WF_s hF
  have hn : tS T 0 5 ≤ 8 := WF_n hF
  refine a_aload_n rfl dX11_clearIn_0 ?_
  refine a_geta dX11_clearIn_1 fX11_58 (by decide) rfl rfl ?_
  refine a_iload_n rfl dX11_clearIn_4 ?_
  refine n_callV (mi' := miX6_hasMatter) dX11_clearIn_5 lX11_232 mX6_hasMatter (by decide) rfl rfl rfl (c_X6_hasMatter isW17 hV hF (fun j_5 h_5 e_5 => ?_) (fun h_5 => ?_) d) rfl rfl (by omega) (by decide) (Nat.le_of_ble_eq_true rfl)
  · show AW _ _ _ _ _ _ _
    subst e_5
    have t_5 : (nI j_5).toInt = (j_5 : Int) := nI_toInt (by omega)
    refine n_if_ne 17 (by decide) dX11_clearIn_8 (by decide) (fun _ => ?_) (fun h => absurd h (by decide))
    refine a_iload_n rfl dX11_clearIn_17 ?_
    refine r_if_lt 28 dX11_clearIn_18 (by decide) (fun h_18 => ?_) (fun h_18 => ?_)
    · refine a_aload_n rfl dX11_clearIn_28 ?_
      refine n_iconst 5 rfl dX11_clearIn_29 ?_
      refine n_callV (mi' := miX11_none) dX11_clearIn_30 lX11_131 mX11_none (by decide) rfl rfl rfl (c_X11_none ?_ d) rfl rfl (by omega) (by decide) (Nat.le_of_ble_eq_true rfl)
      show AW _ _ _ _ _ _ _
      refine a_iret dX11_clearIn_33 rfl ?_
      exact fin_q hQ hI hG (by unfold sp_clearIn; rw [if_pos (by omega), if_neg (by omega)]) fr.r
    · refine a_iload_n rfl dX11_clearIn_21 ?_
      refine n_sipush 200 rfl dX11_clearIn_22 ?_
      refine r_icmp_le 34 (by omega) dX11_clearIn_25 (by decide) (fun h_25 => ?_) (fun h_25 => ?_)
      · obtain ⟨q, hq, rfl⟩ := inR_of (x := n) (m := 201) (by omega) (by omega) (by omega)
        have t_q : (nI q).toInt = (q : Int) := nI_toInt (by omega)
        have i_q : idx (nI q) = q := idx_nI (by omega)
        refine a_aload_n rfl dX11_clearIn_34 ?_
        refine a_geta dX11_clearIn_35 fX11_90 (by decide) rfl rfl ?_
        refine a_aload_n rfl dX11_clearIn_38 ?_
        refine a_geta dX11_clearIn_39 fX11_58 (by decide) rfl rfl ?_
        refine a_iload_n rfl dX11_clearIn_42 ?_
        refine n_callV (mi' := miX0_look) dX11_clearIn_43 lX11_319 mX0_look (by decide) rfl rfl rfl (c_X0_look hV hF (by omega) (fun M_43 hr_43 hf_43 => ?_) d) rfl rfl (by omega) (by decide) (Nat.le_of_ble_eq_true rfl)
        show AW _ _ _ _ _ _ _
        have hV_43 : VX 17 M_43 (tS T) := VX_fr hV (fun k j a b => (hf_43 k j (by omega)).1)
        refine a_aload_n rfl dX11_clearIn_46 ?_
        refine a_aload_n rfl dX11_clearIn_47 ?_
        refine a_geta dX11_clearIn_48 fX11_90 (by decide) rfl rfl ?_
        refine a_geta dX11_clearIn_51 fX11_323 (by decide) rfl rfl ?_
        refine a_iload_n rfl dX11_clearIn_54 ?_
        refine v_iald (by omega) (hr_43 _ (by omega)) (by decide) rfl (by decide) dX11_clearIn_55 ?_
        refine n_callV (mi' := miX11_answer) dX11_clearIn_56 lX11_177 mX11_answer (by decide) rfl rfl rfl (c_X11_answer ?_ d) rfl rfl (by omega) (by decide) (Nat.le_of_ble_eq_true rfl)
        show AW _ _ _ _ _ _ _
        refine a_iret dX11_clearIn_59 rfl ?_
        exact fin_q hQ hI hG (by unfold sp_clearIn; rw [if_pos (by omega), if_pos (by omega), idx_nI (show j_5 < 2 ^ 31 by omega), i_q]) (hf_43.mo (fun k j h => by unfold scX coX; omega))
      · refine a_aload_n rfl dX11_clearIn_28 ?_
        refine n_iconst 5 rfl dX11_clearIn_29 ?_
        refine n_callV (mi' := miX11_none) dX11_clearIn_30 lX11_131 mX11_none (by decide) rfl rfl rfl (c_X11_none ?_ d) rfl rfl (by omega) (by decide) (Nat.le_of_ble_eq_true rfl)
        show AW _ _ _ _ _ _ _
        refine a_iret dX11_clearIn_33 rfl ?_
        exact fin_q hQ hI hG (by unfold sp_clearIn; rw [if_pos (by omega), if_neg (by omega)]) fr.r
  · show AW _ _ _ _ _ _ _
    have h_5 := not_inR h_5 (by omega)
    refine n_if_ne 17 (by decide) dX11_clearIn_8 (by decide) (fun h => absurd h (by decide)) (fun _ => ?_)
    refine a_aload_n rfl dX11_clearIn_11 ?_
    refine n_iconst 2 rfl dX11_clearIn_12 ?_
    refine n_callV (mi' := miX11_none) dX11_clearIn_13 lX11_131 mX11_none (by decide) rfl rfl rfl (c_X11_none ?_ d) rfl rfl (by omega) (by decide) (Nat.le_of_ble_eq_true rfl)
    show AW _ _ _ _ _ _ _
    refine a_iret dX11_clearIn_16 rfl ?_
    exact fin_q hQ hI hG (by unfold sp_clearIn; rw [if_neg (by omega)]) fr.r

set_option maxRecDepth 100000 in
set_option maxHeartbeats 800000 in
theorem c_X11_heightIn {M : Mm} {T : TT} (hI : IX M T) (hG : TG T) {p : Int32} {n : Int32} {Q : Option Value → Mm → Prop} (hQ : ∀ M', IX M' (sp_heightIn p n T).2 → keM M M' → Q (some (.int (sp_heightIn p n T).1)) M') (d : Nat) : AMt miX11_heightIn (d + 3) [.ref 0, .int p, .int n] M Q := by
  refine AMt.of (by decide) (Nat.le_of_ble_eq_true rfl) ?_
  show AW miX11_heightIn (d + 3) (mxA Q) 0 [(0, some (.ref 0)), (1, some (.int p)), (2, some (.int n))] [] M
  have hV : VX 17 M (tS T) := hI.1.1
  have hF : WF (tS T) := hG.1.1
  have hm : tS T 0 2 ≤ 6 := WF_m hF
  have hh : tS T 0 3 ≤ 10 := WF_h hF
  have hs : tS T 0 4 ≤ 7 := WF_s hF
  have hn : tS T 0 5 ≤ 8 := WF_n hF
  refine a_aload_n rfl dX11_heightIn_0 ?_
  refine a_geta dX11_heightIn_1 fX11_58 (by decide) rfl rfl ?_
  refine a_iload_n rfl dX11_heightIn_4 ?_
  refine n_callV (mi' := miX6_hasSitter) dX11_heightIn_5 lX11_259 mX6_hasSitter (by decide) rfl rfl rfl (c_X6_hasSitter isW17 hV hF (fun j_5 h_5 e_5 => ?_) (fun h_5 => ?_) d) rfl rfl (by omega) (by decide) (Nat.le_of_ble_eq_true rfl)
  · show AW _ _ _ _ _ _ _
    subst e_5
    have t_5 : (nI j_5).toInt = (j_5 : Int) := nI_toInt (by omega)
    refine n_if_ne 17 (by decide) dX11_heightIn_8 (by decide) (fun _ => ?_) (fun h => absurd h (by decide))
    refine a_iload_n rfl dX11_heightIn_17 ?_
    refine r_if_lt 28 dX11_heightIn_18 (by decide) (fun h_18 => ?_) (fun h_18 => ?_)
    · refine a_aload_n rfl dX11_heightIn_28 ?_
      refine n_iconst 5 rfl dX11_heightIn_29 ?_
      refine n_callV (mi' := miX11_none) dX11_heightIn_30 lX11_131 mX11_none (by decide) rfl rfl rfl (c_X11_none ?_ d) rfl rfl (by omega) (by decide) (Nat.le_of_ble_eq_true rfl)
      show AW _ _ _ _ _ _ _
      refine a_iret dX11_heightIn_33 rfl ?_
      exact fin_q hQ hI hG (by unfold sp_heightIn; rw [if_pos (by omega), if_neg (by omega)]) fr.r
    · refine a_iload_n rfl dX11_heightIn_21 ?_
      refine n_sipush 200 rfl dX11_heightIn_22 ?_
      refine r_icmp_le 34 (by omega) dX11_heightIn_25 (by decide) (fun h_25 => ?_) (fun h_25 => ?_)
      · obtain ⟨q, hq, rfl⟩ := inR_of (x := n) (m := 201) (by omega) (by omega) (by omega)
        have t_q : (nI q).toInt = (q : Int) := nI_toInt (by omega)
        have i_q : idx (nI q) = q := idx_nI (by omega)
        have hfo := WF_for hF j_5 (by omega)
        refine a_aload_n rfl dX11_heightIn_34 ?_
        refine a_geta dX11_heightIn_35 fX11_90 (by decide) rfl rfl ?_
        refine a_aload_n rfl dX11_heightIn_38 ?_
        refine a_geta dX11_heightIn_39 fX11_58 (by decide) rfl rfl ?_
        refine a_iload_n rfl dX11_heightIn_42 ?_
        refine n_callV (mi' := miX0_look) dX11_heightIn_43 lX11_319 mX0_look (by decide) rfl rfl rfl (c_X0_look hV hF (by omega) (fun M_43 hr_43 hf_43 => ?_) d) rfl rfl (by omega) (by decide) (Nat.le_of_ble_eq_true rfl)
        show AW _ _ _ _ _ _ _
        have hV_43 : VX 17 M_43 (tS T) := VX_fr hV (fun k j a b => (hf_43 k j (by omega)).1)
        refine a_aload_n rfl dX11_heightIn_46 ?_
        refine a_aload_n rfl dX11_heightIn_47 ?_
        refine a_geta dX11_heightIn_48 fX11_58 (by decide) rfl rfl ?_
        refine a_iload_n rfl dX11_heightIn_51 ?_
        refine a_aload_n rfl dX11_heightIn_52 ?_
        refine a_geta dX11_heightIn_53 fX11_90 (by decide) rfl rfl ?_
        refine a_geta dX11_heightIn_56 fX11_323 (by decide) rfl rfl ?_
        refine a_aload_n rfl dX11_heightIn_59 ?_
        refine a_geta dX11_heightIn_60 fX11_58 (by decide) rfl rfl ?_
        refine a_geta dX11_heightIn_63 fX11_268 (by decide) rfl rfl ?_
        refine a_iload_n rfl dX11_heightIn_66 ?_
        refine v_iald (by omega) (VX_a9 hV_43 (by omega)) (by decide) rfl (by decide) dX11_heightIn_67 ?_
        refine v_iald (by omega) (hr_43 _ (by omega)) (by decide) rfl (by decide) dX11_heightIn_68 ?_
        refine n_callV (mi' := miX6_heightBy) dX11_heightIn_69 lX11_326 mX6_heightBy (by decide) rfl rfl rfl (c_X6_heightBy isW17 hV_43 hF (by omega) (pdI_le (fun j hj => WF_clear hF j hj) _ _ (by omega)) ?_ d) rfl rfl (by omega) (by decide) (Nat.le_of_ble_eq_true rfl)
        show AW _ _ _ _ _ _ _
        refine n_callV (mi' := miX11_answer) dX11_heightIn_72 lX11_177 mX11_answer (by decide) rfl rfl rfl (c_X11_answer ?_ d) rfl rfl (by omega) (by decide) (Nat.le_of_ble_eq_true rfl)
        show AW _ _ _ _ _ _ _
        refine a_iret dX11_heightIn_75 rfl ?_
        exact fin_q hQ hI hG (by unfold sp_heightIn; rw [if_pos (by omega), if_pos (by omega), idx_nI (show j_5 < 2 ^ 31 by omega), i_q]; rfl) (hf_43.mo (fun k j h => by unfold scX coX; omega))
      · refine a_aload_n rfl dX11_heightIn_28 ?_
        refine n_iconst 5 rfl dX11_heightIn_29 ?_
        refine n_callV (mi' := miX11_none) dX11_heightIn_30 lX11_131 mX11_none (by decide) rfl rfl rfl (c_X11_none ?_ d) rfl rfl (by omega) (by decide) (Nat.le_of_ble_eq_true rfl)
        show AW _ _ _ _ _ _ _
        refine a_iret dX11_heightIn_33 rfl ?_
        exact fin_q hQ hI hG (by unfold sp_heightIn; rw [if_pos (by omega), if_neg (by omega)]) fr.r
  · show AW _ _ _ _ _ _ _
    have h_5 := not_inR h_5 (by omega)
    refine n_if_ne 17 (by decide) dX11_heightIn_8 (by decide) (fun h => absurd h (by decide)) (fun _ => ?_)
    refine a_aload_n rfl dX11_heightIn_11 ?_
    refine n_iconst 2 rfl dX11_heightIn_12 ?_
    refine n_callV (mi' := miX11_none) dX11_heightIn_13 lX11_131 mX11_none (by decide) rfl rfl rfl (c_X11_none ?_ d) rfl rfl (by omega) (by decide) (Nat.le_of_ble_eq_true rfl)
    show AW _ _ _ _ _ _ _
    refine a_iret dX11_heightIn_16 rfl ?_
    exact fin_q hQ hI hG (by unfold sp_heightIn; rw [if_neg (by omega)]) fr.r

set_option maxRecDepth 100000 in
set_option maxHeartbeats 800000 in
theorem c_X11_downIn {M : Mm} {T : TT} (hI : IX M T) (hG : TG T) {p : Int32} {Q : Option Value → Mm → Prop} (hQ : ∀ M', IX M' (sp_downIn p T).2 → keM M M' → Q (some (.int (sp_downIn p T).1)) M') (d : Nat) : AMt miX11_downIn (d + 4) [.ref 0, .int p] M Q := by
  refine AMt.of (by decide) (Nat.le_of_ble_eq_true rfl) ?_
  show AW miX11_downIn (d + 4) (mxA Q) 0 [(0, some (.ref 0)), (1, some (.int p))] [] M
  have hV : VX 17 M (tS T) := hI.1.1
  have hF : WF (tS T) := hG.1.1
  have hm : tS T 0 2 ≤ 6 := WF_m hF
  have hh : tS T 0 3 ≤ 10 := WF_h hF
  have hs : tS T 0 4 ≤ 7 := WF_s hF
  have hn : tS T 0 5 ≤ 8 := WF_n hF
  refine a_aload_n rfl dX11_downIn_0 ?_
  refine a_geta dX11_downIn_1 fX11_58 (by decide) rfl rfl ?_
  refine a_iload_n rfl dX11_downIn_4 ?_
  refine n_callV (mi' := miX6_hasSitter) dX11_downIn_5 lX11_259 mX6_hasSitter (by decide) rfl rfl rfl (c_X6_hasSitter isW17 hV hF (fun j_5 h_5 e_5 => ?_) (fun h_5 => ?_) d) rfl rfl (by omega) (by decide) (Nat.le_of_ble_eq_true rfl)
  · show AW _ _ _ _ _ _ _
    subst e_5
    have t_5 : (nI j_5).toInt = (j_5 : Int) := nI_toInt (by omega)
    refine n_if_ne 17 (by decide) dX11_downIn_8 (by decide) (fun _ => ?_) (fun h => absurd h (by decide))
    refine a_aload_n rfl dX11_downIn_17 ?_
    refine a_aload_n rfl dX11_downIn_18 ?_
    refine a_geta dX11_downIn_19 fX11_90 (by decide) rfl rfl ?_
    refine a_aload_n rfl dX11_downIn_22 ?_
    refine a_geta dX11_downIn_23 fX11_58 (by decide) rfl rfl ?_
    refine a_iload_n rfl dX11_downIn_26 ?_
    refine n_callV (mi' := miX0_daysTillDown) dX11_downIn_27 lX11_330 mX0_daysTillDown (by decide) rfl rfl rfl (c_X0_daysTillDown hV hF (by omega) (fun v_27 hv_27 he_27 M_27 hf_27 => ?_) (fun he_27 M_27 hf_27 => ?_) d) rfl rfl (by omega) (by decide) (Nat.le_of_ble_eq_true rfl)
    · show AW _ _ _ _ _ _ _
      refine n_callV (mi' := miX11_answerIfThere) dX11_downIn_30 lX11_247 mX11_answerIfThere (by decide) rfl rfl rfl (c_X11_answerIfThere (fun _ => ?_) (fun e => absurd e (nI_ne_m1 (by omega)))  d) rfl rfl (by omega) (by decide) (Nat.le_of_ble_eq_true rfl)
      show AW _ _ _ _ _ _ _
      refine a_iret dX11_downIn_33 rfl ?_
      exact fin_q hQ hI hG (by unfold sp_downIn; rw [if_pos (by omega), idx_nI (show j_5 < 2 ^ 31 by omega), he_27]) (hf_27.mo (fun k j h => by unfold scX coX; omega))
    · show AW _ _ _ _ _ _ _
      refine n_callV (mi' := miX11_answerIfThere) dX11_downIn_30 lX11_247 mX11_answerIfThere (by decide) rfl rfl rfl (c_X11_answerIfThere (fun e => absurd rfl e) (fun _ => ?_)  d) rfl rfl (by omega) (by decide) (Nat.le_of_ble_eq_true rfl)
      show AW _ _ _ _ _ _ _
      refine a_iret dX11_downIn_33 rfl ?_
      exact fin_q hQ hI hG (by unfold sp_downIn; rw [if_pos (by omega), idx_nI (show j_5 < 2 ^ 31 by omega), he_27]) (hf_27.mo (fun k j h => by unfold scX coX; omega))
  · show AW _ _ _ _ _ _ _
    have h_5 := not_inR h_5 (by omega)
    refine n_if_ne 17 (by decide) dX11_downIn_8 (by decide) (fun h => absurd h (by decide)) (fun _ => ?_)
    refine a_aload_n rfl dX11_downIn_11 ?_
    refine n_iconst 2 rfl dX11_downIn_12 ?_
    refine n_callV (mi' := miX11_none) dX11_downIn_13 lX11_131 mX11_none (by decide) rfl rfl rfl (c_X11_none ?_ d) rfl rfl (by omega) (by decide) (Nat.le_of_ble_eq_true rfl)
    show AW _ _ _ _ _ _ _
    refine a_iret dX11_downIn_16 rfl ?_
    exact fin_q hQ hI hG (by unfold sp_downIn; rw [if_neg (by omega)]) fr.r

set_option maxRecDepth 100000 in
set_option maxHeartbeats 800000 in
theorem c_X11_whyNotOut {M : Mm} {T : TT} (hI : IX M T) (hG : TG T) {p x n : Int32} {Q : Option Value → Mm → Prop} (hQ : Q (some (.int (nI (whyO T p x n)))) M) (d : Nat) : AMt miX11_whyNotOut (d + 2) [.ref 0, .int p, .int x, .int n] M Q := by
  refine AMt.of (by decide) (Nat.le_of_ble_eq_true rfl) ?_
  show AW miX11_whyNotOut (d + 2) (mxA Q) 0 [(0, some (.ref 0)), (1, some (.int p)), (2, some (.int x)), (3, some (.int n))] [] M
  have hV : VX 17 M (tS T) := hI.1.1
  have hF : WF (tS T) := hG.1.1
  have hm : tS T 0 2 ≤ 6 := WF_m hF
  have hh : tS T 0 3 ≤ 10 := WF_h hF
  have hs : tS T 0 4 ≤ 7 := WF_s hF
  have hn : tS T 0 5 ≤ 8 := WF_n hF
  refine a_iload_n rfl dX11_whyNotOut_0 ?_
  refine n_callS (mi' := miX5_isTray) dX11_whyNotOut_1 lX11_108 mX5_isTray (c_X5_isTray (fun ha_1 hb_1 => ?_) (fun h_1 => ?_) d) rfl rfl (by omega) (by decide) (Nat.le_of_ble_eq_true rfl)
  · show AW _ _ _ _ _ _ _
    refine n_if_ne 9 (by decide) dX11_whyNotOut_4 (by decide) (fun _ => ?_) (fun h => absurd h (by decide))
    obtain ⟨t, ht, rfl⟩ := inR_of (x := x) (m := 4) (by omega) (by omega) (by omega)
    have t_t : (nI t).toInt = (t : Int) := nI_toInt (by omega)
    have i_t : idx (nI t) = t := idx_nI (by omega)
    refine a_aload_n rfl dX11_whyNotOut_9 ?_
    refine a_geta dX11_whyNotOut_10 fX11_58 (by decide) rfl rfl ?_
    refine a_iload_n rfl dX11_whyNotOut_13 ?_
    refine n_callV (mi' := miX6_hasSitter) dX11_whyNotOut_14 lX11_259 mX6_hasSitter (by decide) rfl rfl rfl (c_X6_hasSitter isW17 hV hF (fun j_14 h_14 e_14 => ?_) (fun h_14 => ?_) d) rfl rfl (by omega) (by decide) (Nat.le_of_ble_eq_true rfl)
    · show AW _ _ _ _ _ _ _
      subst e_14
      have t_14 : (nI j_14).toInt = (j_14 : Int) := nI_toInt (by omega)
      refine n_if_eq 32 (by decide) dX11_whyNotOut_17 (by decide) (fun h => absurd h (by decide)) (fun _ => ?_)
      refine a_aload_n rfl dX11_whyNotOut_20 ?_
      refine a_geta dX11_whyNotOut_21 fX11_30 (by decide) rfl rfl ?_
      refine a_iload_n rfl dX11_whyNotOut_24 ?_
      refine a_iload_n rfl dX11_whyNotOut_25 ?_
      refine n_callV (mi' := miX5_whyNoTwos) dX11_whyNotOut_26 lX11_372 mX5_whyNoTwos (by decide) rfl rfl rfl (c_X5_whyNoTwos hI.2.1 hG.2.1 (by omega) ?_ d) rfl rfl (by omega) (by decide) (Nat.le_of_ble_eq_true rfl)
      show AW _ _ _ _ _ _ _
      have htw := twosN_le (tR T) t n
      refine a_goto 33 dX11_whyNotOut_29 (by decide) ?_
      refine a_iret dX11_whyNotOut_33 rfl ?_
      rw [show whyO T (nI j_14) (nI t) n = twosN (tR T) t n by unfold whyO; rw [if_pos (by omega), if_pos (by omega), i_t]] at hQ
      exact hQ
    · show AW _ _ _ _ _ _ _
      have h_14 := not_inR h_14 (by omega)
      refine n_if_eq 32 (by decide) dX11_whyNotOut_17 (by decide) (fun _ => ?_) (fun h => absurd h (by decide))
      refine n_iconst 2 rfl dX11_whyNotOut_32 ?_
      refine a_iret dX11_whyNotOut_33 rfl ?_
      rw [show whyO T p (nI t) n = 2 by unfold whyO; rw [if_pos (by omega), if_neg (by omega)]] at hQ
      exact hQ
  · show AW _ _ _ _ _ _ _
    refine n_if_ne 9 (by decide) dX11_whyNotOut_4 (by decide) (fun h => absurd h (by decide)) (fun _ => ?_)
    refine n_iconst 1 rfl dX11_whyNotOut_7 ?_
    refine a_iret dX11_whyNotOut_8 rfl ?_
    rw [show whyO T p x n = 1 by unfold whyO; rw [if_neg (by omega)]] at hQ
    exact hQ

set_option maxRecDepth 100000 in
set_option maxHeartbeats 800000 in
theorem c_X11_out {M : Mm} {T : TT} (hI : IX M T) (hG : TG T) {p : Int32} {x : Int32} {n : Int32} {Q : Option Value → Mm → Prop} (hQ : ∀ M', IX M' (sp_out p x n T).2 → keM M M' → Q (some (.int (sp_out p x n T).1)) M') (d : Nat) : AMt miX11_out (d + 4) [.ref 0, .int p, .int x, .int n] M Q := by
  refine AMt.of (by decide) (Nat.le_of_ble_eq_true rfl) ?_
  show AW miX11_out (d + 4) (mxA Q) 0 [(0, some (.ref 0)), (1, some (.int p)), (2, some (.int x)), (3, some (.int n))] [] M
  have hV : VX 17 M (tS T) := hI.1.1
  have hF : WF (tS T) := hG.1.1
  have hm : tS T 0 2 ≤ 6 := WF_m hF
  have hh : tS T 0 3 ≤ 10 := WF_h hF
  have hs : tS T 0 4 ≤ 7 := WF_s hF
  have hn : tS T 0 5 ≤ 8 := WF_n hF
  have hwo := whyO_le T p x n
  refine a_aload_n rfl dX11_out_0 ?_
  refine a_iload_n rfl dX11_out_1 ?_
  refine a_iload_n rfl dX11_out_2 ?_
  refine a_iload_n rfl dX11_out_3 ?_
  refine n_callV (mi' := miX11_whyNotOut) dX11_out_4 lX11_361 mX11_whyNotOut (by decide) rfl rfl rfl (c_X11_whyNotOut hI hG ?_ d) rfl rfl (by omega) (by decide) (Nat.le_of_ble_eq_true rfl)
  show AW _ _ _ _ _ _ _
  refine a_istore (by decide) rfl dX11_out_7 ?_
  refine a_iload rfl dX11_out_9 ?_
  refine n_if_eq 21 (by omega) dX11_out_11 (by decide) (fun h_11 => ?_) (fun h_11 => ?_)
  · obtain ⟨hx0, hp0, ht0⟩ := whyO_0 h_11
    obtain ⟨hn0, hl0, hd0⟩ := twosN_0 ht0
    have hl60 := lenI_le hG.2.1 (t := idx x) (by unfold idx; omega)
    obtain ⟨t, ht, rfl⟩ := inR_of (x := x) (m := 4) (by omega) (by omega) (by omega)
    have t_t : (nI t).toInt = (t : Int) := nI_toInt (by omega)
    have i_t : idx (nI t) = t := idx_nI (by omega)
    obtain ⟨s, hs, rfl⟩ := inR_of (x := p) (m := tS T 0 4) (by omega) (by omega) (by omega)
    have t_s : (nI s).toInt = (s : Int) := nI_toInt (by omega)
    have i_s : idx (nI s) = s := idx_nI (by omega)
    obtain ⟨q, hq, rfl⟩ := inR_of (x := n) (m := 21) (by omega) (by omega) (by omega)
    have t_q : (nI q).toInt = (q : Int) := nI_toInt (by omega)
    have i_q : idx (nI q) = q := idx_nI (by omega)
    rw [i_t] at hl0 hl60 hd0
    rw [i_q] at hd0
    have hD : ∀ i, i < 2 * q → M.2 (4 + t) i = (tR T).2.2 t i := fun i hi => RX_dat hI.2.1 (by omega) (by omega)
    have hT := TWO_of hd0
    refine a_aload_n rfl dX11_out_21 ?_
    refine a_aload_n rfl dX11_out_22 ?_
    refine a_geta dX11_out_23 fX11_90 (by decide) rfl rfl ?_
    refine a_aload_n rfl dX11_out_26 ?_
    refine a_geta dX11_out_27 fX11_58 (by decide) rfl rfl ?_
    refine a_iload_n rfl dX11_out_30 ?_
    refine a_aload_n rfl dX11_out_31 ?_
    refine a_geta dX11_out_32 fX11_30 (by decide) rfl rfl ?_
    refine a_geta dX11_out_35 fX11_135 (by decide) rfl rfl ?_
    refine a_iload_n rfl dX11_out_38 ?_
    refine n_aald (by omega) (by decide) rfl (Or.inl rfl) (by decide) dX11_out_39 ?_
    refine a_iload_n rfl dX11_out_40 ?_
    refine n_callV (mi' := miX0_fitting) dX11_out_41 lX11_364 mX0_fitting (by decide) rfl rfl rfl (c_X0_fitting hV hF (p := s) (by omega) (k := 4 + t) (tr_hk (by omega)) (tr_hc (by omega)) (D := (tR T).2.2 t) (by omega) hD hT (by omega) (fun M_41 hf_41 => ?_) d) rfl rfl (by omega) (by decide) (Nat.le_of_ble_eq_true rfl)
    show AW _ _ _ _ _ _ _
    have hV_41 : VX 17 M_41 (tS T) := VX_fr hV (fun k j a b => (hf_41 k j (by omega)).1)
    refine n_callV (mi' := miX11_answer) dX11_out_44 lX11_177 mX11_answer (by decide) rfl rfl rfl (c_X11_answer ?_ d) rfl rfl (by omega) (by decide) (Nat.le_of_ble_eq_true rfl)
    show AW _ _ _ _ _ _ _
    refine a_iret dX11_out_47 rfl ?_
    exact fin_q hQ hI hG (by unfold sp_out; rw [if_pos h_11, i_t, i_s, i_q]) (hf_41.mo (fun k j h => by unfold scX coX; omega))
  · refine a_aload_n rfl dX11_out_14 ?_
    refine a_iload rfl dX11_out_15 ?_
    refine n_callV (mi' := miX11_none) dX11_out_17 lX11_131 mX11_none (by decide) rfl rfl rfl (c_X11_none ?_ d) rfl rfl (by omega) (by decide) (Nat.le_of_ble_eq_true rfl)
    show AW _ _ _ _ _ _ _
    refine a_iret dX11_out_20 rfl ?_
    exact fin_q hQ hI hG (by unfold sp_out; rw [if_neg h_11]) fr.r

set_option maxRecDepth 100000 in
set_option maxHeartbeats 800000 in
theorem c_X11_ask {M : Mm} {T : TT} (hI : IX M T) (hG : TG T) {p : Int32} {x : Int32} {n : Int32} {Q : Option Value → Mm → Prop} (hQ : ∀ M', IX M' (sp_ask p x n T).2 → keM M M' → Q (some (.int (sp_ask p x n T).1)) M') (d : Nat) : AMt miX11_ask (d + 5) [.ref 0, .int p, .int x, .int n] M Q := by
  refine AMt.of (by decide) (Nat.le_of_ble_eq_true rfl) ?_
  show AW miX11_ask (d + 5) (mxA Q) 0 [(0, some (.ref 0)), (1, some (.int p)), (2, some (.int x)), (3, some (.int n))] [] M
  have hV : VX 17 M (tS T) := hI.1.1
  have hF : WF (tS T) := hG.1.1
  have hm : tS T 0 2 ≤ 6 := WF_m hF
  have hh : tS T 0 3 ≤ 10 := WF_h hF
  have hs : tS T 0 4 ≤ 7 := WF_s hF
  have hn : tS T 0 5 ≤ 8 := WF_n hF
  have hwo := whyO_le T p x n
  refine a_aload_n rfl dX11_ask_0 ?_
  refine a_iload_n rfl dX11_ask_1 ?_
  refine a_iload_n rfl dX11_ask_2 ?_
  refine a_iload_n rfl dX11_ask_3 ?_
  refine n_callV (mi' := miX11_whyNotOut) dX11_ask_4 lX11_361 mX11_whyNotOut (by decide) rfl rfl rfl (c_X11_whyNotOut hI hG ?_ d) rfl rfl (by omega) (by decide) (Nat.le_of_ble_eq_true rfl)
  show AW _ _ _ _ _ _ _
  refine a_istore (by decide) rfl dX11_ask_7 ?_
  refine a_iload rfl dX11_ask_9 ?_
  refine n_if_eq 21 (by omega) dX11_ask_11 (by decide) (fun h_11 => ?_) (fun h_11 => ?_)
  · obtain ⟨hx0, hp0, ht0⟩ := whyO_0 h_11
    obtain ⟨hn0, hl0, hd0⟩ := twosN_0 ht0
    have hl60 := lenI_le hG.2.1 (t := idx x) (by unfold idx; omega)
    obtain ⟨t, ht, rfl⟩ := inR_of (x := x) (m := 4) (by omega) (by omega) (by omega)
    have t_t : (nI t).toInt = (t : Int) := nI_toInt (by omega)
    have i_t : idx (nI t) = t := idx_nI (by omega)
    obtain ⟨s, hs, rfl⟩ := inR_of (x := p) (m := tS T 0 4) (by omega) (by omega) (by omega)
    have t_s : (nI s).toInt = (s : Int) := nI_toInt (by omega)
    have i_s : idx (nI s) = s := idx_nI (by omega)
    obtain ⟨q, hq, rfl⟩ := inR_of (x := n) (m := 21) (by omega) (by omega) (by omega)
    have t_q : (nI q).toInt = (q : Int) := nI_toInt (by omega)
    have i_q : idx (nI q) = q := idx_nI (by omega)
    rw [i_t] at hl0 hl60 hd0
    rw [i_q] at hd0
    have hD : ∀ i, i < 2 * q → M.2 (4 + t) i = (tR T).2.2 t i := fun i hi => RX_dat hI.2.1 (by omega) (by omega)
    have hT := TWO_of hd0
    refine a_aload_n rfl dX11_ask_21 ?_
    refine a_geta dX11_ask_22 fX11_90 (by decide) rfl rfl ?_
    refine a_aload_n rfl dX11_ask_25 ?_
    refine a_geta dX11_ask_26 fX11_58 (by decide) rfl rfl ?_
    refine a_iload_n rfl dX11_ask_29 ?_
    refine a_aload_n rfl dX11_ask_30 ?_
    refine a_geta dX11_ask_31 fX11_30 (by decide) rfl rfl ?_
    refine a_geta dX11_ask_34 fX11_135 (by decide) rfl rfl ?_
    refine a_iload_n rfl dX11_ask_37 ?_
    refine n_aald (by omega) (by decide) rfl (Or.inl rfl) (by decide) dX11_ask_38 ?_
    refine a_iload_n rfl dX11_ask_39 ?_
    refine n_callV (mi' := miX0_fitting) dX11_ask_40 lX11_364 mX0_fitting (by decide) rfl rfl rfl (c_X0_fitting hV hF (p := s) (by omega) (k := 4 + t) (tr_hk (by omega)) (tr_hc (by omega)) (D := (tR T).2.2 t) (by omega) hD hT (by omega) (fun M_40 hf_40 => ?_) d) rfl rfl (by omega) (by decide) (Nat.le_of_ble_eq_true rfl)
    show AW _ _ _ _ _ _ _
    have hV_40 : VX 17 M_40 (tS T) := VX_fr hV (fun k j a b => (hf_40 k j (by omega)).1)
    have hol := outN_lt (tS T) s ((tR T).2.2 t) q
    have hop := pow_le hm
    refine a_istore (by decide) rfl dX11_ask_43 ?_
    refine a_iload rfl dX11_ask_45 ?_
    refine n_callS (mi' := miJ6_bitCount_0f7a4) dX11_ask_47 lX11_340 mJ6_bitCount_0f7a4 (c_J6_bitCount_0f7a4 (by omega) ?_ d) rfl rfl (by omega) (by decide) (Nat.le_of_ble_eq_true rfl)
    show AW _ _ _ _ _ _ _
    have hsz := szN_le (outN (tS T) s ((tR T).2.2 t) q)
    refine n_iconst 2 rfl dX11_ask_50 ?_
    refine n_icmp_ge 61 (by omega) (by omega) dX11_ask_51 (by decide) (fun h_51 => ?_) (fun h_51 => ?_)
    · refine a_aload_n rfl dX11_ask_61 ?_
      refine a_aload_n rfl dX11_ask_62 ?_
      refine a_geta dX11_ask_63 fX11_90 (by decide) rfl rfl ?_
      refine a_aload_n rfl dX11_ask_66 ?_
      refine a_geta dX11_ask_67 fX11_58 (by decide) rfl rfl ?_
      refine a_iload_n rfl dX11_ask_70 ?_
      refine a_iload rfl dX11_ask_71 ?_
      refine n_callV (mi' := miX0_partingDays) dX11_ask_73 lX11_368 mX0_partingDays (by decide) rfl rfl rfl (c_X0_partingDays hV_40 hF (by omega) (by omega) (fun M_73 hf_73 => ?_) d) rfl rfl (by omega) (by decide) (Nat.le_of_ble_eq_true rfl)
      show AW _ _ _ _ _ _ _
      have hV_73 : VX 17 M_73 (tS T) := VX_fr hV_40 (fun k j a b => (hf_73 k j (by omega)).1)
      refine n_callV (mi' := miX11_answer) dX11_ask_76 lX11_177 mX11_answer (by decide) rfl rfl rfl (c_X11_answer ?_ d) rfl rfl (by omega) (by decide) (Nat.le_of_ble_eq_true rfl)
      show AW _ _ _ _ _ _ _
      refine a_iret dX11_ask_79 rfl ?_
      exact fin_q hQ hI hG (by unfold sp_ask; rw [if_pos h_11, i_t, i_s, i_q, if_neg (by omega)]) ((hf_40.mo (fun k j h => by unfold scX coX; omega)).t (hf_73.mo (fun k j h => by unfold scX coX; omega)))
    · refine a_aload_n rfl dX11_ask_54 ?_
      refine n_bipush 8 rfl dX11_ask_55 ?_
      refine n_callV (mi' := miX11_none) dX11_ask_57 lX11_131 mX11_none (by decide) rfl rfl rfl (c_X11_none ?_ d) rfl rfl (by omega) (by decide) (Nat.le_of_ble_eq_true rfl)
      show AW _ _ _ _ _ _ _
      refine a_iret dX11_ask_60 rfl ?_
      exact fin_q hQ hI hG (by unfold sp_ask; rw [if_pos h_11, i_t, i_s, i_q, if_pos (by omega)]) (hf_40.mo (fun k j h => by unfold scX coX; omega))
  · refine a_aload_n rfl dX11_ask_14 ?_
    refine a_iload rfl dX11_ask_15 ?_
    refine n_callV (mi' := miX11_none) dX11_ask_17 lX11_131 mX11_none (by decide) rfl rfl rfl (c_X11_none ?_ d) rfl rfl (by omega) (by decide) (Nat.le_of_ble_eq_true rfl)
    show AW _ _ _ _ _ _ _
    refine a_iret dX11_ask_20 rfl ?_
    exact fin_q hQ hI hG (by unfold sp_ask; rw [if_neg h_11]) fr.r

set_option maxRecDepth 100000 in
set_option maxHeartbeats 800000 in
theorem c_X11_laws {M : Mm} {T : TT} (hI : IX M T) (hG : TG T) {x : Int32} {n : Int32} {Q : Option Value → Mm → Prop} (hQ : ∀ M', IX M' (sp_laws x n T).2 → keM M M' → Q (some (.int (sp_laws x n T).1)) M') (d : Nat) : AMt miX11_laws (d + 4) [.ref 0, .int x, .int n] M Q := by
  refine AMt.of (by decide) (Nat.le_of_ble_eq_true rfl) ?_
  show AW miX11_laws (d + 4) (mxA Q) 0 [(0, some (.ref 0)), (1, some (.int x)), (2, some (.int n))] [] M
  have hV : VX 17 M (tS T) := hI.1.1
  have hF : WF (tS T) := hG.1.1
  have hm : tS T 0 2 ≤ 6 := WF_m hF
  have hh : tS T 0 3 ≤ 10 := WF_h hF
  have hs : tS T 0 4 ≤ 7 := WF_s hF
  have hn : tS T 0 5 ≤ 8 := WF_n hF
  refine a_iload_n rfl dX11_laws_0 ?_
  refine n_callS (mi' := miX5_isTray) dX11_laws_1 lX11_108 mX5_isTray (c_X5_isTray (fun ha_1 hb_1 => ?_) (fun h_1 => ?_) d) rfl rfl (by omega) (by decide) (Nat.le_of_ble_eq_true rfl)
  · show AW _ _ _ _ _ _ _
    refine n_if_eq 19 (by decide) dX11_laws_4 (by decide) (fun h => absurd h (by decide)) (fun _ => ?_)
    obtain ⟨t, ht, rfl⟩ := inR_of (x := x) (m := 4) (by omega) (by omega) (by omega)
    have t_t : (nI t).toInt = (t : Int) := nI_toInt (by omega)
    have i_t : idx (nI t) = t := idx_nI (by omega)
    refine a_aload_n rfl dX11_laws_7 ?_
    refine a_geta dX11_laws_8 fX11_30 (by decide) rfl rfl ?_
    refine a_iload_n rfl dX11_laws_11 ?_
    refine a_iload_n rfl dX11_laws_12 ?_
    refine n_callV (mi' := miX5_whyNoTwos) dX11_laws_13 lX11_372 mX5_whyNoTwos (by decide) rfl rfl rfl (c_X5_whyNoTwos hI.2.1 hG.2.1 (by omega) ?_ d) rfl rfl (by omega) (by decide) (Nat.le_of_ble_eq_true rfl)
    show AW _ _ _ _ _ _ _
    have htw := twosN_le (tR T) t n
    refine a_goto 20 dX11_laws_16 (by decide) ?_
    refine a_istore_n (by decide) rfl dX11_laws_20 ?_
    refine a_iload_n rfl dX11_laws_21 ?_
    refine n_if_eq 31 (by omega) dX11_laws_22 (by decide) (fun h_22 => ?_) (fun h_22 => ?_)
    · have ht_ := h_22
      obtain ⟨hn0, hl0, hd0⟩ := twosN_0 h_22
      have hl60 := lenI_le hG.2.1 (t := t) (by omega)
      obtain ⟨q, hq, rfl⟩ := inR_of (x := n) (m := 21) (by omega) (by omega) (by omega)
      have t_q : (nI q).toInt = (q : Int) := nI_toInt (by omega)
      have i_q : idx (nI q) = q := idx_nI (by omega)
      rw [i_q] at hd0
      have hD : ∀ i, i < 2 * q → M.2 (4 + t) i = (tR T).2.2 t i := fun i hi => RX_dat hI.2.1 (by omega) (by omega)
      have hT := TWO_of hd0
      refine a_aload_n rfl dX11_laws_31 ?_
      refine a_aload_n rfl dX11_laws_32 ?_
      refine a_geta dX11_laws_33 fX11_30 (by decide) rfl rfl ?_
      refine a_geta dX11_laws_36 fX11_135 (by decide) rfl rfl ?_
      refine a_iload_n rfl dX11_laws_39 ?_
      refine n_aald (by omega) (by decide) rfl (Or.inl rfl) (by decide) dX11_laws_40 ?_
      refine a_iload_n rfl dX11_laws_41 ?_
      refine n_callS (mi' := miX0_lawCount) dX11_laws_42 lX11_375 mX0_lawCount (c_X0_lawCount (k := 4 + t) (tr_hk (by omega)) (tr_hc (by omega)) (D := (tR T).2.2 t) (by omega) hD hT ?_ d) rfl rfl (by omega) (by decide) (Nat.le_of_ble_eq_true rfl)
      show AW _ _ _ _ _ _ _
      refine n_callV (mi' := miX11_answer) dX11_laws_45 lX11_177 mX11_answer (by decide) rfl rfl rfl (c_X11_answer ?_ d) rfl rfl (by omega) (by decide) (Nat.le_of_ble_eq_true rfl)
      show AW _ _ _ _ _ _ _
      refine a_iret dX11_laws_48 rfl ?_
      exact fin_q hQ hI hG (by unfold sp_laws; rw [show whyL T (nI t) (nI q) = twosN (tR T) t (nI q) by unfold whyL; rw [if_pos (by omega), i_t]]; rw [if_pos ht_, i_t, i_q]) fr.r
    · refine a_aload_n rfl dX11_laws_25 ?_
      refine a_iload_n rfl dX11_laws_26 ?_
      refine n_callV (mi' := miX11_none) dX11_laws_27 lX11_131 mX11_none (by decide) rfl rfl rfl (c_X11_none ?_ d) rfl rfl (by omega) (by decide) (Nat.le_of_ble_eq_true rfl)
      show AW _ _ _ _ _ _ _
      refine a_iret dX11_laws_30 rfl ?_
      exact fin_q hQ hI hG (by unfold sp_laws; rw [show whyL T (nI t) n = twosN (tR T) t n by unfold whyL; rw [if_pos (by omega), i_t]]; rw [if_neg h_22]) fr.r
  · show AW _ _ _ _ _ _ _
    refine n_if_eq 19 (by decide) dX11_laws_4 (by decide) (fun _ => ?_) (fun h => absurd h (by decide))
    refine n_iconst 1 rfl dX11_laws_19 ?_
    refine a_istore_n (by decide) rfl dX11_laws_20 ?_
    refine a_iload_n rfl dX11_laws_21 ?_
    refine n_if_eq 31 (by decide) dX11_laws_22 (by decide) (fun h => absurd h (by decide)) (fun _ => ?_)
    refine a_aload_n rfl dX11_laws_25 ?_
    refine a_iload_n rfl dX11_laws_26 ?_
    refine n_callV (mi' := miX11_none) dX11_laws_27 lX11_131 mX11_none (by decide) rfl rfl rfl (c_X11_none ?_ d) rfl rfl (by omega) (by decide) (Nat.le_of_ble_eq_true rfl)
    show AW _ _ _ _ _ _ _
    refine a_iret dX11_laws_30 rfl ?_
    exact fin_q hQ hI hG (by unfold sp_laws; rw [show whyL T x n = 1 by unfold whyL; rw [if_neg (by omega)]]; rw [if_neg (by decide)]) fr.r

set_option maxRecDepth 100000 in
set_option maxHeartbeats 800000 in
theorem c_X11_lawOf {M : Mm} {T : TT} (hI : IX M T) (hG : TG T) {x : Int32} {n : Int32} {w : Int32} {Q : Option Value → Mm → Prop} (hQ : ∀ M', IX M' (sp_lawOf x n w T).2 → keM M M' → Q (some (.int (sp_lawOf x n w T).1)) M') (d : Nat) : AMt miX11_lawOf (d + 4) [.ref 0, .int x, .int n, .int w] M Q := by
  refine AMt.of (by decide) (Nat.le_of_ble_eq_true rfl) ?_
  show AW miX11_lawOf (d + 4) (mxA Q) 0 [(0, some (.ref 0)), (1, some (.int x)), (2, some (.int n)), (3, some (.int w))] [] M
  have hV : VX 17 M (tS T) := hI.1.1
  have hF : WF (tS T) := hG.1.1
  have hm : tS T 0 2 ≤ 6 := WF_m hF
  have hh : tS T 0 3 ≤ 10 := WF_h hF
  have hs : tS T 0 4 ≤ 7 := WF_s hF
  have hn : tS T 0 5 ≤ 8 := WF_n hF
  refine a_iload_n rfl dX11_lawOf_0 ?_
  refine n_callS (mi' := miX5_isTray) dX11_lawOf_1 lX11_108 mX5_isTray (c_X5_isTray (fun ha_1 hb_1 => ?_) (fun h_1 => ?_) d) rfl rfl (by omega) (by decide) (Nat.le_of_ble_eq_true rfl)
  · show AW _ _ _ _ _ _ _
    refine n_if_eq 19 (by decide) dX11_lawOf_4 (by decide) (fun h => absurd h (by decide)) (fun _ => ?_)
    obtain ⟨t, ht, rfl⟩ := inR_of (x := x) (m := 4) (by omega) (by omega) (by omega)
    have t_t : (nI t).toInt = (t : Int) := nI_toInt (by omega)
    have i_t : idx (nI t) = t := idx_nI (by omega)
    refine a_aload_n rfl dX11_lawOf_7 ?_
    refine a_geta dX11_lawOf_8 fX11_30 (by decide) rfl rfl ?_
    refine a_iload_n rfl dX11_lawOf_11 ?_
    refine a_iload_n rfl dX11_lawOf_12 ?_
    refine n_callV (mi' := miX5_whyNoTwos) dX11_lawOf_13 lX11_372 mX5_whyNoTwos (by decide) rfl rfl rfl (c_X5_whyNoTwos hI.2.1 hG.2.1 (by omega) ?_ d) rfl rfl (by omega) (by decide) (Nat.le_of_ble_eq_true rfl)
    show AW _ _ _ _ _ _ _
    have htw := twosN_le (tR T) t n
    refine a_goto 20 dX11_lawOf_16 (by decide) ?_
    refine a_istore (by decide) rfl dX11_lawOf_20 ?_
    refine a_iload rfl dX11_lawOf_22 ?_
    refine n_if_eq 34 (by omega) dX11_lawOf_24 (by decide) (fun h_24 => ?_) (fun h_24 => ?_)
    · refine a_iload_n rfl dX11_lawOf_34 ?_
      refine r_if_eq 49 dX11_lawOf_35 (by decide) (fun h_35 => ?_) (fun h_35 => ?_)
      · have ht_ := h_24
        obtain ⟨hn0, hl0, hd0⟩ := twosN_0 h_24
        have hl60 := lenI_le hG.2.1 (t := t) (by omega)
        obtain ⟨q, hq, rfl⟩ := inR_of (x := n) (m := 21) (by omega) (by omega) (by omega)
        have t_q : (nI q).toInt = (q : Int) := nI_toInt (by omega)
        have i_q : idx (nI q) = q := idx_nI (by omega)
        rw [i_q] at hd0
        have hD : ∀ i, i < 2 * q → M.2 (4 + t) i = (tR T).2.2 t i := fun i hi => RX_dat hI.2.1 (by omega) (by omega)
        have hT := TWO_of hd0
        refine a_aload_n rfl dX11_lawOf_49 ?_
        refine a_geta dX11_lawOf_50 fX11_30 (by decide) rfl rfl ?_
        refine a_geta dX11_lawOf_53 fX11_135 (by decide) rfl rfl ?_
        refine a_iload_n rfl dX11_lawOf_56 ?_
        refine n_aald (by omega) (by decide) rfl (Or.inl rfl) (by decide) dX11_lawOf_57 ?_
        refine a_iload_n rfl dX11_lawOf_58 ?_
        refine n_callS (mi' := miX0_firstLaw) dX11_lawOf_59 lX11_379 mX0_firstLaw (c_X0_firstLaw (k := 4 + t) (tr_hk (by omega)) (tr_hc (by omega)) (D := (tR T).2.2 t) (by omega) hD hT (fun v_59 hv_59 he_59 => ?_) (fun he_59 => ?_) d) rfl rfl (by omega) (by decide) (Nat.le_of_ble_eq_true rfl)
        · show AW _ _ _ _ _ _ _
          refine a_istore (by decide) rfl dX11_lawOf_62 ?_
          refine a_iload rfl dX11_lawOf_64 ?_
          refine a_iconst (-1) rfl dX11_lawOf_66 ?_
          refine s_icmp_ne 77 (by omega) dX11_lawOf_67 (by decide) (fun h_67 => ?_) (fun h_67 => absurd h_67 (by rw [show (-1 : Int32).toInt = -1 by decide]; omega))
          refine a_aload_n rfl dX11_lawOf_77 ?_
          refine a_iload_n rfl dX11_lawOf_78 ?_
          refine r_if_ne 90 dX11_lawOf_79 (by decide) (fun h_79 => ?_) (fun h_79 => ?_)
          · refine a_iload rfl dX11_lawOf_90 ?_
            refine n_bipush 21 rfl dX11_lawOf_92 ?_
            refine n_irem (by omega) (by omega) (by omega) dX11_lawOf_94 ?_
            refine n_callV (mi' := miX11_answer) dX11_lawOf_95 lX11_177 mX11_answer (by decide) rfl rfl rfl (c_X11_answer ?_ d) rfl rfl (by omega) (by decide) (Nat.le_of_ble_eq_true rfl)
            show AW _ _ _ _ _ _ _
            refine a_iret dX11_lawOf_98 rfl ?_
            exact fin_q hQ hI hG (by unfold sp_lawOf; rw [show whyL T (nI t) (nI q) = twosN (tR T) t (nI q) by unfold whyL; rw [if_pos (by omega), i_t]]; rw [if_pos ht_, i_t, i_q, if_pos (by omega), he_59]; dsimp only; rw [if_neg (by unfold idx; omega), show (v_59 + 21) % 21 = v_59 % 21 by omega]) fr.r
          · refine a_iload rfl dX11_lawOf_82 ?_
            refine n_bipush 21 rfl dX11_lawOf_84 ?_
            refine n_idiv (by omega) (by omega) (by omega) dX11_lawOf_86 ?_
            refine a_goto 95 dX11_lawOf_87 (by decide) ?_
            refine n_callV (mi' := miX11_answer) dX11_lawOf_95 lX11_177 mX11_answer (by decide) rfl rfl rfl (c_X11_answer ?_ d) rfl rfl (by omega) (by decide) (Nat.le_of_ble_eq_true rfl)
            show AW _ _ _ _ _ _ _
            refine a_iret dX11_lawOf_98 rfl ?_
            exact fin_q hQ hI hG (by unfold sp_lawOf; rw [show whyL T (nI t) (nI q) = twosN (tR T) t (nI q) by unfold whyL; rw [if_pos (by omega), i_t]]; rw [if_pos ht_, i_t, i_q, if_pos (by omega), he_59]; dsimp only; rw [if_pos (by unfold idx; omega), show (v_59 + 21) / 21 = v_59 / 21 + 1 by omega]) fr.r
        · show AW _ _ _ _ _ _ _
          refine a_istore (by decide) rfl dX11_lawOf_62 ?_
          refine a_iload rfl dX11_lawOf_64 ?_
          refine a_iconst (-1) rfl dX11_lawOf_66 ?_
          refine u_icmp_ne 77 dX11_lawOf_67 (by decide) (fun h_67 => absurd rfl h_67) (fun h_67 => ?_)
          refine a_aload_n rfl dX11_lawOf_70 ?_
          refine n_bipush 8 rfl dX11_lawOf_71 ?_
          refine n_callV (mi' := miX11_none) dX11_lawOf_73 lX11_131 mX11_none (by decide) rfl rfl rfl (c_X11_none ?_ d) rfl rfl (by omega) (by decide) (Nat.le_of_ble_eq_true rfl)
          show AW _ _ _ _ _ _ _
          refine a_iret dX11_lawOf_76 rfl ?_
          exact fin_q hQ hI hG (by unfold sp_lawOf; rw [show whyL T (nI t) (nI q) = twosN (tR T) t (nI q) by unfold whyL; rw [if_pos (by omega), i_t]]; rw [if_pos ht_, i_t, i_q, if_pos (by omega), he_59]) fr.r
      · refine a_iload_n rfl dX11_lawOf_38 ?_
        refine n_iconst 1 rfl dX11_lawOf_39 ?_
        refine r_icmp_eq 49 (by omega) dX11_lawOf_40 (by decide) (fun h_40 => ?_) (fun h_40 => ?_)
        · have ht_ := h_24
          obtain ⟨hn0, hl0, hd0⟩ := twosN_0 h_24
          have hl60 := lenI_le hG.2.1 (t := t) (by omega)
          obtain ⟨q, hq, rfl⟩ := inR_of (x := n) (m := 21) (by omega) (by omega) (by omega)
          have t_q : (nI q).toInt = (q : Int) := nI_toInt (by omega)
          have i_q : idx (nI q) = q := idx_nI (by omega)
          rw [i_q] at hd0
          have hD : ∀ i, i < 2 * q → M.2 (4 + t) i = (tR T).2.2 t i := fun i hi => RX_dat hI.2.1 (by omega) (by omega)
          have hT := TWO_of hd0
          refine a_aload_n rfl dX11_lawOf_49 ?_
          refine a_geta dX11_lawOf_50 fX11_30 (by decide) rfl rfl ?_
          refine a_geta dX11_lawOf_53 fX11_135 (by decide) rfl rfl ?_
          refine a_iload_n rfl dX11_lawOf_56 ?_
          refine n_aald (by omega) (by decide) rfl (Or.inl rfl) (by decide) dX11_lawOf_57 ?_
          refine a_iload_n rfl dX11_lawOf_58 ?_
          refine n_callS (mi' := miX0_firstLaw) dX11_lawOf_59 lX11_379 mX0_firstLaw (c_X0_firstLaw (k := 4 + t) (tr_hk (by omega)) (tr_hc (by omega)) (D := (tR T).2.2 t) (by omega) hD hT (fun v_59 hv_59 he_59 => ?_) (fun he_59 => ?_) d) rfl rfl (by omega) (by decide) (Nat.le_of_ble_eq_true rfl)
          · show AW _ _ _ _ _ _ _
            refine a_istore (by decide) rfl dX11_lawOf_62 ?_
            refine a_iload rfl dX11_lawOf_64 ?_
            refine a_iconst (-1) rfl dX11_lawOf_66 ?_
            refine s_icmp_ne 77 (by omega) dX11_lawOf_67 (by decide) (fun h_67 => ?_) (fun h_67 => absurd h_67 (by rw [show (-1 : Int32).toInt = -1 by decide]; omega))
            refine a_aload_n rfl dX11_lawOf_77 ?_
            refine a_iload_n rfl dX11_lawOf_78 ?_
            refine r_if_ne 90 dX11_lawOf_79 (by decide) (fun h_79 => ?_) (fun h_79 => ?_)
            · refine a_iload rfl dX11_lawOf_90 ?_
              refine n_bipush 21 rfl dX11_lawOf_92 ?_
              refine n_irem (by omega) (by omega) (by omega) dX11_lawOf_94 ?_
              refine n_callV (mi' := miX11_answer) dX11_lawOf_95 lX11_177 mX11_answer (by decide) rfl rfl rfl (c_X11_answer ?_ d) rfl rfl (by omega) (by decide) (Nat.le_of_ble_eq_true rfl)
              show AW _ _ _ _ _ _ _
              refine a_iret dX11_lawOf_98 rfl ?_
              exact fin_q hQ hI hG (by unfold sp_lawOf; rw [show whyL T (nI t) (nI q) = twosN (tR T) t (nI q) by unfold whyL; rw [if_pos (by omega), i_t]]; rw [if_pos ht_, i_t, i_q, if_pos (by omega), he_59]; dsimp only; rw [if_neg (by unfold idx; omega), show (v_59 + 21) % 21 = v_59 % 21 by omega]) fr.r
            · refine a_iload rfl dX11_lawOf_82 ?_
              refine n_bipush 21 rfl dX11_lawOf_84 ?_
              refine n_idiv (by omega) (by omega) (by omega) dX11_lawOf_86 ?_
              refine a_goto 95 dX11_lawOf_87 (by decide) ?_
              refine n_callV (mi' := miX11_answer) dX11_lawOf_95 lX11_177 mX11_answer (by decide) rfl rfl rfl (c_X11_answer ?_ d) rfl rfl (by omega) (by decide) (Nat.le_of_ble_eq_true rfl)
              show AW _ _ _ _ _ _ _
              refine a_iret dX11_lawOf_98 rfl ?_
              exact fin_q hQ hI hG (by unfold sp_lawOf; rw [show whyL T (nI t) (nI q) = twosN (tR T) t (nI q) by unfold whyL; rw [if_pos (by omega), i_t]]; rw [if_pos ht_, i_t, i_q, if_pos (by omega), he_59]; dsimp only; rw [if_pos (by unfold idx; omega), show (v_59 + 21) / 21 = v_59 / 21 + 1 by omega]) fr.r
          · show AW _ _ _ _ _ _ _
            refine a_istore (by decide) rfl dX11_lawOf_62 ?_
            refine a_iload rfl dX11_lawOf_64 ?_
            refine a_iconst (-1) rfl dX11_lawOf_66 ?_
            refine u_icmp_ne 77 dX11_lawOf_67 (by decide) (fun h_67 => absurd rfl h_67) (fun h_67 => ?_)
            refine a_aload_n rfl dX11_lawOf_70 ?_
            refine n_bipush 8 rfl dX11_lawOf_71 ?_
            refine n_callV (mi' := miX11_none) dX11_lawOf_73 lX11_131 mX11_none (by decide) rfl rfl rfl (c_X11_none ?_ d) rfl rfl (by omega) (by decide) (Nat.le_of_ble_eq_true rfl)
            show AW _ _ _ _ _ _ _
            refine a_iret dX11_lawOf_76 rfl ?_
            exact fin_q hQ hI hG (by unfold sp_lawOf; rw [show whyL T (nI t) (nI q) = twosN (tR T) t (nI q) by unfold whyL; rw [if_pos (by omega), i_t]]; rw [if_pos ht_, i_t, i_q, if_pos (by omega), he_59]) fr.r
        · refine a_aload_n rfl dX11_lawOf_43 ?_
          refine n_iconst 5 rfl dX11_lawOf_44 ?_
          refine n_callV (mi' := miX11_none) dX11_lawOf_45 lX11_131 mX11_none (by decide) rfl rfl rfl (c_X11_none ?_ d) rfl rfl (by omega) (by decide) (Nat.le_of_ble_eq_true rfl)
          show AW _ _ _ _ _ _ _
          refine a_iret dX11_lawOf_48 rfl ?_
          exact fin_q hQ hI hG (by unfold sp_lawOf; rw [show whyL T (nI t) n = twosN (tR T) t n by unfold whyL; rw [if_pos (by omega), i_t]]; rw [if_pos h_24, if_neg (by omega)]) fr.r
    · refine a_aload_n rfl dX11_lawOf_27 ?_
      refine a_iload rfl dX11_lawOf_28 ?_
      refine n_callV (mi' := miX11_none) dX11_lawOf_30 lX11_131 mX11_none (by decide) rfl rfl rfl (c_X11_none ?_ d) rfl rfl (by omega) (by decide) (Nat.le_of_ble_eq_true rfl)
      show AW _ _ _ _ _ _ _
      refine a_iret dX11_lawOf_33 rfl ?_
      exact fin_q hQ hI hG (by unfold sp_lawOf; rw [show whyL T (nI t) n = twosN (tR T) t n by unfold whyL; rw [if_pos (by omega), i_t]]; rw [if_neg h_24]) fr.r
  · show AW _ _ _ _ _ _ _
    refine n_if_eq 19 (by decide) dX11_lawOf_4 (by decide) (fun _ => ?_) (fun h => absurd h (by decide))
    refine n_iconst 1 rfl dX11_lawOf_19 ?_
    refine a_istore (by decide) rfl dX11_lawOf_20 ?_
    refine a_iload rfl dX11_lawOf_22 ?_
    refine n_if_eq 34 (by decide) dX11_lawOf_24 (by decide) (fun h => absurd h (by decide)) (fun _ => ?_)
    refine a_aload_n rfl dX11_lawOf_27 ?_
    refine a_iload rfl dX11_lawOf_28 ?_
    refine n_callV (mi' := miX11_none) dX11_lawOf_30 lX11_131 mX11_none (by decide) rfl rfl rfl (c_X11_none ?_ d) rfl rfl (by omega) (by decide) (Nat.le_of_ble_eq_true rfl)
    show AW _ _ _ _ _ _ _
    refine a_iret dX11_lawOf_33 rfl ?_
    exact fin_q hQ hI hG (by unfold sp_lawOf; rw [show whyL T x n = 1 by unfold whyL; rw [if_neg (by omega)]]; rw [if_neg (by decide)]) fr.r

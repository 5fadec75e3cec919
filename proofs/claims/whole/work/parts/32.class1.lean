set_option maxRecDepth 100000 in
set_option maxHeartbeats 800000 in
theorem c_X11_none {M : Mm} {n : Nat} {Q : Option Value → Mm → Prop} (hQ : Q (some (.int (-1))) (siM M 0 0 (nI n))) (d : Nat) : AMt miX11_none (d) [.ref 0, .int (nI n)] M Q := by
  refine AMt.of (by decide) (Nat.le_of_ble_eq_true rfl) ?_
  show AW miX11_none (d) (mxA Q) 0 [(0, some (.ref 0)), (1, some (.int (nI n)))] [] M
  refine a_aload_n rfl dX11_none_0 ?_
  refine a_iload_n rfl dX11_none_1 ?_
  refine a_puti dX11_none_2 pX11_9 (by decide) rfl rfl ?_
  refine a_iconst (-1) rfl dX11_none_5 ?_
  refine a_iret dX11_none_6 rfl ?_
  exact hQ

set_option maxRecDepth 100000 in
set_option maxHeartbeats 800000 in
theorem c_X11_answer {M : Mm} {v : Int32} {Q : Option Value → Mm → Prop} (hQ : Q (some (.int v)) (siM M 0 0 (nI 0))) (d : Nat) : AMt miX11_answer (d) [.ref 0, .int v] M Q := by
  refine AMt.of (by decide) (Nat.le_of_ble_eq_true rfl) ?_
  show AW miX11_answer (d) (mxA Q) 0 [(0, some (.ref 0)), (1, some (.int v))] [] M
  refine a_aload_n rfl dX11_answer_0 ?_
  refine n_iconst 0 rfl dX11_answer_1 ?_
  refine a_puti dX11_answer_2 pX11_9 (by decide) rfl rfl ?_
  refine a_iload_n rfl dX11_answer_5 ?_
  refine a_iret dX11_answer_6 rfl ?_
  exact hQ

set_option maxRecDepth 100000 in
set_option maxHeartbeats 800000 in
theorem c_X11_refuse {M : Mm} {n : Nat} {Q : Option Value → Mm → Prop} (hQ : Q (some (.int (nI 0))) (siM M 0 0 (nI n))) (d : Nat) : AMt miX11_refuse (d) [.ref 0, .int (nI n)] M Q := by
  refine AMt.of (by decide) (Nat.le_of_ble_eq_true rfl) ?_
  show AW miX11_refuse (d) (mxA Q) 0 [(0, some (.ref 0)), (1, some (.int (nI n)))] [] M
  refine a_aload_n rfl dX11_refuse_0 ?_
  refine a_iload_n rfl dX11_refuse_1 ?_
  refine a_puti dX11_refuse_2 pX11_9 (by decide) rfl rfl ?_
  refine n_iconst 0 rfl dX11_refuse_5 ?_
  refine a_zret dX11_refuse_6 rfl (Or.inl rfl) ?_
  exact hQ

set_option maxRecDepth 100000 in
set_option maxHeartbeats 800000 in
theorem c_X11_agree {M : Mm} {Q : Option Value → Mm → Prop} (hQ : Q (some (.int (nI 1))) (siM M 0 0 (nI 0))) (d : Nat) : AMt miX11_agree (d) [.ref 0] M Q := by
  refine AMt.of (by decide) (Nat.le_of_ble_eq_true rfl) ?_
  show AW miX11_agree (d) (mxA Q) 0 [(0, some (.ref 0))] [] M
  refine a_aload_n rfl dX11_agree_0 ?_
  refine n_iconst 0 rfl dX11_agree_1 ?_
  refine a_puti dX11_agree_2 pX11_9 (by decide) rfl rfl ?_
  refine n_iconst 1 rfl dX11_agree_5 ?_
  refine a_zret dX11_agree_6 rfl (Or.inr rfl) ?_
  exact hQ

set_option maxRecDepth 100000 in
set_option maxHeartbeats 800000 in
theorem c_X11_answerIfThere {M : Mm} {v : Int32} {Q : Option Value → Mm → Prop} (h1 : v ≠ -1 → Q (some (.int v)) (siM M 0 0 (nI 0))) (h0 : v = -1 → Q (some (.int (-1))) (siM M 0 0 (nI 8))) (d : Nat) : AMt miX11_answerIfThere (d + 1) [.ref 0, .int v] M Q := by
  refine AMt.of (by decide) (Nat.le_of_ble_eq_true rfl) ?_
  show AW miX11_answerIfThere (d + 1) (mxA Q) 0 [(0, some (.ref 0)), (1, some (.int v))] [] M
  refine a_iload_n rfl dX11_answerIfThere_0 ?_
  refine a_iconst (-1) rfl dX11_answerIfThere_1 ?_
  refine u_icmp_ne 14 dX11_answerIfThere_2 (by decide) (fun h_2 => ?_) (fun h_2 => ?_)
  · refine a_aload_n rfl dX11_answerIfThere_14 ?_
    refine a_iload_n rfl dX11_answerIfThere_15 ?_
    refine n_callV (mi' := miX11_answer) dX11_answerIfThere_16 lX11_177 mX11_answer (by decide) rfl rfl rfl (c_X11_answer ?_ d) rfl rfl (by omega) (by decide) (Nat.le_of_ble_eq_true rfl)
    show AW _ _ _ _ _ _ _
    refine a_iret dX11_answerIfThere_19 rfl ?_
    exact h1 (fun e => h_2 (by rw [e]))
  · refine a_aload_n rfl dX11_answerIfThere_5 ?_
    refine n_bipush 8 rfl dX11_answerIfThere_6 ?_
    refine n_callV (mi' := miX11_none) dX11_answerIfThere_8 lX11_131 mX11_none (by decide) rfl rfl rfl (c_X11_none ?_ d) rfl rfl (by omega) (by decide) (Nat.le_of_ble_eq_true rfl)
    show AW _ _ _ _ _ _ _
    refine a_goto 19 dX11_answerIfThere_11 (by decide) ?_
    refine a_iret dX11_answerIfThere_19 rfl ?_
    exact h0 (by rw [i32_eq_toInt]; omega)

set_option maxRecDepth 100000 in
set_option maxHeartbeats 800000 in
theorem c_X11_many {M : Mm} {T : TT} (hI : IX M T) (hG : TG T) {x : Int32} {Q : Option Value → Mm → Prop} (hQ : ∀ M', IX M' (sp_many x T).2 → keM M M' → Q (some (.int (sp_many x T).1)) M') (d : Nat) : AMt miX11_many (d + 3) [.ref 0, .int x] M Q := by
  refine AMt.of (by decide) (Nat.le_of_ble_eq_true rfl) ?_
  show AW miX11_many (d + 3) (mxA Q) 0 [(0, some (.ref 0)), (1, some (.int x))] [] M
  have hV : VX 17 M (tS T) := hI.1.1
  have hF : WF (tS T) := hG.1.1
  have hm := WF_m hF
  have hh := WF_h hF
  have hs := WF_s hF
  have hn := WF_n hF
  refine a_iload_n rfl dX11_many_0 ?_
  by_cases hs_1_0 : x.toInt = 0
  · refine a_tabIn 56 dX11_many_1 (by omega) (by omega) (by rw [hs_1_0]; rfl) (by decide) ?_
    refine a_aload_n rfl dX11_many_56 ?_
    refine a_aload_n rfl dX11_many_57 ?_
    refine a_geta dX11_many_58 fX11_58 (by decide) rfl rfl ?_
    refine g_i (VX_2 hV) (by decide) rfl fX11_201 rfl dX11_many_61 ?_
    refine n_callV (mi' := miX11_answer) dX11_many_64 lX11_177 mX11_answer (by decide) rfl rfl rfl (c_X11_answer ?_ d) rfl rfl (by omega) (by decide) (Nat.le_of_ble_eq_true rfl)
    show AW _ _ _ _ _ _ _
    refine a_iret dX11_many_67 rfl ?_
    exact fin_st hQ hI (by unfold sp_many; rw [if_pos (by omega), show idx x = 0 by unfold idx; omega]; rfl)
  by_cases hs_1_1 : x.toInt = 1
  · refine a_tabIn 68 dX11_many_1 (by omega) (by omega) (by rw [hs_1_1]; rfl) (by decide) ?_
    refine a_aload_n rfl dX11_many_68 ?_
    refine a_aload_n rfl dX11_many_69 ?_
    refine a_geta dX11_many_70 fX11_58 (by decide) rfl rfl ?_
    refine g_i (VX_3 hV) (by decide) rfl fX11_204 rfl dX11_many_73 ?_
    refine n_callV (mi' := miX11_answer) dX11_many_76 lX11_177 mX11_answer (by decide) rfl rfl rfl (c_X11_answer ?_ d) rfl rfl (by omega) (by decide) (Nat.le_of_ble_eq_true rfl)
    show AW _ _ _ _ _ _ _
    refine a_iret dX11_many_79 rfl ?_
    exact fin_st hQ hI (by unfold sp_many; rw [if_pos (by omega), show idx x = 1 by unfold idx; omega]; rfl)
  by_cases hs_1_2 : x.toInt = 2
  · refine a_tabIn 80 dX11_many_1 (by omega) (by omega) (by rw [hs_1_2]; rfl) (by decide) ?_
    refine a_aload_n rfl dX11_many_80 ?_
    refine a_aload_n rfl dX11_many_81 ?_
    refine a_geta dX11_many_82 fX11_58 (by decide) rfl rfl ?_
    refine g_i (VX_4 hV) (by decide) rfl fX11_174 rfl dX11_many_85 ?_
    refine n_callV (mi' := miX11_answer) dX11_many_88 lX11_177 mX11_answer (by decide) rfl rfl rfl (c_X11_answer ?_ d) rfl rfl (by omega) (by decide) (Nat.le_of_ble_eq_true rfl)
    show AW _ _ _ _ _ _ _
    refine a_iret dX11_many_91 rfl ?_
    exact fin_st hQ hI (by unfold sp_many; rw [if_pos (by omega), show idx x = 2 by unfold idx; omega]; rfl)
  by_cases hs_1_3 : x.toInt = 3
  · refine a_tabIn 92 dX11_many_1 (by omega) (by omega) (by rw [hs_1_3]; rfl) (by decide) ?_
    refine a_aload_n rfl dX11_many_92 ?_
    refine a_aload_n rfl dX11_many_93 ?_
    refine a_geta dX11_many_94 fX11_58 (by decide) rfl rfl ?_
    refine g_i (VX_5 hV) (by decide) rfl fX11_207 rfl dX11_many_97 ?_
    refine n_callV (mi' := miX11_answer) dX11_many_100 lX11_177 mX11_answer (by decide) rfl rfl rfl (c_X11_answer ?_ d) rfl rfl (by omega) (by decide) (Nat.le_of_ble_eq_true rfl)
    show AW _ _ _ _ _ _ _
    refine a_iret dX11_many_103 rfl ?_
    exact fin_st hQ hI (by unfold sp_many; rw [if_pos (by omega), show idx x = 3 by unfold idx; omega]; rfl)
  by_cases hs_1_4 : x.toInt = 4
  · refine a_tabIn 104 dX11_many_1 (by omega) (by omega) (by rw [hs_1_4]; rfl) (by decide) ?_
    refine a_aload_n rfl dX11_many_104 ?_
    refine a_aload_n rfl dX11_many_105 ?_
    refine a_geta dX11_many_106 fX11_58 (by decide) rfl rfl ?_
    refine g_i (VX_0 hV) (by decide) rfl fX11_210 rfl dX11_many_109 ?_
    refine n_callV (mi' := miX11_answer) dX11_many_112 lX11_177 mX11_answer (by decide) rfl rfl rfl (c_X11_answer ?_ d) rfl rfl (by omega) (by decide) (Nat.le_of_ble_eq_true rfl)
    show AW _ _ _ _ _ _ _
    refine a_iret dX11_many_115 rfl ?_
    exact fin_st hQ hI (by unfold sp_many; rw [if_pos (by omega), show idx x = 4 by unfold idx; omega]; rfl)
  by_cases hs_1_5 : x.toInt = 5
  · refine a_tabIn 116 dX11_many_1 (by omega) (by omega) (by rw [hs_1_5]; rfl) (by decide) ?_
    refine a_aload_n rfl dX11_many_116 ?_
    refine a_aload_n rfl dX11_many_117 ?_
    refine a_geta dX11_many_118 fX11_58 (by decide) rfl rfl ?_
    refine g_i (VX_1 hV) (by decide) rfl fX11_213 rfl dX11_many_121 ?_
    refine n_callV (mi' := miX11_answer) dX11_many_124 lX11_177 mX11_answer (by decide) rfl rfl rfl (c_X11_answer ?_ d) rfl rfl (by omega) (by decide) (Nat.le_of_ble_eq_true rfl)
    show AW _ _ _ _ _ _ _
    refine a_iret dX11_many_127 rfl ?_
    exact fin_st hQ hI (by unfold sp_many; rw [if_pos (by omega), show idx x = 5 by unfold idx; omega]; rfl)
  by_cases hs_1_6 : x.toInt = 6
  · refine a_tabIn 128 dX11_many_1 (by omega) (by omega) (by rw [hs_1_6]; rfl) (by decide) ?_
    refine a_aload_n rfl dX11_many_128 ?_
    refine a_aload_n rfl dX11_many_129 ?_
    refine a_geta dX11_many_130 fX11_58 (by decide) rfl rfl ?_
    refine a_aload_n rfl dX11_many_133 ?_
    refine a_geta dX11_many_134 fX11_58 (by decide) rfl rfl ?_
    refine a_geta dX11_many_137 fX11_216 (by decide) rfl rfl ?_
    refine n_callV (mi' := miX6_settledSet) dX11_many_140 lX11_219 mX6_settledSet (by decide) rfl rfl rfl (c_X6_settledSet isW17 hV hF (f := (tS T) 2) (by decide) rfl (fun j hj => VX_a3 hV hj) (fun j hj => WF_clear hF j hj) ?_ d) rfl rfl (by omega) (by decide) (Nat.le_of_ble_eq_true rfl)
    show AW _ _ _ _ _ _ _
    refine n_callV (mi' := miX11_answer) dX11_many_143 lX11_177 mX11_answer (by decide) rfl rfl rfl (c_X11_answer ?_ d) rfl rfl (by omega) (by decide) (Nat.le_of_ble_eq_true rfl)
    show AW _ _ _ _ _ _ _
    refine a_iret dX11_many_146 rfl ?_
    exact fin_st hQ hI (by unfold sp_many; rw [if_pos (by omega), show idx x = 6 by unfold idx; omega]; rfl)
  by_cases hs_1_7 : x.toInt = 7
  · refine a_tabIn 147 dX11_many_1 (by omega) (by omega) (by rw [hs_1_7]; rfl) (by decide) ?_
    refine a_aload_n rfl dX11_many_147 ?_
    refine a_aload_n rfl dX11_many_148 ?_
    refine a_geta dX11_many_149 fX11_58 (by decide) rfl rfl ?_
    refine a_aload_n rfl dX11_many_152 ?_
    refine a_geta dX11_many_153 fX11_58 (by decide) rfl rfl ?_
    refine a_geta dX11_many_156 fX11_216 (by decide) rfl rfl ?_
    refine n_callV (mi' := miX6_stuckSet) dX11_many_159 lX11_223 mX6_stuckSet (by decide) rfl rfl rfl (c_X6_stuckSet isW17 hV hF (f := (tS T) 2) (by decide) rfl (fun j hj => VX_a3 hV hj) (fun j hj => WF_clear hF j hj) ?_ d) rfl rfl (by omega) (by decide) (Nat.le_of_ble_eq_true rfl)
    show AW _ _ _ _ _ _ _
    refine n_callV (mi' := miX11_answer) dX11_many_162 lX11_177 mX11_answer (by decide) rfl rfl rfl (c_X11_answer ?_ d) rfl rfl (by omega) (by decide) (Nat.le_of_ble_eq_true rfl)
    show AW _ _ _ _ _ _ _
    refine a_iret dX11_many_165 rfl ?_
    exact fin_st hQ hI (by unfold sp_many; rw [if_pos (by omega), show idx x = 7 by unfold idx; omega]; rfl)
  by_cases hs_1_8 : x.toInt = 8
  · refine a_tabIn 166 dX11_many_1 (by omega) (by omega) (by rw [hs_1_8]; rfl) (by decide) ?_
    refine a_aload_n rfl dX11_many_166 ?_
    refine a_aload_n rfl dX11_many_167 ?_
    refine a_geta dX11_many_168 fX11_58 (by decide) rfl rfl ?_
    refine a_aload_n rfl dX11_many_171 ?_
    refine a_geta dX11_many_172 fX11_58 (by decide) rfl rfl ?_
    refine a_geta dX11_many_175 fX11_216 (by decide) rfl rfl ?_
    refine n_callV (mi' := miX6_downSet) dX11_many_178 lX11_226 mX6_downSet (by decide) rfl rfl rfl (c_X6_downSet isW17 hV hF (f := (tS T) 2) (by decide) rfl (fun j hj => VX_a3 hV hj) (fun j hj => WF_clear hF j hj) ?_ d) rfl rfl (by omega) (by decide) (Nat.le_of_ble_eq_true rfl)
    show AW _ _ _ _ _ _ _
    refine n_callV (mi' := miX11_answer) dX11_many_181 lX11_177 mX11_answer (by decide) rfl rfl rfl (c_X11_answer ?_ d) rfl rfl (by omega) (by decide) (Nat.le_of_ble_eq_true rfl)
    show AW _ _ _ _ _ _ _
    refine a_iret dX11_many_184 rfl ?_
    exact fin_st hQ hI (by unfold sp_many; rw [if_pos (by omega), show idx x = 8 by unfold idx; omega]; rfl)
  by_cases hs_1_9 : x.toInt = 9
  · refine a_tabIn 185 dX11_many_1 (by omega) (by omega) (by rw [hs_1_9]; rfl) (by decide) ?_
    refine a_aload_n rfl dX11_many_185 ?_
    refine a_aload_n rfl dX11_many_186 ?_
    refine a_geta dX11_many_187 fX11_58 (by decide) rfl rfl ?_
    refine g_i (VX_6 hV) (by decide) rfl fX11_229 rfl dX11_many_190 ?_
    refine n_callV (mi' := miX11_answer) dX11_many_193 lX11_177 mX11_answer (by decide) rfl rfl rfl (c_X11_answer ?_ d) rfl rfl (by omega) (by decide) (Nat.le_of_ble_eq_true rfl)
    show AW _ _ _ _ _ _ _
    refine a_iret dX11_many_196 rfl ?_
    exact fin_st hQ hI (by unfold sp_many; rw [if_pos (by omega), show idx x = 9 by unfold idx; omega]; rfl)
  refine a_tabOut 197 dX11_many_1 (by omega) (by decide) ?_
  refine a_aload_n rfl dX11_many_197 ?_
  refine n_iconst 5 rfl dX11_many_198 ?_
  refine n_callV (mi' := miX11_none) dX11_many_199 lX11_131 mX11_none (by decide) rfl rfl rfl (c_X11_none ?_ d) rfl rfl (by omega) (by decide) (Nat.le_of_ble_eq_true rfl)
  show AW _ _ _ _ _ _ _
  refine a_iret dX11_many_202 rfl ?_
  exact fin_st hQ hI (by unfold sp_many; rw [if_neg (by omega)])

theorem loadN_le {S : ST} {k v : Nat} (hc : S 2 k ≤ 100) (hp : S 1 k ≤ 20) (h : loadN S k = some v) : v ≤ 200 := by
  unfold loadN at h
  by_cases h1 : S 2 k = 100
  · rw [if_pos h1] at h; cases h; omega
  · rw [if_neg h1] at h
    by_cases h2 : S 1 k = 0
    · rw [if_pos h2] at h; cases h
    · rw [if_neg h2] at h
      cases h
      exact Nat.le_trans (Nat.div_le_self _ _) (by omega)
theorem nI_ne_m1 {n : Nat} (h : n < 2 ^ 31) : nI n ≠ -1 := fun e => by
  have := congrArg Int32.toInt e
  rw [nI_toInt h] at this
  have h2 : (-1 : Int32).toInt = -1 := by decide
  omega

set_option maxRecDepth 100000 in
set_option maxHeartbeats 800000 in
theorem c_X11_matter {M : Mm} {T : TT} (hI : IX M T) (hG : TG T) {k : Int32} {x : Int32} {Q : Option Value → Mm → Prop} (hQ : ∀ M', IX M' (sp_matter k x T).2 → keM M M' → Q (some (.int (sp_matter k x T).1)) M') (d : Nat) : AMt miX11_matter (d + 3) [.ref 0, .int k, .int x] M Q := by
  refine AMt.of (by decide) (Nat.le_of_ble_eq_true rfl) ?_
  show AW miX11_matter (d + 3) (mxA Q) 0 [(0, some (.ref 0)), (1, some (.int k)), (2, some (.int x))] [] M
  have hV : VX 17 M (tS T) := hI.1.1
  have hF : WF (tS T) := hG.1.1
  have hm := WF_m hF
  have hh := WF_h hF
  have hs := WF_s hF
  have hn := WF_n hF
  refine a_aload_n rfl dX11_matter_0 ?_
  refine a_geta dX11_matter_1 fX11_58 (by decide) rfl rfl ?_
  refine a_iload_n rfl dX11_matter_4 ?_
  refine n_callV (mi' := miX6_hasMatter) dX11_matter_5 lX11_232 mX6_hasMatter (by decide) rfl rfl rfl (c_X6_hasMatter isW17 hV hF (fun j_5 h_5 e_5 => ?_) (fun h_5 => ?_) d) rfl rfl (by omega) (by decide) (Nat.le_of_ble_eq_true rfl)
  · show AW _ _ _ _ _ _ _
    subst e_5
    have t_5 : (nI j_5).toInt = (j_5 : Int) := nI_toInt (by omega)
    refine n_if_ne 17 (by decide) dX11_matter_8 (by decide) (fun _ => ?_) (fun h => absurd h (by decide))
    refine a_iload_n rfl dX11_matter_17 ?_
    by_cases hs_18_0 : x.toInt = 0
    · refine a_tabIn 52 dX11_matter_18 (by omega) (by omega) (by rw [hs_18_0]; rfl) (by decide) ?_
      refine a_aload_n rfl dX11_matter_52 ?_
      refine a_aload_n rfl dX11_matter_53 ?_
      refine a_geta dX11_matter_54 fX11_58 (by decide) rfl rfl ?_
      refine a_geta dX11_matter_57 fX11_216 (by decide) rfl rfl ?_
      refine a_iload_n rfl dX11_matter_60 ?_
      refine v_iald (by omega) (VX_a3 hV (by omega)) (by decide) rfl (by decide) dX11_matter_61 ?_
      refine n_callV (mi' := miX11_answer) dX11_matter_62 lX11_177 mX11_answer (by decide) rfl rfl rfl (c_X11_answer ?_ d) rfl rfl (by omega) (by decide) (Nat.le_of_ble_eq_true rfl)
      show AW _ _ _ _ _ _ _
      refine a_iret dX11_matter_65 rfl ?_
      exact fin_st hQ hI (by unfold sp_matter; rw [if_pos (by omega), if_pos (by omega), show idx x = 0 by unfold idx; omega, idx_nI (show j_5 < 2 ^ 31 by omega)]; rfl)
    by_cases hs_18_1 : x.toInt = 1
    · refine a_tabIn 66 dX11_matter_18 (by omega) (by omega) (by rw [hs_18_1]; rfl) (by decide) ?_
      refine a_aload_n rfl dX11_matter_66 ?_
      refine a_aload_n rfl dX11_matter_67 ?_
      refine a_geta dX11_matter_68 fX11_58 (by decide) rfl rfl ?_
      refine a_geta dX11_matter_71 fX11_235 (by decide) rfl rfl ?_
      refine a_iload_n rfl dX11_matter_74 ?_
      refine v_iald (by omega) (VX_a2 hV (by omega)) (by decide) rfl (by decide) dX11_matter_75 ?_
      refine n_callV (mi' := miX11_answer) dX11_matter_76 lX11_177 mX11_answer (by decide) rfl rfl rfl (c_X11_answer ?_ d) rfl rfl (by omega) (by decide) (Nat.le_of_ble_eq_true rfl)
      show AW _ _ _ _ _ _ _
      refine a_iret dX11_matter_79 rfl ?_
      exact fin_st hQ hI (by unfold sp_matter; rw [if_pos (by omega), if_pos (by omega), show idx x = 1 by unfold idx; omega, idx_nI (show j_5 < 2 ^ 31 by omega)]; rfl)
    by_cases hs_18_2 : x.toInt = 2
    · refine a_tabIn 80 dX11_matter_18 (by omega) (by omega) (by rw [hs_18_2]; rfl) (by decide) ?_
      refine a_aload_n rfl dX11_matter_80 ?_
      refine a_aload_n rfl dX11_matter_81 ?_
      refine a_geta dX11_matter_82 fX11_58 (by decide) rfl rfl ?_
      refine a_iload_n rfl dX11_matter_85 ?_
      refine n_callV (mi' := miX6_holdersOf) dX11_matter_86 lX11_238 mX6_holdersOf (by decide) rfl rfl rfl (c_X6_holdersOf isW17 hV hF (by omega) ?_ d) rfl rfl (by omega) (by decide) (Nat.le_of_ble_eq_true rfl)
      show AW _ _ _ _ _ _ _
      refine n_callV (mi' := miX11_answer) dX11_matter_89 lX11_177 mX11_answer (by decide) rfl rfl rfl (c_X11_answer ?_ d) rfl rfl (by omega) (by decide) (Nat.le_of_ble_eq_true rfl)
      show AW _ _ _ _ _ _ _
      refine a_iret dX11_matter_92 rfl ?_
      exact fin_st hQ hI (by unfold sp_matter; rw [if_pos (by omega), if_pos (by omega), show idx x = 2 by unfold idx; omega, idx_nI (show j_5 < 2 ^ 31 by omega)]; rfl)
    by_cases hs_18_3 : x.toInt = 3
    · refine a_tabIn 93 dX11_matter_18 (by omega) (by omega) (by rw [hs_18_3]; rfl) (by decide) ?_
      refine a_aload_n rfl dX11_matter_93 ?_
      refine a_aload_n rfl dX11_matter_94 ?_
      refine a_geta dX11_matter_95 fX11_58 (by decide) rfl rfl ?_
      refine a_iload_n rfl dX11_matter_98 ?_
      refine n_callV (mi' := miX6_sittersFor) dX11_matter_99 lX11_241 mX6_sittersFor (by decide) rfl rfl rfl (c_X6_sittersFor isW17 hV hF (by omega) ?_ d) rfl rfl (by omega) (by decide) (Nat.le_of_ble_eq_true rfl)
      show AW _ _ _ _ _ _ _
      refine n_callV (mi' := miX11_answer) dX11_matter_102 lX11_177 mX11_answer (by decide) rfl rfl rfl (c_X11_answer ?_ d) rfl rfl (by omega) (by decide) (Nat.le_of_ble_eq_true rfl)
      show AW _ _ _ _ _ _ _
      refine a_iret dX11_matter_105 rfl ?_
      exact fin_st hQ hI (by unfold sp_matter; rw [if_pos (by omega), if_pos (by omega), show idx x = 3 by unfold idx; omega, idx_nI (show j_5 < 2 ^ 31 by omega)]; rfl)
    by_cases hs_18_4 : x.toInt = 4
    · refine a_tabIn 106 dX11_matter_18 (by omega) (by omega) (by rw [hs_18_4]; rfl) (by decide) ?_
      refine a_aload_n rfl dX11_matter_106 ?_
      refine a_aload_n rfl dX11_matter_107 ?_
      refine a_geta dX11_matter_108 fX11_58 (by decide) rfl rfl ?_
      refine a_iload_n rfl dX11_matter_111 ?_
      refine n_callV (mi' := miX6_loadOf) dX11_matter_112 lX11_244 mX6_loadOf (by decide) rfl rfl rfl (c_X6_loadOf isW17 hV hF (by omega) (fun v_112 hl_112 => ?_) (fun hl_112 => ?_) d) rfl rfl (by omega) (by decide) (Nat.le_of_ble_eq_true rfl)
      · show AW _ _ _ _ _ _ _
        have hv_112 : v_112 ≤ 200 := loadN_le (WF_clear hF j_5 (by omega)) (WF_pace hF j_5 (by omega)) hl_112
        refine n_callV (mi' := miX11_answerIfThere) dX11_matter_115 lX11_247 mX11_answerIfThere (by decide) rfl rfl rfl (c_X11_answerIfThere (fun _ => ?_) (fun e => absurd e (nI_ne_m1 (by omega)))  d) rfl rfl (by omega) (by decide) (Nat.le_of_ble_eq_true rfl)
        show AW _ _ _ _ _ _ _
        refine a_iret dX11_matter_118 rfl ?_
        exact fin_st hQ hI (by unfold sp_matter; rw [if_pos (by omega), if_pos (by omega), show idx x = 4 by unfold idx; omega, idx_nI (show j_5 < 2 ^ 31 by omega)]; simp [hl_112])
      · show AW _ _ _ _ _ _ _
        refine n_callV (mi' := miX11_answerIfThere) dX11_matter_115 lX11_247 mX11_answerIfThere (by decide) rfl rfl rfl (c_X11_answerIfThere (fun e => absurd rfl e) (fun _ => ?_)  d) rfl rfl (by omega) (by decide) (Nat.le_of_ble_eq_true rfl)
        show AW _ _ _ _ _ _ _
        refine a_iret dX11_matter_118 rfl ?_
        exact fin_st hQ hI (by unfold sp_matter; rw [if_pos (by omega), if_pos (by omega), show idx x = 4 by unfold idx; omega, idx_nI (show j_5 < 2 ^ 31 by omega)]; simp [hl_112])
    refine a_tabOut 119 dX11_matter_18 (by omega) (by decide) ?_
    refine a_aload_n rfl dX11_matter_119 ?_
    refine n_iconst 5 rfl dX11_matter_120 ?_
    refine n_callV (mi' := miX11_none) dX11_matter_121 lX11_131 mX11_none (by decide) rfl rfl rfl (c_X11_none ?_ d) rfl rfl (by omega) (by decide) (Nat.le_of_ble_eq_true rfl)
    show AW _ _ _ _ _ _ _
    refine a_iret dX11_matter_124 rfl ?_
    exact fin_st hQ hI (by unfold sp_matter; rw [if_pos (by omega), if_neg (by omega)])
  · show AW _ _ _ _ _ _ _
    have h_5 := not_inR h_5 (by omega)
    refine n_if_ne 17 (by decide) dX11_matter_8 (by decide) (fun h => absurd h (by decide)) (fun _ => ?_)
    refine a_aload_n rfl dX11_matter_11 ?_
    refine n_iconst 2 rfl dX11_matter_12 ?_
    refine n_callV (mi' := miX11_none) dX11_matter_13 lX11_131 mX11_none (by decide) rfl rfl rfl (c_X11_none ?_ d) rfl rfl (by omega) (by decide) (Nat.le_of_ble_eq_true rfl)
    show AW _ _ _ _ _ _ _
    refine a_iret dX11_matter_16 rfl ?_
    exact fin_st hQ hI (by unfold sp_matter; rw [if_neg (by omega)])

set_option maxRecDepth 100000 in
set_option maxHeartbeats 800000 in
theorem c_X11_hold {M : Mm} {T : TT} (hI : IX M T) (hG : TG T) {k : Int32} {x : Int32} {Q : Option Value → Mm → Prop} (hQ : ∀ M', IX M' (sp_hold k x T).2 → keM M M' → Q (some (.int (sp_hold k x T).1)) M') (d : Nat) : AMt miX11_hold (d + 3) [.ref 0, .int k, .int x] M Q := by
  refine AMt.of (by decide) (Nat.le_of_ble_eq_true rfl) ?_
  show AW miX11_hold (d + 3) (mxA Q) 0 [(0, some (.ref 0)), (1, some (.int k)), (2, some (.int x))] [] M
  have hV : VX 17 M (tS T) := hI.1.1
  have hF : WF (tS T) := hG.1.1
  have hm := WF_m hF
  have hh := WF_h hF
  have hs := WF_s hF
  have hn := WF_n hF
  refine a_aload_n rfl dX11_hold_0 ?_
  refine a_geta dX11_hold_1 fX11_58 (by decide) rfl rfl ?_
  refine a_iload_n rfl dX11_hold_4 ?_
  refine n_callV (mi' := miX6_hasHold) dX11_hold_5 lX11_250 mX6_hasHold (by decide) rfl rfl rfl (c_X6_hasHold isW17 hV hF (fun j_5 h_5 e_5 => ?_) (fun h_5 => ?_) d) rfl rfl (by omega) (by decide) (Nat.le_of_ble_eq_true rfl)
  · show AW _ _ _ _ _ _ _
    subst e_5
    have t_5 : (nI j_5).toInt = (j_5 : Int) := nI_toInt (by omega)
    refine n_if_ne 17 (by decide) dX11_hold_8 (by decide) (fun _ => ?_) (fun h => absurd h (by decide))
    refine a_iload_n rfl dX11_hold_17 ?_
    refine r_if_ne 35 dX11_hold_18 (by decide) (fun h_18 => ?_) (fun h_18 => ?_)
    · refine a_iload_n rfl dX11_hold_35 ?_
      refine n_iconst 1 rfl dX11_hold_36 ?_
      refine r_icmp_ne 56 (by omega) dX11_hold_37 (by decide) (fun h_37 => ?_) (fun h_37 => ?_)
      · refine a_aload_n rfl dX11_hold_56 ?_
        refine n_iconst 5 rfl dX11_hold_57 ?_
        refine n_callV (mi' := miX11_none) dX11_hold_58 lX11_131 mX11_none (by decide) rfl rfl rfl (c_X11_none ?_ d) rfl rfl (by omega) (by decide) (Nat.le_of_ble_eq_true rfl)
        show AW _ _ _ _ _ _ _
        refine a_iret dX11_hold_61 rfl ?_
        exact fin_st hQ hI (by unfold sp_hold; rw [if_pos (by omega), if_neg (by omega)])
      · refine a_aload_n rfl dX11_hold_40 ?_
        refine a_aload_n rfl dX11_hold_41 ?_
        refine a_geta dX11_hold_42 fX11_58 (by decide) rfl rfl ?_
        refine a_geta dX11_hold_45 fX11_256 (by decide) rfl rfl ?_
        refine a_iload_n rfl dX11_hold_48 ?_
        refine v_iald (by omega) (VX_a5 hV (by omega)) (by decide) rfl (by decide) dX11_hold_49 ?_
        refine n_callV (mi' := miX11_answer) dX11_hold_50 lX11_177 mX11_answer (by decide) rfl rfl rfl (c_X11_answer ?_ d) rfl rfl (by omega) (by decide) (Nat.le_of_ble_eq_true rfl)
        show AW _ _ _ _ _ _ _
        refine a_goto 61 dX11_hold_53 (by decide) ?_
        refine a_iret dX11_hold_61 rfl ?_
        exact fin_st hQ hI (by unfold sp_hold; rw [if_pos (by omega), if_pos (by omega), show idx x = 1 by unfold idx; omega, idx_nI (show j_5 < 2 ^ 31 by omega)])
    · refine a_aload_n rfl dX11_hold_21 ?_
      refine a_aload_n rfl dX11_hold_22 ?_
      refine a_geta dX11_hold_23 fX11_58 (by decide) rfl rfl ?_
      refine a_geta dX11_hold_26 fX11_253 (by decide) rfl rfl ?_
      refine a_iload_n rfl dX11_hold_29 ?_
      refine v_iald (by omega) (VX_a4 hV (by omega)) (by decide) rfl (by decide) dX11_hold_30 ?_
      refine n_callV (mi' := miX11_answer) dX11_hold_31 lX11_177 mX11_answer (by decide) rfl rfl rfl (c_X11_answer ?_ d) rfl rfl (by omega) (by decide) (Nat.le_of_ble_eq_true rfl)
      show AW _ _ _ _ _ _ _
      refine a_iret dX11_hold_34 rfl ?_
      exact fin_st hQ hI (by unfold sp_hold; rw [if_pos (by omega), if_pos (by omega), show idx x = 0 by unfold idx; omega, idx_nI (show j_5 < 2 ^ 31 by omega)])
  · show AW _ _ _ _ _ _ _
    have h_5 := not_inR h_5 (by omega)
    refine n_if_ne 17 (by decide) dX11_hold_8 (by decide) (fun h => absurd h (by decide)) (fun _ => ?_)
    refine a_aload_n rfl dX11_hold_11 ?_
    refine n_iconst 2 rfl dX11_hold_12 ?_
    refine n_callV (mi' := miX11_none) dX11_hold_13 lX11_131 mX11_none (by decide) rfl rfl rfl (c_X11_none ?_ d) rfl rfl (by omega) (by decide) (Nat.le_of_ble_eq_true rfl)
    show AW _ _ _ _ _ _ _
    refine a_iret dX11_hold_16 rfl ?_
    exact fin_st hQ hI (by unfold sp_hold; rw [if_neg (by omega)])

set_option maxRecDepth 100000 in
set_option maxHeartbeats 800000 in
theorem c_X11_sitter {M : Mm} {T : TT} (hI : IX M T) (hG : TG T) {k : Int32} {x : Int32} {Q : Option Value → Mm → Prop} (hQ : ∀ M', IX M' (sp_sitter k x T).2 → keM M M' → Q (some (.int (sp_sitter k x T).1)) M') (d : Nat) : AMt miX11_sitter (d + 3) [.ref 0, .int k, .int x] M Q := by
  refine AMt.of (by decide) (Nat.le_of_ble_eq_true rfl) ?_
  show AW miX11_sitter (d + 3) (mxA Q) 0 [(0, some (.ref 0)), (1, some (.int k)), (2, some (.int x))] [] M
  have hV : VX 17 M (tS T) := hI.1.1
  have hF : WF (tS T) := hG.1.1
  have hm := WF_m hF
  have hh := WF_h hF
  have hs := WF_s hF
  have hn := WF_n hF
  refine a_aload_n rfl dX11_sitter_0 ?_
  refine a_geta dX11_sitter_1 fX11_58 (by decide) rfl rfl ?_
  refine a_iload_n rfl dX11_sitter_4 ?_
  refine n_callV (mi' := miX6_hasSitter) dX11_sitter_5 lX11_259 mX6_hasSitter (by decide) rfl rfl rfl (c_X6_hasSitter isW17 hV hF (fun j_5 h_5 e_5 => ?_) (fun h_5 => ?_) d) rfl rfl (by omega) (by decide) (Nat.le_of_ble_eq_true rfl)
  · show AW _ _ _ _ _ _ _
    subst e_5
    have t_5 : (nI j_5).toInt = (j_5 : Int) := nI_toInt (by omega)
    refine n_if_ne 17 (by decide) dX11_sitter_8 (by decide) (fun _ => ?_) (fun h => absurd h (by decide))
    refine a_iload_n rfl dX11_sitter_17 ?_
    by_cases hs_18_0 : x.toInt = 0
    · refine a_tabIn 52 dX11_sitter_18 (by omega) (by omega) (by rw [hs_18_0]; rfl) (by decide) ?_
      refine a_aload_n rfl dX11_sitter_52 ?_
      refine a_aload_n rfl dX11_sitter_53 ?_
      refine a_geta dX11_sitter_54 fX11_58 (by decide) rfl rfl ?_
      refine a_geta dX11_sitter_57 fX11_262 (by decide) rfl rfl ?_
      refine a_iload_n rfl dX11_sitter_60 ?_
      refine v_iald (by omega) (VX_a7 hV (by omega)) (by decide) rfl (by decide) dX11_sitter_61 ?_
      refine n_callV (mi' := miX11_answer) dX11_sitter_62 lX11_177 mX11_answer (by decide) rfl rfl rfl (c_X11_answer ?_ d) rfl rfl (by omega) (by decide) (Nat.le_of_ble_eq_true rfl)
      show AW _ _ _ _ _ _ _
      refine a_iret dX11_sitter_65 rfl ?_
      exact fin_st hQ hI (by unfold sp_sitter; rw [if_pos (by omega), if_pos (by omega), show idx x = 0 by unfold idx; omega, idx_nI (show j_5 < 2 ^ 31 by omega)]; rfl)
    by_cases hs_18_1 : x.toInt = 1
    · refine a_tabIn 66 dX11_sitter_18 (by omega) (by omega) (by rw [hs_18_1]; rfl) (by decide) ?_
      refine a_aload_n rfl dX11_sitter_66 ?_
      refine a_aload_n rfl dX11_sitter_67 ?_
      refine a_geta dX11_sitter_68 fX11_58 (by decide) rfl rfl ?_
      refine a_geta dX11_sitter_71 fX11_265 (by decide) rfl rfl ?_
      refine a_iload_n rfl dX11_sitter_74 ?_
      refine v_iald (by omega) (VX_a8 hV (by omega)) (by decide) rfl (by decide) dX11_sitter_75 ?_
      refine n_callV (mi' := miX11_answer) dX11_sitter_76 lX11_177 mX11_answer (by decide) rfl rfl rfl (c_X11_answer ?_ d) rfl rfl (by omega) (by decide) (Nat.le_of_ble_eq_true rfl)
      show AW _ _ _ _ _ _ _
      refine a_iret dX11_sitter_79 rfl ?_
      exact fin_st hQ hI (by unfold sp_sitter; rw [if_pos (by omega), if_pos (by omega), show idx x = 1 by unfold idx; omega, idx_nI (show j_5 < 2 ^ 31 by omega)]; rfl)
    by_cases hs_18_2 : x.toInt = 2
    · refine a_tabIn 80 dX11_sitter_18 (by omega) (by omega) (by rw [hs_18_2]; rfl) (by decide) ?_
      refine a_aload_n rfl dX11_sitter_80 ?_
      refine a_aload_n rfl dX11_sitter_81 ?_
      refine a_geta dX11_sitter_82 fX11_58 (by decide) rfl rfl ?_
      refine a_geta dX11_sitter_85 fX11_268 (by decide) rfl rfl ?_
      refine a_iload_n rfl dX11_sitter_88 ?_
      refine v_iald (by omega) (VX_a9 hV (by omega)) (by decide) rfl (by decide) dX11_sitter_89 ?_
      refine n_callV (mi' := miX11_answer) dX11_sitter_90 lX11_177 mX11_answer (by decide) rfl rfl rfl (c_X11_answer ?_ d) rfl rfl (by omega) (by decide) (Nat.le_of_ble_eq_true rfl)
      show AW _ _ _ _ _ _ _
      refine a_iret dX11_sitter_93 rfl ?_
      exact fin_st hQ hI (by unfold sp_sitter; rw [if_pos (by omega), if_pos (by omega), show idx x = 2 by unfold idx; omega, idx_nI (show j_5 < 2 ^ 31 by omega)]; rfl)
    by_cases hs_18_3 : x.toInt = 3
    · refine a_tabIn 94 dX11_sitter_18 (by omega) (by omega) (by rw [hs_18_3]; rfl) (by decide) ?_
      refine a_aload_n rfl dX11_sitter_94 ?_
      refine a_aload_n rfl dX11_sitter_95 ?_
      refine a_geta dX11_sitter_96 fX11_58 (by decide) rfl rfl ?_
      refine a_geta dX11_sitter_99 fX11_271 (by decide) rfl rfl ?_
      refine a_iload_n rfl dX11_sitter_102 ?_
      refine v_iald (by omega) (VX_a10 hV (by omega)) (by decide) rfl (by decide) dX11_sitter_103 ?_
      refine n_callV (mi' := miX11_answer) dX11_sitter_104 lX11_177 mX11_answer (by decide) rfl rfl rfl (c_X11_answer ?_ d) rfl rfl (by omega) (by decide) (Nat.le_of_ble_eq_true rfl)
      show AW _ _ _ _ _ _ _
      refine a_iret dX11_sitter_107 rfl ?_
      exact fin_st hQ hI (by unfold sp_sitter; rw [if_pos (by omega), if_pos (by omega), show idx x = 3 by unfold idx; omega, idx_nI (show j_5 < 2 ^ 31 by omega)]; rfl)
    by_cases hs_18_4 : x.toInt = 4
    · refine a_tabIn 108 dX11_sitter_18 (by omega) (by omega) (by rw [hs_18_4]; rfl) (by decide) ?_
      refine a_aload_n rfl dX11_sitter_108 ?_
      refine a_aload_n rfl dX11_sitter_109 ?_
      refine a_geta dX11_sitter_110 fX11_58 (by decide) rfl rfl ?_
      refine a_iload_n rfl dX11_sitter_113 ?_
      refine n_callV (mi' := miX6_heightNow) dX11_sitter_114 lX11_274 mX6_heightNow (by decide) rfl rfl rfl (c_X6_heightNow isW17 hV hF (by omega) ?_ d) rfl rfl (by omega) (by decide) (Nat.le_of_ble_eq_true rfl)
      show AW _ _ _ _ _ _ _
      refine n_callV (mi' := miX11_answer) dX11_sitter_117 lX11_177 mX11_answer (by decide) rfl rfl rfl (c_X11_answer ?_ d) rfl rfl (by omega) (by decide) (Nat.le_of_ble_eq_true rfl)
      show AW _ _ _ _ _ _ _
      refine a_iret dX11_sitter_120 rfl ?_
      exact fin_st hQ hI (by unfold sp_sitter; rw [if_pos (by omega), if_pos (by omega), show idx x = 4 by unfold idx; omega, idx_nI (show j_5 < 2 ^ 31 by omega)]; rfl)
    refine a_tabOut 121 dX11_sitter_18 (by omega) (by decide) ?_
    refine a_aload_n rfl dX11_sitter_121 ?_
    refine n_iconst 5 rfl dX11_sitter_122 ?_
    refine n_callV (mi' := miX11_none) dX11_sitter_123 lX11_131 mX11_none (by decide) rfl rfl rfl (c_X11_none ?_ d) rfl rfl (by omega) (by decide) (Nat.le_of_ble_eq_true rfl)
    show AW _ _ _ _ _ _ _
    refine a_iret dX11_sitter_126 rfl ?_
    exact fin_st hQ hI (by unfold sp_sitter; rw [if_pos (by omega), if_neg (by omega)])
  · show AW _ _ _ _ _ _ _
    have h_5 := not_inR h_5 (by omega)
    refine n_if_ne 17 (by decide) dX11_sitter_8 (by decide) (fun h => absurd h (by decide)) (fun _ => ?_)
    refine a_aload_n rfl dX11_sitter_11 ?_
    refine n_iconst 2 rfl dX11_sitter_12 ?_
    refine n_callV (mi' := miX11_none) dX11_sitter_13 lX11_131 mX11_none (by decide) rfl rfl rfl (c_X11_none ?_ d) rfl rfl (by omega) (by decide) (Nat.le_of_ble_eq_true rfl)
    show AW _ _ _ _ _ _ _
    refine a_iret dX11_sitter_16 rfl ?_
    exact fin_st hQ hI (by unfold sp_sitter; rw [if_neg (by omega)])

theorem came_v {S : ST} (hF : WF S) {i : Nat} (hi : i < S 0 5) : (if (bsN (fun j => S 11 j == 1) (S 0 5)).testBit i then 1 else 0) = S 11 i := by
  rw [bsN_bit]
  have := WF_came hF i hi
  rcases (show S 11 i = 0 ∨ S 11 i = 1 by omega) with h | h <;> simp [h, hi]

set_option maxRecDepth 100000 in
set_option maxHeartbeats 800000 in
theorem c_X11_news {M : Mm} {T : TT} (hI : IX M T) (hG : TG T) {k : Int32} {x : Int32} {Q : Option Value → Mm → Prop} (hQ : ∀ M', IX M' (sp_news k x T).2 → keM M M' → Q (some (.int (sp_news k x T).1)) M') (d : Nat) : AMt miX11_news (d + 3) [.ref 0, .int k, .int x] M Q := by
  refine AMt.of (by decide) (Nat.le_of_ble_eq_true rfl) ?_
  show AW miX11_news (d + 3) (mxA Q) 0 [(0, some (.ref 0)), (1, some (.int k)), (2, some (.int x))] [] M
  have hV : VX 17 M (tS T) := hI.1.1
  have hF : WF (tS T) := hG.1.1
  have hm := WF_m hF
  have hh := WF_h hF
  have hs := WF_s hF
  have hn := WF_n hF
  have hcl := bsN_lt (fun j => tS T 11 j == 1) (tS T 0 5)
  have hc2 := pow_le hn
  refine a_aload_n rfl dX11_news_0 ?_
  refine a_geta dX11_news_1 fX11_58 (by decide) rfl rfl ?_
  refine a_iload_n rfl dX11_news_4 ?_
  refine n_callV (mi' := miX6_hasNews) dX11_news_5 lX11_277 mX6_hasNews (by decide) rfl rfl rfl (c_X6_hasNews isW17 hV hF (fun j_5 h_5 e_5 => ?_) (fun h_5 => ?_) d) rfl rfl (by omega) (by decide) (Nat.le_of_ble_eq_true rfl)
  · show AW _ _ _ _ _ _ _
    subst e_5
    have t_5 : (nI j_5).toInt = (j_5 : Int) := nI_toInt (by omega)
    refine n_if_ne 17 (by decide) dX11_news_8 (by decide) (fun _ => ?_) (fun h => absurd h (by decide))
    refine a_iload_n rfl dX11_news_17 ?_
    by_cases hs_18_0 : x.toInt = 0
    · refine a_tabIn 44 dX11_news_18 (by omega) (by omega) (by rw [hs_18_0]; rfl) (by decide) ?_
      refine a_aload_n rfl dX11_news_44 ?_
      refine a_aload_n rfl dX11_news_45 ?_
      refine a_geta dX11_news_46 fX11_58 (by decide) rfl rfl ?_
      refine a_geta dX11_news_49 fX11_280 (by decide) rfl rfl ?_
      refine a_iload_n rfl dX11_news_52 ?_
      refine v_iald (by omega) (VX_a11 hV (by omega)) (by decide) rfl (by decide) dX11_news_53 ?_
      refine n_callV (mi' := miX11_answer) dX11_news_54 lX11_177 mX11_answer (by decide) rfl rfl rfl (c_X11_answer ?_ d) rfl rfl (by omega) (by decide) (Nat.le_of_ble_eq_true rfl)
      show AW _ _ _ _ _ _ _
      refine a_iret dX11_news_57 rfl ?_
      exact fin_st hQ hI (by unfold sp_news; rw [if_pos (by omega), if_pos (by omega), show idx x = 0 by unfold idx; omega, idx_nI (show j_5 < 2 ^ 31 by omega)])
    by_cases hs_18_1 : x.toInt = 1
    · refine a_tabIn 58 dX11_news_18 (by omega) (by omega) (by rw [hs_18_1]; rfl) (by decide) ?_
      refine a_aload_n rfl dX11_news_58 ?_
      refine a_aload_n rfl dX11_news_59 ?_
      refine a_geta dX11_news_60 fX11_58 (by decide) rfl rfl ?_
      refine a_geta dX11_news_63 fX11_283 (by decide) rfl rfl ?_
      refine a_iload_n rfl dX11_news_66 ?_
      refine v_iald (by omega) (VX_a12 hV (by omega)) (by decide) rfl (by decide) dX11_news_67 ?_
      refine n_callV (mi' := miX11_answer) dX11_news_68 lX11_177 mX11_answer (by decide) rfl rfl rfl (c_X11_answer ?_ d) rfl rfl (by omega) (by decide) (Nat.le_of_ble_eq_true rfl)
      show AW _ _ _ _ _ _ _
      refine a_iret dX11_news_71 rfl ?_
      exact fin_st hQ hI (by unfold sp_news; rw [if_pos (by omega), if_pos (by omega), show idx x = 1 by unfold idx; omega, idx_nI (show j_5 < 2 ^ 31 by omega)])
    by_cases hs_18_2 : x.toInt = 2
    · refine a_tabIn 72 dX11_news_18 (by omega) (by omega) (by rw [hs_18_2]; rfl) (by decide) ?_
      refine a_aload_n rfl dX11_news_72 ?_
      refine a_aload_n rfl dX11_news_73 ?_
      refine a_geta dX11_news_74 fX11_58 (by decide) rfl rfl ?_
      refine g_i (VX_6 hV) (by decide) rfl fX11_229 rfl dX11_news_77 ?_
      refine a_iload_n rfl dX11_news_80 ?_
      refine n_shr (by omega) (by omega) dX11_news_81 ?_
      refine n_iconst 1 rfl dX11_news_82 ?_
      refine n_has dX11_news_83 ?_
      refine n_callV (mi' := miX11_answer) dX11_news_84 lX11_177 mX11_answer (by decide) rfl rfl rfl (c_X11_answer ?_ d) rfl rfl (by omega) (by decide) (Nat.le_of_ble_eq_true rfl)
      show AW _ _ _ _ _ _ _
      refine a_iret dX11_news_87 rfl ?_
      exact fin_st hQ hI (by unfold sp_news; rw [if_pos (by omega), if_pos (by omega), show idx x = 2 by unfold idx; omega, idx_nI (show j_5 < 2 ^ 31 by omega)]; rw [show (if (bsN (fun j => tS T 11 j == 1) (tS T 0 5)).testBit j_5 then 1 else 0) = tS T 11 j_5 from came_v hF (by omega)])
    refine a_tabOut 88 dX11_news_18 (by omega) (by decide) ?_
    refine a_aload_n rfl dX11_news_88 ?_
    refine n_iconst 5 rfl dX11_news_89 ?_
    refine n_callV (mi' := miX11_none) dX11_news_90 lX11_131 mX11_none (by decide) rfl rfl rfl (c_X11_none ?_ d) rfl rfl (by omega) (by decide) (Nat.le_of_ble_eq_true rfl)
    show AW _ _ _ _ _ _ _
    refine a_iret dX11_news_93 rfl ?_
    exact fin_st hQ hI (by unfold sp_news; rw [if_pos (by omega), if_neg (by omega)])
  · show AW _ _ _ _ _ _ _
    have h_5 := not_inR h_5 (by omega)
    refine n_if_ne 17 (by decide) dX11_news_8 (by decide) (fun h => absurd h (by decide)) (fun _ => ?_)
    refine a_aload_n rfl dX11_news_11 ?_
    refine n_iconst 2 rfl dX11_news_12 ?_
    refine n_callV (mi' := miX11_none) dX11_news_13 lX11_131 mX11_none (by decide) rfl rfl rfl (c_X11_none ?_ d) rfl rfl (by omega) (by decide) (Nat.le_of_ble_eq_true rfl)
    show AW _ _ _ _ _ _ _
    refine a_iret dX11_news_16 rfl ?_
    exact fin_st hQ hI (by unfold sp_news; rw [if_neg (by omega)])

set_option maxRecDepth 100000 in
set_option maxHeartbeats 800000 in
theorem c_X11_crisis {M : Mm} {T : TT} (hI : IX M T) (hG : TG T) {k : Int32} {x : Int32} {Q : Option Value → Mm → Prop} (hQ : ∀ M', IX M' (sp_crisis k x T).2 → keM M M' → Q (some (.int (sp_crisis k x T).1)) M') (d : Nat) : AMt miX11_crisis (d + 3) [.ref 0, .int k, .int x] M Q := by
  refine AMt.of (by decide) (Nat.le_of_ble_eq_true rfl) ?_
  show AW miX11_crisis (d + 3) (mxA Q) 0 [(0, some (.ref 0)), (1, some (.int k)), (2, some (.int x))] [] M
  have hV : VX 17 M (tS T) := hI.1.1
  have hF : WF (tS T) := hG.1.1
  have hm := WF_m hF
  have hh := WF_h hF
  have hs := WF_s hF
  have hn := WF_n hF
  refine a_aload_n rfl dX11_crisis_0 ?_
  refine a_geta dX11_crisis_1 fX11_58 (by decide) rfl rfl ?_
  refine a_iload_n rfl dX11_crisis_4 ?_
  refine n_callV (mi' := miX6_hasMatter) dX11_crisis_5 lX11_232 mX6_hasMatter (by decide) rfl rfl rfl (c_X6_hasMatter isW17 hV hF (fun j_5 h_5 e_5 => ?_) (fun h_5 => ?_) d) rfl rfl (by omega) (by decide) (Nat.le_of_ble_eq_true rfl)
  · show AW _ _ _ _ _ _ _
    subst e_5
    have t_5 : (nI j_5).toInt = (j_5 : Int) := nI_toInt (by omega)
    refine n_if_ne 17 (by decide) dX11_crisis_8 (by decide) (fun _ => ?_) (fun h => absurd h (by decide))
    refine a_iload_n rfl dX11_crisis_17 ?_
    refine n_iconst 1 rfl dX11_crisis_18 ?_
    refine r_icmp_lt 28 (by omega) dX11_crisis_19 (by decide) (fun h_19 => ?_) (fun h_19 => ?_)
    · refine a_aload_n rfl dX11_crisis_28 ?_
      refine n_iconst 5 rfl dX11_crisis_29 ?_
      refine n_callV (mi' := miX11_none) dX11_crisis_30 lX11_131 mX11_none (by decide) rfl rfl rfl (c_X11_none ?_ d) rfl rfl (by omega) (by decide) (Nat.le_of_ble_eq_true rfl)
      show AW _ _ _ _ _ _ _
      refine a_iret dX11_crisis_33 rfl ?_
      exact fin_st hQ hI (by unfold sp_crisis; rw [if_pos (by omega), if_neg (by omega)])
    · refine a_iload_n rfl dX11_crisis_22 ?_
      refine n_bipush 100 rfl dX11_crisis_23 ?_
      refine r_icmp_le 34 (by omega) dX11_crisis_25 (by decide) (fun h_25 => ?_) (fun h_25 => ?_)
      · obtain ⟨j2, hj2, rfl⟩ := inR_of (x := x) (m := 101) (by omega) (by omega) (by omega)
        have t_j2 : (nI j2).toInt = (j2 : Int) := nI_toInt (by omega)
        have hcl := WF_clear hF j_5 (by omega)
        refine a_aload_n rfl dX11_crisis_34 ?_
        refine a_geta dX11_crisis_35 fX11_58 (by decide) rfl rfl ?_
        refine a_geta dX11_crisis_38 fX11_216 (by decide) rfl rfl ?_
        refine a_iload_n rfl dX11_crisis_41 ?_
        refine v_iald (by omega) (VX_a3 hV (by omega)) (by decide) rfl (by decide) dX11_crisis_42 ?_
        refine n_if_ne 53 (by omega) dX11_crisis_43 (by decide) (fun h_43 => ?_) (fun h_43 => ?_)
        · refine a_aload_n rfl dX11_crisis_53 ?_
          refine a_geta dX11_crisis_54 fX11_58 (by decide) rfl rfl ?_
          refine a_iload_n rfl dX11_crisis_57 ?_
          refine a_iload_n rfl dX11_crisis_58 ?_
          refine n_callV (mi' := miX6_worsen) dX11_crisis_59 lX11_298 mX6_worsen (by decide) rfl rfl rfl (c_X6_worsen isW17 hV hF (by omega) (by omega) (fun hV_59 => ?_) d) rfl rfl (by omega) (by decide) (Nat.le_of_ble_eq_true rfl)
          show AW _ _ _ _ _ _ _
          have c02 : (hupd (tS T) j_5 ((tS T) 2 j_5 - j2)) 0 2 = tS T 0 2 := rfl
          have c03 : (hupd (tS T) j_5 ((tS T) 2 j_5 - j2)) 0 3 = tS T 0 3 := rfl
          have c04 : (hupd (tS T) j_5 ((tS T) 2 j_5 - j2)) 0 4 = tS T 0 4 := rfl
          have c05 : (hupd (tS T) j_5 ((tS T) 2 j_5 - j2)) 0 5 = tS T 0 5 := rfl
          refine a_aload_n rfl dX11_crisis_62 ?_
          refine a_aload_n rfl dX11_crisis_63 ?_
          refine a_geta dX11_crisis_64 fX11_58 (by decide) rfl rfl ?_
          refine a_geta dX11_crisis_67 fX11_216 (by decide) rfl rfl ?_
          refine a_iload_n rfl dX11_crisis_70 ?_
          refine v_iald (by omega) (VX_a3 hV_59 (by omega)) (by decide) rfl (by decide) dX11_crisis_71 ?_
          refine n_callV (mi' := miX11_answer) dX11_crisis_72 lX11_177 mX11_answer (by decide) rfl rfl rfl (c_X11_answer ?_ d) rfl rfl (by omega) (by decide) (Nat.le_of_ble_eq_true rfl)
          show AW _ _ _ _ _ _ _
          refine a_iret dX11_crisis_75 rfl ?_
          exact fin_s hQ hI hG (S' := (hupd (tS T) j_5 (tS T 2 j_5 - j2))) (by unfold sp_crisis; rw [if_pos (by omega), if_pos (by omega), idx_nI (show j_5 < 2 ^ 31 by omega), idx_nI (show j2 < 2 ^ 31 by omega), if_neg h_43]; simp [hupd]) hV_59 rfl rfl (fun k hk => funext fun j => siN rfl (by omega)) rfl
        · refine a_aload_n rfl dX11_crisis_46 ?_
          refine n_bipush 9 rfl dX11_crisis_47 ?_
          refine n_callV (mi' := miX11_none) dX11_crisis_49 lX11_131 mX11_none (by decide) rfl rfl rfl (c_X11_none ?_ d) rfl rfl (by omega) (by decide) (Nat.le_of_ble_eq_true rfl)
          show AW _ _ _ _ _ _ _
          refine a_iret dX11_crisis_52 rfl ?_
          exact fin_st hQ hI (by unfold sp_crisis; rw [if_pos (by omega), if_pos (by omega), idx_nI (show j_5 < 2 ^ 31 by omega), if_pos h_43])
      · refine a_aload_n rfl dX11_crisis_28 ?_
        refine n_iconst 5 rfl dX11_crisis_29 ?_
        refine n_callV (mi' := miX11_none) dX11_crisis_30 lX11_131 mX11_none (by decide) rfl rfl rfl (c_X11_none ?_ d) rfl rfl (by omega) (by decide) (Nat.le_of_ble_eq_true rfl)
        show AW _ _ _ _ _ _ _
        refine a_iret dX11_crisis_33 rfl ?_
        exact fin_st hQ hI (by unfold sp_crisis; rw [if_pos (by omega), if_neg (by omega)])
  · show AW _ _ _ _ _ _ _
    have h_5 := not_inR h_5 (by omega)
    refine n_if_ne 17 (by decide) dX11_crisis_8 (by decide) (fun h => absurd h (by decide)) (fun _ => ?_)
    refine a_aload_n rfl dX11_crisis_11 ?_
    refine n_iconst 2 rfl dX11_crisis_12 ?_
    refine n_callV (mi' := miX11_none) dX11_crisis_13 lX11_131 mX11_none (by decide) rfl rfl rfl (c_X11_none ?_ d) rfl rfl (by omega) (by decide) (Nat.le_of_ble_eq_true rfl)
    show AW _ _ _ _ _ _ _
    refine a_iret dX11_crisis_16 rfl ?_
    exact fin_st hQ hI (by unfold sp_crisis; rw [if_neg (by omega)])

theorem WF_day2 {S : ST} (h : WF S) {n : Nat} (hn : S 0 1 + n ≤ 20000) : WF (dayN S n) := by
  have hp : ∀ j, j < S 0 2 → pdI S (S 2) n j ≤ 100 := fun j hj => pdI_le (fun j hj => WF_clear h j hj) n j hj
  obtain ⟨b0, b1, b2, b3, b4, b5, b6, b7, b8, b9, b10, b11, b12, b13, b14, b15, b16, b17⟩ := h
  exact ⟨b0, hn, b2, b3, b4, b5, b6, hp, b8, b9, b10, b11, b12, b13, b14, b15, b16, b17⟩

set_option maxRecDepth 100000 in
set_option maxHeartbeats 800000 in
theorem c_X11_day {M : Mm} {T : TT} (hI : IX M T) (hG : TG T) {x : Int32} {Q : Option Value → Mm → Prop} (hQ : ∀ M', IX M' (sp_day x T).2 → keM M M' → Q (some (.int (sp_day x T).1)) M') (d : Nat) : AMt miX11_day (d + 3) [.ref 0, .int x] M Q := by
  refine AMt.of (by decide) (Nat.le_of_ble_eq_true rfl) ?_
  show AW miX11_day (d + 3) (mxA Q) 0 [(0, some (.ref 0)), (1, some (.int x))] [] M
  have hV : VX 17 M (tS T) := hI.1.1
  have hF : WF (tS T) := hG.1.1
  have hm := WF_m hF
  have hh := WF_h hF
  have hs := WF_s hF
  have hn := WF_n hF
  have hdy : tS T 0 1 ≤ 9999 := hG.1.2.2.2.2.1
  refine a_iload_n rfl dX11_day_0 ?_
  refine n_iconst 1 rfl dX11_day_1 ?_
  refine r_icmp_lt 12 (by omega) dX11_day_2 (by decide) (fun h_2 => ?_) (fun h_2 => ?_)
  · refine a_aload_n rfl dX11_day_12 ?_
    refine n_iconst 5 rfl dX11_day_13 ?_
    refine n_callV (mi' := miX11_none) dX11_day_14 lX11_131 mX11_none (by decide) rfl rfl rfl (c_X11_none ?_ d) rfl rfl (by omega) (by decide) (Nat.le_of_ble_eq_true rfl)
    show AW _ _ _ _ _ _ _
    refine a_iret dX11_day_17 rfl ?_
    exact fin_st hQ hI (by unfold sp_day; rw [if_neg (by omega)])
  · refine a_iload_n rfl dX11_day_5 ?_
    refine n_sipush 999 rfl dX11_day_6 ?_
    refine r_icmp_le 18 (by omega) dX11_day_9 (by decide) (fun h_9 => ?_) (fun h_9 => ?_)
    · obtain ⟨j1, hj1, rfl⟩ := inR_of (x := x) (m := 1000) (by omega) (by omega) (by omega)
      have t_j1 : (nI j1).toInt = (j1 : Int) := nI_toInt (by omega)
      refine a_aload_n rfl dX11_day_18 ?_
      refine a_geta dX11_day_19 fX11_58 (by decide) rfl rfl ?_
      refine a_iload_n rfl dX11_day_22 ?_
      refine n_callV (mi' := miX6_hasDays) dX11_day_23 lX11_286 mX6_hasDays (by decide) rfl rfl rfl (c_X6_hasDays isW17 hV hF (by omega) (by omega) (fun h_23 => ?_) (fun h_23 => ?_) d) rfl rfl (by omega) (by decide) (Nat.le_of_ble_eq_true rfl)
      · show AW _ _ _ _ _ _ _
        refine n_if_ne 36 (by decide) dX11_day_26 (by decide) (fun _ => ?_) (fun h => absurd h (by decide))
        refine a_aload_n rfl dX11_day_36 ?_
        refine a_geta dX11_day_37 fX11_58 (by decide) rfl rfl ?_
        refine a_iload_n rfl dX11_day_40 ?_
        refine n_callV (mi' := miX6_goDays) dX11_day_41 lX11_289 mX6_goDays (by decide) rfl rfl rfl (c_X6_goDays isW17 hV hF (by omega) (fun M_41 hV_41 hfr_41 => ?_) d) rfl rfl (by omega) (by decide) (Nat.le_of_ble_eq_true rfl)
        show AW _ _ _ _ _ _ _
        have c02 : (dayN (tS T) j1) 0 2 = tS T 0 2 := rfl
        have c03 : (dayN (tS T) j1) 0 3 = tS T 0 3 := rfl
        have c04 : (dayN (tS T) j1) 0 4 = tS T 0 4 := rfl
        have c05 : (dayN (tS T) j1) 0 5 = tS T 0 5 := rfl
        refine a_aload_n rfl dX11_day_44 ?_
        refine a_aload_n rfl dX11_day_45 ?_
        refine a_geta dX11_day_46 fX11_58 (by decide) rfl rfl ?_
        refine a_aload_n rfl dX11_day_49 ?_
        refine a_geta dX11_day_50 fX11_58 (by decide) rfl rfl ?_
        refine a_geta dX11_day_53 fX11_216 (by decide) rfl rfl ?_
        refine n_callV (mi' := miX6_downSet) dX11_day_56 lX11_226 mX6_downSet (by decide) rfl rfl rfl (c_X6_downSet isW17 hV_41 (WF_day2 hF (by omega)) (f := (dayN (tS T) j1) 2) (by decide) rfl (fun j hj => VX_a3 hV_41 hj) (fun j hj => WF_clear (WF_day2 hF (by omega)) j hj) ?_ d) rfl rfl (by omega) (by decide) (Nat.le_of_ble_eq_true rfl)
        show AW _ _ _ _ _ _ _
        refine n_callV (mi' := miX11_answer) dX11_day_59 lX11_177 mX11_answer (by decide) rfl rfl rfl (c_X11_answer ?_ d) rfl rfl (by omega) (by decide) (Nat.le_of_ble_eq_true rfl)
        show AW _ _ _ _ _ _ _
        refine a_iret dX11_day_62 rfl ?_
        exact fin_s hQ hI hG (S' := (dayN (tS T) j1)) (by unfold sp_day; rw [if_pos (by omega), if_pos (by omega), idx_nI (show j1 < 2 ^ 31 by omega)]; rfl) hV_41 rfl rfl (fun k hk => funext fun j => hfr_41.1 k j (by omega)) hfr_41.2
      · show AW _ _ _ _ _ _ _
        refine n_if_ne 36 (by decide) dX11_day_26 (by decide) (fun h => absurd h (by decide)) (fun _ => ?_)
        refine a_aload_n rfl dX11_day_29 ?_
        refine n_bipush 7 rfl dX11_day_30 ?_
        refine n_callV (mi' := miX11_none) dX11_day_32 lX11_131 mX11_none (by decide) rfl rfl rfl (c_X11_none ?_ d) rfl rfl (by omega) (by decide) (Nat.le_of_ble_eq_true rfl)
        show AW _ _ _ _ _ _ _
        refine a_iret dX11_day_35 rfl ?_
        exact fin_st hQ hI (by unfold sp_day; rw [if_pos (by omega), if_neg (by omega)])
    · refine a_aload_n rfl dX11_day_12 ?_
      refine n_iconst 5 rfl dX11_day_13 ?_
      refine n_callV (mi' := miX11_none) dX11_day_14 lX11_131 mX11_none (by decide) rfl rfl rfl (c_X11_none ?_ d) rfl rfl (by omega) (by decide) (Nat.le_of_ble_eq_true rfl)
      show AW _ _ _ _ _ _ _
      refine a_iret dX11_day_17 rfl ?_
      exact fin_st hQ hI (by unfold sp_day; rw [if_neg (by omega)])

set_option maxRecDepth 100000 in
set_option maxHeartbeats 800000 in
theorem c_X11_bring {M : Mm} {T : TT} (hI : IX M T) (hG : TG T) {k : Int32} {Q : Option Value → Mm → Prop} (hQ : ∀ M', IX M' (sp_bring k T).2 → keM M M' → Q (some (.int (sp_bring k T).1)) M') (d : Nat) : AMt miX11_bring (d + 3) [.ref 0, .int k] M Q := by
  refine AMt.of (by decide) (Nat.le_of_ble_eq_true rfl) ?_
  show AW miX11_bring (d + 3) (mxA Q) 0 [(0, some (.ref 0)), (1, some (.int k))] [] M
  have hV : VX 17 M (tS T) := hI.1.1
  have hF : WF (tS T) := hG.1.1
  have hm := WF_m hF
  have hh := WF_h hF
  have hs := WF_s hF
  have hn := WF_n hF
  refine a_aload_n rfl dX11_bring_0 ?_
  refine a_geta dX11_bring_1 fX11_58 (by decide) rfl rfl ?_
  refine a_iload_n rfl dX11_bring_4 ?_
  refine n_callV (mi' := miX6_hasNews) dX11_bring_5 lX11_277 mX6_hasNews (by decide) rfl rfl rfl (c_X6_hasNews isW17 hV hF (fun j_5 h_5 e_5 => ?_) (fun h_5 => ?_) d) rfl rfl (by omega) (by decide) (Nat.le_of_ble_eq_true rfl)
  · show AW _ _ _ _ _ _ _
    subst e_5
    have t_5 : (nI j_5).toInt = (j_5 : Int) := nI_toInt (by omega)
    refine n_if_ne 17 (by decide) dX11_bring_8 (by decide) (fun _ => ?_) (fun h => absurd h (by decide))
    refine a_aload_n rfl dX11_bring_17 ?_
    refine a_geta dX11_bring_18 fX11_58 (by decide) rfl rfl ?_
    refine a_iload_n rfl dX11_bring_21 ?_
    refine n_callV (mi' := miX6_canCome) dX11_bring_22 lX11_292 mX6_canCome (by decide) rfl rfl rfl (c_X6_canCome isW17 hV hF (by omega) (fun h_22 hb_22 hc_22 => ?_) (fun h_22 => ?_) d) rfl rfl (by omega) (by decide) (Nat.le_of_ble_eq_true rfl)
    · show AW _ _ _ _ _ _ _
      have hb_22 := (came_bit hF (by omega)).mp hb_22
      refine n_if_ne 35 (by decide) dX11_bring_25 (by decide) (fun _ => ?_) (fun h => absurd h (by decide))
      have hab := WF_about hF j_5 (by omega)
      refine a_aload_n rfl dX11_bring_35 ?_
      refine a_geta dX11_bring_36 fX11_58 (by decide) rfl rfl ?_
      refine a_iload_n rfl dX11_bring_39 ?_
      refine n_callV (mi' := miX6_come) dX11_bring_40 lX11_295 mX6_come (by decide) rfl rfl rfl (c_X6_come isW17 hV hF (by omega) (fun hV_40 => ?_) d) rfl rfl (by omega) (by decide) (Nat.le_of_ble_eq_true rfl)
      show AW _ _ _ _ _ _ _
      have c02 : (comeN (tS T) j_5) 0 2 = tS T 0 2 := rfl
      have c03 : (comeN (tS T) j_5) 0 3 = tS T 0 3 := rfl
      have c04 : (comeN (tS T) j_5) 0 4 = tS T 0 4 := rfl
      have c05 : (comeN (tS T) j_5) 0 5 = tS T 0 5 := rfl
      have c09 : (comeN (tS T) j_5) 9 j_5 = tS T 9 j_5 := rfl
      refine a_aload_n rfl dX11_bring_43 ?_
      refine a_aload_n rfl dX11_bring_44 ?_
      refine a_geta dX11_bring_45 fX11_58 (by decide) rfl rfl ?_
      refine a_geta dX11_bring_48 fX11_216 (by decide) rfl rfl ?_
      refine a_aload_n rfl dX11_bring_51 ?_
      refine a_geta dX11_bring_52 fX11_58 (by decide) rfl rfl ?_
      refine a_geta dX11_bring_55 fX11_280 (by decide) rfl rfl ?_
      refine a_iload_n rfl dX11_bring_58 ?_
      refine v_iald (by omega) (VX_a11 hV_40 (by omega)) (by decide) rfl (by decide) dX11_bring_59 ?_
      refine v_iald (by omega) (VX_a3 hV_40 (by omega)) (by decide) rfl (by decide) dX11_bring_60 ?_
      refine n_callV (mi' := miX11_answer) dX11_bring_61 lX11_177 mX11_answer (by decide) rfl rfl rfl (c_X11_answer ?_ d) rfl rfl (by omega) (by decide) (Nat.le_of_ble_eq_true rfl)
      show AW _ _ _ _ _ _ _
      refine a_iret dX11_bring_64 rfl ?_
      exact fin_s hQ hI hG (S' := (comeN (tS T) j_5)) (by unfold sp_bring; rw [if_pos (by omega), idx_nI (show j_5 < 2 ^ 31 by omega), if_pos ⟨hb_22, hc_22⟩]; rfl) hV_40 rfl rfl (fun k hk => funext fun j => siN (siN rfl (by omega)) (by omega)) rfl
    · show AW _ _ _ _ _ _ _
      rw [came_bit hF (by omega)] at h_22
      refine n_if_ne 35 (by decide) dX11_bring_25 (by decide) (fun h => absurd h (by decide)) (fun _ => ?_)
      refine a_aload_n rfl dX11_bring_28 ?_
      refine n_bipush 9 rfl dX11_bring_29 ?_
      refine n_callV (mi' := miX11_none) dX11_bring_31 lX11_131 mX11_none (by decide) rfl rfl rfl (c_X11_none ?_ d) rfl rfl (by omega) (by decide) (Nat.le_of_ble_eq_true rfl)
      show AW _ _ _ _ _ _ _
      refine a_iret dX11_bring_34 rfl ?_
      exact fin_st hQ hI (by unfold sp_bring; rw [if_pos (by omega), idx_nI (show j_5 < 2 ^ 31 by omega), if_neg (by omega)])
  · show AW _ _ _ _ _ _ _
    have h_5 := not_inR h_5 (by omega)
    refine n_if_ne 17 (by decide) dX11_bring_8 (by decide) (fun h => absurd h (by decide)) (fun _ => ?_)
    refine a_aload_n rfl dX11_bring_11 ?_
    refine n_iconst 2 rfl dX11_bring_12 ?_
    refine n_callV (mi' := miX11_none) dX11_bring_13 lX11_131 mX11_none (by decide) rfl rfl rfl (c_X11_none ?_ d) rfl rfl (by omega) (by decide) (Nat.le_of_ble_eq_true rfl)
    show AW _ _ _ _ _ _ _
    refine a_iret dX11_bring_16 rfl ?_
    exact fin_st hQ hI (by unfold sp_bring; rw [if_neg (by omega)])

theorem WF_turn {S : ST} (h : WF S) {p k : Nat} (hk : k < S 0 2) : WF (upS2 S 7 p k) := by
  obtain ⟨b0, b1, b2, b3, b4, b5, b6, b7, b8, b9, b10, b11, b12, b13, b14, b15, b16, b17⟩ := h
  refine ⟨b0, b1, b2, b3, b4, b5, b6, b7, b8, b9, b10, b11, fun j hj => ?_, b13, b14, b15, b16, b17⟩
  show (if 7 = 7 ∧ j = p then k else S 7 j) < S 0 2
  by_cases e : j = p
  · rw [if_pos ⟨rfl, e⟩]; exact hk
  · rw [if_neg (fun q => e q.2)]; exact b12 j hj

set_option maxRecDepth 100000 in
set_option maxHeartbeats 800000 in
theorem c_X11_turn {M : Mm} {T : TT} (hI : IX M T) (hG : TG T) {p : Int32} {k : Int32} {Q : Option Value → Mm → Prop} (hQ : ∀ M', IX M' (sp_turn p k T).2 → keM M M' → Q (some (.int (sp_turn p k T).1)) M') (d : Nat) : AMt miX11_turn (d + 3) [.ref 0, .int p, .int k] M Q := by
  refine AMt.of (by decide) (Nat.le_of_ble_eq_true rfl) ?_
  show AW miX11_turn (d + 3) (mxA Q) 0 [(0, some (.ref 0)), (1, some (.int p)), (2, some (.int k))] [] M
  have hV : VX 17 M (tS T) := hI.1.1
  have hF : WF (tS T) := hG.1.1
  have hm := WF_m hF
  have hh := WF_h hF
  have hs := WF_s hF
  have hn := WF_n hF
  refine a_aload_n rfl dX11_turn_0 ?_
  refine a_geta dX11_turn_1 fX11_58 (by decide) rfl rfl ?_
  refine a_iload_n rfl dX11_turn_4 ?_
  refine n_callV (mi' := miX6_hasSitter) dX11_turn_5 lX11_259 mX6_hasSitter (by decide) rfl rfl rfl (c_X6_hasSitter isW17 hV hF (fun j_5 h_5 e_5 => ?_) (fun h_5 => ?_) d) rfl rfl (by omega) (by decide) (Nat.le_of_ble_eq_true rfl)
  · show AW _ _ _ _ _ _ _
    subst e_5
    have t_5 : (nI j_5).toInt = (j_5 : Int) := nI_toInt (by omega)
    refine n_if_eq 22 (by decide) dX11_turn_8 (by decide) (fun h => absurd h (by decide)) (fun _ => ?_)
    refine a_aload_n rfl dX11_turn_11 ?_
    refine a_geta dX11_turn_12 fX11_58 (by decide) rfl rfl ?_
    refine a_iload_n rfl dX11_turn_15 ?_
    refine n_callV (mi' := miX6_hasMatter) dX11_turn_16 lX11_232 mX6_hasMatter (by decide) rfl rfl rfl (c_X6_hasMatter isW17 hV hF (fun j_16 h_16 e_16 => ?_) (fun h_16 => ?_) d) rfl rfl (by omega) (by decide) (Nat.le_of_ble_eq_true rfl)
    · show AW _ _ _ _ _ _ _
      subst e_16
      have t_16 : (nI j_16).toInt = (j_16 : Int) := nI_toInt (by omega)
      refine n_if_ne 28 (by decide) dX11_turn_19 (by decide) (fun _ => ?_) (fun h => absurd h (by decide))
      have hsf := WF_for hF j_5 (by omega)
      refine a_aload_n rfl dX11_turn_28 ?_
      refine a_geta dX11_turn_29 fX11_58 (by decide) rfl rfl ?_
      refine a_geta dX11_turn_32 fX11_268 (by decide) rfl rfl ?_
      refine a_iload_n rfl dX11_turn_35 ?_
      refine v_iald (by omega) (VX_a9 hV (by omega)) (by decide) rfl (by decide) dX11_turn_36 ?_
      refine a_iload_n rfl dX11_turn_37 ?_
      refine n_icmp_ne 48 (by omega) (by omega) dX11_turn_38 (by decide) (fun h_38 => ?_) (fun h_38 => ?_)
      · refine a_aload_n rfl dX11_turn_48 ?_
        refine a_geta dX11_turn_49 fX11_58 (by decide) rfl rfl ?_
        refine a_geta dX11_turn_52 fX11_268 (by decide) rfl rfl ?_
        refine a_iload_n rfl dX11_turn_55 ?_
        refine a_iload_n rfl dX11_turn_56 ?_
        refine n_iast (by omega) (by decide) rfl (by decide) dX11_turn_57 ?_
        have hV_58 := VX_set7 hV (k := j_5) (v := j_16) (by omega)
        have c02 : (upS2 (tS T) 7 j_5 j_16) 0 2 = tS T 0 2 := rfl
        have c03 : (upS2 (tS T) 7 j_5 j_16) 0 3 = tS T 0 3 := rfl
        have c04 : (upS2 (tS T) 7 j_5 j_16) 0 4 = tS T 0 4 := rfl
        have c05 : (upS2 (tS T) 7 j_5 j_16) 0 5 = tS T 0 5 := rfl
        have hF_58 := WF_turn hF (p := j_5) (k := j_16) (by omega)
        refine a_aload_n rfl dX11_turn_58 ?_
        refine a_aload_n rfl dX11_turn_59 ?_
        refine a_geta dX11_turn_60 fX11_58 (by decide) rfl rfl ?_
        refine a_iload_n rfl dX11_turn_63 ?_
        refine n_callV (mi' := miX6_heightNow) dX11_turn_64 lX11_274 mX6_heightNow (by decide) rfl rfl rfl (c_X6_heightNow (w := 17) isW17 (S := upS2 (tS T) 7 j_5 j_16) (p := j_5) hV_58 hF_58 (by omega) ?_ d) rfl rfl (by omega) (by decide) (Nat.le_of_ble_eq_true rfl)
        show AW _ _ _ _ _ _ _
        refine n_callV (mi' := miX11_answer) dX11_turn_67 lX11_177 mX11_answer (by decide) rfl rfl rfl (c_X11_answer ?_ d) rfl rfl (by omega) (by decide) (Nat.le_of_ble_eq_true rfl)
        show AW _ _ _ _ _ _ _
        refine a_iret dX11_turn_70 rfl ?_
        exact fin_s hQ hI hG (S' := (upS2 (tS T) 7 j_5 j_16)) (by unfold sp_turn; rw [if_pos (by omega), idx_nI (show j_5 < 2 ^ 31 by omega), idx_nI (show j_16 < 2 ^ 31 by omega), if_neg h_38]; rfl) hV_58 rfl rfl (fun k hk => funext fun j => siN rfl (by omega)) rfl
      · refine a_aload_n rfl dX11_turn_41 ?_
        refine n_bipush 9 rfl dX11_turn_42 ?_
        refine n_callV (mi' := miX11_none) dX11_turn_44 lX11_131 mX11_none (by decide) rfl rfl rfl (c_X11_none ?_ d) rfl rfl (by omega) (by decide) (Nat.le_of_ble_eq_true rfl)
        show AW _ _ _ _ _ _ _
        refine a_iret dX11_turn_47 rfl ?_
        exact fin_st hQ hI (by unfold sp_turn; rw [if_pos (by omega), idx_nI (show j_5 < 2 ^ 31 by omega), idx_nI (show j_16 < 2 ^ 31 by omega), if_pos h_38])
    · show AW _ _ _ _ _ _ _
      have h_16 := not_inR h_16 (by omega)
      refine n_if_ne 28 (by decide) dX11_turn_19 (by decide) (fun h => absurd h (by decide)) (fun _ => ?_)
      refine a_aload_n rfl dX11_turn_22 ?_
      refine n_iconst 2 rfl dX11_turn_23 ?_
      refine n_callV (mi' := miX11_none) dX11_turn_24 lX11_131 mX11_none (by decide) rfl rfl rfl (c_X11_none ?_ d) rfl rfl (by omega) (by decide) (Nat.le_of_ble_eq_true rfl)
      show AW _ _ _ _ _ _ _
      refine a_iret dX11_turn_27 rfl ?_
      exact fin_st hQ hI (by unfold sp_turn; rw [if_neg (by omega)])
  · show AW _ _ _ _ _ _ _
    have h_5 := not_inR h_5 (by omega)
    refine n_if_eq 22 (by decide) dX11_turn_8 (by decide) (fun _ => ?_) (fun h => absurd h (by decide))
    refine a_aload_n rfl dX11_turn_22 ?_
    refine n_iconst 2 rfl dX11_turn_23 ?_
    refine n_callV (mi' := miX11_none) dX11_turn_24 lX11_131 mX11_none (by decide) rfl rfl rfl (c_X11_none ?_ d) rfl rfl (by omega) (by decide) (Nat.le_of_ble_eq_true rfl)
    show AW _ _ _ _ _ _ _
    refine a_iret dX11_turn_27 rfl ?_
    exact fin_st hQ hI (by unfold sp_turn; rw [if_neg (by omega)])

set_option maxRecDepth 100000 in
set_option maxHeartbeats 800000 in
theorem c_X11_hear {M : Mm} {T : TT} (hI : IX M T) (hG : TG T) {k : Int32} {x : Int32} {Q : Option Value → Mm → Prop} (hQ : ∀ M', IX M' (sp_hear k x T).2 → keM M M' → Q (some (.int (sp_hear k x T).1)) M') (d : Nat) : AMt miX11_hear (d + 3) [.ref 0, .int k, .int x] M Q := by
  refine AMt.of (by decide) (Nat.le_of_ble_eq_true rfl) ?_
  show AW miX11_hear (d + 3) (mxA Q) 0 [(0, some (.ref 0)), (1, some (.int k)), (2, some (.int x))] [] M
  have hV : VX 17 M (tS T) := hI.1.1
  have hF : WF (tS T) := hG.1.1
  have hm := WF_m hF
  have hh := WF_h hF
  have hs := WF_s hF
  have hn := WF_n hF
  refine a_aload_n rfl dX11_hear_0 ?_
  refine a_geta dX11_hear_1 fX11_58 (by decide) rfl rfl ?_
  refine a_iload_n rfl dX11_hear_4 ?_
  refine n_callV (mi' := miX6_hasMatter) dX11_hear_5 lX11_232 mX6_hasMatter (by decide) rfl rfl rfl (c_X6_hasMatter isW17 hV hF (fun j_5 h_5 e_5 => ?_) (fun h_5 => ?_) d) rfl rfl (by omega) (by decide) (Nat.le_of_ble_eq_true rfl)
  · show AW _ _ _ _ _ _ _
    subst e_5
    have t_5 : (nI j_5).toInt = (j_5 : Int) := nI_toInt (by omega)
    refine n_if_ne 17 (by decide) dX11_hear_8 (by decide) (fun _ => ?_) (fun h => absurd h (by decide))
    refine a_iload_n rfl dX11_hear_17 ?_
    refine n_iconst 1 rfl dX11_hear_18 ?_
    refine r_icmp_lt 28 (by omega) dX11_hear_19 (by decide) (fun h_19 => ?_) (fun h_19 => ?_)
    · refine a_aload_n rfl dX11_hear_28 ?_
      refine n_iconst 5 rfl dX11_hear_29 ?_
      refine n_callV (mi' := miX11_none) dX11_hear_30 lX11_131 mX11_none (by decide) rfl rfl rfl (c_X11_none ?_ d) rfl rfl (by omega) (by decide) (Nat.le_of_ble_eq_true rfl)
      show AW _ _ _ _ _ _ _
      refine a_iret dX11_hear_33 rfl ?_
      exact fin_st hQ hI (by unfold sp_hear; rw [if_pos (by omega), if_neg (by omega)])
    · refine a_iload_n rfl dX11_hear_22 ?_
      refine n_bipush 100 rfl dX11_hear_23 ?_
      refine r_icmp_le 34 (by omega) dX11_hear_25 (by decide) (fun h_25 => ?_) (fun h_25 => ?_)
      · obtain ⟨j2, hj2, rfl⟩ := inR_of (x := x) (m := 101) (by omega) (by omega) (by omega)
        have t_j2 : (nI j2).toInt = (j2 : Int) := nI_toInt (by omega)
        refine a_aload_n rfl dX11_hear_34 ?_
        refine a_geta dX11_hear_35 fX11_58 (by decide) rfl rfl ?_
        refine g_i (VX_5 hV) (by decide) rfl fX11_207 rfl dX11_hear_38 ?_
        refine n_bipush 8 rfl dX11_hear_41 ?_
        refine n_icmp_lt 53 (by omega) (by omega) dX11_hear_43 (by decide) (fun h_43 => ?_) (fun h_43 => ?_)
        · refine a_aload_n rfl dX11_hear_53 ?_
          refine a_geta dX11_hear_54 fX11_58 (by decide) rfl rfl ?_
          refine a_iload_n rfl dX11_hear_57 ?_
          refine a_iload_n rfl dX11_hear_58 ?_
          refine n_callV (mi' := miX6_addNews) dX11_hear_59 lX11_306 mX6_addNews (by decide) rfl rfl rfl (c_X6_addNews isW17 hV hF (by omega) (fun hV_59 => ?_) d) rfl rfl (by omega) (by decide) (Nat.le_of_ble_eq_true rfl)
          show AW _ _ _ _ _ _ _
          have c05 : (addNN (tS T) j_5 j2) 0 5 = tS T 0 5 + 1 := rfl
          refine a_aload_n rfl dX11_hear_62 ?_
          refine a_aload_n rfl dX11_hear_63 ?_
          refine a_geta dX11_hear_64 fX11_58 (by decide) rfl rfl ?_
          refine g_i (VX_5 hV_59) (by decide) rfl fX11_207 rfl dX11_hear_67 ?_
          refine n_iconst 1 rfl dX11_hear_70 ?_
          refine n_isub (by omega) dX11_hear_71 ?_
          refine n_callV (mi' := miX11_answer) dX11_hear_72 lX11_177 mX11_answer (by decide) rfl rfl rfl (c_X11_answer ?_ d) rfl rfl (by omega) (by decide) (Nat.le_of_ble_eq_true rfl)
          show AW _ _ _ _ _ _ _
          refine a_iret dX11_hear_75 rfl ?_
          exact fin_s hQ hI hG (S' := (addNN (tS T) j_5 j2)) (by unfold sp_hear; rw [if_pos (by omega), if_pos (by omega), if_neg (by omega), idx_nI (show j_5 < 2 ^ 31 by omega), idx_nI (show j2 < 2 ^ 31 by omega)]; rfl) hV_59 rfl rfl (fun k hk => funext fun j => siN (siN (siN rfl (by omega)) (by omega)) (by omega)) rfl
        · refine a_aload_n rfl dX11_hear_46 ?_
          refine n_bipush 7 rfl dX11_hear_47 ?_
          refine n_callV (mi' := miX11_none) dX11_hear_49 lX11_131 mX11_none (by decide) rfl rfl rfl (c_X11_none ?_ d) rfl rfl (by omega) (by decide) (Nat.le_of_ble_eq_true rfl)
          show AW _ _ _ _ _ _ _
          refine a_iret dX11_hear_52 rfl ?_
          exact fin_st hQ hI (by unfold sp_hear; rw [if_pos (by omega), if_pos (by omega), if_pos (by omega)])
      · refine a_aload_n rfl dX11_hear_28 ?_
        refine n_iconst 5 rfl dX11_hear_29 ?_
        refine n_callV (mi' := miX11_none) dX11_hear_30 lX11_131 mX11_none (by decide) rfl rfl rfl (c_X11_none ?_ d) rfl rfl (by omega) (by decide) (Nat.le_of_ble_eq_true rfl)
        show AW _ _ _ _ _ _ _
        refine a_iret dX11_hear_33 rfl ?_
        exact fin_st hQ hI (by unfold sp_hear; rw [if_pos (by omega), if_neg (by omega)])
  · show AW _ _ _ _ _ _ _
    have h_5 := not_inR h_5 (by omega)
    refine n_if_ne 17 (by decide) dX11_hear_8 (by decide) (fun h => absurd h (by decide)) (fun _ => ?_)
    refine a_aload_n rfl dX11_hear_11 ?_
    refine n_iconst 2 rfl dX11_hear_12 ?_
    refine n_callV (mi' := miX11_none) dX11_hear_13 lX11_131 mX11_none (by decide) rfl rfl rfl (c_X11_none ?_ d) rfl rfl (by omega) (by decide) (Nat.le_of_ble_eq_true rfl)
    show AW _ _ _ _ _ _ _
    refine a_iret dX11_hear_16 rfl ?_
    exact fin_st hQ hI (by unfold sp_hear; rw [if_neg (by omega)])

theorem boundN_t {S : ST} {a b : Nat} (h : ∃ i, i < S 0 3 ∧ S 3 i = a ∧ S 4 i = b) : boundN S a b = true := by
  obtain ⟨i, h1, h2, h3⟩ := h
  unfold boundN
  rw [List.any_eq_true]
  exact ⟨i, List.mem_range.mpr h1, by simp [h2, h3]⟩
theorem boundN_f {S : ST} {a b : Nat} (h : ∀ i, i < S 0 3 → ¬ (S 3 i = a ∧ S 4 i = b)) : boundN S a b = false := by
  unfold boundN
  rw [List.any_eq_false]
  intro i hi
  have := h i (List.mem_range.mp hi)
  simpa using fun h1 h2 => this ⟨h1, h2⟩

set_option maxRecDepth 100000 in
set_option maxHeartbeats 800000 in
theorem c_X11_bind {M : Mm} {T : TT} (hI : IX M T) (hG : TG T) {k : Int32} {b : Int32} {Q : Option Value → Mm → Prop} (hQ : ∀ M', IX M' (sp_bind k b T).2 → keM M M' → Q (some (.int (sp_bind k b T).1)) M') (d : Nat) : AMt miX11_bind (d + 3) [.ref 0, .int k, .int b] M Q := by
  refine AMt.of (by decide) (Nat.le_of_ble_eq_true rfl) ?_
  show AW miX11_bind (d + 3) (mxA Q) 0 [(0, some (.ref 0)), (1, some (.int k)), (2, some (.int b))] [] M
  have hV : VX 17 M (tS T) := hI.1.1
  have hF : WF (tS T) := hG.1.1
  have hm := WF_m hF
  have hh := WF_h hF
  have hs := WF_s hF
  have hn := WF_n hF
  refine a_aload_n rfl dX11_bind_0 ?_
  refine a_geta dX11_bind_1 fX11_58 (by decide) rfl rfl ?_
  refine a_iload_n rfl dX11_bind_4 ?_
  refine n_callV (mi' := miX6_hasMatter) dX11_bind_5 lX11_232 mX6_hasMatter (by decide) rfl rfl rfl (c_X6_hasMatter isW17 hV hF (fun j_5 h_5 e_5 => ?_) (fun h_5 => ?_) d) rfl rfl (by omega) (by decide) (Nat.le_of_ble_eq_true rfl)
  · show AW _ _ _ _ _ _ _
    subst e_5
    have t_5 : (nI j_5).toInt = (j_5 : Int) := nI_toInt (by omega)
    refine n_if_eq 22 (by decide) dX11_bind_8 (by decide) (fun h => absurd h (by decide)) (fun _ => ?_)
    refine a_aload_n rfl dX11_bind_11 ?_
    refine a_geta dX11_bind_12 fX11_58 (by decide) rfl rfl ?_
    refine a_iload_n rfl dX11_bind_15 ?_
    refine n_callV (mi' := miX6_hasMatter) dX11_bind_16 lX11_232 mX6_hasMatter (by decide) rfl rfl rfl (c_X6_hasMatter isW17 hV hF (fun j_16 h_16 e_16 => ?_) (fun h_16 => ?_) d) rfl rfl (by omega) (by decide) (Nat.le_of_ble_eq_true rfl)
    · show AW _ _ _ _ _ _ _
      subst e_16
      have t_16 : (nI j_16).toInt = (j_16 : Int) := nI_toInt (by omega)
      refine n_if_ne 28 (by decide) dX11_bind_19 (by decide) (fun _ => ?_) (fun h => absurd h (by decide))
      refine a_iload_n rfl dX11_bind_28 ?_
      refine a_iload_n rfl dX11_bind_29 ?_
      refine n_icmp_ne 39 (by omega) (by omega) dX11_bind_30 (by decide) (fun h_30 => ?_) (fun h_30 => ?_)
      · refine a_aload_n rfl dX11_bind_39 ?_
        refine a_geta dX11_bind_40 fX11_58 (by decide) rfl rfl ?_
        refine g_i (VX_3 hV) (by decide) rfl fX11_204 rfl dX11_bind_43 ?_
        refine n_bipush 10 rfl dX11_bind_46 ?_
        refine n_icmp_lt 58 (by omega) (by omega) dX11_bind_48 (by decide) (fun h_48 => ?_) (fun h_48 => ?_)
        · refine a_aload_n rfl dX11_bind_58 ?_
          refine a_geta dX11_bind_59 fX11_58 (by decide) rfl rfl ?_
          refine a_iload_n rfl dX11_bind_62 ?_
          refine a_iload_n rfl dX11_bind_63 ?_
          refine n_callV (mi' := miX6_isHeldBy) dX11_bind_64 lX11_309 mX6_isHeldBy (by decide) rfl rfl rfl (c_X6_isHeldBy isW17 hV hF (by omega) (by omega) (fun h_64 => ?_) (fun h_64 => ?_) d) rfl rfl (by omega) (by decide) (Nat.le_of_ble_eq_true rfl)
          · show AW _ _ _ _ _ _ _
            refine n_if_eq 77 (by decide) dX11_bind_67 (by decide) (fun h => absurd h (by decide)) (fun _ => ?_)
            refine a_aload_n rfl dX11_bind_70 ?_
            refine n_bipush 9 rfl dX11_bind_71 ?_
            refine n_callV (mi' := miX11_none) dX11_bind_73 lX11_131 mX11_none (by decide) rfl rfl rfl (c_X11_none ?_ d) rfl rfl (by omega) (by decide) (Nat.le_of_ble_eq_true rfl)
            show AW _ _ _ _ _ _ _
            refine a_iret dX11_bind_76 rfl ?_
            exact fin_st hQ hI (by unfold sp_bind; rw [if_pos (by omega), idx_nI (show j_5 < 2 ^ 31 by omega), idx_nI (show j_16 < 2 ^ 31 by omega), if_neg h_30, if_neg (by omega), if_pos (boundN_t h_64)])
          · show AW _ _ _ _ _ _ _
            refine n_if_eq 77 (by decide) dX11_bind_67 (by decide) (fun _ => ?_) (fun h => absurd h (by decide))
            refine a_aload_n rfl dX11_bind_77 ?_
            refine a_geta dX11_bind_78 fX11_58 (by decide) rfl rfl ?_
            refine a_iload_n rfl dX11_bind_81 ?_
            refine a_iload_n rfl dX11_bind_82 ?_
            refine n_callV (mi' := miX6_addHold) dX11_bind_83 lX11_313 mX6_addHold (by decide) rfl rfl rfl (c_X6_addHold isW17 hV hF (by omega) (fun hV_83 => ?_) d) rfl rfl (by omega) (by decide) (Nat.le_of_ble_eq_true rfl)
            show AW _ _ _ _ _ _ _
            have c03 : (addHN (tS T) j_5 j_16) 0 3 = tS T 0 3 + 1 := rfl
            refine a_aload_n rfl dX11_bind_86 ?_
            refine a_aload_n rfl dX11_bind_87 ?_
            refine a_geta dX11_bind_88 fX11_58 (by decide) rfl rfl ?_
            refine g_i (VX_3 hV_83) (by decide) rfl fX11_204 rfl dX11_bind_91 ?_
            refine n_iconst 1 rfl dX11_bind_94 ?_
            refine n_isub (by omega) dX11_bind_95 ?_
            refine n_callV (mi' := miX11_answer) dX11_bind_96 lX11_177 mX11_answer (by decide) rfl rfl rfl (c_X11_answer ?_ d) rfl rfl (by omega) (by decide) (Nat.le_of_ble_eq_true rfl)
            show AW _ _ _ _ _ _ _
            refine a_iret dX11_bind_99 rfl ?_
            exact fin_s hQ hI hG (S' := (addHN (tS T) j_5 j_16)) (by unfold sp_bind; rw [if_pos (by omega), idx_nI (show j_5 < 2 ^ 31 by omega), idx_nI (show j_16 < 2 ^ 31 by omega), if_neg h_30, if_neg (by omega), if_neg (by rw [boundN_f h_64]; exact Bool.false_ne_true)]; rfl) hV_83 rfl rfl (fun k hk => funext fun j => siN (siN (siN rfl (by omega)) (by omega)) (by omega)) rfl
        · refine a_aload_n rfl dX11_bind_51 ?_
          refine n_bipush 7 rfl dX11_bind_52 ?_
          refine n_callV (mi' := miX11_none) dX11_bind_54 lX11_131 mX11_none (by decide) rfl rfl rfl (c_X11_none ?_ d) rfl rfl (by omega) (by decide) (Nat.le_of_ble_eq_true rfl)
          show AW _ _ _ _ _ _ _
          refine a_iret dX11_bind_57 rfl ?_
          exact fin_st hQ hI (by unfold sp_bind; rw [if_pos (by omega), idx_nI (show j_5 < 2 ^ 31 by omega), idx_nI (show j_16 < 2 ^ 31 by omega), if_neg h_30, if_pos (by omega)])
      · refine a_aload_n rfl dX11_bind_33 ?_
        refine n_iconst 5 rfl dX11_bind_34 ?_
        refine n_callV (mi' := miX11_none) dX11_bind_35 lX11_131 mX11_none (by decide) rfl rfl rfl (c_X11_none ?_ d) rfl rfl (by omega) (by decide) (Nat.le_of_ble_eq_true rfl)
        show AW _ _ _ _ _ _ _
        refine a_iret dX11_bind_38 rfl ?_
        exact fin_st hQ hI (by unfold sp_bind; rw [if_pos (by omega), idx_nI (show j_5 < 2 ^ 31 by omega), idx_nI (show j_16 < 2 ^ 31 by omega), if_pos h_30])
    · show AW _ _ _ _ _ _ _
      have h_16 := not_inR h_16 (by omega)
      refine n_if_ne 28 (by decide) dX11_bind_19 (by decide) (fun h => absurd h (by decide)) (fun _ => ?_)
      refine a_aload_n rfl dX11_bind_22 ?_
      refine n_iconst 2 rfl dX11_bind_23 ?_
      refine n_callV (mi' := miX11_none) dX11_bind_24 lX11_131 mX11_none (by decide) rfl rfl rfl (c_X11_none ?_ d) rfl rfl (by omega) (by decide) (Nat.le_of_ble_eq_true rfl)
      show AW _ _ _ _ _ _ _
      refine a_iret dX11_bind_27 rfl ?_
      exact fin_st hQ hI (by unfold sp_bind; rw [if_neg (by omega)])
  · show AW _ _ _ _ _ _ _
    have h_5 := not_inR h_5 (by omega)
    refine n_if_eq 22 (by decide) dX11_bind_8 (by decide) (fun _ => ?_) (fun h => absurd h (by decide))
    refine a_aload_n rfl dX11_bind_22 ?_
    refine n_iconst 2 rfl dX11_bind_23 ?_
    refine n_callV (mi' := miX11_none) dX11_bind_24 lX11_131 mX11_none (by decide) rfl rfl rfl (c_X11_none ?_ d) rfl rfl (by omega) (by decide) (Nat.le_of_ble_eq_true rfl)
    show AW _ _ _ _ _ _ _
    refine a_iret dX11_bind_27 rfl ?_
    exact fin_st hQ hI (by unfold sp_bind; rw [if_neg (by omega)])

set_option maxRecDepth 100000 in
set_option maxHeartbeats 800000 in
theorem c_X11_loose {M : Mm} {T : TT} (hI : IX M T) (hG : TG T) {k : Int32} {Q : Option Value → Mm → Prop} (hQ : ∀ M', IX M' (sp_loose k T).2 → keM M M' → Q (some (.int (sp_loose k T).1)) M') (d : Nat) : AMt miX11_loose (d + 3) [.ref 0, .int k] M Q := by
  refine AMt.of (by decide) (Nat.le_of_ble_eq_true rfl) ?_
  show AW miX11_loose (d + 3) (mxA Q) 0 [(0, some (.ref 0)), (1, some (.int k))] [] M
  have hV : VX 17 M (tS T) := hI.1.1
  have hF : WF (tS T) := hG.1.1
  have hm := WF_m hF
  have hh := WF_h hF
  have hs := WF_s hF
  have hn := WF_n hF
  refine a_aload_n rfl dX11_loose_0 ?_
  refine a_geta dX11_loose_1 fX11_58 (by decide) rfl rfl ?_
  refine a_iload_n rfl dX11_loose_4 ?_
  refine n_callV (mi' := miX6_hasHold) dX11_loose_5 lX11_250 mX6_hasHold (by decide) rfl rfl rfl (c_X6_hasHold isW17 hV hF (fun j_5 h_5 e_5 => ?_) (fun h_5 => ?_) d) rfl rfl (by omega) (by decide) (Nat.le_of_ble_eq_true rfl)
  · show AW _ _ _ _ _ _ _
    subst e_5
    have t_5 : (nI j_5).toInt = (j_5 : Int) := nI_toInt (by omega)
    refine n_if_ne 17 (by decide) dX11_loose_8 (by decide) (fun _ => ?_) (fun h => absurd h (by decide))
    refine a_aload_n rfl dX11_loose_17 ?_
    refine a_geta dX11_loose_18 fX11_58 (by decide) rfl rfl ?_
    refine a_iload_n rfl dX11_loose_21 ?_
    refine n_callV (mi' := miX6_dropHold) dX11_loose_22 lX11_316 mX6_dropHold (by decide) rfl rfl rfl (c_X6_dropHold isW17 hV hF (by omega) (fun hV_22 => ?_) d) rfl rfl (by omega) (by decide) (Nat.le_of_ble_eq_true rfl)
    show AW _ _ _ _ _ _ _
    refine a_aload_n rfl dX11_loose_25 ?_
    refine a_aload_n rfl dX11_loose_26 ?_
    refine a_geta dX11_loose_27 fX11_58 (by decide) rfl rfl ?_
    refine g_i (VX_3 hV_22) (by decide) rfl fX11_204 rfl dX11_loose_30 ?_
    refine n_callV (mi' := miX11_answer) dX11_loose_33 lX11_177 mX11_answer (by decide) rfl rfl rfl (c_X11_answer ?_ d) rfl rfl (by omega) (by decide) (Nat.le_of_ble_eq_true rfl)
    show AW _ _ _ _ _ _ _
    refine a_iret dX11_loose_36 rfl ?_
    exact fin_s hQ hI hG (S' := (dropN (tS T) j_5)) (by unfold sp_loose; rw [if_pos (by omega), idx_nI (show j_5 < 2 ^ 31 by omega)]; rfl) hV_22 rfl rfl (fun k hk => funext fun j => siN (dr_o rfl (by omega) (by omega)) (by omega)) rfl
  · show AW _ _ _ _ _ _ _
    have h_5 := not_inR h_5 (by omega)
    refine n_if_ne 17 (by decide) dX11_loose_8 (by decide) (fun h => absurd h (by decide)) (fun _ => ?_)
    refine a_aload_n rfl dX11_loose_11 ?_
    refine n_iconst 2 rfl dX11_loose_12 ?_
    refine n_callV (mi' := miX11_none) dX11_loose_13 lX11_131 mX11_none (by decide) rfl rfl rfl (c_X11_none ?_ d) rfl rfl (by omega) (by decide) (Nat.le_of_ble_eq_true rfl)
    show AW _ _ _ _ _ _ _
    refine a_iret dX11_loose_16 rfl ?_
    exact fin_st hQ hI (by unfold sp_loose; rw [if_neg (by omega)])

set_option maxRecDepth 100000 in
set_option maxHeartbeats 800000 in
theorem c_X11_hurry {M : Mm} {T : TT} (hI : IX M T) (hG : TG T) {k : Int32} {p : Int32} {Q : Option Value → Mm → Prop} (hQ : ∀ M', IX M' (sp_hurry k p T).2 → keM M M' → Q (some (.int (sp_hurry k p T).1)) M') (d : Nat) : AMt miX11_hurry (d + 3) [.ref 0, .int k, .int p] M Q := by
  refine AMt.of (by decide) (Nat.le_of_ble_eq_true rfl) ?_
  show AW miX11_hurry (d + 3) (mxA Q) 0 [(0, some (.ref 0)), (1, some (.int k)), (2, some (.int p))] [] M
  have hV : VX 17 M (tS T) := hI.1.1
  have hF : WF (tS T) := hG.1.1
  have hm := WF_m hF
  have hh := WF_h hF
  have hs := WF_s hF
  have hn := WF_n hF
  refine a_aload_n rfl dX11_hurry_0 ?_
  refine a_geta dX11_hurry_1 fX11_58 (by decide) rfl rfl ?_
  refine a_iload_n rfl dX11_hurry_4 ?_
  refine n_callV (mi' := miX6_hasMatter) dX11_hurry_5 lX11_232 mX6_hasMatter (by decide) rfl rfl rfl (c_X6_hasMatter isW17 hV hF (fun j_5 h_5 e_5 => ?_) (fun h_5 => ?_) d) rfl rfl (by omega) (by decide) (Nat.le_of_ble_eq_true rfl)
  · show AW _ _ _ _ _ _ _
    subst e_5
    have t_5 : (nI j_5).toInt = (j_5 : Int) := nI_toInt (by omega)
    refine n_if_ne 17 (by decide) dX11_hurry_8 (by decide) (fun _ => ?_) (fun h => absurd h (by decide))
    refine a_iload_n rfl dX11_hurry_17 ?_
    refine r_if_lt 27 dX11_hurry_18 (by decide) (fun h_18 => ?_) (fun h_18 => ?_)
    · refine a_aload_n rfl dX11_hurry_27 ?_
      refine n_iconst 5 rfl dX11_hurry_28 ?_
      refine n_callV (mi' := miX11_none) dX11_hurry_29 lX11_131 mX11_none (by decide) rfl rfl rfl (c_X11_none ?_ d) rfl rfl (by omega) (by decide) (Nat.le_of_ble_eq_true rfl)
      show AW _ _ _ _ _ _ _
      refine a_iret dX11_hurry_32 rfl ?_
      exact fin_st hQ hI (by unfold sp_hurry; rw [if_pos (by omega), if_neg (by omega)])
    · refine a_iload_n rfl dX11_hurry_21 ?_
      refine n_bipush 20 rfl dX11_hurry_22 ?_
      refine r_icmp_le 33 (by omega) dX11_hurry_24 (by decide) (fun h_24 => ?_) (fun h_24 => ?_)
      · obtain ⟨j2, hj2, rfl⟩ := inR_of (x := p) (m := 21) (by omega) (by omega) (by omega)
        have t_j2 : (nI j2).toInt = (j2 : Int) := nI_toInt (by omega)
        refine a_aload_n rfl dX11_hurry_33 ?_
        refine a_geta dX11_hurry_34 fX11_58 (by decide) rfl rfl ?_
        refine a_geta dX11_hurry_37 fX11_235 (by decide) rfl rfl ?_
        refine a_iload_n rfl dX11_hurry_40 ?_
        refine v_iald (by omega) (VX_a2 hV (by omega)) (by decide) rfl (by decide) dX11_hurry_41 ?_
        refine a_istore_n (by decide) rfl dX11_hurry_42 ?_
        refine a_aload_n rfl dX11_hurry_43 ?_
        refine a_geta dX11_hurry_44 fX11_58 (by decide) rfl rfl ?_
        refine a_geta dX11_hurry_47 fX11_235 (by decide) rfl rfl ?_
        refine a_iload_n rfl dX11_hurry_50 ?_
        refine a_iload_n rfl dX11_hurry_51 ?_
        refine n_iast (by omega) (by decide) rfl (by decide) dX11_hurry_52 ?_
        refine a_aload_n rfl dX11_hurry_53 ?_
        refine a_iload_n rfl dX11_hurry_54 ?_
        refine n_callV (mi' := miX11_answer) dX11_hurry_55 lX11_177 mX11_answer (by decide) rfl rfl rfl (c_X11_answer ?_ d) rfl rfl (by omega) (by decide) (Nat.le_of_ble_eq_true rfl)
        show AW _ _ _ _ _ _ _
        refine a_iret dX11_hurry_58 rfl ?_
        exact fin_s hQ hI hG (S' := (upS2 (tS T) 1 j_5 j2)) (by unfold sp_hurry; rw [if_pos (by omega), if_pos (by omega), idx_nI (show j_5 < 2 ^ 31 by omega), idx_nI (show j2 < 2 ^ 31 by omega)]) (VX_set1 hV (by omega)) rfl rfl (fun k hk => funext fun j => siN rfl (by omega)) rfl
      · refine a_aload_n rfl dX11_hurry_27 ?_
        refine n_iconst 5 rfl dX11_hurry_28 ?_
        refine n_callV (mi' := miX11_none) dX11_hurry_29 lX11_131 mX11_none (by decide) rfl rfl rfl (c_X11_none ?_ d) rfl rfl (by omega) (by decide) (Nat.le_of_ble_eq_true rfl)
        show AW _ _ _ _ _ _ _
        refine a_iret dX11_hurry_32 rfl ?_
        exact fin_st hQ hI (by unfold sp_hurry; rw [if_pos (by omega), if_neg (by omega)])
  · show AW _ _ _ _ _ _ _
    have h_5 := not_inR h_5 (by omega)
    refine n_if_ne 17 (by decide) dX11_hurry_8 (by decide) (fun h => absurd h (by decide)) (fun _ => ?_)
    refine a_aload_n rfl dX11_hurry_11 ?_
    refine n_iconst 2 rfl dX11_hurry_12 ?_
    refine n_callV (mi' := miX11_none) dX11_hurry_13 lX11_131 mX11_none (by decide) rfl rfl rfl (c_X11_none ?_ d) rfl rfl (by omega) (by decide) (Nat.le_of_ble_eq_true rfl)
    show AW _ _ _ _ _ _ _
    refine a_iret dX11_hurry_16 rfl ?_
    exact fin_st hQ hI (by unfold sp_hurry; rw [if_neg (by omega)])

set_option maxRecDepth 100000 in
set_option maxHeartbeats 800000 in
theorem c_X11_rule {M : Mm} {T : TT} (hI : IX M T) (hG : TG T) {x : Int32} {Q : Option Value → Mm → Prop} (hQ : ∀ M', IX M' (sp_rule x T).2 → keM M M' → Q (some (.int (sp_rule x T).1)) M') (d : Nat) : AMt miX11_rule (d + 3) [.ref 0, .int x] M Q := by
  refine AMt.of (by decide) (Nat.le_of_ble_eq_true rfl) ?_
  show AW miX11_rule (d + 3) (mxA Q) 0 [(0, some (.ref 0)), (1, some (.int x))] [] M
  have hV : VX 17 M (tS T) := hI.1.1
  have hF : WF (tS T) := hG.1.1
  have hm := WF_m hF
  have hh := WF_h hF
  have hs := WF_s hF
  have hn := WF_n hF
  refine a_iload_n rfl dX11_rule_0 ?_
  refine r_if_lt 10 dX11_rule_1 (by decide) (fun h_1 => ?_) (fun h_1 => ?_)
  · refine a_aload_n rfl dX11_rule_10 ?_
    refine n_iconst 5 rfl dX11_rule_11 ?_
    refine n_callV (mi' := miX11_refuse) dX11_rule_12 lX11_112 mX11_refuse (by decide) rfl rfl rfl (c_X11_refuse ?_ d) rfl rfl (by omega) (by decide) (Nat.le_of_ble_eq_true rfl)
    show AW _ _ _ _ _ _ _
    refine a_zret dX11_rule_15 rfl (Or.inl rfl) ?_
    exact fin_st hQ hI (by unfold sp_rule; rw [if_neg (by omega)])
  · refine a_iload_n rfl dX11_rule_4 ?_
    refine n_bipush 16 rfl dX11_rule_5 ?_
    refine r_icmp_le 16 (by omega) dX11_rule_7 (by decide) (fun h_7 => ?_) (fun h_7 => ?_)
    · obtain ⟨j1, hj1, rfl⟩ := inR_of (x := x) (m := 17) (by omega) (by omega) (by omega)
      have t_j1 : (nI j1).toInt = (j1 : Int) := nI_toInt (by omega)
      refine a_aload_n rfl dX11_rule_16 ?_
      refine a_geta dX11_rule_17 fX11_58 (by decide) rfl rfl ?_
      refine a_iload_n rfl dX11_rule_20 ?_
      refine a_puti dX11_rule_21 pX11_210 (by decide) rfl rfl ?_
      refine a_aload_n rfl dX11_rule_24 ?_
      refine n_callV (mi' := miX11_agree) dX11_rule_25 lX11_119 mX11_agree (by decide) rfl rfl rfl (c_X11_agree ?_ d) rfl rfl (by omega) (by decide) (Nat.le_of_ble_eq_true rfl)
      show AW _ _ _ _ _ _ _
      refine a_zret dX11_rule_28 rfl (Or.inr rfl) ?_
      exact fin_s hQ hI hG (S' := (upS2 (tS T) 0 0 j1)) (by unfold sp_rule; rw [if_pos (by omega), idx_nI (show j1 < 2 ^ 31 by omega)]) (VX_set0 hV) rfl rfl (fun k hk => funext fun j => siN rfl (by omega)) rfl
    · refine a_aload_n rfl dX11_rule_10 ?_
      refine n_iconst 5 rfl dX11_rule_11 ?_
      refine n_callV (mi' := miX11_refuse) dX11_rule_12 lX11_112 mX11_refuse (by decide) rfl rfl rfl (c_X11_refuse ?_ d) rfl rfl (by omega) (by decide) (Nat.le_of_ble_eq_true rfl)
      show AW _ _ _ _ _ _ _
      refine a_zret dX11_rule_15 rfl (Or.inl rfl) ?_
      exact fin_st hQ hI (by unfold sp_rule; rw [if_neg (by omega)])

set_option maxRecDepth 100000 in
set_option maxHeartbeats 800000 in
theorem c_X11_status {M : Mm} {T : TT} (hI : IX M T) (hG : TG T) {Q : Option Value → Mm → Prop} (hQ : Q (some (.int (nI (tE T).1))) M) (d : Nat) : AMt miX11_status (d) [.ref 0] M Q := by
  refine AMt.of (by decide) (Nat.le_of_ble_eq_true rfl) ?_
  show AW miX11_status (d) (mxA Q) 0 [(0, some (.ref 0))] [] M
  refine a_aload_n rfl dX11_status_0 ?_
  refine g_i hI.2.2.2.1.1 (by decide) rfl fX11_9 rfl dX11_status_1 ?_
  refine a_iret dX11_status_4 rfl ?_
  exact hQ

set_option maxRecDepth 100000 in
set_option maxHeartbeats 800000 in
theorem c_X11_top {M : Mm} {T : TT} (hI : IX M T) (hG : TG T) {Q : Option Value → Mm → Prop} (hQ : Q (some (.long (tE T).2.1)) M) (d : Nat) : AMt miX11_top (d) [.ref 0] M Q := by
  refine AMt.of (by decide) (Nat.le_of_ble_eq_true rfl) ?_
  show AW miX11_top (d) (mxA Q) 0 [(0, some (.ref 0))] [] M
  refine a_aload_n rfl dX11_top_0 ?_
  refine a_getl dX11_top_1 fX11_13 (by decide) rfl rfl ?_
  refine a_lret dX11_top_4 rfl ?_
  rw [hI.2.2.2.1.2.1]
  exact hQ

set_option maxRecDepth 100000 in
set_option maxHeartbeats 800000 in
theorem c_X11_bottom {M : Mm} {T : TT} (hI : IX M T) (hG : TG T) {Q : Option Value → Mm → Prop} (hQ : Q (some (.long (tE T).2.2)) M) (d : Nat) : AMt miX11_bottom (d) [.ref 0] M Q := by
  refine AMt.of (by decide) (Nat.le_of_ble_eq_true rfl) ?_
  show AW miX11_bottom (d) (mxA Q) 0 [(0, some (.ref 0))] [] M
  refine a_aload_n rfl dX11_bottom_0 ?_
  refine a_getl dX11_bottom_1 fX11_17 (by decide) rfl rfl ?_
  refine a_lret dX11_bottom_4 rfl ?_
  rw [hI.2.2.2.1.2.2]
  exact hQ

set_option maxRecDepth 100000 in
set_option maxHeartbeats 800000 in
theorem c_X11_fault {M : Mm} {T : TT} (hI : IX M T) (hG : TG T) {x : Int32} {Q : Option Value → Mm → Prop} (hQ : Q (some (.int (sp_fault x T).1)) M) (d : Nat) : AMt miX11_fault (d) [.ref 0, .int x] M Q := by
  refine AMt.of (by decide) (Nat.le_of_ble_eq_true rfl) ?_
  show AW miX11_fault (d) (mxA Q) 0 [(0, some (.ref 0)), (1, some (.int x))] [] M
  refine a_iload_n rfl dX11_fault_0 ?_
  refine r_if_ne 12 dX11_fault_1 (by decide) (fun h_1 => ?_) (fun h_1 => ?_)
  · refine a_iload_n rfl dX11_fault_12 ?_
    refine n_iconst 1 rfl dX11_fault_13 ?_
    refine r_icmp_ne 27 (by omega) dX11_fault_14 (by decide) (fun h_14 => ?_) (fun h_14 => ?_)
    · refine a_iconst (-1) rfl dX11_fault_27 ?_
      refine a_iret dX11_fault_28 rfl ?_
      rw [show (sp_fault x T).1 = -1 by unfold sp_fault; rw [if_neg (by omega), if_neg (by omega)]] at hQ
      exact hQ
    · refine a_aload_n rfl dX11_fault_17 ?_
      refine a_geta dX11_fault_18 fX11_37 (by decide) rfl rfl ?_
      refine a_geti dX11_fault_21 fX11_198 (by decide) rfl rfl ?_
      refine a_goto 28 dX11_fault_24 (by decide) ?_
      refine a_iret dX11_fault_28 rfl ?_
      rw [hI.2.2.2.2.1.2]
      rw [show (sp_fault x T).1 = (tF T).2 by unfold sp_fault; rw [if_neg (by omega), if_pos (by omega)]] at hQ
      exact hQ
  · refine a_aload_n rfl dX11_fault_4 ?_
    refine a_geta dX11_fault_5 fX11_37 (by decide) rfl rfl ?_
    refine a_geti dX11_fault_8 fX11_195 (by decide) rfl rfl ?_
    refine a_iret dX11_fault_11 rfl ?_
    rw [hI.2.2.2.2.1.1]
    rw [show (sp_fault x T).1 = (tF T).1 by unfold sp_fault; rw [if_pos (by omega)]] at hQ
    exact hQ

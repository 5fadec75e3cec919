set_option maxRecDepth 100000 in
set_option maxHeartbeats 4000000 in
theorem c_X11_none {M : Mm} {n : Nat} {Q : Option Value → Mm → Prop} (hQ : Q (some (.int (-1))) (siM M 0 0 (nI n))) (d : Nat) : AMt miX11_none (d) [.ref 0, .int (nI n)] M Q := by
  refine AMt.of (by decide) (Nat.le_of_ble_eq_true rfl) ?_
  show AW miX11_none (d) (mxA Q) 0 [(0, some (.ref 0)), (1, some (.int (nI n)))] [] M
  refine a_aload_n rfl dX11_none_0 ?_
  refine a_iload_n rfl dX11_none_1 ?_
  refine a_puti dX11_none_2 pX11_9 (by decide) rfl rfl ?_
  refine a_iconst (-1) rfl dX11_none_5 ?_
  refine a_iret dX11_none_6 rfl ?_
  exact hQ

set_option maxRecDepth 100000 in
set_option maxHeartbeats 4000000 in
theorem c_X11_answer {M : Mm} {v : Int32} {Q : Option Value → Mm → Prop} (hQ : Q (some (.int v)) (siM M 0 0 (nI 0))) (d : Nat) : AMt miX11_answer (d) [.ref 0, .int v] M Q := by
  refine AMt.of (by decide) (Nat.le_of_ble_eq_true rfl) ?_
  show AW miX11_answer (d) (mxA Q) 0 [(0, some (.ref 0)), (1, some (.int v))] [] M
  refine a_aload_n rfl dX11_answer_0 ?_
  refine n_iconst 0 rfl dX11_answer_1 ?_
  refine a_puti dX11_answer_2 pX11_9 (by decide) rfl rfl ?_
  refine a_iload_n rfl dX11_answer_5 ?_
  refine a_iret dX11_answer_6 rfl ?_
  exact hQ

set_option maxRecDepth 100000 in
set_option maxHeartbeats 4000000 in
theorem c_X11_refuse {M : Mm} {n : Nat} {Q : Option Value → Mm → Prop} (hQ : Q (some (.int (nI 0))) (siM M 0 0 (nI n))) (d : Nat) : AMt miX11_refuse (d) [.ref 0, .int (nI n)] M Q := by
  refine AMt.of (by decide) (Nat.le_of_ble_eq_true rfl) ?_
  show AW miX11_refuse (d) (mxA Q) 0 [(0, some (.ref 0)), (1, some (.int (nI n)))] [] M
  refine a_aload_n rfl dX11_refuse_0 ?_
  refine a_iload_n rfl dX11_refuse_1 ?_
  refine a_puti dX11_refuse_2 pX11_9 (by decide) rfl rfl ?_
  refine n_iconst 0 rfl dX11_refuse_5 ?_
  refine a_zret dX11_refuse_6 rfl (Or.inl rfl) ?_
  exact hQ

set_option maxRecDepth 100000 in
set_option maxHeartbeats 4000000 in
theorem c_X11_agree {M : Mm} {Q : Option Value → Mm → Prop} (hQ : Q (some (.int (nI 1))) (siM M 0 0 (nI 0))) (d : Nat) : AMt miX11_agree (d) [.ref 0] M Q := by
  refine AMt.of (by decide) (Nat.le_of_ble_eq_true rfl) ?_
  show AW miX11_agree (d) (mxA Q) 0 [(0, some (.ref 0))] [] M
  refine a_aload_n rfl dX11_agree_0 ?_
  refine n_iconst 0 rfl dX11_agree_1 ?_
  refine a_puti dX11_agree_2 pX11_9 (by decide) rfl rfl ?_
  refine n_iconst 1 rfl dX11_agree_5 ?_
  refine a_zret dX11_agree_6 rfl (Or.inr rfl) ?_
  exact hQ

set_option maxRecDepth 100000 in
set_option maxHeartbeats 4000000 in
theorem c_X11_answerIfThere {M : Mm} {v : Int32} {Q : Option Value → Mm → Prop} (h1 : v ≠ -1 → Q (some (.int v)) (siM M 0 0 (nI 0))) (h0 : v = -1 → Q (some (.int (-1))) (siM M 0 0 (nI 8))) (d : Nat) : AMt miX11_answerIfThere (d + 1) [.ref 0, .int v] M Q := by
  refine AMt.of (by decide) (Nat.le_of_ble_eq_true rfl) ?_
  show AW miX11_answerIfThere (d + 1) (mxA Q) 0 [(0, some (.ref 0)), (1, some (.int v))] [] M
  refine a_iload_n rfl dX11_answerIfThere_0 ?_
  refine a_iconst (-1) rfl dX11_answerIfThere_1 ?_
  refine u_icmp_ne 14 dX11_answerIfThere_2 (by decide) (fun h_2 => ?_) (fun h_2 => ?_)
  · refine a_aload_n rfl dX11_answerIfThere_14 ?_
    refine a_iload_n rfl dX11_answerIfThere_15 ?_
    refine n_callV (mi' := miX11_answer) dX11_answerIfThere_16 lX11_177 mX11_answer (by decide) rfl rfl rfl (c_X11_answer ?_ d) rfl rfl (by omega) (by decide) (Nat.le_of_ble_eq_true rfl)
    show AW _ _ _ _ _ _ _
    refine a_iret dX11_answerIfThere_19 rfl ?_
    exact h1 (fun e => h_2 (by rw [e]))
  · refine a_aload_n rfl dX11_answerIfThere_5 ?_
    refine n_bipush 8 rfl dX11_answerIfThere_6 ?_
    refine n_callV (mi' := miX11_none) dX11_answerIfThere_8 lX11_131 mX11_none (by decide) rfl rfl rfl (c_X11_none ?_ d) rfl rfl (by omega) (by decide) (Nat.le_of_ble_eq_true rfl)
    show AW _ _ _ _ _ _ _
    refine a_goto 19 dX11_answerIfThere_11 (by decide) ?_
    refine a_iret dX11_answerIfThere_19 rfl ?_
    exact h0 (by rw [i32_eq_toInt]; omega)

set_option maxRecDepth 100000 in
set_option maxHeartbeats 4000000 in
theorem c_X11_many {M : Mm} {T : TT} (hI : IX M T) (hG : TG T) {x : Int32} {Q : Option Value → Mm → Prop} (hQ : ∀ M', IX M' (sp_many x T).2 → keM M M' → Q (some (.int (sp_many x T).1)) M') (d : Nat) : AMt miX11_many (d + 3) [.ref 0, .int x] M Q := by
  refine AMt.of (by decide) (Nat.le_of_ble_eq_true rfl) ?_
  show AW miX11_many (d + 3) (mxA Q) 0 [(0, some (.ref 0)), (1, some (.int x))] [] M
  have hV := hI.1.1
  have hF := hG.1.1
  have hm := WF_m hF
  have hh := WF_h hF
  have hs := WF_s hF
  have hn := WF_n hF
  refine a_iload_n rfl dX11_many_0 ?_
  by_cases hs_1_0 : x.toInt = 0
  · refine a_tabIn 56 dX11_many_1 (by omega) (by omega) (by rw [hs_1_0]; rfl) (by decide) ?_
    refine a_aload_n rfl dX11_many_56 ?_
    refine a_aload_n rfl dX11_many_57 ?_
    refine a_geta dX11_many_58 fX11_58 (by decide) rfl rfl ?_
    refine g_i (VX_2 hV) (by decide) rfl fX11_201 rfl dX11_many_61 ?_
    refine n_callV (mi' := miX11_answer) dX11_many_64 lX11_177 mX11_answer (by decide) rfl rfl rfl (c_X11_answer ?_ d) rfl rfl (by omega) (by decide) (Nat.le_of_ble_eq_true rfl)
    show AW _ _ _ _ _ _ _
    refine a_iret dX11_many_67 rfl ?_
    exact fin_st hQ hI (by unfold sp_many; rw [if_pos (by omega), show idx x = 0 by unfold idx; omega]; rfl)
  by_cases hs_1_1 : x.toInt = 1
  · refine a_tabIn 68 dX11_many_1 (by omega) (by omega) (by rw [hs_1_1]; rfl) (by decide) ?_
    refine a_aload_n rfl dX11_many_68 ?_
    refine a_aload_n rfl dX11_many_69 ?_
    refine a_geta dX11_many_70 fX11_58 (by decide) rfl rfl ?_
    refine g_i (VX_3 hV) (by decide) rfl fX11_204 rfl dX11_many_73 ?_
    refine n_callV (mi' := miX11_answer) dX11_many_76 lX11_177 mX11_answer (by decide) rfl rfl rfl (c_X11_answer ?_ d) rfl rfl (by omega) (by decide) (Nat.le_of_ble_eq_true rfl)
    show AW _ _ _ _ _ _ _
    refine a_iret dX11_many_79 rfl ?_
    exact fin_st hQ hI (by unfold sp_many; rw [if_pos (by omega), show idx x = 1 by unfold idx; omega]; rfl)
  by_cases hs_1_2 : x.toInt = 2
  · refine a_tabIn 80 dX11_many_1 (by omega) (by omega) (by rw [hs_1_2]; rfl) (by decide) ?_
    refine a_aload_n rfl dX11_many_80 ?_
    refine a_aload_n rfl dX11_many_81 ?_
    refine a_geta dX11_many_82 fX11_58 (by decide) rfl rfl ?_
    refine g_i (VX_4 hV) (by decide) rfl fX11_174 rfl dX11_many_85 ?_
    refine n_callV (mi' := miX11_answer) dX11_many_88 lX11_177 mX11_answer (by decide) rfl rfl rfl (c_X11_answer ?_ d) rfl rfl (by omega) (by decide) (Nat.le_of_ble_eq_true rfl)
    show AW _ _ _ _ _ _ _
    refine a_iret dX11_many_91 rfl ?_
    exact fin_st hQ hI (by unfold sp_many; rw [if_pos (by omega), show idx x = 2 by unfold idx; omega]; rfl)
  by_cases hs_1_3 : x.toInt = 3
  · refine a_tabIn 92 dX11_many_1 (by omega) (by omega) (by rw [hs_1_3]; rfl) (by decide) ?_
    refine a_aload_n rfl dX11_many_92 ?_
    refine a_aload_n rfl dX11_many_93 ?_
    refine a_geta dX11_many_94 fX11_58 (by decide) rfl rfl ?_
    refine g_i (VX_5 hV) (by decide) rfl fX11_207 rfl dX11_many_97 ?_
    refine n_callV (mi' := miX11_answer) dX11_many_100 lX11_177 mX11_answer (by decide) rfl rfl rfl (c_X11_answer ?_ d) rfl rfl (by omega) (by decide) (Nat.le_of_ble_eq_true rfl)
    show AW _ _ _ _ _ _ _
    refine a_iret dX11_many_103 rfl ?_
    exact fin_st hQ hI (by unfold sp_many; rw [if_pos (by omega), show idx x = 3 by unfold idx; omega]; rfl)
  by_cases hs_1_4 : x.toInt = 4
  · refine a_tabIn 104 dX11_many_1 (by omega) (by omega) (by rw [hs_1_4]; rfl) (by decide) ?_
    refine a_aload_n rfl dX11_many_104 ?_
    refine a_aload_n rfl dX11_many_105 ?_
    refine a_geta dX11_many_106 fX11_58 (by decide) rfl rfl ?_
    refine g_i (VX_0 hV) (by decide) rfl fX11_210 rfl dX11_many_109 ?_
    refine n_callV (mi' := miX11_answer) dX11_many_112 lX11_177 mX11_answer (by decide) rfl rfl rfl (c_X11_answer ?_ d) rfl rfl (by omega) (by decide) (Nat.le_of_ble_eq_true rfl)
    show AW _ _ _ _ _ _ _
    refine a_iret dX11_many_115 rfl ?_
    exact fin_st hQ hI (by unfold sp_many; rw [if_pos (by omega), show idx x = 4 by unfold idx; omega]; rfl)
  by_cases hs_1_5 : x.toInt = 5
  · refine a_tabIn 116 dX11_many_1 (by omega) (by omega) (by rw [hs_1_5]; rfl) (by decide) ?_
    refine a_aload_n rfl dX11_many_116 ?_
    refine a_aload_n rfl dX11_many_117 ?_
    refine a_geta dX11_many_118 fX11_58 (by decide) rfl rfl ?_
    refine g_i (VX_1 hV) (by decide) rfl fX11_213 rfl dX11_many_121 ?_
    refine n_callV (mi' := miX11_answer) dX11_many_124 lX11_177 mX11_answer (by decide) rfl rfl rfl (c_X11_answer ?_ d) rfl rfl (by omega) (by decide) (Nat.le_of_ble_eq_true rfl)
    show AW _ _ _ _ _ _ _
    refine a_iret dX11_many_127 rfl ?_
    exact fin_st hQ hI (by unfold sp_many; rw [if_pos (by omega), show idx x = 5 by unfold idx; omega]; rfl)
  by_cases hs_1_6 : x.toInt = 6
  · refine a_tabIn 128 dX11_many_1 (by omega) (by omega) (by rw [hs_1_6]; rfl) (by decide) ?_
    refine a_aload_n rfl dX11_many_128 ?_
    refine a_aload_n rfl dX11_many_129 ?_
    refine a_geta dX11_many_130 fX11_58 (by decide) rfl rfl ?_
    refine a_aload_n rfl dX11_many_133 ?_
    refine a_geta dX11_many_134 fX11_58 (by decide) rfl rfl ?_
    refine a_geta dX11_many_137 fX11_216 (by decide) rfl rfl ?_
    refine n_callV (mi' := miX6_settledSet) dX11_many_140 lX11_219 mX6_settledSet (by decide) rfl rfl rfl (c_X6_settledSet isW17 hV hF (f := (tS T) 2) (by decide) rfl (fun j hj => VX_a3 hV hj) (fun j hj => WF_clear hF j hj) ?_ d) rfl rfl (by omega) (by decide) (Nat.le_of_ble_eq_true rfl)
    show AW _ _ _ _ _ _ _
    refine n_callV (mi' := miX11_answer) dX11_many_143 lX11_177 mX11_answer (by decide) rfl rfl rfl (c_X11_answer ?_ d) rfl rfl (by omega) (by decide) (Nat.le_of_ble_eq_true rfl)
    show AW _ _ _ _ _ _ _
    refine a_iret dX11_many_146 rfl ?_
    exact fin_st hQ hI (by unfold sp_many; rw [if_pos (by omega), show idx x = 6 by unfold idx; omega]; rfl)
  by_cases hs_1_7 : x.toInt = 7
  · refine a_tabIn 147 dX11_many_1 (by omega) (by omega) (by rw [hs_1_7]; rfl) (by decide) ?_
    refine a_aload_n rfl dX11_many_147 ?_
    refine a_aload_n rfl dX11_many_148 ?_
    refine a_geta dX11_many_149 fX11_58 (by decide) rfl rfl ?_
    refine a_aload_n rfl dX11_many_152 ?_
    refine a_geta dX11_many_153 fX11_58 (by decide) rfl rfl ?_
    refine a_geta dX11_many_156 fX11_216 (by decide) rfl rfl ?_
    refine n_callV (mi' := miX6_stuckSet) dX11_many_159 lX11_223 mX6_stuckSet (by decide) rfl rfl rfl (c_X6_stuckSet isW17 hV hF (f := (tS T) 2) (by decide) rfl (fun j hj => VX_a3 hV hj) (fun j hj => WF_clear hF j hj) ?_ d) rfl rfl (by omega) (by decide) (Nat.le_of_ble_eq_true rfl)
    show AW _ _ _ _ _ _ _
    refine n_callV (mi' := miX11_answer) dX11_many_162 lX11_177 mX11_answer (by decide) rfl rfl rfl (c_X11_answer ?_ d) rfl rfl (by omega) (by decide) (Nat.le_of_ble_eq_true rfl)
    show AW _ _ _ _ _ _ _
    refine a_iret dX11_many_165 rfl ?_
    exact fin_st hQ hI (by unfold sp_many; rw [if_pos (by omega), show idx x = 7 by unfold idx; omega]; rfl)
  by_cases hs_1_8 : x.toInt = 8
  · refine a_tabIn 166 dX11_many_1 (by omega) (by omega) (by rw [hs_1_8]; rfl) (by decide) ?_
    refine a_aload_n rfl dX11_many_166 ?_
    refine a_aload_n rfl dX11_many_167 ?_
    refine a_geta dX11_many_168 fX11_58 (by decide) rfl rfl ?_
    refine a_aload_n rfl dX11_many_171 ?_
    refine a_geta dX11_many_172 fX11_58 (by decide) rfl rfl ?_
    refine a_geta dX11_many_175 fX11_216 (by decide) rfl rfl ?_
    refine n_callV (mi' := miX6_downSet) dX11_many_178 lX11_226 mX6_downSet (by decide) rfl rfl rfl (c_X6_downSet isW17 hV hF (f := (tS T) 2) (by decide) rfl (fun j hj => VX_a3 hV hj) (fun j hj => WF_clear hF j hj) ?_ d) rfl rfl (by omega) (by decide) (Nat.le_of_ble_eq_true rfl)
    show AW _ _ _ _ _ _ _
    refine n_callV (mi' := miX11_answer) dX11_many_181 lX11_177 mX11_answer (by decide) rfl rfl rfl (c_X11_answer ?_ d) rfl rfl (by omega) (by decide) (Nat.le_of_ble_eq_true rfl)
    show AW _ _ _ _ _ _ _
    refine a_iret dX11_many_184 rfl ?_
    exact fin_st hQ hI (by unfold sp_many; rw [if_pos (by omega), show idx x = 8 by unfold idx; omega]; rfl)
  by_cases hs_1_9 : x.toInt = 9
  · refine a_tabIn 185 dX11_many_1 (by omega) (by omega) (by rw [hs_1_9]; rfl) (by decide) ?_
    refine a_aload_n rfl dX11_many_185 ?_
    refine a_aload_n rfl dX11_many_186 ?_
    refine a_geta dX11_many_187 fX11_58 (by decide) rfl rfl ?_
    refine g_i (VX_6 hV) (by decide) rfl fX11_229 rfl dX11_many_190 ?_
    refine n_callV (mi' := miX11_answer) dX11_many_193 lX11_177 mX11_answer (by decide) rfl rfl rfl (c_X11_answer ?_ d) rfl rfl (by omega) (by decide) (Nat.le_of_ble_eq_true rfl)
    show AW _ _ _ _ _ _ _
    refine a_iret dX11_many_196 rfl ?_
    exact fin_st hQ hI (by unfold sp_many; rw [if_pos (by omega), show idx x = 9 by unfold idx; omega]; rfl)
  refine a_tabOut 197 dX11_many_1 (by omega) (by decide) ?_
  refine a_aload_n rfl dX11_many_197 ?_
  refine n_iconst 5 rfl dX11_many_198 ?_
  refine n_callV (mi' := miX11_none) dX11_many_199 lX11_131 mX11_none (by decide) rfl rfl rfl (c_X11_none ?_ d) rfl rfl (by omega) (by decide) (Nat.le_of_ble_eq_true rfl)
  show AW _ _ _ _ _ _ _
  refine a_iret dX11_many_202 rfl ?_
  exact fin_st hQ hI (by unfold sp_many; rw [if_neg (by omega)])

set_option maxRecDepth 100000 in
set_option maxHeartbeats 800000 in
theorem c_X5_isTray {M : Mm} {x : Int32} {Q : Option Value → Mm → Prop} (h1 : 0 ≤ x.toInt → x.toInt < 4 → Q (some (.int (nI 1))) M) (h0 : ¬ (0 ≤ x.toInt ∧ x.toInt < 4) → Q (some (.int (nI 0))) M) (d : Nat) : AMt miX5_isTray (d) [.int x] M Q := by
  refine AMt.of (by decide) (Nat.le_of_ble_eq_true rfl) ?_
  show AW miX5_isTray (d) (mxA Q) 0 [(0, some (.int x))] [] M
  refine a_iload_n rfl dX5_isTray_0 ?_
  refine r_if_lt 13 dX5_isTray_1 (by decide) (fun h_1 => ?_) (fun h_1 => ?_)
  · refine n_iconst 0 rfl dX5_isTray_13 ?_
    refine a_zret dX5_isTray_14 rfl (Or.inl rfl) ?_
    exact h0 (by omega)
  · refine a_iload_n rfl dX5_isTray_4 ?_
    refine n_iconst 4 rfl dX5_isTray_5 ?_
    refine r_icmp_ge 13 (by omega) dX5_isTray_6 (by decide) (fun h_6 => ?_) (fun h_6 => ?_)
    · refine n_iconst 0 rfl dX5_isTray_13 ?_
      refine a_zret dX5_isTray_14 rfl (Or.inl rfl) ?_
      exact h0 (by omega)
    · refine n_iconst 1 rfl dX5_isTray_9 ?_
      refine a_goto 14 dX5_isTray_10 (by decide) ?_
      refine a_zret dX5_isTray_14 rfl (Or.inr rfl) ?_
      exact h1 (by omega) (by omega)

set_option maxRecDepth 100000 in
set_option maxHeartbeats 800000 in
theorem c_X9_makeEmpty {w : Nat} (hw : isW w) {M : Mm} {Q : Option Value → Mm → Prop} (hQ : Q none (siM (siM (siM M (w + 13) 0 (nI 0)) (w + 13) 1 (nI 0)) (w + 13) 2 (nI 0))) (d : Nat) : AMt miX9_makeEmpty (d) [.ref (w + 13)] M Q := by
  refine AMt.of (by decide) (Nat.le_of_ble_eq_true rfl) ?_
  show AW miX9_makeEmpty (d) (mxA Q) 0 [(0, some (.ref (w + 13)))] [] M
  refine a_aload_n rfl dX9_makeEmpty_0 ?_
  refine n_iconst 0 rfl dX9_makeEmpty_1 ?_
  refine a_putz dX9_makeEmpty_2 pX9_30 (isW_lt hw (i := 13) (by decide)) (layW_13 hw) rfl (Or.inl rfl) ?_
  refine a_aload_n rfl dX9_makeEmpty_5 ?_
  refine n_iconst 0 rfl dX9_makeEmpty_6 ?_
  refine a_puti dX9_makeEmpty_7 pX9_34 (isW_lt hw (i := 13) (by decide)) (layW_13 hw) rfl ?_
  refine a_aload_n rfl dX9_makeEmpty_10 ?_
  refine n_iconst 0 rfl dX9_makeEmpty_11 ?_
  refine a_puti dX9_makeEmpty_12 pX9_38 (isW_lt hw (i := 13) (by decide)) (layW_13 hw) rfl ?_
  refine a_vret dX9_makeEmpty_15 rfl ?_
  exact hQ

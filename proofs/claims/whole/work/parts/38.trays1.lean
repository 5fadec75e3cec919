set_option maxRecDepth 100000 in
set_option maxHeartbeats 800000 in
theorem c_X5_isTray {M : Mm} {x : Int32} {Q : Option Value → Mm → Prop} (h1 : 0 ≤ x.toInt → x.toInt < 4 → Q (some (.int (nI 1))) M) (h0 : ¬ (0 ≤ x.toInt ∧ x.toInt < 4) → Q (some (.int (nI 0))) M) (d : Nat) : AMt miX5_isTray (d) [.int x] M Q := by
  refine AMt.of (by decide) (Nat.le_of_ble_eq_true rfl) ?_
  show AW miX5_isTray (d) (mxA Q) 0 [(0, some (.int x))] [] M
  refine a_iload_n rfl dX5_isTray_0 ?_
  refine r_if_lt 13 dX5_isTray_1 (by decide) (fun h_1 => ?_) (fun h_1 => ?_)
  · refine n_iconst 0 rfl dX5_isTray_13 ?_
    refine a_zret dX5_isTray_14 rfl (Or.inl rfl) ?_
    exact h0 (by omega)
  · refine a_iload_n rfl dX5_isTray_4 ?_
    refine n_iconst 4 rfl dX5_isTray_5 ?_
    refine r_icmp_ge 13 (by omega) dX5_isTray_6 (by decide) (fun h_6 => ?_) (fun h_6 => ?_)
    · refine n_iconst 0 rfl dX5_isTray_13 ?_
      refine a_zret dX5_isTray_14 rfl (Or.inl rfl) ?_
      exact h0 (by omega)
    · refine n_iconst 1 rfl dX5_isTray_9 ?_
      refine a_goto 14 dX5_isTray_10 (by decide) ?_
      refine a_zret dX5_isTray_14 rfl (Or.inr rfl) ?_
      exact h1 (by omega) (by omega)

set_option maxRecDepth 100000 in
set_option maxHeartbeats 800000 in
theorem c_X9_makeEmpty {w : Nat} (hw : isW w) {M : Mm} {Q : Option Value → Mm → Prop} (hQ : Q none (siM (siM (siM M (w + 13) 0 (nI 0)) (w + 13) 1 (nI 0)) (w + 13) 2 (nI 0))) (d : Nat) : AMt miX9_makeEmpty (d) [.ref (w + 13)] M Q := by
  refine AMt.of (by decide) (Nat.le_of_ble_eq_true rfl) ?_
  show AW miX9_makeEmpty (d) (mxA Q) 0 [(0, some (.ref (w + 13)))] [] M
  refine a_aload_n rfl dX9_makeEmpty_0 ?_
  refine n_iconst 0 rfl dX9_makeEmpty_1 ?_
  refine a_putz dX9_makeEmpty_2 pX9_30 (isW_lt hw (i := 13) (by decide)) (layW_13 hw) rfl (Or.inl rfl) ?_
  refine a_aload_n rfl dX9_makeEmpty_5 ?_
  refine n_iconst 0 rfl dX9_makeEmpty_6 ?_
  refine a_puti dX9_makeEmpty_7 pX9_34 (isW_lt hw (i := 13) (by decide)) (layW_13 hw) rfl ?_
  refine a_aload_n rfl dX9_makeEmpty_10 ?_
  refine n_iconst 0 rfl dX9_makeEmpty_11 ?_
  refine a_puti dX9_makeEmpty_12 pX9_38 (isW_lt hw (i := 13) (by decide)) (layW_13 hw) rfl ?_
  refine a_vret dX9_makeEmpty_15 rfl ?_
  exact hQ

/-- an empty wood -/
def emS : ST := fun a b => if a = 0 ∧ b = 0 then 4 else 0
def emY : YR := (0, 0, fun _ _ => 0)
def emM (M : Mm) (w : Nat) : Mm := siM (siM (siM (siM (siM (siM (siM (siM (siM (siM M w 0 (nI 4)) w 1 (nI 0)) w 2 (nI 0)) w 3 (nI 0)) w 4 (nI 0)) w 5 (nI 0)) w 6 (nI 0)) (w + 13) 0 (nI 0)) (w + 13) 1 (nI 0)) (w + 13) 2 (nI 0)
theorem em_o {M : Mm} {w k : Nat} (h : k ≠ w) (h2 : k ≠ w + 13) : (emM M w).1 k = M.1 k := by
  funext j
  unfold emM
  exact siN (siN (siN (siN (siN (siN (siN (siN (siN (siN rfl (by omega)) (by omega)) (by omega)) (by omega)) (by omega)) (by omega)) (by omega)) (by omega)) (by omega)) (by omega)
theorem em_WX {M : Mm} {w : Nat} {N : NM} : WX w (emM M w) (emS, N, emY) := by
  have z : ∀ c j, c ≠ 0 → emS c j = 0 := fun c j h => by unfold emS; rw [if_neg (by omega)]
  refine ⟨VX_intro ?_ ?_ ?_ ?_ ?_ ?_ ?_ (fun j hj => absurd hj (Nat.not_lt_zero j)) (fun j hj => absurd hj (Nat.not_lt_zero j)) (fun j hj => absurd hj (Nat.not_lt_zero j)) (fun j hj => absurd hj (Nat.not_lt_zero j)) (fun j hj => absurd hj (Nat.not_lt_zero j)) (fun j hj => absurd hj (Nat.not_lt_zero j)) (fun j hj => absurd hj (Nat.not_lt_zero j)) (fun j hj => absurd hj (Nat.not_lt_zero j)) (fun j hj => absurd hj (Nat.not_lt_zero j)) (fun j hj => absurd hj (Nat.not_lt_zero j)), ⟨fun j hj => absurd hj (Nat.not_lt_zero j), fun j hj => absurd hj (Nat.not_lt_zero j)⟩, ?_, ?_, ?_, fun i hi => absurd hi (Nat.not_lt_zero i)⟩
  all_goals simp [emM, siM, emS, emY, scN, bsN]

set_option maxRecDepth 100000 in
set_option maxHeartbeats 800000 in
theorem c_X6_makeEmpty {w : Nat} (hw : isW w) {M : Mm} {Q : Option Value → Mm → Prop} (hQ : Q none (emM M w)) (d : Nat) : AMt miX6_makeEmpty (d + 1) [.ref w] M Q := by
  refine AMt.of (by decide) (Nat.le_of_ble_eq_true rfl) ?_
  show AW miX6_makeEmpty (d + 1) (mxA Q) 0 [(0, some (.ref w))] [] M
  refine a_aload_n rfl dX6_makeEmpty_0 ?_
  refine n_iconst 4 rfl dX6_makeEmpty_1 ?_
  refine a_puti dX6_makeEmpty_2 pX6_9 (isW_lt hw (i := 0) (by decide)) (layW_0 hw) rfl ?_
  refine a_aload_n rfl dX6_makeEmpty_5 ?_
  refine n_iconst 0 rfl dX6_makeEmpty_6 ?_
  refine a_puti dX6_makeEmpty_7 pX6_60 (isW_lt hw (i := 0) (by decide)) (layW_0 hw) rfl ?_
  refine a_aload_n rfl dX6_makeEmpty_10 ?_
  refine n_iconst 0 rfl dX6_makeEmpty_11 ?_
  refine a_puti dX6_makeEmpty_12 pX6_63 (isW_lt hw (i := 0) (by decide)) (layW_0 hw) rfl ?_
  refine a_aload_n rfl dX6_makeEmpty_15 ?_
  refine n_iconst 0 rfl dX6_makeEmpty_16 ?_
  refine a_puti dX6_makeEmpty_17 pX6_66 (isW_lt hw (i := 0) (by decide)) (layW_0 hw) rfl ?_
  refine a_aload_n rfl dX6_makeEmpty_20 ?_
  refine n_iconst 0 rfl dX6_makeEmpty_21 ?_
  refine a_puti dX6_makeEmpty_22 pX6_69 (isW_lt hw (i := 0) (by decide)) (layW_0 hw) rfl ?_
  refine a_aload_n rfl dX6_makeEmpty_25 ?_
  refine n_iconst 0 rfl dX6_makeEmpty_26 ?_
  refine a_puti dX6_makeEmpty_27 pX6_72 (isW_lt hw (i := 0) (by decide)) (layW_0 hw) rfl ?_
  refine a_aload_n rfl dX6_makeEmpty_30 ?_
  refine n_iconst 0 rfl dX6_makeEmpty_31 ?_
  refine a_puti dX6_makeEmpty_32 pX6_75 (isW_lt hw (i := 0) (by decide)) (layW_0 hw) rfl ?_
  refine a_aload_n rfl dX6_makeEmpty_35 ?_
  refine a_geta dX6_makeEmpty_36 fX6_56 (isW_lt hw (i := 0) (by decide)) (layW_0 hw) rfl ?_
  refine n_callV (mi' := miX9_makeEmpty) dX6_makeEmpty_39 lX6_78 mX9_makeEmpty (isW_lt hw (i := 13) (by decide)) (layW_13 hw) rfl rfl (c_X9_makeEmpty hw ?_ d) rfl rfl (by omega) (by decide) (Nat.le_of_ble_eq_true rfl)
  show AW _ _ _ _ _ _ _
  refine a_vret dX6_makeEmpty_42 rfl ?_
  exact hQ

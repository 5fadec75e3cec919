set_option maxRecDepth 100000 in
set_option maxHeartbeats 800000 in
theorem c_X5_isTray {M : Mm} {x : Int32} {Q : Option Value → Mm → Prop} (h1 : 0 ≤ x.toInt → x.toInt < 4 → Q (some (.int (nI 1))) M) (h0 : ¬ (0 ≤ x.toInt ∧ x.toInt < 4) → Q (some (.int (nI 0))) M) (d : Nat) : AMt miX5_isTray (d) [.int x] M Q := by
  refine AMt.of (by decide) (Nat.le_of_ble_eq_true rfl) ?_
  show AW miX5_isTray (d) (mxA Q) 0 [(0, some (.int x))] [] M
  refine a_iload_n rfl dX5_isTray_0 ?_
  refine r_if_lt 13 dX5_isTray_1 (by decide) (fun h_1 => ?_) (fun h_1 => ?_)
  · refine n_iconst 0 rfl dX5_isTray_13 ?_
    refine a_zret dX5_isTray_14 rfl (Or.inl rfl) ?_
    exact h0 (by omega)
  · refine a_iload_n rfl dX5_isTray_4 ?_
    refine n_iconst 4 rfl dX5_isTray_5 ?_
    refine r_icmp_ge 13 (by omega) dX5_isTray_6 (by decide) (fun h_6 => ?_) (fun h_6 => ?_)
    · refine n_iconst 0 rfl dX5_isTray_13 ?_
      refine a_zret dX5_isTray_14 rfl (Or.inl rfl) ?_
      exact h0 (by omega)
    · refine n_iconst 1 rfl dX5_isTray_9 ?_
      refine a_goto 14 dX5_isTray_10 (by decide) ?_
      refine a_zret dX5_isTray_14 rfl (Or.inr rfl) ?_
      exact h1 (by omega) (by omega)

set_option maxRecDepth 100000 in
set_option maxHeartbeats 800000 in
theorem c_X9_makeEmpty {w : Nat} (hw : isW w) {M : Mm} {Q : Option Value → Mm → Prop} (hQ : Q none (siM (siM (siM M (w + 13) 0 (nI 0)) (w + 13) 1 (nI 0)) (w + 13) 2 (nI 0))) (d : Nat) : AMt miX9_makeEmpty (d) [.ref (w + 13)] M Q := by
  refine AMt.of (by decide) (Nat.le_of_ble_eq_true rfl) ?_
  show AW miX9_makeEmpty (d) (mxA Q) 0 [(0, some (.ref (w + 13)))] [] M
  refine a_aload_n rfl dX9_makeEmpty_0 ?_
  refine n_iconst 0 rfl dX9_makeEmpty_1 ?_
  refine a_putz dX9_makeEmpty_2 pX9_30 (isW_lt hw (i := 13) (by decide)) (layW_13 hw) rfl (Or.inl rfl) ?_
  refine a_aload_n rfl dX9_makeEmpty_5 ?_
  refine n_iconst 0 rfl dX9_makeEmpty_6 ?_
  refine a_puti dX9_makeEmpty_7 pX9_34 (isW_lt hw (i := 13) (by decide)) (layW_13 hw) rfl ?_
  refine a_aload_n rfl dX9_makeEmpty_10 ?_
  refine n_iconst 0 rfl dX9_makeEmpty_11 ?_
  refine a_puti dX9_makeEmpty_12 pX9_38 (isW_lt hw (i := 13) (by decide)) (layW_13 hw) rfl ?_
  refine a_vret dX9_makeEmpty_15 rfl ?_
  exact hQ

/-- an empty wood -/
def emS : ST := fun a b => if a = 0 ∧ b = 0 then 4 else 0
def emY : YR := (0, 0, fun _ _ => 0)
def emM (M : Mm) (w : Nat) : Mm := siM (siM (siM (siM (siM (siM (siM (siM (siM (siM M w 0 (nI 4)) w 1 (nI 0)) w 2 (nI 0)) w 3 (nI 0)) w 4 (nI 0)) w 5 (nI 0)) w 6 (nI 0)) (w + 13) 0 (nI 0)) (w + 13) 1 (nI 0)) (w + 13) 2 (nI 0)
theorem em_o {M : Mm} {w k : Nat} (h : k ≠ w) (h2 : k ≠ w + 13) : (emM M w).1 k = M.1 k := by
  funext j
  unfold emM
  exact siN (siN (siN (siN (siN (siN (siN (siN (siN (siN rfl (by omega)) (by omega)) (by omega)) (by omega)) (by omega)) (by omega)) (by omega)) (by omega)) (by omega)) (by omega)
theorem em_WX {M : Mm} {w : Nat} {N : NM} : WX w (emM M w) (emS, N, emY) := by
  have z : ∀ c j, c ≠ 0 → emS c j = 0 := fun c j h => by unfold emS; rw [if_neg (by omega)]
  refine ⟨VX_intro ?_ ?_ ?_ ?_ ?_ ?_ ?_ (fun j hj => absurd hj (Nat.not_lt_zero j)) (fun j hj => absurd hj (Nat.not_lt_zero j)) (fun j hj => absurd hj (Nat.not_lt_zero j)) (fun j hj => absurd hj (Nat.not_lt_zero j)) (fun j hj => absurd hj (Nat.not_lt_zero j)) (fun j hj => absurd hj (Nat.not_lt_zero j)) (fun j hj => absurd hj (Nat.not_lt_zero j)) (fun j hj => absurd hj (Nat.not_lt_zero j)) (fun j hj => absurd hj (Nat.not_lt_zero j)) (fun j hj => absurd hj (Nat.not_lt_zero j)), ⟨fun j hj => absurd hj (Nat.not_lt_zero j), fun j hj => absurd hj (Nat.not_lt_zero j)⟩, ?_, ?_, ?_, fun i hi => absurd hi (Nat.not_lt_zero i)⟩
  all_goals simp [emM, siM, emS, emY, scN, bsN]

set_option maxRecDepth 100000 in
set_option maxHeartbeats 800000 in
theorem c_X6_makeEmpty {w : Nat} (hw : isW w) {M : Mm} {Q : Option Value → Mm → Prop} (hQ : Q none (emM M w)) (d : Nat) : AMt miX6_makeEmpty (d + 1) [.ref w] M Q := by
  refine AMt.of (by decide) (Nat.le_of_ble_eq_true rfl) ?_
  show AW miX6_makeEmpty (d + 1) (mxA Q) 0 [(0, some (.ref w))] [] M
  refine a_aload_n rfl dX6_makeEmpty_0 ?_
  refine n_iconst 4 rfl dX6_makeEmpty_1 ?_
  refine a_puti dX6_makeEmpty_2 pX6_9 (isW_lt hw (i := 0) (by decide)) (layW_0 hw) rfl ?_
  refine a_aload_n rfl dX6_makeEmpty_5 ?_
  refine n_iconst 0 rfl dX6_makeEmpty_6 ?_
  refine a_puti dX6_makeEmpty_7 pX6_60 (isW_lt hw (i := 0) (by decide)) (layW_0 hw) rfl ?_
  refine a_aload_n rfl dX6_makeEmpty_10 ?_
  refine n_iconst 0 rfl dX6_makeEmpty_11 ?_
  refine a_puti dX6_makeEmpty_12 pX6_63 (isW_lt hw (i := 0) (by decide)) (layW_0 hw) rfl ?_
  refine a_aload_n rfl dX6_makeEmpty_15 ?_
  refine n_iconst 0 rfl dX6_makeEmpty_16 ?_
  refine a_puti dX6_makeEmpty_17 pX6_66 (isW_lt hw (i := 0) (by decide)) (layW_0 hw) rfl ?_
  refine a_aload_n rfl dX6_makeEmpty_20 ?_
  refine n_iconst 0 rfl dX6_makeEmpty_21 ?_
  refine a_puti dX6_makeEmpty_22 pX6_69 (isW_lt hw (i := 0) (by decide)) (layW_0 hw) rfl ?_
  refine a_aload_n rfl dX6_makeEmpty_25 ?_
  refine n_iconst 0 rfl dX6_makeEmpty_26 ?_
  refine a_puti dX6_makeEmpty_27 pX6_72 (isW_lt hw (i := 0) (by decide)) (layW_0 hw) rfl ?_
  refine a_aload_n rfl dX6_makeEmpty_30 ?_
  refine n_iconst 0 rfl dX6_makeEmpty_31 ?_
  refine a_puti dX6_makeEmpty_32 pX6_75 (isW_lt hw (i := 0) (by decide)) (layW_0 hw) rfl ?_
  refine a_aload_n rfl dX6_makeEmpty_35 ?_
  refine a_geta dX6_makeEmpty_36 fX6_56 (isW_lt hw (i := 0) (by decide)) (layW_0 hw) rfl ?_
  refine n_callV (mi' := miX9_makeEmpty) dX6_makeEmpty_39 lX6_78 mX9_makeEmpty (isW_lt hw (i := 13) (by decide)) (layW_13 hw) rfl rfl (c_X9_makeEmpty hw ?_ d) rfl rfl (by omega) (by decide) (Nat.le_of_ble_eq_true rfl)
  show AW _ _ _ _ _ _ _
  refine a_vret dX6_makeEmpty_42 rfl ?_
  exact hQ

/-- the copy of a whole array -/
def cpM (M : Mm) (k0 k1 n : Nat) : Mm := srM M k1 (fun b => if 0 ≤ b ∧ b < 0 + n then M.1 k0 (0 + (b - 0)) else M.1 k1 b)
theorem cp_at {M : Mm} {k0 k1 n j : Nat} (h : j < n) : (cpM M k0 k1 n).1 k1 j = M.1 k0 j := by
  unfold cpM
  rw [srM_at, if_pos (by omega), show 0 + (j - 0) = j by omega]
theorem cp_o {M : Mm} {k0 k1 n k : Nat} (h : k ≠ k1) : (cpM M k0 k1 n).1 k = M.1 k := funext fun j => srN rfl h
theorem si_o {M : Mm} {k j k1 : Nat} {x : Int32} (h : k ≠ k1) : (siM M k1 j x).1 k = M.1 k := funext fun q => siN rfl (by omega)

def tyM (M : Mm) (w u : Nat) (Y : YR) : Mm := cpM (cpM (cpM (cpM (cpM (cpM (siM (siM (siM M (w + 13) 0 (nI Y.1)) (w + 13) 1 (nI (scN Y.2.2 Y.2.1))) (w + 13) 2 (nI Y.2.1)) (u + 14) (w + 14) 60) (u + 15) (w + 15) 60) (u + 16) (w + 16) 60) (u + 17) (w + 17) 60) (u + 18) (w + 18) 60) (u + 19) (w + 19) 60

set_option maxRecDepth 100000 in
set_option maxHeartbeats 800000 in
theorem c_X9_takeFrom {w u : Nat} (hw : isW w) (hu : isW u) (hd : w + 19 < u ∨ u + 19 < w) {M : Mm} {Y : YR} (hY : YX (u + 13) M Y) (h1 : Y.1 ≤ 1) {Q : Option Value → Mm → Prop} (hQ : Q none (tyM M w u Y)) (d : Nat) : AMt miX9_takeFrom (d) [.ref (w + 13), .ref (u + 13)] M Q := by
  refine AMt.of (by decide) (Nat.le_of_ble_eq_true rfl) ?_
  show AW miX9_takeFrom (d) (mxA Q) 0 [(0, some (.ref (w + 13))), (1, some (.ref (u + 13)))] [] M
  have hz : nI Y.1 = 0 ∨ nI Y.1 = 1 := by
    rcases (show Y.1 = 0 ∨ Y.1 = 1 by omega) with h | h
    · rw [h]; exact Or.inl rfl
    · rw [h]; exact Or.inr rfl
  refine a_aload_n rfl dX9_takeFrom_0 ?_
  refine a_aload_n rfl dX9_takeFrom_1 ?_
  refine g_i (by first | exact hY.1 | exact siN hY.1 (by omega) | exact siN (siN hY.1 (by omega)) (by omega)) (isW_lt hu (i := 13) (by decide)) (layW_13 hu) fX9_30 rfl dX9_takeFrom_2 ?_
  refine a_putz dX9_takeFrom_5 pX9_30 (isW_lt hw (i := 13) (by decide)) (layW_13 hw) rfl (by assumption) ?_
  refine a_aload_n rfl dX9_takeFrom_8 ?_
  refine a_aload_n rfl dX9_takeFrom_9 ?_
  refine g_i (siN (by first | exact hY.2.1 | exact siN hY.2.1 (by omega) | exact siN (siN hY.2.1 (by omega)) (by omega)) (by omega)) (isW_lt hu (i := 13) (by decide)) (layW_13 hu) fX9_34 rfl dX9_takeFrom_10 ?_
  refine a_puti dX9_takeFrom_13 pX9_34 (isW_lt hw (i := 13) (by decide)) (layW_13 hw) rfl ?_
  refine a_aload_n rfl dX9_takeFrom_16 ?_
  refine a_aload_n rfl dX9_takeFrom_17 ?_
  refine g_i (siN (siN (by first | exact hY.2.2.1 | exact siN hY.2.2.1 (by omega) | exact siN (siN hY.2.2.1 (by omega)) (by omega)) (by omega)) (by omega)) (isW_lt hu (i := 13) (by decide)) (layW_13 hu) fX9_38 rfl dX9_takeFrom_18 ?_
  refine a_puti dX9_takeFrom_21 pX9_38 (isW_lt hw (i := 13) (by decide)) (layW_13 hw) rfl ?_
  refine a_aload_n rfl dX9_takeFrom_24 ?_
  refine a_geta dX9_takeFrom_25 fX9_11 (isW_lt hu (i := 13) (by decide)) (layW_13 hu) rfl ?_
  refine n_iconst 0 rfl dX9_takeFrom_28 ?_
  refine a_aload_n rfl dX9_takeFrom_29 ?_
  refine a_geta dX9_takeFrom_30 fX9_11 (isW_lt hw (i := 13) (by decide)) (layW_13 hw) rfl ?_
  refine n_iconst 0 rfl dX9_takeFrom_33 ?_
  refine n_bipush 60 rfl dX9_takeFrom_34 ?_
  refine n_copyi (isW_lt hu (i := 14) (by decide)) (layW_14 hu) (isW_lt hw (i := 14) (by decide)) (layW_14 hw) (by omega) (by omega) (by decide) (by decide) (Nat.le_of_ble_eq_true rfl) dX9_takeFrom_36 lX9_41 ?_
  refine a_aload_n rfl dX9_takeFrom_39 ?_
  refine a_geta dX9_takeFrom_40 fX9_15 (isW_lt hu (i := 13) (by decide)) (layW_13 hu) rfl ?_
  refine n_iconst 0 rfl dX9_takeFrom_43 ?_
  refine a_aload_n rfl dX9_takeFrom_44 ?_
  refine a_geta dX9_takeFrom_45 fX9_15 (isW_lt hw (i := 13) (by decide)) (layW_13 hw) rfl ?_
  refine n_iconst 0 rfl dX9_takeFrom_48 ?_
  refine n_bipush 60 rfl dX9_takeFrom_49 ?_
  refine n_copyi (isW_lt hu (i := 15) (by decide)) (layW_15 hu) (isW_lt hw (i := 15) (by decide)) (layW_15 hw) (by omega) (by omega) (by decide) (by decide) (Nat.le_of_ble_eq_true rfl) dX9_takeFrom_51 lX9_41 ?_
  refine a_aload_n rfl dX9_takeFrom_54 ?_
  refine a_geta dX9_takeFrom_55 fX9_18 (isW_lt hu (i := 13) (by decide)) (layW_13 hu) rfl ?_
  refine n_iconst 0 rfl dX9_takeFrom_58 ?_
  refine a_aload_n rfl dX9_takeFrom_59 ?_
  refine a_geta dX9_takeFrom_60 fX9_18 (isW_lt hw (i := 13) (by decide)) (layW_13 hw) rfl ?_
  refine n_iconst 0 rfl dX9_takeFrom_63 ?_
  refine n_bipush 60 rfl dX9_takeFrom_64 ?_
  refine n_copyi (isW_lt hu (i := 16) (by decide)) (layW_16 hu) (isW_lt hw (i := 16) (by decide)) (layW_16 hw) (by omega) (by omega) (by decide) (by decide) (Nat.le_of_ble_eq_true rfl) dX9_takeFrom_66 lX9_41 ?_
  refine a_aload_n rfl dX9_takeFrom_69 ?_
  refine a_geta dX9_takeFrom_70 fX9_21 (isW_lt hu (i := 13) (by decide)) (layW_13 hu) rfl ?_
  refine n_iconst 0 rfl dX9_takeFrom_73 ?_
  refine a_aload_n rfl dX9_takeFrom_74 ?_
  refine a_geta dX9_takeFrom_75 fX9_21 (isW_lt hw (i := 13) (by decide)) (layW_13 hw) rfl ?_
  refine n_iconst 0 rfl dX9_takeFrom_78 ?_
  refine n_bipush 60 rfl dX9_takeFrom_79 ?_
  refine n_copyi (isW_lt hu (i := 17) (by decide)) (layW_17 hu) (isW_lt hw (i := 17) (by decide)) (layW_17 hw) (by omega) (by omega) (by decide) (by decide) (Nat.le_of_ble_eq_true rfl) dX9_takeFrom_81 lX9_41 ?_
  refine a_aload_n rfl dX9_takeFrom_84 ?_
  refine a_geta dX9_takeFrom_85 fX9_24 (isW_lt hu (i := 13) (by decide)) (layW_13 hu) rfl ?_
  refine n_iconst 0 rfl dX9_takeFrom_88 ?_
  refine a_aload_n rfl dX9_takeFrom_89 ?_
  refine a_geta dX9_takeFrom_90 fX9_24 (isW_lt hw (i := 13) (by decide)) (layW_13 hw) rfl ?_
  refine n_iconst 0 rfl dX9_takeFrom_93 ?_
  refine n_bipush 60 rfl dX9_takeFrom_94 ?_
  refine n_copyi (isW_lt hu (i := 18) (by decide)) (layW_18 hu) (isW_lt hw (i := 18) (by decide)) (layW_18 hw) (by omega) (by omega) (by decide) (by decide) (Nat.le_of_ble_eq_true rfl) dX9_takeFrom_96 lX9_41 ?_
  refine a_aload_n rfl dX9_takeFrom_99 ?_
  refine a_geta dX9_takeFrom_100 fX9_27 (isW_lt hu (i := 13) (by decide)) (layW_13 hu) rfl ?_
  refine n_iconst 0 rfl dX9_takeFrom_103 ?_
  refine a_aload_n rfl dX9_takeFrom_104 ?_
  refine a_geta dX9_takeFrom_105 fX9_27 (isW_lt hw (i := 13) (by decide)) (layW_13 hw) rfl ?_
  refine n_iconst 0 rfl dX9_takeFrom_108 ?_
  refine n_bipush 60 rfl dX9_takeFrom_109 ?_
  refine n_copyi (isW_lt hu (i := 19) (by decide)) (layW_19 hu) (isW_lt hw (i := 19) (by decide)) (layW_19 hw) (by omega) (by omega) (by decide) (by decide) (Nat.le_of_ble_eq_true rfl) dX9_takeFrom_111 lX9_41 ?_
  refine a_vret dX9_takeFrom_114 rfl ?_
  unfold tyM cpM at hQ
  exact hQ

theorem ty_0 {M : Mm} {w u : Nat} {Y : YR} (hd : w + 19 < u ∨ u + 19 < w) {j : Nat} (hj : j < 60) : (tyM M w u Y).1 (w + 14) j = M.1 (u + 14) j := by
  unfold tyM
  rw [cp_o (by omega)]
  rw [cp_o (by omega)]
  rw [cp_o (by omega)]
  rw [cp_o (by omega)]
  rw [cp_o (by omega)]
  rw [cp_at hj]
  rw [si_o (by omega), si_o (by omega), si_o (by omega)]

theorem ty_1 {M : Mm} {w u : Nat} {Y : YR} (hd : w + 19 < u ∨ u + 19 < w) {j : Nat} (hj : j < 60) : (tyM M w u Y).1 (w + 15) j = M.1 (u + 15) j := by
  unfold tyM
  rw [cp_o (by omega)]
  rw [cp_o (by omega)]
  rw [cp_o (by omega)]
  rw [cp_o (by omega)]
  rw [cp_at hj]
  rw [cp_o (by omega)]
  rw [si_o (by omega), si_o (by omega), si_o (by omega)]

theorem ty_2 {M : Mm} {w u : Nat} {Y : YR} (hd : w + 19 < u ∨ u + 19 < w) {j : Nat} (hj : j < 60) : (tyM M w u Y).1 (w + 16) j = M.1 (u + 16) j := by
  unfold tyM
  rw [cp_o (by omega)]
  rw [cp_o (by omega)]
  rw [cp_o (by omega)]
  rw [cp_at hj]
  rw [cp_o (by omega)]
  rw [cp_o (by omega)]
  rw [si_o (by omega), si_o (by omega), si_o (by omega)]

theorem ty_3 {M : Mm} {w u : Nat} {Y : YR} (hd : w + 19 < u ∨ u + 19 < w) {j : Nat} (hj : j < 60) : (tyM M w u Y).1 (w + 17) j = M.1 (u + 17) j := by
  unfold tyM
  rw [cp_o (by omega)]
  rw [cp_o (by omega)]
  rw [cp_at hj]
  rw [cp_o (by omega)]
  rw [cp_o (by omega)]
  rw [cp_o (by omega)]
  rw [si_o (by omega), si_o (by omega), si_o (by omega)]

theorem ty_4 {M : Mm} {w u : Nat} {Y : YR} (hd : w + 19 < u ∨ u + 19 < w) {j : Nat} (hj : j < 60) : (tyM M w u Y).1 (w + 18) j = M.1 (u + 18) j := by
  unfold tyM
  rw [cp_o (by omega)]
  rw [cp_at hj]
  rw [cp_o (by omega)]
  rw [cp_o (by omega)]
  rw [cp_o (by omega)]
  rw [cp_o (by omega)]
  rw [si_o (by omega), si_o (by omega), si_o (by omega)]

theorem ty_5 {M : Mm} {w u : Nat} {Y : YR} (hd : w + 19 < u ∨ u + 19 < w) {j : Nat} (hj : j < 60) : (tyM M w u Y).1 (w + 19) j = M.1 (u + 19) j := by
  unfold tyM
  rw [cp_at hj]
  rw [cp_o (by omega)]
  rw [cp_o (by omega)]
  rw [cp_o (by omega)]
  rw [cp_o (by omega)]
  rw [cp_o (by omega)]
  rw [si_o (by omega), si_o (by omega), si_o (by omega)]

theorem ty_o {M : Mm} {w u : Nat} {Y : YR} {k : Nat} (h : k < w + 13 ∨ w + 19 < k) : (tyM M w u Y).1 k = M.1 k := by
  unfold tyM
  rw [cp_o (by omega)]
  rw [cp_o (by omega)]
  rw [cp_o (by omega)]
  rw [cp_o (by omega)]
  rw [cp_o (by omega)]
  rw [cp_o (by omega)]
  rw [si_o (by omega), si_o (by omega), si_o (by omega)]

theorem ty_h {M : Mm} {w u : Nat} {Y : YR} : (tyM M w u Y).1 (w + 13) = (siM (siM (siM M (w + 13) 0 (nI Y.1)) (w + 13) 1 (nI (scN Y.2.2 Y.2.1))) (w + 13) 2 (nI Y.2.1)).1 (w + 13) := by
  unfold tyM
  rw [cp_o (by omega)]
  rw [cp_o (by omega)]
  rw [cp_o (by omega)]
  rw [cp_o (by omega)]
  rw [cp_o (by omega)]
  rw [cp_o (by omega)]

theorem ty_YX {M : Mm} {w u : Nat} {Y : YR} (hd : w + 19 < u ∨ u + 19 < w) (hY : YX (u + 13) M Y) (h60 : Y.2.1 ≤ 60) : YX (w + 13) (tyM M w u Y) Y := by
  obtain ⟨h0, h1, h2, h3⟩ := hY
  refine ⟨by rw [ty_h]; exact siN (siN siS (by omega)) (by omega), by rw [ty_h]; exact siN siS (by omega), by rw [ty_h]; exact siS, fun i hi => ?_⟩
  have hi6 : i < 60 := by omega
  show (tyM M w u Y).1 (w + 14) i = nI (Y.2.2 i 0) ∧ ((Y.2.2 i 0 = 15 ∨ Y.2.2 i 0 = 16 ∨ Y.2.2 i 0 = 18) → (tyM M w u Y).1 (w + 16) i = nI (Y.2.2 i 1)) ∧ (tyM M w u Y).1 (w + 18) i = nI (Y.2.2 i 2) ∧ (tyM M w u Y).1 (w + 19) i = nI (Y.2.2 i 5) ∧ (Y.2.2 i 0 = 18 → (tyM M w u Y).1 (w + 15) i = nI (Y.2.2 i 3) ∧ (tyM M w u Y).1 (w + 17) i = if Y.2.2 i 3 = 21 then nI (Y.2.2 i 4) else -1)
  rw [ty_0 hd hi6, ty_1 hd hi6, ty_2 hd hi6, ty_3 hd hi6, ty_4 hd hi6, ty_5 hd hi6]
  exact h3 i hi

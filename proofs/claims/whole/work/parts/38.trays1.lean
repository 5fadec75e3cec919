set_option maxRecDepth 100000 in
set_option maxHeartbeats 800000 in
theorem c_X5_isTray {M : Mm} {x : Int32} {Q : Option Value → Mm → Prop} (h1 : 0 ≤ x.toInt → x.toInt < 4 → Q (some (.int (nI 1))) M) (h0 : ¬ (0 ≤ x.toInt ∧ x.toInt < 4) → Q (some (.int (nI 0))) M) (d : Nat) : AMt miX5_isTray (d) [.int x] M Q := by
  refine AMt.of (by decide) (Nat.le_of_ble_eq_true rfl) ?_
  show AW miX5_isTray (d) (mxA Q) 0 [(0, some (.int x))] [] M
  refine a_iload_n rfl dX5_isTray_0 ?_
  refine r_if_lt 13 dX5_isTray_1 (by decide) (fun h_1 => ?_) (fun h_1 => ?_)
  · refine n_iconst 0 rfl dX5_isTray_13 ?_
    refine a_zret dX5_isTray_14 rfl (Or.inl rfl) ?_
    exact h0 (by omega)
  · refine a_iload_n rfl dX5_isTray_4 ?_
    refine n_iconst 4 rfl dX5_isTray_5 ?_
    refine r_icmp_ge 13 (by omega) dX5_isTray_6 (by decide) (fun h_6 => ?_) (fun h_6 => ?_)
    · refine n_iconst 0 rfl dX5_isTray_13 ?_
      refine a_zret dX5_isTray_14 rfl (Or.inl rfl) ?_
      exact h0 (by omega)
    · refine n_iconst 1 rfl dX5_isTray_9 ?_
      refine a_goto 14 dX5_isTray_10 (by decide) ?_
      refine a_zret dX5_isTray_14 rfl (Or.inr rfl) ?_
      exact h1 (by omega) (by omega)

set_option maxRecDepth 100000 in
set_option maxHeartbeats 800000 in
theorem c_X9_makeEmpty {w : Nat} (hw : isW w) {M : Mm} {Q : Option Value → Mm → Prop} (hQ : Q none (siM (siM (siM M (w + 13) 0 (nI 0)) (w + 13) 1 (nI 0)) (w + 13) 2 (nI 0))) (d : Nat) : AMt miX9_makeEmpty (d) [.ref (w + 13)] M Q := by
  refine AMt.of (by decide) (Nat.le_of_ble_eq_true rfl) ?_
  show AW miX9_makeEmpty (d) (mxA Q) 0 [(0, some (.ref (w + 13)))] [] M
  refine a_aload_n rfl dX9_makeEmpty_0 ?_
  refine n_iconst 0 rfl dX9_makeEmpty_1 ?_
  refine a_putz dX9_makeEmpty_2 pX9_30 (isW_lt hw (i := 13) (by decide)) (layW_13 hw) rfl (Or.inl rfl) ?_
  refine a_aload_n rfl dX9_makeEmpty_5 ?_
  refine n_iconst 0 rfl dX9_makeEmpty_6 ?_
  refine a_puti dX9_makeEmpty_7 pX9_34 (isW_lt hw (i := 13) (by decide)) (layW_13 hw) rfl ?_
  refine a_aload_n rfl dX9_makeEmpty_10 ?_
  refine n_iconst 0 rfl dX9_makeEmpty_11 ?_
  refine a_puti dX9_makeEmpty_12 pX9_38 (isW_lt hw (i := 13) (by decide)) (layW_13 hw) rfl ?_
  refine a_vret dX9_makeEmpty_15 rfl ?_
  exact hQ

/-- an empty wood -/
def emS : ST := fun a b => if a = 0 ∧ b = 0 then 4 else 0
def emY : YR := (0, 0, fun _ _ => 0)
def emM (M : Mm) (w : Nat) : Mm := siM (siM (siM (siM (siM (siM (siM (siM (siM (siM M w 0 (nI 4)) w 1 (nI 0)) w 2 (nI 0)) w 3 (nI 0)) w 4 (nI 0)) w 5 (nI 0)) w 6 (nI 0)) (w + 13) 0 (nI 0)) (w + 13) 1 (nI 0)) (w + 13) 2 (nI 0)
theorem em_o {M : Mm} {w k : Nat} (h : k ≠ w) (h2 : k ≠ w + 13) : (emM M w).1 k = M.1 k := by
  funext j
  unfold emM
  exact siN (siN (siN (siN (siN (siN (siN (siN (siN (siN rfl (by omega)) (by omega)) (by omega)) (by omega)) (by omega)) (by omega)) (by omega)) (by omega)) (by omega)) (by omega)
theorem em_WX {M : Mm} {w : Nat} {N : NM} : WX w (emM M w) (emS, N, emY) := by
  have z : ∀ c j, c ≠ 0 → emS c j = 0 := fun c j h => by unfold emS; rw [if_neg (by omega)]
  refine ⟨VX_intro ?_ ?_ ?_ ?_ ?_ ?_ ?_ (fun j hj => absurd hj (Nat.not_lt_zero j)) (fun j hj => absurd hj (Nat.not_lt_zero j)) (fun j hj => absurd hj (Nat.not_lt_zero j)) (fun j hj => absurd hj (Nat.not_lt_zero j)) (fun j hj => absurd hj (Nat.not_lt_zero j)) (fun j hj => absurd hj (Nat.not_lt_zero j)) (fun j hj => absurd hj (Nat.not_lt_zero j)) (fun j hj => absurd hj (Nat.not_lt_zero j)) (fun j hj => absurd hj (Nat.not_lt_zero j)) (fun j hj => absurd hj (Nat.not_lt_zero j)), ⟨fun j hj => absurd hj (Nat.not_lt_zero j), fun j hj => absurd hj (Nat.not_lt_zero j)⟩, ?_, ?_, ?_, fun i hi => absurd hi (Nat.not_lt_zero i)⟩
  all_goals simp [emM, siM, emS, emY, scN, bsN]

set_option maxRecDepth 100000 in
set_option maxHeartbeats 800000 in
theorem c_X6_makeEmpty {w : Nat} (hw : isW w) {M : Mm} {Q : Option Value → Mm → Prop} (hQ : Q none (emM M w)) (d : Nat) : AMt miX6_makeEmpty (d + 1) [.ref w] M Q := by
  refine AMt.of (by decide) (Nat.le_of_ble_eq_true rfl) ?_
  show AW miX6_makeEmpty (d + 1) (mxA Q) 0 [(0, some (.ref w))] [] M
  refine a_aload_n rfl dX6_makeEmpty_0 ?_
  refine n_iconst 4 rfl dX6_makeEmpty_1 ?_
  refine a_puti dX6_makeEmpty_2 pX6_9 (isW_lt hw (i := 0) (by decide)) (layW_0 hw) rfl ?_
  refine a_aload_n rfl dX6_makeEmpty_5 ?_
  refine n_iconst 0 rfl dX6_makeEmpty_6 ?_
  refine a_puti dX6_makeEmpty_7 pX6_60 (isW_lt hw (i := 0) (by decide)) (layW_0 hw) rfl ?_
  refine a_aload_n rfl dX6_makeEmpty_10 ?_
  refine n_iconst 0 rfl dX6_makeEmpty_11 ?_
  refine a_puti dX6_makeEmpty_12 pX6_63 (isW_lt hw (i := 0) (by decide)) (layW_0 hw) rfl ?_
  refine a_aload_n rfl dX6_makeEmpty_15 ?_
  refine n_iconst 0 rfl dX6_makeEmpty_16 ?_
  refine a_puti dX6_makeEmpty_17 pX6_66 (isW_lt hw (i := 0) (by decide)) (layW_0 hw) rfl ?_
  refine a_aload_n rfl dX6_makeEmpty_20 ?_
  refine n_iconst 0 rfl dX6_makeEmpty_21 ?_
  refine a_puti dX6_makeEmpty_22 pX6_69 (isW_lt hw (i := 0) (by decide)) (layW_0 hw) rfl ?_
  refine a_aload_n rfl dX6_makeEmpty_25 ?_
  refine n_iconst 0 rfl dX6_makeEmpty_26 ?_
  refine a_puti dX6_makeEmpty_27 pX6_72 (isW_lt hw (i := 0) (by decide)) (layW_0 hw) rfl ?_
  refine a_aload_n rfl dX6_makeEmpty_30 ?_
  refine n_iconst 0 rfl dX6_makeEmpty_31 ?_
  refine a_puti dX6_makeEmpty_32 pX6_75 (isW_lt hw (i := 0) (by decide)) (layW_0 hw) rfl ?_
  refine a_aload_n rfl dX6_makeEmpty_35 ?_
  refine a_geta dX6_makeEmpty_36 fX6_56 (isW_lt hw (i := 0) (by decide)) (layW_0 hw) rfl ?_
  refine n_callV (mi' := miX9_makeEmpty) dX6_makeEmpty_39 lX6_78 mX9_makeEmpty (isW_lt hw (i := 13) (by decide)) (layW_13 hw) rfl rfl (c_X9_makeEmpty hw ?_ d) rfl rfl (by omega) (by decide) (Nat.le_of_ble_eq_true rfl)
  show AW _ _ _ _ _ _ _
  refine a_vret dX6_makeEmpty_42 rfl ?_
  exact hQ

/-- the copy of a whole array -/
def cpM (M : Mm) (k0 k1 n : Nat) : Mm := srM M k1 (fun b => if 0 ≤ b ∧ b < 0 + n then M.1 k0 (0 + (b - 0)) else M.1 k1 b)
theorem cp_at {M : Mm} {k0 k1 n j : Nat} (h : j < n) : (cpM M k0 k1 n).1 k1 j = M.1 k0 j := by
  unfold cpM
  rw [srM_at, if_pos (by omega), show 0 + (j - 0) = j by omega]
theorem cp_o {M : Mm} {k0 k1 n k : Nat} (h : k ≠ k1) : (cpM M k0 k1 n).1 k = M.1 k := funext fun j => srN rfl h
theorem si_o {M : Mm} {k j k1 : Nat} {x : Int32} (h : k ≠ k1) : (siM M k1 j x).1 k = M.1 k := funext fun q => siN rfl (by omega)

def tyM (M : Mm) (w u : Nat) (Y : YR) : Mm := cpM (cpM (cpM (cpM (cpM (cpM (siM (siM (siM M (w + 13) 0 (nI Y.1)) (w + 13) 1 (nI (scN Y.2.2 Y.2.1))) (w + 13) 2 (nI Y.2.1)) (u + 14) (w + 14) 60) (u + 15) (w + 15) 60) (u + 16) (w + 16) 60) (u + 17) (w + 17) 60) (u + 18) (w + 18) 60) (u + 19) (w + 19) 60

set_option maxRecDepth 100000 in
set_option maxHeartbeats 800000 in
theorem c_X9_takeFrom {w u : Nat} (hw : isW w) (hu : isW u) (hd : w + 19 < u ∨ u + 19 < w) {M : Mm} {Y : YR} (hY : YX (u + 13) M Y) (h1 : Y.1 ≤ 1) {Q : Option Value → Mm → Prop} (hQ : Q none (tyM M w u Y)) (d : Nat) : AMt miX9_takeFrom (d) [.ref (w + 13), .ref (u + 13)] M Q := by
  refine AMt.of (by decide) (Nat.le_of_ble_eq_true rfl) ?_
  show AW miX9_takeFrom (d) (mxA Q) 0 [(0, some (.ref (w + 13))), (1, some (.ref (u + 13)))] [] M
  have hz : nI Y.1 = 0 ∨ nI Y.1 = 1 := by
    rcases (show Y.1 = 0 ∨ Y.1 = 1 by omega) with h | h
    · rw [h]; exact Or.inl rfl
    · rw [h]; exact Or.inr rfl
  refine a_aload_n rfl dX9_takeFrom_0 ?_
  refine a_aload_n rfl dX9_takeFrom_1 ?_
  refine g_i (by first | exact hY.1 | exact siN hY.1 (by omega) | exact siN (siN hY.1 (by omega)) (by omega)) (isW_lt hu (i := 13) (by decide)) (layW_13 hu) fX9_30 rfl dX9_takeFrom_2 ?_
  refine a_putz dX9_takeFrom_5 pX9_30 (isW_lt hw (i := 13) (by decide)) (layW_13 hw) rfl (by assumption) ?_
  refine a_aload_n rfl dX9_takeFrom_8 ?_
  refine a_aload_n rfl dX9_takeFrom_9 ?_
  refine g_i (siN (by first | exact hY.2.1 | exact siN hY.2.1 (by omega) | exact siN (siN hY.2.1 (by omega)) (by omega)) (by omega)) (isW_lt hu (i := 13) (by decide)) (layW_13 hu) fX9_34 rfl dX9_takeFrom_10 ?_
  refine a_puti dX9_takeFrom_13 pX9_34 (isW_lt hw (i := 13) (by decide)) (layW_13 hw) rfl ?_
  refine a_aload_n rfl dX9_takeFrom_16 ?_
  refine a_aload_n rfl dX9_takeFrom_17 ?_
  refine g_i (siN (siN (by first | exact hY.2.2.1 | exact siN hY.2.2.1 (by omega) | exact siN (siN hY.2.2.1 (by omega)) (by omega)) (by omega)) (by omega)) (isW_lt hu (i := 13) (by decide)) (layW_13 hu) fX9_38 rfl dX9_takeFrom_18 ?_
  refine a_puti dX9_takeFrom_21 pX9_38 (isW_lt hw (i := 13) (by decide)) (layW_13 hw) rfl ?_
  refine a_aload_n rfl dX9_takeFrom_24 ?_
  refine a_geta dX9_takeFrom_25 fX9_11 (isW_lt hu (i := 13) (by decide)) (layW_13 hu) rfl ?_
  refine n_iconst 0 rfl dX9_takeFrom_28 ?_
  refine a_aload_n rfl dX9_takeFrom_29 ?_
  refine a_geta dX9_takeFrom_30 fX9_11 (isW_lt hw (i := 13) (by decide)) (layW_13 hw) rfl ?_
  refine n_iconst 0 rfl dX9_takeFrom_33 ?_
  refine n_bipush 60 rfl dX9_takeFrom_34 ?_
  refine n_copyi (isW_lt hu (i := 14) (by decide)) (layW_14 hu) (isW_lt hw (i := 14) (by decide)) (layW_14 hw) (by omega) (by omega) (by decide) (by decide) (Nat.le_of_ble_eq_true rfl) dX9_takeFrom_36 lX9_41 ?_
  refine a_aload_n rfl dX9_takeFrom_39 ?_
  refine a_geta dX9_takeFrom_40 fX9_15 (isW_lt hu (i := 13) (by decide)) (layW_13 hu) rfl ?_
  refine n_iconst 0 rfl dX9_takeFrom_43 ?_
  refine a_aload_n rfl dX9_takeFrom_44 ?_
  refine a_geta dX9_takeFrom_45 fX9_15 (isW_lt hw (i := 13) (by decide)) (layW_13 hw) rfl ?_
  refine n_iconst 0 rfl dX9_takeFrom_48 ?_
  refine n_bipush 60 rfl dX9_takeFrom_49 ?_
  refine n_copyi (isW_lt hu (i := 15) (by decide)) (layW_15 hu) (isW_lt hw (i := 15) (by decide)) (layW_15 hw) (by omega) (by omega) (by decide) (by decide) (Nat.le_of_ble_eq_true rfl) dX9_takeFrom_51 lX9_41 ?_
  refine a_aload_n rfl dX9_takeFrom_54 ?_
  refine a_geta dX9_takeFrom_55 fX9_18 (isW_lt hu (i := 13) (by decide)) (layW_13 hu) rfl ?_
  refine n_iconst 0 rfl dX9_takeFrom_58 ?_
  refine a_aload_n rfl dX9_takeFrom_59 ?_
  refine a_geta dX9_takeFrom_60 fX9_18 (isW_lt hw (i := 13) (by decide)) (layW_13 hw) rfl ?_
  refine n_iconst 0 rfl dX9_takeFrom_63 ?_
  refine n_bipush 60 rfl dX9_takeFrom_64 ?_
  refine n_copyi (isW_lt hu (i := 16) (by decide)) (layW_16 hu) (isW_lt hw (i := 16) (by decide)) (layW_16 hw) (by omega) (by omega) (by decide) (by decide) (Nat.le_of_ble_eq_true rfl) dX9_takeFrom_66 lX9_41 ?_
  refine a_aload_n rfl dX9_takeFrom_69 ?_
  refine a_geta dX9_takeFrom_70 fX9_21 (isW_lt hu (i := 13) (by decide)) (layW_13 hu) rfl ?_
  refine n_iconst 0 rfl dX9_takeFrom_73 ?_
  refine a_aload_n rfl dX9_takeFrom_74 ?_
  refine a_geta dX9_takeFrom_75 fX9_21 (isW_lt hw (i := 13) (by decide)) (layW_13 hw) rfl ?_
  refine n_iconst 0 rfl dX9_takeFrom_78 ?_
  refine n_bipush 60 rfl dX9_takeFrom_79 ?_
  refine n_copyi (isW_lt hu (i := 17) (by decide)) (layW_17 hu) (isW_lt hw (i := 17) (by decide)) (layW_17 hw) (by omega) (by omega) (by decide) (by decide) (Nat.le_of_ble_eq_true rfl) dX9_takeFrom_81 lX9_41 ?_
  refine a_aload_n rfl dX9_takeFrom_84 ?_
  refine a_geta dX9_takeFrom_85 fX9_24 (isW_lt hu (i := 13) (by decide)) (layW_13 hu) rfl ?_
  refine n_iconst 0 rfl dX9_takeFrom_88 ?_
  refine a_aload_n rfl dX9_takeFrom_89 ?_
  refine a_geta dX9_takeFrom_90 fX9_24 (isW_lt hw (i := 13) (by decide)) (layW_13 hw) rfl ?_
  refine n_iconst 0 rfl dX9_takeFrom_93 ?_
  refine n_bipush 60 rfl dX9_takeFrom_94 ?_
  refine n_copyi (isW_lt hu (i := 18) (by decide)) (layW_18 hu) (isW_lt hw (i := 18) (by decide)) (layW_18 hw) (by omega) (by omega) (by decide) (by decide) (Nat.le_of_ble_eq_true rfl) dX9_takeFrom_96 lX9_41 ?_
  refine a_aload_n rfl dX9_takeFrom_99 ?_
  refine a_geta dX9_takeFrom_100 fX9_27 (isW_lt hu (i := 13) (by decide)) (layW_13 hu) rfl ?_
  refine n_iconst 0 rfl dX9_takeFrom_103 ?_
  refine a_aload_n rfl dX9_takeFrom_104 ?_
  refine a_geta dX9_takeFrom_105 fX9_27 (isW_lt hw (i := 13) (by decide)) (layW_13 hw) rfl ?_
  refine n_iconst 0 rfl dX9_takeFrom_108 ?_
  refine n_bipush 60 rfl dX9_takeFrom_109 ?_
  refine n_copyi (isW_lt hu (i := 19) (by decide)) (layW_19 hu) (isW_lt hw (i := 19) (by decide)) (layW_19 hw) (by omega) (by omega) (by decide) (by decide) (Nat.le_of_ble_eq_true rfl) dX9_takeFrom_111 lX9_41 ?_
  refine a_vret dX9_takeFrom_114 rfl ?_
  unfold tyM cpM at hQ
  exact hQ

theorem ty_0 {M : Mm} {w u : Nat} {Y : YR} (hd : w + 19 < u ∨ u + 19 < w) {j : Nat} (hj : j < 60) : (tyM M w u Y).1 (w + 14) j = M.1 (u + 14) j := by
  unfold tyM
  rw [cp_o (by omega)]
  rw [cp_o (by omega)]
  rw [cp_o (by omega)]
  rw [cp_o (by omega)]
  rw [cp_o (by omega)]
  rw [cp_at hj]
  rw [si_o (by omega), si_o (by omega), si_o (by omega)]

theorem ty_1 {M : Mm} {w u : Nat} {Y : YR} (hd : w + 19 < u ∨ u + 19 < w) {j : Nat} (hj : j < 60) : (tyM M w u Y).1 (w + 15) j = M.1 (u + 15) j := by
  unfold tyM
  rw [cp_o (by omega)]
  rw [cp_o (by omega)]
  rw [cp_o (by omega)]
  rw [cp_o (by omega)]
  rw [cp_at hj]
  rw [cp_o (by omega)]
  rw [si_o (by omega), si_o (by omega), si_o (by omega)]

theorem ty_2 {M : Mm} {w u : Nat} {Y : YR} (hd : w + 19 < u ∨ u + 19 < w) {j : Nat} (hj : j < 60) : (tyM M w u Y).1 (w + 16) j = M.1 (u + 16) j := by
  unfold tyM
  rw [cp_o (by omega)]
  rw [cp_o (by omega)]
  rw [cp_o (by omega)]
  rw [cp_at hj]
  rw [cp_o (by omega)]
  rw [cp_o (by omega)]
  rw [si_o (by omega), si_o (by omega), si_o (by omega)]

theorem ty_3 {M : Mm} {w u : Nat} {Y : YR} (hd : w + 19 < u ∨ u + 19 < w) {j : Nat} (hj : j < 60) : (tyM M w u Y).1 (w + 17) j = M.1 (u + 17) j := by
  unfold tyM
  rw [cp_o (by omega)]
  rw [cp_o (by omega)]
  rw [cp_at hj]
  rw [cp_o (by omega)]
  rw [cp_o (by omega)]
  rw [cp_o (by omega)]
  rw [si_o (by omega), si_o (by omega), si_o (by omega)]

theorem ty_4 {M : Mm} {w u : Nat} {Y : YR} (hd : w + 19 < u ∨ u + 19 < w) {j : Nat} (hj : j < 60) : (tyM M w u Y).1 (w + 18) j = M.1 (u + 18) j := by
  unfold tyM
  rw [cp_o (by omega)]
  rw [cp_at hj]
  rw [cp_o (by omega)]
  rw [cp_o (by omega)]
  rw [cp_o (by omega)]
  rw [cp_o (by omega)]
  rw [si_o (by omega), si_o (by omega), si_o (by omega)]

theorem ty_5 {M : Mm} {w u : Nat} {Y : YR} (hd : w + 19 < u ∨ u + 19 < w) {j : Nat} (hj : j < 60) : (tyM M w u Y).1 (w + 19) j = M.1 (u + 19) j := by
  unfold tyM
  rw [cp_at hj]
  rw [cp_o (by omega)]
  rw [cp_o (by omega)]
  rw [cp_o (by omega)]
  rw [cp_o (by omega)]
  rw [cp_o (by omega)]
  rw [si_o (by omega), si_o (by omega), si_o (by omega)]

theorem ty_o {M : Mm} {w u : Nat} {Y : YR} {k : Nat} (h : k < w + 13 ∨ w + 19 < k) : (tyM M w u Y).1 k = M.1 k := by
  unfold tyM
  rw [cp_o (by omega)]
  rw [cp_o (by omega)]
  rw [cp_o (by omega)]
  rw [cp_o (by omega)]
  rw [cp_o (by omega)]
  rw [cp_o (by omega)]
  rw [si_o (by omega), si_o (by omega), si_o (by omega)]

theorem ty_h {M : Mm} {w u : Nat} {Y : YR} : (tyM M w u Y).1 (w + 13) = (siM (siM (siM M (w + 13) 0 (nI Y.1)) (w + 13) 1 (nI (scN Y.2.2 Y.2.1))) (w + 13) 2 (nI Y.2.1)).1 (w + 13) := by
  unfold tyM
  rw [cp_o (by omega)]
  rw [cp_o (by omega)]
  rw [cp_o (by omega)]
  rw [cp_o (by omega)]
  rw [cp_o (by omega)]
  rw [cp_o (by omega)]

theorem ty_YX {M : Mm} {w u : Nat} {Y : YR} (hd : w + 19 < u ∨ u + 19 < w) (hY : YX (u + 13) M Y) (h60 : Y.2.1 ≤ 60) : YX (w + 13) (tyM M w u Y) Y := by
  obtain ⟨h0, h1, h2, h3⟩ := hY
  refine ⟨by rw [ty_h]; exact siN (siN siS (by omega)) (by omega), by rw [ty_h]; exact siN siS (by omega), by rw [ty_h]; exact siS, fun i hi => ?_⟩
  have hi6 : i < 60 := by omega
  show (tyM M w u Y).1 (w + 14) i = nI (Y.2.2 i 0) ∧ ((Y.2.2 i 0 = 15 ∨ Y.2.2 i 0 = 16 ∨ Y.2.2 i 0 = 18) → (tyM M w u Y).1 (w + 16) i = nI (Y.2.2 i 1)) ∧ (tyM M w u Y).1 (w + 18) i = nI (Y.2.2 i 2) ∧ (tyM M w u Y).1 (w + 19) i = nI (Y.2.2 i 5) ∧ (Y.2.2 i 0 = 18 → (tyM M w u Y).1 (w + 15) i = nI (Y.2.2 i 3) ∧ (tyM M w u Y).1 (w + 17) i = if Y.2.2 i 3 = 21 then nI (Y.2.2 i 4) else -1)
  rw [ty_0 hd hi6, ty_1 hd hi6, ty_2 hd hi6, ty_3 hd hi6, ty_4 hd hi6, ty_5 hd hi6]
  exact h3 i hi

def clM (M : Mm) (k0 k1 n : Nat) : Mm := sqM M k1 (fun b => if 0 ≤ b ∧ b < 0 + n then M.2 k0 (0 + (b - 0)) else M.2 k1 b)
theorem sq1 {M : Mm} {k a b : Nat} {f : Nat → Int64} {v : Int32} (h : M.1 a b = v) : (sqM M k f).1 a b = v := h

def twM (M : Mm) (w u : Nat) (S : ST) : Mm := (cpM (cpM (cpM (cpM (cpM (cpM (clM (cpM (cpM (cpM (cpM (clM (siM (siM (siM (siM (siM (siM (siM M w 0 (nI (S 0 0))) w 1 (nI (S 0 1))) w 2 (nI (S 0 2))) w 3 (nI (S 0 3))) w 4 (nI (S 0 4))) w 5 (nI (S 0 5))) w 6 (nI (bsN (fun j => S 11 j == 1) (S 0 5)))) (u + 1) (w + 1) 6) (u + 2) (w + 2) 6) (u + 3) (w + 3) 6) (u + 4) (w + 4) 10) (u + 5) (w + 5) 10) (u + 6) (w + 6) 7) (u + 7) (w + 7) 7) (u + 8) (w + 8) 7) (u + 9) (w + 9) 7) (u + 10) (w + 10) 7) (u + 11) (w + 11) 8) (u + 12) (w + 12) 8)

set_option maxRecDepth 100000 in
set_option maxHeartbeats 800000 in
theorem c_X6_takeFrom {w u : Nat} (hw : isW w) (hu : isW u) (hd : w + 19 < u ∨ u + 19 < w) {M : Mm} {S : ST} {Y : YR} (hV : VX u M S) (hY : YX (u + 13) M Y) (h1 : Y.1 ≤ 1) {Q : Option Value → Mm → Prop} (hQ : Q none (tyM (twM M w u S) w u Y)) (d : Nat) : AMt miX6_takeFrom (d + 1) [.ref w, .ref u] M Q := by
  refine AMt.of (by decide) (Nat.le_of_ble_eq_true rfl) ?_
  show AW miX6_takeFrom (d + 1) (mxA Q) 0 [(0, some (.ref w)), (1, some (.ref u))] [] M
  refine a_aload_n rfl dX6_takeFrom_0 ?_
  refine a_aload_n rfl dX6_takeFrom_1 ?_
  refine g_i (by first | exact (VX_0 hV) | exact siN ((VX_0 hV)) (by omega) | exact siN (siN ((VX_0 hV)) (by omega)) (by omega) | exact siN (siN (siN ((VX_0 hV)) (by omega)) (by omega)) (by omega) | exact siN (siN (siN (siN ((VX_0 hV)) (by omega)) (by omega)) (by omega)) (by omega) | exact siN (siN (siN (siN (siN ((VX_0 hV)) (by omega)) (by omega)) (by omega)) (by omega)) (by omega) | exact siN (siN (siN (siN (siN (siN ((VX_0 hV)) (by omega)) (by omega)) (by omega)) (by omega)) (by omega)) (by omega) | exact siN (siN (siN (siN (siN (siN (siN ((VX_0 hV)) (by omega)) (by omega)) (by omega)) (by omega)) (by omega)) (by omega)) (by omega)) (isW_lt hu (i := 0) (by decide)) (layW_0 hu) fX6_9 rfl dX6_takeFrom_2 ?_
  refine a_puti dX6_takeFrom_5 pX6_9 (isW_lt hw (i := 0) (by decide)) (layW_0 hw) rfl ?_
  refine a_aload_n rfl dX6_takeFrom_8 ?_
  refine a_aload_n rfl dX6_takeFrom_9 ?_
  refine g_i (siN (by first | exact (VX_1 hV) | exact siN ((VX_1 hV)) (by omega) | exact siN (siN ((VX_1 hV)) (by omega)) (by omega) | exact siN (siN (siN ((VX_1 hV)) (by omega)) (by omega)) (by omega) | exact siN (siN (siN (siN ((VX_1 hV)) (by omega)) (by omega)) (by omega)) (by omega) | exact siN (siN (siN (siN (siN ((VX_1 hV)) (by omega)) (by omega)) (by omega)) (by omega)) (by omega) | exact siN (siN (siN (siN (siN (siN ((VX_1 hV)) (by omega)) (by omega)) (by omega)) (by omega)) (by omega)) (by omega) | exact siN (siN (siN (siN (siN (siN (siN ((VX_1 hV)) (by omega)) (by omega)) (by omega)) (by omega)) (by omega)) (by omega)) (by omega)) (by omega)) (isW_lt hu (i := 0) (by decide)) (layW_0 hu) fX6_60 rfl dX6_takeFrom_10 ?_
  refine a_puti dX6_takeFrom_13 pX6_60 (isW_lt hw (i := 0) (by decide)) (layW_0 hw) rfl ?_
  refine a_aload_n rfl dX6_takeFrom_16 ?_
  refine a_aload_n rfl dX6_takeFrom_17 ?_
  refine g_i (siN (siN (by first | exact (VX_2 hV) | exact siN ((VX_2 hV)) (by omega) | exact siN (siN ((VX_2 hV)) (by omega)) (by omega) | exact siN (siN (siN ((VX_2 hV)) (by omega)) (by omega)) (by omega) | exact siN (siN (siN (siN ((VX_2 hV)) (by omega)) (by omega)) (by omega)) (by omega) | exact siN (siN (siN (siN (siN ((VX_2 hV)) (by omega)) (by omega)) (by omega)) (by omega)) (by omega) | exact siN (siN (siN (siN (siN (siN ((VX_2 hV)) (by omega)) (by omega)) (by omega)) (by omega)) (by omega)) (by omega) | exact siN (siN (siN (siN (siN (siN (siN ((VX_2 hV)) (by omega)) (by omega)) (by omega)) (by omega)) (by omega)) (by omega)) (by omega)) (by omega)) (by omega)) (isW_lt hu (i := 0) (by decide)) (layW_0 hu) fX6_63 rfl dX6_takeFrom_18 ?_
  refine a_puti dX6_takeFrom_21 pX6_63 (isW_lt hw (i := 0) (by decide)) (layW_0 hw) rfl ?_
  refine a_aload_n rfl dX6_takeFrom_24 ?_
  refine a_aload_n rfl dX6_takeFrom_25 ?_
  refine g_i (siN (siN (siN (by first | exact (VX_3 hV) | exact siN ((VX_3 hV)) (by omega) | exact siN (siN ((VX_3 hV)) (by omega)) (by omega) | exact siN (siN (siN ((VX_3 hV)) (by omega)) (by omega)) (by omega) | exact siN (siN (siN (siN ((VX_3 hV)) (by omega)) (by omega)) (by omega)) (by omega) | exact siN (siN (siN (siN (siN ((VX_3 hV)) (by omega)) (by omega)) (by omega)) (by omega)) (by omega) | exact siN (siN (siN (siN (siN (siN ((VX_3 hV)) (by omega)) (by omega)) (by omega)) (by omega)) (by omega)) (by omega) | exact siN (siN (siN (siN (siN (siN (siN ((VX_3 hV)) (by omega)) (by omega)) (by omega)) (by omega)) (by omega)) (by omega)) (by omega)) (by omega)) (by omega)) (by omega)) (isW_lt hu (i := 0) (by decide)) (layW_0 hu) fX6_66 rfl dX6_takeFrom_26 ?_
  refine a_puti dX6_takeFrom_29 pX6_66 (isW_lt hw (i := 0) (by decide)) (layW_0 hw) rfl ?_
  refine a_aload_n rfl dX6_takeFrom_32 ?_
  refine a_aload_n rfl dX6_takeFrom_33 ?_
  refine g_i (siN (siN (siN (siN (by first | exact (VX_4 hV) | exact siN ((VX_4 hV)) (by omega) | exact siN (siN ((VX_4 hV)) (by omega)) (by omega) | exact siN (siN (siN ((VX_4 hV)) (by omega)) (by omega)) (by omega) | exact siN (siN (siN (siN ((VX_4 hV)) (by omega)) (by omega)) (by omega)) (by omega) | exact siN (siN (siN (siN (siN ((VX_4 hV)) (by omega)) (by omega)) (by omega)) (by omega)) (by omega) | exact siN (siN (siN (siN (siN (siN ((VX_4 hV)) (by omega)) (by omega)) (by omega)) (by omega)) (by omega)) (by omega) | exact siN (siN (siN (siN (siN (siN (siN ((VX_4 hV)) (by omega)) (by omega)) (by omega)) (by omega)) (by omega)) (by omega)) (by omega)) (by omega)) (by omega)) (by omega)) (by omega)) (isW_lt hu (i := 0) (by decide)) (layW_0 hu) fX6_69 rfl dX6_takeFrom_34 ?_
  refine a_puti dX6_takeFrom_37 pX6_69 (isW_lt hw (i := 0) (by decide)) (layW_0 hw) rfl ?_
  refine a_aload_n rfl dX6_takeFrom_40 ?_
  refine a_aload_n rfl dX6_takeFrom_41 ?_
  refine g_i (siN (siN (siN (siN (siN (by first | exact (VX_5 hV) | exact siN ((VX_5 hV)) (by omega) | exact siN (siN ((VX_5 hV)) (by omega)) (by omega) | exact siN (siN (siN ((VX_5 hV)) (by omega)) (by omega)) (by omega) | exact siN (siN (siN (siN ((VX_5 hV)) (by omega)) (by omega)) (by omega)) (by omega) | exact siN (siN (siN (siN (siN ((VX_5 hV)) (by omega)) (by omega)) (by omega)) (by omega)) (by omega) | exact siN (siN (siN (siN (siN (siN ((VX_5 hV)) (by omega)) (by omega)) (by omega)) (by omega)) (by omega)) (by omega) | exact siN (siN (siN (siN (siN (siN (siN ((VX_5 hV)) (by omega)) (by omega)) (by omega)) (by omega)) (by omega)) (by omega)) (by omega)) (by omega)) (by omega)) (by omega)) (by omega)) (by omega)) (isW_lt hu (i := 0) (by decide)) (layW_0 hu) fX6_72 rfl dX6_takeFrom_42 ?_
  refine a_puti dX6_takeFrom_45 pX6_72 (isW_lt hw (i := 0) (by decide)) (layW_0 hw) rfl ?_
  refine a_aload_n rfl dX6_takeFrom_48 ?_
  refine a_aload_n rfl dX6_takeFrom_49 ?_
  refine g_i (siN (siN (siN (siN (siN (siN (by first | exact (VX_6 hV) | exact siN ((VX_6 hV)) (by omega) | exact siN (siN ((VX_6 hV)) (by omega)) (by omega) | exact siN (siN (siN ((VX_6 hV)) (by omega)) (by omega)) (by omega) | exact siN (siN (siN (siN ((VX_6 hV)) (by omega)) (by omega)) (by omega)) (by omega) | exact siN (siN (siN (siN (siN ((VX_6 hV)) (by omega)) (by omega)) (by omega)) (by omega)) (by omega) | exact siN (siN (siN (siN (siN (siN ((VX_6 hV)) (by omega)) (by omega)) (by omega)) (by omega)) (by omega)) (by omega) | exact siN (siN (siN (siN (siN (siN (siN ((VX_6 hV)) (by omega)) (by omega)) (by omega)) (by omega)) (by omega)) (by omega)) (by omega)) (by omega)) (by omega)) (by omega)) (by omega)) (by omega)) (by omega)) (isW_lt hu (i := 0) (by decide)) (layW_0 hu) fX6_75 rfl dX6_takeFrom_50 ?_
  refine a_puti dX6_takeFrom_53 pX6_75 (isW_lt hw (i := 0) (by decide)) (layW_0 hw) rfl ?_
  refine a_aload_n rfl dX6_takeFrom_56 ?_
  refine a_geta dX6_takeFrom_57 fX6_15 (isW_lt hu (i := 0) (by decide)) (layW_0 hu) rfl ?_
  refine n_iconst 0 rfl dX6_takeFrom_60 ?_
  refine a_aload_n rfl dX6_takeFrom_61 ?_
  refine a_geta dX6_takeFrom_62 fX6_15 (isW_lt hw (i := 0) (by decide)) (layW_0 hw) rfl ?_
  refine n_iconst 0 rfl dX6_takeFrom_65 ?_
  refine n_bipush 6 rfl dX6_takeFrom_66 ?_
  refine n_copyl (isW_lt hu (i := 1) (by decide)) (layW_1 hu) (isW_lt hw (i := 1) (by decide)) (layW_1 hw) (by omega) (by omega) (by decide) (by decide) (Nat.le_of_ble_eq_true rfl) dX6_takeFrom_68 lX6_81 ?_
  refine a_aload_n rfl dX6_takeFrom_71 ?_
  refine a_geta dX6_takeFrom_72 fX6_19 (isW_lt hu (i := 0) (by decide)) (layW_0 hu) rfl ?_
  refine n_iconst 0 rfl dX6_takeFrom_75 ?_
  refine a_aload_n rfl dX6_takeFrom_76 ?_
  refine a_geta dX6_takeFrom_77 fX6_19 (isW_lt hw (i := 0) (by decide)) (layW_0 hw) rfl ?_
  refine n_iconst 0 rfl dX6_takeFrom_80 ?_
  refine n_bipush 6 rfl dX6_takeFrom_81 ?_
  refine n_copyi (isW_lt hu (i := 2) (by decide)) (layW_2 hu) (isW_lt hw (i := 2) (by decide)) (layW_2 hw) (by omega) (by omega) (by decide) (by decide) (Nat.le_of_ble_eq_true rfl) dX6_takeFrom_83 lX6_81 ?_
  refine a_aload_n rfl dX6_takeFrom_86 ?_
  refine a_geta dX6_takeFrom_87 fX6_23 (isW_lt hu (i := 0) (by decide)) (layW_0 hu) rfl ?_
  refine n_iconst 0 rfl dX6_takeFrom_90 ?_
  refine a_aload_n rfl dX6_takeFrom_91 ?_
  refine a_geta dX6_takeFrom_92 fX6_23 (isW_lt hw (i := 0) (by decide)) (layW_0 hw) rfl ?_
  refine n_iconst 0 rfl dX6_takeFrom_95 ?_
  refine n_bipush 6 rfl dX6_takeFrom_96 ?_
  refine n_copyi (isW_lt hu (i := 3) (by decide)) (layW_3 hu) (isW_lt hw (i := 3) (by decide)) (layW_3 hw) (by omega) (by omega) (by decide) (by decide) (Nat.le_of_ble_eq_true rfl) dX6_takeFrom_98 lX6_81 ?_
  refine a_aload_n rfl dX6_takeFrom_101 ?_
  refine a_geta dX6_takeFrom_102 fX6_26 (isW_lt hu (i := 0) (by decide)) (layW_0 hu) rfl ?_
  refine n_iconst 0 rfl dX6_takeFrom_105 ?_
  refine a_aload_n rfl dX6_takeFrom_106 ?_
  refine a_geta dX6_takeFrom_107 fX6_26 (isW_lt hw (i := 0) (by decide)) (layW_0 hw) rfl ?_
  refine n_iconst 0 rfl dX6_takeFrom_110 ?_
  refine n_bipush 10 rfl dX6_takeFrom_111 ?_
  refine n_copyi (isW_lt hu (i := 4) (by decide)) (layW_4 hu) (isW_lt hw (i := 4) (by decide)) (layW_4 hw) (by omega) (by omega) (by decide) (by decide) (Nat.le_of_ble_eq_true rfl) dX6_takeFrom_113 lX6_81 ?_
  refine a_aload_n rfl dX6_takeFrom_116 ?_
  refine a_geta dX6_takeFrom_117 fX6_29 (isW_lt hu (i := 0) (by decide)) (layW_0 hu) rfl ?_
  refine n_iconst 0 rfl dX6_takeFrom_120 ?_
  refine a_aload_n rfl dX6_takeFrom_121 ?_
  refine a_geta dX6_takeFrom_122 fX6_29 (isW_lt hw (i := 0) (by decide)) (layW_0 hw) rfl ?_
  refine n_iconst 0 rfl dX6_takeFrom_125 ?_
  refine n_bipush 10 rfl dX6_takeFrom_126 ?_
  refine n_copyi (isW_lt hu (i := 5) (by decide)) (layW_5 hu) (isW_lt hw (i := 5) (by decide)) (layW_5 hw) (by omega) (by omega) (by decide) (by decide) (Nat.le_of_ble_eq_true rfl) dX6_takeFrom_128 lX6_81 ?_
  refine a_aload_n rfl dX6_takeFrom_131 ?_
  refine a_geta dX6_takeFrom_132 fX6_32 (isW_lt hu (i := 0) (by decide)) (layW_0 hu) rfl ?_
  refine n_iconst 0 rfl dX6_takeFrom_135 ?_
  refine a_aload_n rfl dX6_takeFrom_136 ?_
  refine a_geta dX6_takeFrom_137 fX6_32 (isW_lt hw (i := 0) (by decide)) (layW_0 hw) rfl ?_
  refine n_iconst 0 rfl dX6_takeFrom_140 ?_
  refine n_bipush 7 rfl dX6_takeFrom_141 ?_
  refine n_copyl (isW_lt hu (i := 6) (by decide)) (layW_6 hu) (isW_lt hw (i := 6) (by decide)) (layW_6 hw) (by omega) (by omega) (by decide) (by decide) (Nat.le_of_ble_eq_true rfl) dX6_takeFrom_143 lX6_81 ?_
  refine a_aload_n rfl dX6_takeFrom_146 ?_
  refine a_geta dX6_takeFrom_147 fX6_35 (isW_lt hu (i := 0) (by decide)) (layW_0 hu) rfl ?_
  refine n_iconst 0 rfl dX6_takeFrom_150 ?_
  refine a_aload_n rfl dX6_takeFrom_151 ?_
  refine a_geta dX6_takeFrom_152 fX6_35 (isW_lt hw (i := 0) (by decide)) (layW_0 hw) rfl ?_
  refine n_iconst 0 rfl dX6_takeFrom_155 ?_
  refine n_bipush 7 rfl dX6_takeFrom_156 ?_
  refine n_copyi (isW_lt hu (i := 7) (by decide)) (layW_7 hu) (isW_lt hw (i := 7) (by decide)) (layW_7 hw) (by omega) (by omega) (by decide) (by decide) (Nat.le_of_ble_eq_true rfl) dX6_takeFrom_158 lX6_81 ?_
  refine a_aload_n rfl dX6_takeFrom_161 ?_
  refine a_geta dX6_takeFrom_162 fX6_38 (isW_lt hu (i := 0) (by decide)) (layW_0 hu) rfl ?_
  refine n_iconst 0 rfl dX6_takeFrom_165 ?_
  refine a_aload_n rfl dX6_takeFrom_166 ?_
  refine a_geta dX6_takeFrom_167 fX6_38 (isW_lt hw (i := 0) (by decide)) (layW_0 hw) rfl ?_
  refine n_iconst 0 rfl dX6_takeFrom_170 ?_
  refine n_bipush 7 rfl dX6_takeFrom_171 ?_
  refine n_copyi (isW_lt hu (i := 8) (by decide)) (layW_8 hu) (isW_lt hw (i := 8) (by decide)) (layW_8 hw) (by omega) (by omega) (by decide) (by decide) (Nat.le_of_ble_eq_true rfl) dX6_takeFrom_173 lX6_81 ?_
  refine a_aload_n rfl dX6_takeFrom_176 ?_
  refine a_geta dX6_takeFrom_177 fX6_41 (isW_lt hu (i := 0) (by decide)) (layW_0 hu) rfl ?_
  refine n_iconst 0 rfl dX6_takeFrom_180 ?_
  refine a_aload_n rfl dX6_takeFrom_181 ?_
  refine a_geta dX6_takeFrom_182 fX6_41 (isW_lt hw (i := 0) (by decide)) (layW_0 hw) rfl ?_
  refine n_iconst 0 rfl dX6_takeFrom_185 ?_
  refine n_bipush 7 rfl dX6_takeFrom_186 ?_
  refine n_copyi (isW_lt hu (i := 9) (by decide)) (layW_9 hu) (isW_lt hw (i := 9) (by decide)) (layW_9 hw) (by omega) (by omega) (by decide) (by decide) (Nat.le_of_ble_eq_true rfl) dX6_takeFrom_188 lX6_81 ?_
  refine a_aload_n rfl dX6_takeFrom_191 ?_
  refine a_geta dX6_takeFrom_192 fX6_44 (isW_lt hu (i := 0) (by decide)) (layW_0 hu) rfl ?_
  refine n_iconst 0 rfl dX6_takeFrom_195 ?_
  refine a_aload_n rfl dX6_takeFrom_196 ?_
  refine a_geta dX6_takeFrom_197 fX6_44 (isW_lt hw (i := 0) (by decide)) (layW_0 hw) rfl ?_
  refine n_iconst 0 rfl dX6_takeFrom_200 ?_
  refine n_bipush 7 rfl dX6_takeFrom_201 ?_
  refine n_copyi (isW_lt hu (i := 10) (by decide)) (layW_10 hu) (isW_lt hw (i := 10) (by decide)) (layW_10 hw) (by omega) (by omega) (by decide) (by decide) (Nat.le_of_ble_eq_true rfl) dX6_takeFrom_203 lX6_81 ?_
  refine a_aload_n rfl dX6_takeFrom_206 ?_
  refine a_geta dX6_takeFrom_207 fX6_47 (isW_lt hu (i := 0) (by decide)) (layW_0 hu) rfl ?_
  refine n_iconst 0 rfl dX6_takeFrom_210 ?_
  refine a_aload_n rfl dX6_takeFrom_211 ?_
  refine a_geta dX6_takeFrom_212 fX6_47 (isW_lt hw (i := 0) (by decide)) (layW_0 hw) rfl ?_
  refine n_iconst 0 rfl dX6_takeFrom_215 ?_
  refine n_bipush 8 rfl dX6_takeFrom_216 ?_
  refine n_copyi (isW_lt hu (i := 11) (by decide)) (layW_11 hu) (isW_lt hw (i := 11) (by decide)) (layW_11 hw) (by omega) (by omega) (by decide) (by decide) (Nat.le_of_ble_eq_true rfl) dX6_takeFrom_218 lX6_81 ?_
  refine a_aload_n rfl dX6_takeFrom_221 ?_
  refine a_geta dX6_takeFrom_222 fX6_50 (isW_lt hu (i := 0) (by decide)) (layW_0 hu) rfl ?_
  refine n_iconst 0 rfl dX6_takeFrom_225 ?_
  refine a_aload_n rfl dX6_takeFrom_226 ?_
  refine a_geta dX6_takeFrom_227 fX6_50 (isW_lt hw (i := 0) (by decide)) (layW_0 hw) rfl ?_
  refine n_iconst 0 rfl dX6_takeFrom_230 ?_
  refine n_bipush 8 rfl dX6_takeFrom_231 ?_
  refine n_copyi (isW_lt hu (i := 12) (by decide)) (layW_12 hu) (isW_lt hw (i := 12) (by decide)) (layW_12 hw) (by omega) (by omega) (by decide) (by decide) (Nat.le_of_ble_eq_true rfl) dX6_takeFrom_233 lX6_81 ?_
  refine a_aload_n rfl dX6_takeFrom_236 ?_
  refine a_geta dX6_takeFrom_237 fX6_56 (isW_lt hw (i := 0) (by decide)) (layW_0 hw) rfl ?_
  refine a_aload_n rfl dX6_takeFrom_240 ?_
  refine a_geta dX6_takeFrom_241 fX6_56 (isW_lt hu (i := 0) (by decide)) (layW_0 hu) rfl ?_
  refine n_callV (mi' := miX9_takeFrom) dX6_takeFrom_244 lX6_87 mX9_takeFrom (isW_lt hw (i := 13) (by decide)) (layW_13 hw) rfl rfl (c_X9_takeFrom hw hu hd (YX_eq hY (fun k a b => funext fun j => (srN (srN (srN (srN (srN (srN (sq1 (srN (srN (srN (srN (sq1 (siN (siN (siN (siN (siN (siN (siN rfl (by omega)) (by omega)) (by omega)) (by omega)) (by omega)) (by omega)) (by omega))) (by omega)) (by omega)) (by omega)) (by omega))) (by omega)) (by omega)) (by omega)) (by omega)) (by omega)) (by omega)))) h1 ?_ d) rfl rfl (by omega) (by decide) (Nat.le_of_ble_eq_true rfl)
  show AW _ _ _ _ _ _ _
  refine a_vret dX6_takeFrom_247 rfl ?_
  unfold twM cpM clM at hQ
  exact hQ

theorem cl_1 {M : Mm} {k0 k1 n : Nat} : (clM M k0 k1 n).1 = M.1 := rfl
theorem cp_2 {M : Mm} {k0 k1 n : Nat} : (cpM M k0 k1 n).2 = M.2 := rfl
theorem si_2 {M : Mm} {k j : Nat} {x : Int32} : (siM M k j x).2 = M.2 := rfl
theorem cl_at {M : Mm} {k0 k1 n j : Nat} (h : j < n) : (clM M k0 k1 n).2 k1 j = M.2 k0 j := by
  unfold clM sqM
  simp [h]
theorem cl_o {M : Mm} {k0 k1 n k : Nat} (h : k ≠ k1) : (clM M k0 k1 n).2 k = M.2 k := by
  funext j
  unfold clM sqM
  simp [h]

theorem tw_1 {M : Mm} {w u : Nat} {S : ST} (hd : w + 19 < u ∨ u + 19 < w) {j : Nat} (hj : j < 6) : (twM M w u S).2 (w + 1) j = M.2 (u + 1) j := by
  unfold twM
  rw [cp_2]
  rw [cp_2]
  rw [cp_2]
  rw [cp_2]
  rw [cp_2]
  rw [cp_2]
  rw [cl_o (by omega)]
  rw [cp_2]
  rw [cp_2]
  rw [cp_2]
  rw [cp_2]
  rw [cl_at hj]
  rw [si_2, si_2, si_2, si_2, si_2, si_2, si_2]

theorem tw_2 {M : Mm} {w u : Nat} {S : ST} (hd : w + 19 < u ∨ u + 19 < w) {j : Nat} (hj : j < 6) : (twM M w u S).1 (w + 2) j = M.1 (u + 2) j := by
  unfold twM
  rw [cp_o (by omega)]
  rw [cp_o (by omega)]
  rw [cp_o (by omega)]
  rw [cp_o (by omega)]
  rw [cp_o (by omega)]
  rw [cp_o (by omega)]
  rw [cl_1]
  rw [cp_o (by omega)]
  rw [cp_o (by omega)]
  rw [cp_o (by omega)]
  rw [cp_at hj]
  rw [cl_1]
  rw [si_o (by omega), si_o (by omega), si_o (by omega), si_o (by omega), si_o (by omega), si_o (by omega), si_o (by omega)]

theorem tw_3 {M : Mm} {w u : Nat} {S : ST} (hd : w + 19 < u ∨ u + 19 < w) {j : Nat} (hj : j < 6) : (twM M w u S).1 (w + 3) j = M.1 (u + 3) j := by
  unfold twM
  rw [cp_o (by omega)]
  rw [cp_o (by omega)]
  rw [cp_o (by omega)]
  rw [cp_o (by omega)]
  rw [cp_o (by omega)]
  rw [cp_o (by omega)]
  rw [cl_1]
  rw [cp_o (by omega)]
  rw [cp_o (by omega)]
  rw [cp_at hj]
  rw [cp_o (by omega)]
  rw [cl_1]
  rw [si_o (by omega), si_o (by omega), si_o (by omega), si_o (by omega), si_o (by omega), si_o (by omega), si_o (by omega)]

theorem tw_4 {M : Mm} {w u : Nat} {S : ST} (hd : w + 19 < u ∨ u + 19 < w) {j : Nat} (hj : j < 10) : (twM M w u S).1 (w + 4) j = M.1 (u + 4) j := by
  unfold twM
  rw [cp_o (by omega)]
  rw [cp_o (by omega)]
  rw [cp_o (by omega)]
  rw [cp_o (by omega)]
  rw [cp_o (by omega)]
  rw [cp_o (by omega)]
  rw [cl_1]
  rw [cp_o (by omega)]
  rw [cp_at hj]
  rw [cp_o (by omega)]
  rw [cp_o (by omega)]
  rw [cl_1]
  rw [si_o (by omega), si_o (by omega), si_o (by omega), si_o (by omega), si_o (by omega), si_o (by omega), si_o (by omega)]

theorem tw_5 {M : Mm} {w u : Nat} {S : ST} (hd : w + 19 < u ∨ u + 19 < w) {j : Nat} (hj : j < 10) : (twM M w u S).1 (w + 5) j = M.1 (u + 5) j := by
  unfold twM
  rw [cp_o (by omega)]
  rw [cp_o (by omega)]
  rw [cp_o (by omega)]
  rw [cp_o (by omega)]
  rw [cp_o (by omega)]
  rw [cp_o (by omega)]
  rw [cl_1]
  rw [cp_at hj]
  rw [cp_o (by omega)]
  rw [cp_o (by omega)]
  rw [cp_o (by omega)]
  rw [cl_1]
  rw [si_o (by omega), si_o (by omega), si_o (by omega), si_o (by omega), si_o (by omega), si_o (by omega), si_o (by omega)]

theorem tw_6 {M : Mm} {w u : Nat} {S : ST} (hd : w + 19 < u ∨ u + 19 < w) {j : Nat} (hj : j < 7) : (twM M w u S).2 (w + 6) j = M.2 (u + 6) j := by
  unfold twM
  rw [cp_2]
  rw [cp_2]
  rw [cp_2]
  rw [cp_2]
  rw [cp_2]
  rw [cp_2]
  rw [cl_at hj]
  rw [cp_2]
  rw [cp_2]
  rw [cp_2]
  rw [cp_2]
  rw [cl_o (by omega)]
  rw [si_2, si_2, si_2, si_2, si_2, si_2, si_2]

theorem tw_7 {M : Mm} {w u : Nat} {S : ST} (hd : w + 19 < u ∨ u + 19 < w) {j : Nat} (hj : j < 7) : (twM M w u S).1 (w + 7) j = M.1 (u + 7) j := by
  unfold twM
  rw [cp_o (by omega)]
  rw [cp_o (by omega)]
  rw [cp_o (by omega)]
  rw [cp_o (by omega)]
  rw [cp_o (by omega)]
  rw [cp_at hj]
  rw [cl_1]
  rw [cp_o (by omega)]
  rw [cp_o (by omega)]
  rw [cp_o (by omega)]
  rw [cp_o (by omega)]
  rw [cl_1]
  rw [si_o (by omega), si_o (by omega), si_o (by omega), si_o (by omega), si_o (by omega), si_o (by omega), si_o (by omega)]

theorem tw_8 {M : Mm} {w u : Nat} {S : ST} (hd : w + 19 < u ∨ u + 19 < w) {j : Nat} (hj : j < 7) : (twM M w u S).1 (w + 8) j = M.1 (u + 8) j := by
  unfold twM
  rw [cp_o (by omega)]
  rw [cp_o (by omega)]
  rw [cp_o (by omega)]
  rw [cp_o (by omega)]
  rw [cp_at hj]
  rw [cp_o (by omega)]
  rw [cl_1]
  rw [cp_o (by omega)]
  rw [cp_o (by omega)]
  rw [cp_o (by omega)]
  rw [cp_o (by omega)]
  rw [cl_1]
  rw [si_o (by omega), si_o (by omega), si_o (by omega), si_o (by omega), si_o (by omega), si_o (by omega), si_o (by omega)]

theorem tw_9 {M : Mm} {w u : Nat} {S : ST} (hd : w + 19 < u ∨ u + 19 < w) {j : Nat} (hj : j < 7) : (twM M w u S).1 (w + 9) j = M.1 (u + 9) j := by
  unfold twM
  rw [cp_o (by omega)]
  rw [cp_o (by omega)]
  rw [cp_o (by omega)]
  rw [cp_at hj]
  rw [cp_o (by omega)]
  rw [cp_o (by omega)]
  rw [cl_1]
  rw [cp_o (by omega)]
  rw [cp_o (by omega)]
  rw [cp_o (by omega)]
  rw [cp_o (by omega)]
  rw [cl_1]
  rw [si_o (by omega), si_o (by omega), si_o (by omega), si_o (by omega), si_o (by omega), si_o (by omega), si_o (by omega)]

theorem tw_10 {M : Mm} {w u : Nat} {S : ST} (hd : w + 19 < u ∨ u + 19 < w) {j : Nat} (hj : j < 7) : (twM M w u S).1 (w + 10) j = M.1 (u + 10) j := by
  unfold twM
  rw [cp_o (by omega)]
  rw [cp_o (by omega)]
  rw [cp_at hj]
  rw [cp_o (by omega)]
  rw [cp_o (by omega)]
  rw [cp_o (by omega)]
  rw [cl_1]
  rw [cp_o (by omega)]
  rw [cp_o (by omega)]
  rw [cp_o (by omega)]
  rw [cp_o (by omega)]
  rw [cl_1]
  rw [si_o (by omega), si_o (by omega), si_o (by omega), si_o (by omega), si_o (by omega), si_o (by omega), si_o (by omega)]

theorem tw_11 {M : Mm} {w u : Nat} {S : ST} (hd : w + 19 < u ∨ u + 19 < w) {j : Nat} (hj : j < 8) : (twM M w u S).1 (w + 11) j = M.1 (u + 11) j := by
  unfold twM
  rw [cp_o (by omega)]
  rw [cp_at hj]
  rw [cp_o (by omega)]
  rw [cp_o (by omega)]
  rw [cp_o (by omega)]
  rw [cp_o (by omega)]
  rw [cl_1]
  rw [cp_o (by omega)]
  rw [cp_o (by omega)]
  rw [cp_o (by omega)]
  rw [cp_o (by omega)]
  rw [cl_1]
  rw [si_o (by omega), si_o (by omega), si_o (by omega), si_o (by omega), si_o (by omega), si_o (by omega), si_o (by omega)]

theorem tw_12 {M : Mm} {w u : Nat} {S : ST} (hd : w + 19 < u ∨ u + 19 < w) {j : Nat} (hj : j < 8) : (twM M w u S).1 (w + 12) j = M.1 (u + 12) j := by
  unfold twM
  rw [cp_at hj]
  rw [cp_o (by omega)]
  rw [cp_o (by omega)]
  rw [cp_o (by omega)]
  rw [cp_o (by omega)]
  rw [cp_o (by omega)]
  rw [cl_1]
  rw [cp_o (by omega)]
  rw [cp_o (by omega)]
  rw [cp_o (by omega)]
  rw [cp_o (by omega)]
  rw [cl_1]
  rw [si_o (by omega), si_o (by omega), si_o (by omega), si_o (by omega), si_o (by omega), si_o (by omega), si_o (by omega)]

theorem tw_o {M : Mm} {w u : Nat} {S : ST} {k : Nat} (h : k < w ∨ w + 12 < k) : (twM M w u S).1 k = M.1 k := by
  unfold twM
  rw [cp_o (by omega)]
  rw [cp_o (by omega)]
  rw [cp_o (by omega)]
  rw [cp_o (by omega)]
  rw [cp_o (by omega)]
  rw [cp_o (by omega)]
  rw [cl_1]
  rw [cp_o (by omega)]
  rw [cp_o (by omega)]
  rw [cp_o (by omega)]
  rw [cp_o (by omega)]
  rw [cl_1]
  rw [si_o (by omega), si_o (by omega), si_o (by omega), si_o (by omega), si_o (by omega), si_o (by omega), si_o (by omega)]

theorem tw_o2 {M : Mm} {w u : Nat} {S : ST} {k : Nat} (h : k < w ∨ w + 12 < k) : (twM M w u S).2 k = M.2 k := by
  unfold twM
  rw [cp_2]
  rw [cp_2]
  rw [cp_2]
  rw [cp_2]
  rw [cp_2]
  rw [cp_2]
  rw [cl_o (by omega)]
  rw [cp_2]
  rw [cp_2]
  rw [cp_2]
  rw [cp_2]
  rw [cl_o (by omega)]
  rw [si_2, si_2, si_2, si_2, si_2, si_2, si_2]

theorem tw_h {M : Mm} {w u : Nat} {S : ST} : (twM M w u S).1 w = ((siM (siM (siM (siM (siM (siM (siM M w 0 (nI (S 0 0))) w 1 (nI (S 0 1))) w 2 (nI (S 0 2))) w 3 (nI (S 0 3))) w 4 (nI (S 0 4))) w 5 (nI (S 0 5))) w 6 (nI (bsN (fun j => S 11 j == 1) (S 0 5))))).1 w := by
  unfold twM
  rw [cp_o (by omega)]
  rw [cp_o (by omega)]
  rw [cp_o (by omega)]
  rw [cp_o (by omega)]
  rw [cp_o (by omega)]
  rw [cp_o (by omega)]
  rw [cl_1]
  rw [cp_o (by omega)]
  rw [cp_o (by omega)]
  rw [cp_o (by omega)]
  rw [cp_o (by omega)]
  rw [cl_1]

theorem ty_L {M : Mm} {w u : Nat} {Y : YR} : (tyM M w u Y).2 = M.2 := rfl

theorem tw_WX {M : Mm} {w u : Nat} (hd : w + 19 < u ∨ u + 19 < w) {W : WD} (h : WX u M W) (hG : WG W) : WX w (tyM (twM M w u W.1) w u W.2.2) W := by
  obtain ⟨S, N, Y⟩ := W
  have hV : VX u M S := h.1
  have hF : WF S := hG.1
  have hm := WF_m hF
  have hh := WF_h hF
  have hs := WF_s hF
  have hn := WF_n hF
  have h60 : Y.2.1 ≤ 60 := hG.2.2.1
  show WX w (tyM (twM M w u S) w u Y) (S, N, Y)
  refine ⟨VX_intro (by rw [ty_o (by omega), tw_h]; exact (siN (siN (siN (siN (siN (siN siS (by omega)) (by omega)) (by omega)) (by omega)) (by omega)) (by omega))) (by rw [ty_o (by omega), tw_h]; exact (siN (siN (siN (siN (siN siS (by omega)) (by omega)) (by omega)) (by omega)) (by omega))) (by rw [ty_o (by omega), tw_h]; exact (siN (siN (siN (siN siS (by omega)) (by omega)) (by omega)) (by omega))) (by rw [ty_o (by omega), tw_h]; exact (siN (siN (siN siS (by omega)) (by omega)) (by omega))) (by rw [ty_o (by omega), tw_h]; exact (siN (siN siS (by omega)) (by omega))) (by rw [ty_o (by omega), tw_h]; exact (siN siS (by omega))) (by rw [ty_o (by omega), tw_h]; exact siS) (fun j hj => by
    have hj : j < S 0 2 := hj
    rw [ty_o (by omega), tw_2 hd (by omega)]; exact VX_a2 hV hj) (fun j hj => by
    have hj : j < S 0 2 := hj
    rw [ty_o (by omega), tw_3 hd (by omega)]; exact VX_a3 hV hj) (fun j hj => by
    have hj : j < S 0 3 := hj
    rw [ty_o (by omega), tw_4 hd (by omega)]; exact VX_a4 hV hj) (fun j hj => by
    have hj : j < S 0 3 := hj
    rw [ty_o (by omega), tw_5 hd (by omega)]; exact VX_a5 hV hj) (fun j hj => by
    have hj : j < S 0 4 := hj
    rw [ty_o (by omega), tw_7 hd (by omega)]; exact VX_a7 hV hj) (fun j hj => by
    have hj : j < S 0 4 := hj
    rw [ty_o (by omega), tw_8 hd (by omega)]; exact VX_a8 hV hj) (fun j hj => by
    have hj : j < S 0 4 := hj
    rw [ty_o (by omega), tw_9 hd (by omega)]; exact VX_a9 hV hj) (fun j hj => by
    have hj : j < S 0 4 := hj
    rw [ty_o (by omega), tw_10 hd (by omega)]; exact VX_a10 hV hj) (fun j hj => by
    have hj : j < S 0 5 := hj
    rw [ty_o (by omega), tw_11 hd (by omega)]; exact VX_a11 hV hj) (fun j hj => by
    have hj : j < S 0 5 := hj
    rw [ty_o (by omega), tw_12 hd (by omega)]; exact VX_a12 hV hj), ⟨fun j hj => ?_, fun j hj => ?_⟩, ty_YX hd (YX_eq h.2.2 (fun k a b => tw_o (by omega))) h60⟩
  · have hj : j < S 0 2 := hj
    rw [ty_L, tw_1 hd (by omega)]; exact h.2.1.1 j hj
  · have hj : j < S 0 4 := hj
    rw [ty_L, tw_6 hd (by omega)]; exact h.2.1.2 j hj

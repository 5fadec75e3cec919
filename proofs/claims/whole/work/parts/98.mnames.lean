theorem num_n {tk : Nat → TK} {lo hi : Nat} {c : CC} (h : ¬ c.2.1 = 0) : numC tk lo hi c = c := by
  unfold numC
  split
  · split
    · exact sp_n h
    · rw [fl_n h]; exact sp_n h
  · rw [fl_n h]; exact sp_n h
theorem kwd_b {tk : Nat → TK} {k : Nat} {c : CC} : kwdC tk k c = spC tk (if isK tk c k = true then c else flC tk 2 c) := by
  unfold kwdC
  by_cases e : kd tk c = 1 ∧ cd tk c = k
  · rw [if_pos e, if_pos (isK_i.mpr e)]
  · rw [if_neg e, if_neg (fun q => e (isK_i.mp q))]
theorem isIn_l {a lo hi : Nat} (ha : a < 2 ^ 31) (hl : lo < 2 ^ 31) (hh : hi < 2 ^ 31) : ((lN lo).toInt ≤ (lN a).toInt ∧ (lN a).toInt ≤ (lN hi).toInt) ↔ lo ≤ a ∧ a ≤ hi := by
  rw [lN_toInt ha, lN_toInt hl, lN_toInt hh]; omega

theorem v_isOdds {M : Mm} {D : Nat → Nat} {n : Nat} (hDl : ∀ j, D j < 256) (hn : n ≤ 900) {c : CC} (hU : MU M D n c) {Q : Option Value → Mm → Prop} (hQ : ∀ x, x = (if isK (tkN D n) c 0 = true then 1 else 0) → Q (some (.int (nI x))) M) (d : Nat) : AMt miX12_isOdds (d + 1) [.ref 132] M Q :=
  c_X12_isOdds hDl hn hU (fun h => hQ 1 (if_pos h).symm) (fun h => hQ 0 (if_neg h).symm) d
theorem v_isMatter {M : Mm} {D : Nat → Nat} {n : Nat} (hDl : ∀ j, D j < 256) (hn : n ≤ 900) {c : CC} (hU : MU M D n c) {Q : Option Value → Mm → Prop} (hQ : ∀ x, x = (if isK (tkN D n) c 1 = true then 1 else 0) → Q (some (.int (nI x))) M) (d : Nat) : AMt miX12_isMatter (d + 1) [.ref 132] M Q :=
  c_X12_isMatter hDl hn hU (fun h => hQ 1 (if_pos h).symm) (fun h => hQ 0 (if_neg h).symm) d
theorem v_isPace {M : Mm} {D : Nat → Nat} {n : Nat} (hDl : ∀ j, D j < 256) (hn : n ≤ 900) {c : CC} (hU : MU M D n c) {Q : Option Value → Mm → Prop} (hQ : ∀ x, x = (if isK (tkN D n) c 2 = true then 1 else 0) → Q (some (.int (nI x))) M) (d : Nat) : AMt miX12_isPace (d + 1) [.ref 132] M Q :=
  c_X12_isPace hDl hn hU (fun h => hQ 1 (if_pos h).symm) (fun h => hQ 0 (if_neg h).symm) d
theorem v_isClearWord {M : Mm} {D : Nat → Nat} {n : Nat} (hDl : ∀ j, D j < 256) (hn : n ≤ 900) {c : CC} (hU : MU M D n c) {Q : Option Value → Mm → Prop} (hQ : ∀ x, x = (if isK (tkN D n) c 3 = true then 1 else 0) → Q (some (.int (nI x))) M) (d : Nat) : AMt miX12_isClearWord (d + 1) [.ref 132] M Q :=
  c_X12_isClearWord hDl hn hU (fun h => hQ 1 (if_pos h).symm) (fun h => hQ 0 (if_neg h).symm) d
theorem v_isHold {M : Mm} {D : Nat → Nat} {n : Nat} (hDl : ∀ j, D j < 256) (hn : n ≤ 900) {c : CC} (hU : MU M D n c) {Q : Option Value → Mm → Prop} (hQ : ∀ x, x = (if isK (tkN D n) c 4 = true then 1 else 0) → Q (some (.int (nI x))) M) (d : Nat) : AMt miX12_isHold (d + 1) [.ref 132] M Q :=
  c_X12_isHold hDl hn hU (fun h => hQ 1 (if_pos h).symm) (fun h => hQ 0 (if_neg h).symm) d
theorem v_isBy {M : Mm} {D : Nat → Nat} {n : Nat} (hDl : ∀ j, D j < 256) (hn : n ≤ 900) {c : CC} (hU : MU M D n c) {Q : Option Value → Mm → Prop} (hQ : ∀ x, x = (if isK (tkN D n) c 5 = true then 1 else 0) → Q (some (.int (nI x))) M) (d : Nat) : AMt miX12_isBy (d + 1) [.ref 132] M Q :=
  c_X12_isBy hDl hn hU (fun h => hQ 1 (if_pos h).symm) (fun h => hQ 0 (if_neg h).symm) d
theorem v_isSitter {M : Mm} {D : Nat → Nat} {n : Nat} (hDl : ∀ j, D j < 256) (hn : n ≤ 900) {c : CC} (hU : MU M D n c) {Q : Option Value → Mm → Prop} (hQ : ∀ x, x = (if isK (tkN D n) c 6 = true then 1 else 0) → Q (some (.int (nI x))) M) (d : Nat) : AMt miX12_isSitter (d + 1) [.ref 132] M Q :=
  c_X12_isSitter hDl hn hU (fun h => hQ 1 (if_pos h).symm) (fun h => hQ 0 (if_neg h).symm) d
theorem v_isMile {M : Mm} {D : Nat → Nat} {n : Nat} (hDl : ∀ j, D j < 256) (hn : n ≤ 900) {c : CC} (hU : MU M D n c) {Q : Option Value → Mm → Prop} (hQ : ∀ x, x = (if isK (tkN D n) c 7 = true then 1 else 0) → Q (some (.int (nI x))) M) (d : Nat) : AMt miX12_isMile (d + 1) [.ref 132] M Q :=
  c_X12_isMile hDl hn hU (fun h => hQ 1 (if_pos h).symm) (fun h => hQ 0 (if_neg h).symm) d
theorem v_isTall {M : Mm} {D : Nat → Nat} {n : Nat} (hDl : ∀ j, D j < 256) (hn : n ≤ 900) {c : CC} (hU : MU M D n c) {Q : Option Value → Mm → Prop} (hQ : ∀ x, x = (if isK (tkN D n) c 8 = true then 1 else 0) → Q (some (.int (nI x))) M) (d : Nat) : AMt miX12_isTall (d + 1) [.ref 132] M Q :=
  c_X12_isTall hDl hn hU (fun h => hQ 1 (if_pos h).symm) (fun h => hQ 0 (if_neg h).symm) d
theorem v_isFor {M : Mm} {D : Nat → Nat} {n : Nat} (hDl : ∀ j, D j < 256) (hn : n ≤ 900) {c : CC} (hU : MU M D n c) {Q : Option Value → Mm → Prop} (hQ : ∀ x, x = (if isK (tkN D n) c 9 = true then 1 else 0) → Q (some (.int (nI x))) M) (d : Nat) : AMt miX12_isFor (d + 1) [.ref 132] M Q :=
  c_X12_isFor hDl hn hU (fun h => hQ 1 (if_pos h).symm) (fun h => hQ 0 (if_neg h).symm) d
theorem v_isWeight {M : Mm} {D : Nat → Nat} {n : Nat} (hDl : ∀ j, D j < 256) (hn : n ≤ 900) {c : CC} (hU : MU M D n c) {Q : Option Value → Mm → Prop} (hQ : ∀ x, x = (if isK (tkN D n) c 10 = true then 1 else 0) → Q (some (.int (nI x))) M) (d : Nat) : AMt miX12_isWeight (d + 1) [.ref 132] M Q :=
  c_X12_isWeight hDl hn hU (fun h => hQ 1 (if_pos h).symm) (fun h => hQ 0 (if_neg h).symm) d
theorem v_isNews {M : Mm} {D : Nat → Nat} {n : Nat} (hDl : ∀ j, D j < 256) (hn : n ≤ 900) {c : CC} (hU : MU M D n c) {Q : Option Value → Mm → Prop} (hQ : ∀ x, x = (if isK (tkN D n) c 11 = true then 1 else 0) → Q (some (.int (nI x))) M) (d : Nat) : AMt miX12_isNews (d + 1) [.ref 132] M Q :=
  c_X12_isNews hDl hn hU (fun h => hQ 1 (if_pos h).symm) (fun h => hQ 0 (if_neg h).symm) d
theorem v_isSize {M : Mm} {D : Nat → Nat} {n : Nat} (hDl : ∀ j, D j < 256) (hn : n ≤ 900) {c : CC} (hU : MU M D n c) {Q : Option Value → Mm → Prop} (hQ : ∀ x, x = (if isK (tkN D n) c 12 = true then 1 else 0) → Q (some (.int (nI x))) M) (d : Nat) : AMt miX12_isSize (d + 1) [.ref 132] M Q :=
  c_X12_isSize hDl hn hU (fun h => hQ 1 (if_pos h).symm) (fun h => hQ 0 (if_neg h).symm) d
theorem v_isEnd {M : Mm} {D : Nat → Nat} {n : Nat} (hDl : ∀ j, D j < 256) (hn : n ≤ 900) {c : CC} (hU : MU M D n c) {Q : Option Value → Mm → Prop} (hQ : ∀ x, x = (if isK (tkN D n) c 23 = true then 1 else 0) → Q (some (.int (nI x))) M) (d : Nat) : AMt miX12_isEnd (d + 1) [.ref 132] M Q :=
  c_X12_isEnd hDl hn hU (fun h => hQ 1 (if_pos h).symm) (fun h => hQ 0 (if_neg h).symm) d
set_option maxRecDepth 100000 in
set_option maxHeartbeats 800000 in
theorem c_X12_count {M : Mm} {D : Nat → Nat} {n : Nat} (hDl : ∀ j, D j < 256) (hn : n ≤ 900) {c : CC} (hU : MU M D n c) {lo hi : Nat} (hl : lo ≤ 100) (hh : hi ≤ 100) {Q : Option Value → Mm → Prop} (hQ : ∀ M' v, MU M' D n (numC (tkN D n) lo hi c) → ((numC (tkN D n) lo hi c).2.1 = 0 → v = nI (cd (tkN D n) c)) → fr muP M M' → Q (some (.int v)) M') (d : Nat) : AMt miX12_count (d + 4) [.ref 132, .int (nI lo), .int (nI hi)] M Q := by
  refine AMt.of (by decide) (Nat.le_of_ble_eq_true rfl) ?_
  show AW miX12_count (d + 4) (mxA Q) 0 [(0, some (.ref 132)), (1, some (.int (nI lo))), (2, some (.int (nI hi)))] [] M
  have hf7 := hU.2.2.2.2
  have hKG := tkN_G (D := D) hn c.1
  have hkd : kd (tkN D n) c ≤ 6 := hKG.1
  have hst := hKG.2.1
  obtain ⟨mk0, mk1, mk2, mk3, mk4, mk5⟩ := mkd_i hkd
  refine a_aload_n rfl dX12_count_0 ?_
  refine g_i hU.2.2.1 (by decide) rfl fX12_212 rfl dX12_count_1 ?_
  refine n_if_ne 19 (by omega) dX12_count_4 (by decide) (fun h_4 => ?_) (fun h_4 => ?_)
  · refine a_aload_n rfl dX12_count_19 ?_
    refine g_i hU.2.2.1 (by decide) rfl fX12_212 rfl dX12_count_20 ?_
    refine n_if_ne 50 (by omega) dX12_count_23 (by decide) (fun h_23 => ?_) (fun h_23 => absurd h_23 (by omega))
    refine a_aload_n rfl dX12_count_50 ?_
    refine g_i hU.2.2.1 (by decide) rfl fX12_212 rfl dX12_count_51 ?_
    refine n_if_le 59 (by omega) dX12_count_54 (by decide) (fun h_54 => absurd h_54 (by omega)) (fun h_54 => ?_)
    refine n_iconst 0 rfl dX12_count_57 ?_
    refine a_iret dX12_count_58 rfl ?_
    have e : numC (tkN D n) lo hi c = c := num_n h_4
    rw [e] at hQ
    exact hQ _ _ hU (fun q => absurd q h_4) fr.r
  · refine a_aload_n rfl dX12_count_7 ?_
    refine g_i (show M.1 132 14 = nI (mkd (kd (tkN D n) c)) from hU.2.1.1) (by decide) rfl fX12_124 rfl dX12_count_8 ?_
    refine n_iconst 2 rfl dX12_count_11 ?_
    refine n_icmp_eq 19 (by omega) (by omega) dX12_count_12 (by decide) (fun h_12 => ?_) (fun h_12 => ?_)
    · refine a_aload_n rfl dX12_count_19 ?_
      refine g_i hU.2.2.1 (by decide) rfl fX12_212 rfl dX12_count_20 ?_
      refine n_if_ne 50 (by omega) dX12_count_23 (by decide) (fun h_23 => absurd h_23 (by omega)) (fun h_23 => ?_)
      have hk4 : kd (tkN D n) c = 4 := by omega
      have hcd : cd (tkN D n) c < 10000 := hKG.2.2.2.2.1 hk4
      refine a_aload_n rfl dX12_count_26 ?_
      refine g_i (show M.1 132 17 = nI (cd (tkN D n) c) from hU.2.1.2.2.2.1 (Or.inl hk4)) (by decide) rfl fX12_143 rfl dX12_count_27 ?_
      refine n_i2l (by omega) dX12_count_30 ?_
      refine a_iload_n rfl dX12_count_31 ?_
      refine n_i2l (by omega) dX12_count_32 ?_
      refine a_iload_n rfl dX12_count_33 ?_
      refine n_i2l (by omega) dX12_count_34 ?_
      refine n_callS (mi' := miX12_isIn) dX12_count_35 lX12_104 mX12_isIn (c_X12_isIn (x := lN (cd (tkN D n) c)) (lo := lN lo) (hi := lN hi) (fun h_35 => ?_) (fun h_35 => ?_) d) rfl rfl (by omega) (by decide) (Nat.le_of_ble_eq_true rfl)
      · show AW _ _ _ _ _ _ _
        have h_35 := (isIn_l (by omega) (by omega) (by omega)).mp h_35
        refine n_if_ne 50 (by decide) dX12_count_38 (by decide) (fun _ => ?_) (fun h => absurd h (by decide))
        refine a_aload_n rfl dX12_count_50 ?_
        refine g_i hU.2.2.1 (by decide) rfl fX12_212 rfl dX12_count_51 ?_
        refine n_if_le 59 (by omega) dX12_count_54 (by decide) (fun h_54 => ?_) (fun h_54 => absurd h_54 (by omega))
        refine a_aload_n rfl dX12_count_59 ?_
        refine g_i (show M.1 132 17 = nI (cd (tkN D n) c) from hU.2.1.2.2.2.1 (Or.inl hk4)) (by decide) rfl fX12_143 rfl dX12_count_60 ?_
        refine a_istore_n (by decide) rfl dX12_count_63 ?_
        refine a_aload_n rfl dX12_count_64 ?_
        refine n_callV (mi' := miX12_advance) dX12_count_65 lX12_222 mX12_advance (by decide) rfl rfl rfl (c_X12_advance (k := c.1 + 1) hU.1 hDl hn hU.2.1.2.2.1 (fun M_65 hk_65 hf_65 => ?_) d) rfl rfl (by omega) (by decide) (Nat.le_of_ble_eq_true rfl)
        show AW _ _ _ _ _ _ _
        refine a_iload_n rfl dX12_count_68 ?_
        refine a_iret dX12_count_69 rfl ?_
        have e : numC (tkN D n) lo hi c = spC (tkN D n) c := congrArg (spC (tkN D n)) ((if_pos hk4).trans (if_pos h_35))
        rw [e] at hQ
        exact hQ _ _ (MU_av hU (by omega) hk_65 hf_65) (fun _ => rfl) (hf_65.mo (fun _ _ h => av_mu h))
      · show AW _ _ _ _ _ _ _
        have h_35 : ¬ (lo ≤ cd (tkN D n) c ∧ cd (tkN D n) c ≤ hi) := fun q => h_35 ((isIn_l (by omega) (by omega) (by omega)).mpr q)
        refine n_if_ne 50 (by decide) dX12_count_38 (by decide) (fun h => absurd h (by decide)) (fun _ => ?_)
        refine a_aload_n rfl dX12_count_41 ?_
        refine n_iconst 4 rfl dX12_count_42 ?_
        refine a_aload_n rfl dX12_count_43 ?_
        refine g_i hU.2.1.2.1 (by decide) rfl fX12_118 rfl dX12_count_44 ?_
        refine n_callV (mi' := miX12_fail) dX12_count_47 lX12_218 mX12_fail (by decide) rfl rfl rfl (c_X12_fail hDl hn hU (by omega) (fun _ => by omega) rfl (fun M_47 hc_47 hf_47 => ?_) d) rfl rfl (by omega) (by decide) (Nat.le_of_ble_eq_true rfl)
        show AW _ _ _ _ _ _ _
        have hz := fl_z (tk := tkN D n) (w := 4) (c := c) (by decide)
        have hz7 := hc_47.2.2.2.2
        refine a_aload_n rfl dX12_count_50 ?_
        refine g_i hc_47.2.2.1 (by decide) rfl fX12_212 rfl dX12_count_51 ?_
        refine n_if_le 59 (by omega) dX12_count_54 (by decide) (fun h_54 => absurd h_54 (by omega)) (fun h_54 => ?_)
        refine n_iconst 0 rfl dX12_count_57 ?_
        refine a_iret dX12_count_58 rfl ?_
        have e : numC (tkN D n) lo hi c = flC (tkN D n) 4 c := (congrArg (spC (tkN D n)) ((if_pos hk4).trans (if_neg h_35))).trans (sp_fl (by decide))
        rw [e] at hQ
        exact hQ _ _ hc_47 (fun q => absurd q hz) hf_47
    · refine a_aload_n rfl dX12_count_15 ?_
      refine n_callV (mi' := miX12_amiss) dX12_count_16 lX12_225 mX12_amiss (by decide) rfl rfl rfl (c_X12_amiss hDl hn hU (fun M_16 hc_16 hf_16 => ?_) d) rfl rfl (by omega) (by decide) (Nat.le_of_ble_eq_true rfl)
      show AW _ _ _ _ _ _ _
      have hz := fl_z (tk := tkN D n) (w := 2) (c := c) (by decide)
      have hz7 := hc_16.2.2.2.2
      refine a_aload_n rfl dX12_count_19 ?_
      refine g_i hc_16.2.2.1 (by decide) rfl fX12_212 rfl dX12_count_20 ?_
      refine n_if_ne 50 (by omega) dX12_count_23 (by decide) (fun h_23 => ?_) (fun h_23 => absurd h_23 (by omega))
      refine a_aload_n rfl dX12_count_50 ?_
      refine g_i hc_16.2.2.1 (by decide) rfl fX12_212 rfl dX12_count_51 ?_
      refine n_if_le 59 (by omega) dX12_count_54 (by decide) (fun h_54 => absurd h_54 (by omega)) (fun h_54 => ?_)
      refine n_iconst 0 rfl dX12_count_57 ?_
      refine a_iret dX12_count_58 rfl ?_
      have e : numC (tkN D n) lo hi c = flC (tkN D n) 2 c := (congrArg (spC (tkN D n)) (if_neg (fun q => by omega))).trans (sp_fl (by decide))
      rw [e] at hQ
      exact hQ _ _ hc_16 (fun q => absurd q hz) hf_16

set_option maxRecDepth 100000 in
set_option maxHeartbeats 800000 in
theorem c_X12_behindWord {M : Mm} {D : Nat → Nat} {n : Nat} (hDl : ∀ j, D j < 256) (hn : n ≤ 900) {c : CC} (hU : MU M D n c) {b : Bool} {x lo hi : Nat} (hx : x = if b = true then 1 else 0) (hl : lo ≤ 100) (hh : hi ≤ 100) {Q : Option Value → Mm → Prop} (hQ : ∀ M' v, MU M' D n (numC (tkN D n) lo hi (spC (tkN D n) (if b = true then c else flC (tkN D n) 2 c))) → ((numC (tkN D n) lo hi (spC (tkN D n) (if b = true then c else flC (tkN D n) 2 c))).2.1 = 0 → v = nI (cd (tkN D n) (spC (tkN D n) (if b = true then c else flC (tkN D n) 2 c)))) → fr muP M M' → Q (some (.int v)) M') (d : Nat) : AMt miX12_behindWord (d + 5) [.ref 132, .int (nI x), .int (nI lo), .int (nI hi)] M Q := by
  refine AMt.of (by decide) (Nat.le_of_ble_eq_true rfl) ?_
  show AW miX12_behindWord (d + 5) (mxA Q) 0 [(0, some (.ref 132)), (1, some (.int (nI x))), (2, some (.int (nI lo))), (3, some (.int (nI hi)))] [] M
  refine a_aload_n rfl dX12_behindWord_0 ?_
  refine a_iload_n rfl dX12_behindWord_1 ?_
  refine n_callV (mi' := miX12_must) dX12_behindWord_2 lX12_228 mX12_must (by decide) rfl rfl rfl (c_X12_must hDl hn hU hx (fun M_2 hc_2 hf_2 => ?_) d) rfl rfl (by omega) (by decide) (Nat.le_of_ble_eq_true rfl)
  show AW _ _ _ _ _ _ _
  refine a_aload_n rfl dX12_behindWord_5 ?_
  refine a_iload_n rfl dX12_behindWord_6 ?_
  refine a_iload_n rfl dX12_behindWord_7 ?_
  refine n_callV (mi' := miX12_count) dX12_behindWord_8 lX12_232 mX12_count (by decide) rfl rfl rfl (c_X12_count hDl hn hc_2 hl hh (fun M_8 v_8 hc_8 hv_8 hf_8 => ?_) d) rfl rfl (by omega) (by decide) (Nat.le_of_ble_eq_true rfl)
  show AW _ _ _ _ _ _ _
  refine a_iret dX12_behindWord_11 rfl ?_
  exact hQ _ _ hc_8 hv_8 (hf_2.t hf_8)

theorem nmI_c {N : Nat → Int64} {x : Int64} {m i : Nat} (h1 : i < m) (h2 : N i = x) (h3 : ∀ j, j < i → N j ≠ x) : nmI N m x = some i := nmI_s h1 h2 h3

set_option maxRecDepth 100000 in
set_option maxHeartbeats 800000 in
theorem c_named0 {M : Mm} {b : Nat} {S : ST} {N : NM} {x : Int64} (hb : b ≤ 4) (hVM : VM (362 * b) M S) (hF : WF S) (hVN : VNM b M S N) (hx : M.2 132 19 = x) {Q : Option Value → Mm → Prop} (h1 : ∀ i, nmI (N 0) (S 0 2) x = some i → Q (some (.int (nI i))) M) (h0 : nmI (N 0) (S 0 2) x = none → Q (some (.int (-1))) M) (d : Nat) : AMt miX12_named (d) [.ref 132, .int (nI b), .int (nI 0)] M Q := by
  refine AMt.of (by decide) (Nat.le_of_ble_eq_true rfl) ?_
  show AW miX12_named (d) (mxA Q) 0 [(0, some (.ref 132)), (1, some (.int (nI b))), (2, some (.int (nI 0)))] [] M
  have hm := WF_m hF
  have hs := WF_s hF
  refine a_aload_n rfl dX12_named_0 ?_
  refine a_geta dX12_named_1 fX12_35 (by decide) rfl rfl ?_
  refine n_sipush 362 rfl dX12_named_4 ?_
  refine a_iload_n rfl dX12_named_7 ?_
  refine n_imul dX12_named_8 ?_
  refine a_iload_n rfl dX12_named_9 ?_
  refine n_if_ne 17 (by decide) dX12_named_10 (by decide) (fun h => absurd h (by decide)) (fun _ => ?_)
  refine n_iconst 0 rfl dX12_named_13 ?_
  refine a_goto 18 dX12_named_14 (by decide) ?_
  refine n_iadd dX12_named_18 ?_
  refine v_iald (by omega) (hVM.1) (by decide) rfl (by decide) dX12_named_19 ?_
  refine a_istore_n (by decide) rfl dX12_named_20 ?_
  refine n_iconst 0 rfl dX12_named_21 ?_
  refine a_istore (by decide) rfl dX12_named_22 ?_
  have loop_24 : ∀ i, i ≤ S 0 2 → (∀ j, j < i → N 0 j ≠ x) → AW miX12_named (d) (mxA Q) 24 [(0, some (.ref 132)), (1, some (.int (nI b))), (2, some (.int (nI 0))), (3, some (.int (nI (S 0 2)))), (4, some (.int (nI i)))] [] M := by
    refine up (W := fun i => (∀ j, j < i → N 0 j ≠ x) → AW miX12_named (d) (mxA Q) 24 [(0, some (.ref 132)), (1, some (.int (nI b))), (2, some (.int (nI 0))), (3, some (.int (nI (S 0 2)))), (4, some (.int (nI i)))] [] M) (S 0 2) (fun hI_24 => ?_) (fun i hi_24 ih_24 hI_24 => ?_)
    · refine a_iload rfl dX12_named_24 ?_
      refine a_iload_n rfl dX12_named_26 ?_
      refine n_icmp_ge 64 (by omega) (by omega) dX12_named_27 (by decide) (fun h_27 => ?_) (fun h_27 => absurd h_27 (by omega))
      refine a_iconst (-1) rfl dX12_named_64 ?_
      refine a_iret dX12_named_65 rfl ?_
      exact h0 (nmI_n (fun j hj => hI_24 j hj))
    · have hwi0 : M.2 139 (13 * b + 6 * 0 + i) = N 0 i := by rw [show 13 * b + 6 * 0 + i = 13 * b + i by omega]; exact hVN.1 i (by omega)
      refine a_iload rfl dX12_named_24 ?_
      refine a_iload_n rfl dX12_named_26 ?_
      refine n_icmp_ge 64 (by omega) (by omega) dX12_named_27 (by decide) (fun h_27 => absurd h_27 (by omega)) (fun h_27 => ?_)
      refine a_aload_n rfl dX12_named_30 ?_
      refine a_geta dX12_named_31 fX12_41 (by decide) rfl rfl ?_
      refine n_bipush 13 rfl dX12_named_34 ?_
      refine a_iload_n rfl dX12_named_36 ?_
      refine n_imul dX12_named_37 ?_
      refine n_bipush 6 rfl dX12_named_38 ?_
      refine a_iload_n rfl dX12_named_40 ?_
      refine n_imul dX12_named_41 ?_
      refine n_iadd dX12_named_42 ?_
      refine a_iload rfl dX12_named_43 ?_
      refine n_iadd dX12_named_45 ?_
      refine n_lald (by omega) (by decide) rfl (by decide) dX12_named_46 ?_
      refine a_aload_n rfl dX12_named_47 ?_
      refine a_getl dX12_named_48 fX12_130 (by decide) rfl rfl ?_
      refine a_lcmp dX12_named_51 ?_
      refine l_if_ne 58 dX12_named_52 (by decide) (fun h_52 => ?_) (fun h_52 => ?_)
      · refine n_iinc (c := 1) rfl rfl (by decide) rfl dX12_named_58 ?_
        refine a_goto 24 dX12_named_61 (by decide) ?_
        exact a_bk (ih_24 (fun j hj => by
                    by_cases e : j = i
                    · rw [e]; exact fun z => h_52 (hwi0.trans (z.trans hx.symm))
                    · exact hI_24 j (by omega))) ⟨rfl, rfl, rfl, rfl, rfl, trivial⟩
      · have hwi : N 0 i = x := hwi0.symm.trans (h_52.trans hx)
        refine a_iload rfl dX12_named_55 ?_
        refine a_iret dX12_named_57 rfl ?_
        exact h1 _ (nmI_s (by omega) hwi hI_24)
  exact a_bk (loop_24 0 (by omega) (fun j hj => absurd hj (Nat.not_lt_zero _))) ⟨rfl, rfl, rfl, rfl, rfl, trivial⟩

set_option maxRecDepth 100000 in
set_option maxHeartbeats 800000 in
theorem c_named1 {M : Mm} {b : Nat} {S : ST} {N : NM} {x : Int64} (hb : b ≤ 4) (hVM : VM (362 * b) M S) (hF : WF S) (hVN : VNM b M S N) (hx : M.2 132 19 = x) {Q : Option Value → Mm → Prop} (h1 : ∀ i, nmI (N 1) (S 0 4) x = some i → Q (some (.int (nI i))) M) (h0 : nmI (N 1) (S 0 4) x = none → Q (some (.int (-1))) M) (d : Nat) : AMt miX12_named (d) [.ref 132, .int (nI b), .int (nI 1)] M Q := by
  refine AMt.of (by decide) (Nat.le_of_ble_eq_true rfl) ?_
  show AW miX12_named (d) (mxA Q) 0 [(0, some (.ref 132)), (1, some (.int (nI b))), (2, some (.int (nI 1)))] [] M
  have hm := WF_m hF
  have hs := WF_s hF
  refine a_aload_n rfl dX12_named_0 ?_
  refine a_geta dX12_named_1 fX12_35 (by decide) rfl rfl ?_
  refine n_sipush 362 rfl dX12_named_4 ?_
  refine a_iload_n rfl dX12_named_7 ?_
  refine n_imul dX12_named_8 ?_
  refine a_iload_n rfl dX12_named_9 ?_
  refine n_if_ne 17 (by decide) dX12_named_10 (by decide) (fun _ => ?_) (fun h => absurd h (by decide))
  refine n_iconst 2 rfl dX12_named_17 ?_
  refine n_iadd dX12_named_18 ?_
  refine v_iald (by omega) (hVM.2.2.1) (by decide) rfl (by decide) dX12_named_19 ?_
  refine a_istore_n (by decide) rfl dX12_named_20 ?_
  refine n_iconst 0 rfl dX12_named_21 ?_
  refine a_istore (by decide) rfl dX12_named_22 ?_
  have loop_24 : ∀ i, i ≤ S 0 4 → (∀ j, j < i → N 1 j ≠ x) → AW miX12_named (d) (mxA Q) 24 [(0, some (.ref 132)), (1, some (.int (nI b))), (2, some (.int (nI 1))), (3, some (.int (nI (S 0 4)))), (4, some (.int (nI i)))] [] M := by
    refine up (W := fun i => (∀ j, j < i → N 1 j ≠ x) → AW miX12_named (d) (mxA Q) 24 [(0, some (.ref 132)), (1, some (.int (nI b))), (2, some (.int (nI 1))), (3, some (.int (nI (S 0 4)))), (4, some (.int (nI i)))] [] M) (S 0 4) (fun hI_24 => ?_) (fun i hi_24 ih_24 hI_24 => ?_)
    · refine a_iload rfl dX12_named_24 ?_
      refine a_iload_n rfl dX12_named_26 ?_
      refine n_icmp_ge 64 (by omega) (by omega) dX12_named_27 (by decide) (fun h_27 => ?_) (fun h_27 => absurd h_27 (by omega))
      refine a_iconst (-1) rfl dX12_named_64 ?_
      refine a_iret dX12_named_65 rfl ?_
      exact h0 (nmI_n (fun j hj => hI_24 j hj))
    · have hwi0 : M.2 139 (13 * b + 6 * 1 + i) = N 1 i := by rw [show 13 * b + 6 * 1 + i = 13 * b + 6 + i by omega]; exact hVN.2 i (by omega)
      refine a_iload rfl dX12_named_24 ?_
      refine a_iload_n rfl dX12_named_26 ?_
      refine n_icmp_ge 64 (by omega) (by omega) dX12_named_27 (by decide) (fun h_27 => absurd h_27 (by omega)) (fun h_27 => ?_)
      refine a_aload_n rfl dX12_named_30 ?_
      refine a_geta dX12_named_31 fX12_41 (by decide) rfl rfl ?_
      refine n_bipush 13 rfl dX12_named_34 ?_
      refine a_iload_n rfl dX12_named_36 ?_
      refine n_imul dX12_named_37 ?_
      refine n_bipush 6 rfl dX12_named_38 ?_
      refine a_iload_n rfl dX12_named_40 ?_
      refine n_imul dX12_named_41 ?_
      refine n_iadd dX12_named_42 ?_
      refine a_iload rfl dX12_named_43 ?_
      refine n_iadd dX12_named_45 ?_
      refine n_lald (by omega) (by decide) rfl (by decide) dX12_named_46 ?_
      refine a_aload_n rfl dX12_named_47 ?_
      refine a_getl dX12_named_48 fX12_130 (by decide) rfl rfl ?_
      refine a_lcmp dX12_named_51 ?_
      refine l_if_ne 58 dX12_named_52 (by decide) (fun h_52 => ?_) (fun h_52 => ?_)
      · refine n_iinc (c := 1) rfl rfl (by decide) rfl dX12_named_58 ?_
        refine a_goto 24 dX12_named_61 (by decide) ?_
        exact a_bk (ih_24 (fun j hj => by
                    by_cases e : j = i
                    · rw [e]; exact fun z => h_52 (hwi0.trans (z.trans hx.symm))
                    · exact hI_24 j (by omega))) ⟨rfl, rfl, rfl, rfl, rfl, trivial⟩
      · have hwi : N 1 i = x := hwi0.symm.trans (h_52.trans hx)
        refine a_iload rfl dX12_named_55 ?_
        refine a_iret dX12_named_57 rfl ?_
        exact h1 _ (nmI_s (by omega) hwi hI_24)
  exact a_bk (loop_24 0 (by omega) (fun j hj => absurd hj (Nat.not_lt_zero _))) ⟨rfl, rfl, rfl, rfl, rfl, trivial⟩

theorem VM_mu {M M' : Mm} {o : Nat} {S : ST} (h : VM o M S) (hf : fr muP M M') : VM o M' S := by
  have e : M'.1 137 = M.1 137 := funext fun j => (hf 137 j (by unfold muP; omega)).1
  unfold VM at h ⊢
  rw [e]; exact h
theorem VNM_mu {M M' : Mm} {b : Nat} {S : ST} {N : NM} (h : VNM b M S N) (hf : fr muP M M') : VNM b M' S N := by
  have e : M'.2 139 = M.2 139 := funext fun j => (hf 139 j (by unfold muP; omega)).2
  unfold VNM at h ⊢
  rw [e]; exact h

set_option maxRecDepth 100000 in
set_option maxHeartbeats 800000 in
theorem c_told0 {M : Mm} {D : Nat → Nat} {n : Nat} (hDl : ∀ j, D j < 256) (hn : n ≤ 900) {c : CC} (hU : MU M D n c) {b : Nat} {S : ST} {N : NM} (hb : b ≤ 4) (hVM : VM (362 * b) M S) (hF : WF S) (hVN : VNM b M S N) {Q : Option Value → Mm → Prop} (hQ : ∀ M' v, MU M' D n (refC (tkN D n) (nmM (tkN D n) S N c) c) → ((refC (tkN D n) (nmM (tkN D n) S N c) c).2.1 = 0 → ∃ j, nmM (tkN D n) S N c = some j ∧ v = nI j) → fr muP M M' → Q (some (.int v)) M') (d : Nat) : AMt miX12_told (d + 4) [.ref 132, .int (nI b), .int (nI 0)] M Q := by
  refine AMt.of (by decide) (Nat.le_of_ble_eq_true rfl) ?_
  show AW miX12_told (d + 4) (mxA Q) 0 [(0, some (.ref 132)), (1, some (.int (nI b))), (2, some (.int (nI 0)))] [] M
  have hf7 := hU.2.2.2.2
  have hKG := tkN_G (D := D) hn c.1
  have hkd : kd (tkN D n) c ≤ 6 := hKG.1
  have hst := hKG.2.1
  obtain ⟨mk0, mk1, mk2, mk3, mk4, mk5⟩ := mkd_i hkd
  have hm := WF_m hF
  have hs := WF_s hF
  refine a_aload_n rfl dX12_told_0 ?_
  refine g_i hU.2.2.1 (by decide) rfl fX12_212 rfl dX12_told_1 ?_
  refine n_if_ne 18 (by omega) dX12_told_4 (by decide) (fun h_4 => ?_) (fun h_4 => ?_)
  · refine a_aload_n rfl dX12_told_18 ?_
    refine g_i hU.2.2.1 (by decide) rfl fX12_212 rfl dX12_told_19 ?_
    refine n_if_le 27 (by omega) dX12_told_22 (by decide) (fun h_22 => absurd h_22 (by omega)) (fun h_22 => ?_)
    refine n_iconst 0 rfl dX12_told_25 ?_
    refine a_iret dX12_told_26 rfl ?_
    have e : refC (tkN D n) (nmM (tkN D n) S N c) c = c := by
      unfold refC
      split
      · split
        · exact fl_n h_4
        · rfl
      · exact fl_n h_4
    rw [e] at hQ
    exact hQ _ _ hU (fun q => absurd q h_4) fr.r
  · refine a_aload_n rfl dX12_told_7 ?_
    refine n_callV (mi' := miX12_isName) dX12_told_8 lX12_241 mX12_isName (by decide) rfl rfl rfl (c_X12_isName hDl hn hU (fun h_8 => ?_) (fun h_8 => ?_) d) rfl rfl (by omega) (by decide) (Nat.le_of_ble_eq_true rfl)
    · show AW _ _ _ _ _ _ _
      refine n_if_ne 18 (by decide) dX12_told_11 (by decide) (fun _ => ?_) (fun h => absurd h (by decide))
      refine a_aload_n rfl dX12_told_18 ?_
      refine g_i hU.2.2.1 (by decide) rfl fX12_212 rfl dX12_told_19 ?_
      refine n_if_le 27 (by omega) dX12_told_22 (by decide) (fun h_22 => ?_) (fun h_22 => absurd h_22 (by omega))
      refine a_aload_n rfl dX12_told_27 ?_
      refine a_iload_n rfl dX12_told_28 ?_
      refine a_iload_n rfl dX12_told_29 ?_
      refine n_callV (mi' := miX12_named) dX12_told_30 lX12_244 mX12_named (by decide) rfl rfl rfl (c_named0 (x := lN (cd (tkN D n) c)) hb hVM hF hVN (hU.2.1.2.2.2.2.2.1 h_8).1 (fun i_30 hi_30 => ?_) (fun hi_30 => ?_) d) rfl rfl (by omega) (by decide) (Nat.le_of_ble_eq_true rfl)
      · show AW _ _ _ _ _ _ _
        have hil := (nmI_lt hi_30).1
        refine a_istore_n (by decide) rfl dX12_told_33 ?_
        refine a_iload_n rfl dX12_told_34 ?_
        refine n_if_ge 47 (by omega) dX12_told_35 (by decide) ?_
        refine n_iconst 0 rfl dX12_told_47 ?_
        refine a_iload_n rfl dX12_told_48 ?_
        refine n_max (by omega) (by omega) dX12_told_49 lX12_247 (Nat.le_of_ble_eq_true rfl) ?_
        refine a_iret dX12_told_52 rfl ?_
        have hn0 : nmM (tkN D n) S N c = some i_30 := hi_30
        have e : refC (tkN D n) (nmM (tkN D n) S N c) c = c := (if_pos h_8).trans (if_neg (by rw [hn0]; exact fun q => by cases q))
        rw [e] at hQ
        exact hQ _ _ hU (fun _ => ⟨_, hn0, congrArg nI (by omega)⟩) fr.r
      · show AW _ _ _ _ _ _ _
        refine a_istore_n (by decide) rfl dX12_told_33 ?_
        refine a_iload_n rfl dX12_told_34 ?_
        refine r_if_ge 47 dX12_told_35 (by decide) (fun h_35 => absurd h_35 (by rw [show (-1 : Int32).toInt = -1 from by decide]; omega)) (fun h_35 => ?_)
        refine a_aload_n rfl dX12_told_38 ?_
        refine n_iconst 3 rfl dX12_told_39 ?_
        refine a_aload_n rfl dX12_told_40 ?_
        refine g_i hU.2.1.2.1 (by decide) rfl fX12_118 rfl dX12_told_41 ?_
        refine n_callV (mi' := miX12_fail) dX12_told_44 lX12_218 mX12_fail (by decide) rfl rfl rfl (c_X12_fail hDl hn hU (by omega) (fun _ => by omega) rfl (fun M_44 hc_44 hf_44 => ?_) d) rfl rfl (by omega) (by decide) (Nat.le_of_ble_eq_true rfl)
        show AW _ _ _ _ _ _ _
        refine n_iconst 0 rfl dX12_told_47 ?_
        refine a_iload_n rfl dX12_told_48 ?_
        refine a_max dX12_told_49 lX12_247 (Nat.le_of_ble_eq_true rfl) ?_
        refine a_iret dX12_told_52 rfl ?_
        have hn0 : nmM (tkN D n) S N c = none := hi_30
        have e : refC (tkN D n) (nmM (tkN D n) S N c) c = flC (tkN D n) 3 c := (if_pos h_8).trans (if_pos hn0)
        rw [e] at hQ
        exact hQ _ _ hc_44 (fun q => absurd q (fl_z (by decide))) hf_44
    · show AW _ _ _ _ _ _ _
      refine n_if_ne 18 (by decide) dX12_told_11 (by decide) (fun h => absurd h (by decide)) (fun _ => ?_)
      refine a_aload_n rfl dX12_told_14 ?_
      refine n_callV (mi' := miX12_amiss) dX12_told_15 lX12_225 mX12_amiss (by decide) rfl rfl rfl (c_X12_amiss hDl hn hU (fun M_15 hc_15 hf_15 => ?_) d) rfl rfl (by omega) (by decide) (Nat.le_of_ble_eq_true rfl)
      show AW _ _ _ _ _ _ _
      have hz := fl_z (tk := tkN D n) (w := 2) (c := c) (by decide)
      have hz7 := hc_15.2.2.2.2
      refine a_aload_n rfl dX12_told_18 ?_
      refine g_i hc_15.2.2.1 (by decide) rfl fX12_212 rfl dX12_told_19 ?_
      refine n_if_le 27 (by omega) dX12_told_22 (by decide) (fun h_22 => absurd h_22 (by omega)) (fun h_22 => ?_)
      refine n_iconst 0 rfl dX12_told_25 ?_
      refine a_iret dX12_told_26 rfl ?_
      have e : refC (tkN D n) (nmM (tkN D n) S N c) c = flC (tkN D n) 2 c := if_neg h_8
      rw [e] at hQ
      exact hQ _ _ hc_15 (fun q => absurd q hz) hf_15

set_option maxRecDepth 100000 in
set_option maxHeartbeats 800000 in
theorem c_readTold0 {M : Mm} {D : Nat → Nat} {n : Nat} (hDl : ∀ j, D j < 256) (hn : n ≤ 900) {c : CC} (hU : MU M D n c) {b : Nat} {S : ST} {N : NM} (hb : b ≤ 4) (hVM : VM (362 * b) M S) (hF : WF S) (hVN : VNM b M S N) {Q : Option Value → Mm → Prop} (hQ : ∀ M' v, MU M' D n (spC (tkN D n) (refC (tkN D n) (nmM (tkN D n) S N c) c)) → ((spC (tkN D n) (refC (tkN D n) (nmM (tkN D n) S N c) c)).2.1 = 0 → ∃ j, nmM (tkN D n) S N c = some j ∧ v = nI j) → fr muP M M' → Q (some (.int v)) M') (d : Nat) : AMt miX12_readTold (d + 5) [.ref 132, .int (nI b), .int (nI 0)] M Q := by
  refine AMt.of (by decide) (Nat.le_of_ble_eq_true rfl) ?_
  show AW miX12_readTold (d + 5) (mxA Q) 0 [(0, some (.ref 132)), (1, some (.int (nI b))), (2, some (.int (nI 0)))] [] M
  refine a_aload_n rfl dX12_readTold_0 ?_
  refine a_iload_n rfl dX12_readTold_1 ?_
  refine a_iload_n rfl dX12_readTold_2 ?_
  refine n_callV (mi' := miX12_told) dX12_readTold_3 lX12_250 mX12_told (by decide) rfl rfl rfl (c_told0 hDl hn hU hb hVM hF hVN (fun M_3 v_3 hc_3 hv_3 hf_3 => ?_) d) rfl rfl (by omega) (by decide) (Nat.le_of_ble_eq_true rfl)
  show AW _ _ _ _ _ _ _
  refine a_istore_n (by decide) rfl dX12_readTold_6 ?_
  refine a_aload_n rfl dX12_readTold_7 ?_
  refine n_iconst 1 rfl dX12_readTold_8 ?_
  refine n_callV (mi' := miX12_must) dX12_readTold_9 lX12_228 mX12_must (by decide) rfl rfl rfl (c_X12_must (b := true) hDl hn hc_3 (x := 1) rfl (fun M_9 hc_9 hf_9 => ?_) d) rfl rfl (by omega) (by decide) (Nat.le_of_ble_eq_true rfl)
  show AW _ _ _ _ _ _ _
  refine a_iload_n rfl dX12_readTold_12 ?_
  refine a_iret dX12_readTold_13 rfl ?_
  rw [if_pos rfl] at hc_9
  exact hQ _ _ hc_9 (fun q => hv_3 (sp_0 q)) (hf_3.t hf_9)

set_option maxRecDepth 100000 in
set_option maxHeartbeats 800000 in
theorem c_told1 {M : Mm} {D : Nat → Nat} {n : Nat} (hDl : ∀ j, D j < 256) (hn : n ≤ 900) {c : CC} (hU : MU M D n c) {b : Nat} {S : ST} {N : NM} (hb : b ≤ 4) (hVM : VM (362 * b) M S) (hF : WF S) (hVN : VNM b M S N) {Q : Option Value → Mm → Prop} (hQ : ∀ M' v, MU M' D n (refC (tkN D n) (nmS (tkN D n) S N c) c) → ((refC (tkN D n) (nmS (tkN D n) S N c) c).2.1 = 0 → ∃ j, nmS (tkN D n) S N c = some j ∧ v = nI j) → fr muP M M' → Q (some (.int v)) M') (d : Nat) : AMt miX12_told (d + 4) [.ref 132, .int (nI b), .int (nI 1)] M Q := by
  refine AMt.of (by decide) (Nat.le_of_ble_eq_true rfl) ?_
  show AW miX12_told (d + 4) (mxA Q) 0 [(0, some (.ref 132)), (1, some (.int (nI b))), (2, some (.int (nI 1)))] [] M
  have hf7 := hU.2.2.2.2
  have hKG := tkN_G (D := D) hn c.1
  have hkd : kd (tkN D n) c ≤ 6 := hKG.1
  have hst := hKG.2.1
  obtain ⟨mk0, mk1, mk2, mk3, mk4, mk5⟩ := mkd_i hkd
  have hm := WF_m hF
  have hs := WF_s hF
  refine a_aload_n rfl dX12_told_0 ?_
  refine g_i hU.2.2.1 (by decide) rfl fX12_212 rfl dX12_told_1 ?_
  refine n_if_ne 18 (by omega) dX12_told_4 (by decide) (fun h_4 => ?_) (fun h_4 => ?_)
  · refine a_aload_n rfl dX12_told_18 ?_
    refine g_i hU.2.2.1 (by decide) rfl fX12_212 rfl dX12_told_19 ?_
    refine n_if_le 27 (by omega) dX12_told_22 (by decide) (fun h_22 => absurd h_22 (by omega)) (fun h_22 => ?_)
    refine n_iconst 0 rfl dX12_told_25 ?_
    refine a_iret dX12_told_26 rfl ?_
    have e : refC (tkN D n) (nmS (tkN D n) S N c) c = c := by
      unfold refC
      split
      · split
        · exact fl_n h_4
        · rfl
      · exact fl_n h_4
    rw [e] at hQ
    exact hQ _ _ hU (fun q => absurd q h_4) fr.r
  · refine a_aload_n rfl dX12_told_7 ?_
    refine n_callV (mi' := miX12_isName) dX12_told_8 lX12_241 mX12_isName (by decide) rfl rfl rfl (c_X12_isName hDl hn hU (fun h_8 => ?_) (fun h_8 => ?_) d) rfl rfl (by omega) (by decide) (Nat.le_of_ble_eq_true rfl)
    · show AW _ _ _ _ _ _ _
      refine n_if_ne 18 (by decide) dX12_told_11 (by decide) (fun _ => ?_) (fun h => absurd h (by decide))
      refine a_aload_n rfl dX12_told_18 ?_
      refine g_i hU.2.2.1 (by decide) rfl fX12_212 rfl dX12_told_19 ?_
      refine n_if_le 27 (by omega) dX12_told_22 (by decide) (fun h_22 => ?_) (fun h_22 => absurd h_22 (by omega))
      refine a_aload_n rfl dX12_told_27 ?_
      refine a_iload_n rfl dX12_told_28 ?_
      refine a_iload_n rfl dX12_told_29 ?_
      refine n_callV (mi' := miX12_named) dX12_told_30 lX12_244 mX12_named (by decide) rfl rfl rfl (c_named1 (x := lN (cd (tkN D n) c)) hb hVM hF hVN (hU.2.1.2.2.2.2.2.1 h_8).1 (fun i_30 hi_30 => ?_) (fun hi_30 => ?_) d) rfl rfl (by omega) (by decide) (Nat.le_of_ble_eq_true rfl)
      · show AW _ _ _ _ _ _ _
        have hil := (nmI_lt hi_30).1
        refine a_istore_n (by decide) rfl dX12_told_33 ?_
        refine a_iload_n rfl dX12_told_34 ?_
        refine n_if_ge 47 (by omega) dX12_told_35 (by decide) ?_
        refine n_iconst 0 rfl dX12_told_47 ?_
        refine a_iload_n rfl dX12_told_48 ?_
        refine n_max (by omega) (by omega) dX12_told_49 lX12_247 (Nat.le_of_ble_eq_true rfl) ?_
        refine a_iret dX12_told_52 rfl ?_
        have hn0 : nmS (tkN D n) S N c = some i_30 := hi_30
        have e : refC (tkN D n) (nmS (tkN D n) S N c) c = c := (if_pos h_8).trans (if_neg (by rw [hn0]; exact fun q => by cases q))
        rw [e] at hQ
        exact hQ _ _ hU (fun _ => ⟨_, hn0, congrArg nI (by omega)⟩) fr.r
      · show AW _ _ _ _ _ _ _
        refine a_istore_n (by decide) rfl dX12_told_33 ?_
        refine a_iload_n rfl dX12_told_34 ?_
        refine r_if_ge 47 dX12_told_35 (by decide) (fun h_35 => absurd h_35 (by rw [show (-1 : Int32).toInt = -1 from by decide]; omega)) (fun h_35 => ?_)
        refine a_aload_n rfl dX12_told_38 ?_
        refine n_iconst 3 rfl dX12_told_39 ?_
        refine a_aload_n rfl dX12_told_40 ?_
        refine g_i hU.2.1.2.1 (by decide) rfl fX12_118 rfl dX12_told_41 ?_
        refine n_callV (mi' := miX12_fail) dX12_told_44 lX12_218 mX12_fail (by decide) rfl rfl rfl (c_X12_fail hDl hn hU (by omega) (fun _ => by omega) rfl (fun M_44 hc_44 hf_44 => ?_) d) rfl rfl (by omega) (by decide) (Nat.le_of_ble_eq_true rfl)
        show AW _ _ _ _ _ _ _
        refine n_iconst 0 rfl dX12_told_47 ?_
        refine a_iload_n rfl dX12_told_48 ?_
        refine a_max dX12_told_49 lX12_247 (Nat.le_of_ble_eq_true rfl) ?_
        refine a_iret dX12_told_52 rfl ?_
        have hn0 : nmS (tkN D n) S N c = none := hi_30
        have e : refC (tkN D n) (nmS (tkN D n) S N c) c = flC (tkN D n) 3 c := (if_pos h_8).trans (if_pos hn0)
        rw [e] at hQ
        exact hQ _ _ hc_44 (fun q => absurd q (fl_z (by decide))) hf_44
    · show AW _ _ _ _ _ _ _
      refine n_if_ne 18 (by decide) dX12_told_11 (by decide) (fun h => absurd h (by decide)) (fun _ => ?_)
      refine a_aload_n rfl dX12_told_14 ?_
      refine n_callV (mi' := miX12_amiss) dX12_told_15 lX12_225 mX12_amiss (by decide) rfl rfl rfl (c_X12_amiss hDl hn hU (fun M_15 hc_15 hf_15 => ?_) d) rfl rfl (by omega) (by decide) (Nat.le_of_ble_eq_true rfl)
      show AW _ _ _ _ _ _ _
      have hz := fl_z (tk := tkN D n) (w := 2) (c := c) (by decide)
      have hz7 := hc_15.2.2.2.2
      refine a_aload_n rfl dX12_told_18 ?_
      refine g_i hc_15.2.2.1 (by decide) rfl fX12_212 rfl dX12_told_19 ?_
      refine n_if_le 27 (by omega) dX12_told_22 (by decide) (fun h_22 => absurd h_22 (by omega)) (fun h_22 => ?_)
      refine n_iconst 0 rfl dX12_told_25 ?_
      refine a_iret dX12_told_26 rfl ?_
      have e : refC (tkN D n) (nmS (tkN D n) S N c) c = flC (tkN D n) 2 c := if_neg h_8
      rw [e] at hQ
      exact hQ _ _ hc_15 (fun q => absurd q hz) hf_15

set_option maxRecDepth 100000 in
set_option maxHeartbeats 800000 in
theorem c_readTold1 {M : Mm} {D : Nat → Nat} {n : Nat} (hDl : ∀ j, D j < 256) (hn : n ≤ 900) {c : CC} (hU : MU M D n c) {b : Nat} {S : ST} {N : NM} (hb : b ≤ 4) (hVM : VM (362 * b) M S) (hF : WF S) (hVN : VNM b M S N) {Q : Option Value → Mm → Prop} (hQ : ∀ M' v, MU M' D n (spC (tkN D n) (refC (tkN D n) (nmS (tkN D n) S N c) c)) → ((spC (tkN D n) (refC (tkN D n) (nmS (tkN D n) S N c) c)).2.1 = 0 → ∃ j, nmS (tkN D n) S N c = some j ∧ v = nI j) → fr muP M M' → Q (some (.int v)) M') (d : Nat) : AMt miX12_readTold (d + 5) [.ref 132, .int (nI b), .int (nI 1)] M Q := by
  refine AMt.of (by decide) (Nat.le_of_ble_eq_true rfl) ?_
  show AW miX12_readTold (d + 5) (mxA Q) 0 [(0, some (.ref 132)), (1, some (.int (nI b))), (2, some (.int (nI 1)))] [] M
  refine a_aload_n rfl dX12_readTold_0 ?_
  refine a_iload_n rfl dX12_readTold_1 ?_
  refine a_iload_n rfl dX12_readTold_2 ?_
  refine n_callV (mi' := miX12_told) dX12_readTold_3 lX12_250 mX12_told (by decide) rfl rfl rfl (c_told1 hDl hn hU hb hVM hF hVN (fun M_3 v_3 hc_3 hv_3 hf_3 => ?_) d) rfl rfl (by omega) (by decide) (Nat.le_of_ble_eq_true rfl)
  show AW _ _ _ _ _ _ _
  refine a_istore_n (by decide) rfl dX12_readTold_6 ?_
  refine a_aload_n rfl dX12_readTold_7 ?_
  refine n_iconst 1 rfl dX12_readTold_8 ?_
  refine n_callV (mi' := miX12_must) dX12_readTold_9 lX12_228 mX12_must (by decide) rfl rfl rfl (c_X12_must (b := true) hDl hn hc_3 (x := 1) rfl (fun M_9 hc_9 hf_9 => ?_) d) rfl rfl (by omega) (by decide) (Nat.le_of_ble_eq_true rfl)
  show AW _ _ _ _ _ _ _
  refine a_iload_n rfl dX12_readTold_12 ?_
  refine a_iret dX12_readTold_13 rfl ?_
  rw [if_pos rfl] at hc_9
  exact hQ _ _ hc_9 (fun q => hv_3 (sp_0 q)) (hf_3.t hf_9)

theorem MU_fr {M M' : Mm} {D : Nat → Nat} {n : Nat} {c : CC} {P : Nat → Nat → Prop} (h : MU M D n c) (hf : fr P M M') (hp : ∀ k j, (k = 132 ∧ 9 ≤ j ∧ j ≤ 19) ∨ k = 136 → ¬ P k j) : MU M' D n c := ⟨MA_fr h.1 hf (fun k j z => hp k j (by omega)), MTK_fr h.2.1 hf (fun j a b => hp _ _ (by omega)), (hf 132 12 (hp _ _ (by omega))).1.trans h.2.2.1, fun q => (hf 132 13 (hp _ _ (by omega))).1.trans (h.2.2.2.1 q), h.2.2.2.2⟩

set_option maxRecDepth 100000 in
set_option maxHeartbeats 800000 in
theorem c_readNew0 {M : Mm} {D : Nat → Nat} {n : Nat} (hDl : ∀ j, D j < 256) (hn : n ≤ 900) {c : CC} (hU : MU M D n c) {S : ST} {N : NM} (hVM : VM (362 * 4) M S) (hF : WF S) (hVN : VNM 4 M S N) (h0 : c.2.1 = 0) (hk1 : kd (tkN D n) c = 1) {Q : Option Value → Mm → Prop} (hQ : ∀ M', MU M' D n (newC (tkN D n) S N (bgC (tkN D n) (decide (6 ≤ S 0 2)) 6 c)) → ((newC (tkN D n) S N (bgC (tkN D n) (decide (6 ≤ S 0 2)) 6 c)).2.1 = 0 → M'.2 139 (52 + 6 * 0 + S 0 2) = lN (cd (tkN D n) (bgC (tkN D n) (decide (6 ≤ S 0 2)) 6 c))) → fr (fun k j => muP k j ∨ (k = 139 ∧ j = 52 + 6 * 0 + S 0 2 ∧ S 0 2 < 6)) M M' → Q (some (.int (nI (S 0 2)))) M') (d : Nat) : AMt miX12_readNew (d + 6) [.ref 132, .int (nI 0), .int (nI 6)] M Q := by
  refine AMt.of (by decide) (Nat.le_of_ble_eq_true rfl) ?_
  show AW miX12_readNew (d + 6) (mxA Q) 0 [(0, some (.ref 132)), (1, some (.int (nI 0))), (2, some (.int (nI 6)))] [] M
  have hf7 := hU.2.2.2.2
  have hKG := tkN_G (D := D) hn c.1
  have hkd : kd (tkN D n) c ≤ 6 := hKG.1
  have hst := hKG.2.1
  obtain ⟨mk0, mk1, mk2, mk3, mk4, mk5⟩ := mkd_i hkd
  have hm := WF_m hF
  have hs := WF_s hF
  refine a_aload_n rfl dX12_readNew_0 ?_
  refine a_geta dX12_readNew_1 fX12_35 (by decide) rfl rfl ?_
  refine n_sipush 1448 rfl dX12_readNew_4 ?_
  refine a_iload_n rfl dX12_readNew_7 ?_
  refine n_if_ne 15 (by decide) dX12_readNew_8 (by decide) (fun h => absurd h (by decide)) (fun _ => ?_)
  refine n_iconst 0 rfl dX12_readNew_11 ?_
  refine a_goto 16 dX12_readNew_12 (by decide) ?_
  refine n_iadd dX12_readNew_16 ?_
  refine v_iald (by omega) (show M.1 137 (1448 + 0) = nI (S 0 2) from hVM.1) (by decide) rfl (by decide) dX12_readNew_17 ?_
  refine a_istore_n (by decide) rfl dX12_readNew_18 ?_
  refine a_iload_n rfl dX12_readNew_19 ?_
  refine a_iload_n rfl dX12_readNew_20 ?_
  refine n_icmp_ne 34 (by omega) (by omega) dX12_readNew_21 (by decide) (fun h_21 => ?_) (fun h_21 => ?_)
  · refine a_aload_n rfl dX12_readNew_34 ?_
    refine n_iconst 1 rfl dX12_readNew_35 ?_
    refine n_callV (mi' := miX12_must) dX12_readNew_36 lX12_228 mX12_must (by decide) rfl rfl rfl (c_X12_must (b := true) hDl hn hU (x := 1) rfl (fun M_36 hc_36 hf_36 => ?_) d) rfl rfl (by omega) (by decide) (Nat.le_of_ble_eq_true rfl)
    show AW _ _ _ _ _ _ _
    rw [if_pos rfl] at hc_36
    have hbg : spC (tkN D n) (c) = bgC (tkN D n) (decide (6 ≤ S 0 2)) 6 c := by unfold bgC; rw [if_neg (fun q => absurd (of_decide_eq_true q) (by omega))]
    rw [hbg] at hc_36
    have hb7_36 := hc_36.2.2.2.2
    have hs9_36 := (tkN_G (D := D) hn (bgC (tkN D n) (decide (6 ≤ S 0 2)) 6 c).1).2.1
    refine a_aload_n rfl dX12_readNew_39 ?_
    refine g_i hc_36.2.2.1 (by decide) rfl fX12_212 rfl dX12_readNew_40 ?_
    refine n_if_ne 57 (by omega) dX12_readNew_43 (by decide) (fun h_43 => ?_) (fun h_43 => ?_)
    · refine a_aload_n rfl dX12_readNew_57 ?_
      refine g_i hc_36.2.2.1 (by decide) rfl fX12_212 rfl dX12_readNew_58 ?_
      refine n_if_ne 91 (by omega) dX12_readNew_61 (by decide) (fun h_61 => ?_) (fun h_61 => absurd h_61 (by omega))
      refine a_aload_n rfl dX12_readNew_91 ?_
      refine g_i hc_36.2.2.1 (by decide) rfl fX12_212 rfl dX12_readNew_92 ?_
      refine n_if_ne 116 (by omega) dX12_readNew_95 (by decide) (fun h_95 => ?_) (fun h_95 => absurd h_95 (by omega))
      refine a_aload_n rfl dX12_readNew_116 ?_
      refine n_iconst 1 rfl dX12_readNew_117 ?_
      refine n_callV (mi' := miX12_must) dX12_readNew_118 lX12_228 mX12_must (by decide) rfl rfl rfl (c_X12_must (b := true) hDl hn hc_36 (x := 1) rfl (fun M_118 hc_118 hf_118 => ?_) d) rfl rfl (by omega) (by decide) (Nat.le_of_ble_eq_true rfl)
      show AW _ _ _ _ _ _ _
      refine a_iload_n rfl dX12_readNew_121 ?_
      refine a_iret dX12_readNew_122 rfl ?_
      rw [if_pos rfl] at hc_118
      have e : newC (tkN D n) S N (bgC (tkN D n) (decide (6 ≤ S 0 2)) 6 c) = bgC (tkN D n) (decide (6 ≤ S 0 2)) 6 c := by
        unfold newC
        split
        · split
          · exact sp_n h_43
          · rw [fl_n h_43]; exact sp_n h_43
        · rw [fl_n h_43]; exact sp_n h_43
      have e2 : spC (tkN D n) (bgC (tkN D n) (decide (6 ≤ S 0 2)) 6 c) = bgC (tkN D n) (decide (6 ≤ S 0 2)) 6 c := sp_n h_43
      rw [e2] at hc_118
      rw [e] at hQ
      exact hQ _ hc_118 (fun q => absurd q h_43) ((hf_36.t hf_118).mo (fun _ _ h => Or.inl h))
    · refine a_aload_n rfl dX12_readNew_46 ?_
      refine n_callV (mi' := miX12_isName) dX12_readNew_47 lX12_241 mX12_isName (by decide) rfl rfl rfl (c_X12_isName hDl hn hc_36 (fun hn2_47 => ?_) (fun hn2_47 => ?_) d) rfl rfl (by omega) (by decide) (Nat.le_of_ble_eq_true rfl)
      · show AW _ _ _ _ _ _ _
        refine n_if_ne 57 (by decide) dX12_readNew_50 (by decide) (fun _ => ?_) (fun h => absurd h (by decide))
        refine a_aload_n rfl dX12_readNew_57 ?_
        refine g_i hc_36.2.2.1 (by decide) rfl fX12_212 rfl dX12_readNew_58 ?_
        refine n_if_ne 91 (by omega) dX12_readNew_61 (by decide) (fun h_61 => absurd h_61 (by omega)) (fun h_61 => ?_)
        refine a_aload_n rfl dX12_readNew_64 ?_
        refine n_iconst 4 rfl dX12_readNew_65 ?_
        refine n_iconst 0 rfl dX12_readNew_66 ?_
        refine n_callV (mi' := miX12_named) dX12_readNew_67 lX12_244 mX12_named (by decide) rfl rfl rfl (c_named0 (b := 4) (x := lN (cd (tkN D n) (bgC (tkN D n) (decide (6 ≤ S 0 2)) 6 c))) (by omega) (VM_mu (o := 362 * 4) hVM hf_36) hF (VNM_mu hVN hf_36) (hc_36.2.1.2.2.2.2.2.1 hn2_47).1 (fun i_67 hi_67 => ?_) (fun hi_67 => ?_) d) rfl rfl (by omega) (by decide) (Nat.le_of_ble_eq_true rfl)
        · show AW _ _ _ _ _ _ _
          have hil_67 := (nmI_lt hi_67).1
          refine n_if_ge 82 (by omega) dX12_readNew_70 (by decide) ?_
          refine a_aload_n rfl dX12_readNew_82 ?_
          refine n_iconst 3 rfl dX12_readNew_83 ?_
          refine a_aload_n rfl dX12_readNew_84 ?_
          refine g_i hc_36.2.1.2.1 (by decide) rfl fX12_118 rfl dX12_readNew_85 ?_
          refine n_callV (mi' := miX12_fail) dX12_readNew_88 lX12_218 mX12_fail (by decide) rfl rfl rfl (c_X12_fail hDl hn hc_36 (by omega) (fun _ => by omega) rfl (fun M_88 hc_88 hf_88 => ?_) d) rfl rfl (by omega) (by decide) (Nat.le_of_ble_eq_true rfl)
          show AW _ _ _ _ _ _ _
          have hz := fl_z (tk := tkN D n) (w := 3) (c := bgC (tkN D n) (decide (6 ≤ S 0 2)) 6 c) (by decide)
          have hb7_88 := hc_88.2.2.2.2
          have hs9_88 := (tkN_G (D := D) hn (flC (tkN D n) 3 (bgC (tkN D n) (decide (6 ≤ S 0 2)) 6 c)).1).2.1
          refine a_aload_n rfl dX12_readNew_91 ?_
          refine g_i hc_88.2.2.1 (by decide) rfl fX12_212 rfl dX12_readNew_92 ?_
          refine n_if_ne 116 (by omega) dX12_readNew_95 (by decide) (fun h_95 => ?_) (fun h_95 => absurd h_95 (by omega))
          refine a_aload_n rfl dX12_readNew_116 ?_
          refine n_iconst 1 rfl dX12_readNew_117 ?_
          refine n_callV (mi' := miX12_must) dX12_readNew_118 lX12_228 mX12_must (by decide) rfl rfl rfl (c_X12_must (b := true) hDl hn hc_88 (x := 1) rfl (fun M_118 hc_118 hf_118 => ?_) d) rfl rfl (by omega) (by decide) (Nat.le_of_ble_eq_true rfl)
          show AW _ _ _ _ _ _ _
          refine a_iload_n rfl dX12_readNew_121 ?_
          refine a_iret dX12_readNew_122 rfl ?_
          rw [if_pos rfl] at hc_118
          have e : newC (tkN D n) S N (bgC (tkN D n) (decide (6 ≤ S 0 2)) 6 c) = flC (tkN D n) 3 (bgC (tkN D n) (decide (6 ≤ S 0 2)) 6 c) := (congrArg (spC (tkN D n)) ((if_pos hn2_47).trans (if_neg (fun q => by have e := (show nmM (tkN D n) S N (bgC (tkN D n) (decide (6 ≤ S 0 2)) 6 c) = some i_67 from hi_67); rw [e] at q; cases q.1)))).trans (sp_fl (by decide))
          have e2 : spC (tkN D n) (flC (tkN D n) 3 (bgC (tkN D n) (decide (6 ≤ S 0 2)) 6 c)) = flC (tkN D n) 3 (bgC (tkN D n) (decide (6 ≤ S 0 2)) 6 c) := sp_fl (by decide)
          rw [e2] at hc_118
          rw [e] at hQ
          exact hQ _ hc_118 (fun q => absurd q hz) (((hf_36.t hf_88).t hf_118).mo (fun _ _ h => Or.inl h))
        · show AW _ _ _ _ _ _ _
          refine r_if_ge 82 dX12_readNew_70 (by decide) (fun h_70 => absurd h_70 (by rw [show (-1 : Int32).toInt = -1 from by decide]; omega)) (fun h_70 => ?_)
          refine a_aload_n rfl dX12_readNew_73 ?_
          refine n_iconst 4 rfl dX12_readNew_74 ?_
          refine n_iconst 1 rfl dX12_readNew_75 ?_
          refine n_callV (mi' := miX12_named) dX12_readNew_76 lX12_244 mX12_named (by decide) rfl rfl rfl (c_named1 (b := 4) (x := lN (cd (tkN D n) (bgC (tkN D n) (decide (6 ≤ S 0 2)) 6 c))) (by omega) (VM_mu (o := 362 * 4) hVM hf_36) hF (VNM_mu hVN hf_36) (hc_36.2.1.2.2.2.2.2.1 hn2_47).1 (fun i_76 hi_76 => ?_) (fun hi_76 => ?_) d) rfl rfl (by omega) (by decide) (Nat.le_of_ble_eq_true rfl)
          · show AW _ _ _ _ _ _ _
            have hil_76 := (nmI_lt hi_76).1
            refine n_if_lt (tgt := 91) (by omega) dX12_readNew_79 (by decide) ?_
            refine a_aload_n rfl dX12_readNew_82 ?_
            refine n_iconst 3 rfl dX12_readNew_83 ?_
            refine a_aload_n rfl dX12_readNew_84 ?_
            refine g_i hc_36.2.1.2.1 (by decide) rfl fX12_118 rfl dX12_readNew_85 ?_
            refine n_callV (mi' := miX12_fail) dX12_readNew_88 lX12_218 mX12_fail (by decide) rfl rfl rfl (c_X12_fail hDl hn hc_36 (by omega) (fun _ => by omega) rfl (fun M_88 hc_88 hf_88 => ?_) d) rfl rfl (by omega) (by decide) (Nat.le_of_ble_eq_true rfl)
            show AW _ _ _ _ _ _ _
            have hz := fl_z (tk := tkN D n) (w := 3) (c := bgC (tkN D n) (decide (6 ≤ S 0 2)) 6 c) (by decide)
            have hb7_88 := hc_88.2.2.2.2
            have hs9_88 := (tkN_G (D := D) hn (flC (tkN D n) 3 (bgC (tkN D n) (decide (6 ≤ S 0 2)) 6 c)).1).2.1
            refine a_aload_n rfl dX12_readNew_91 ?_
            refine g_i hc_88.2.2.1 (by decide) rfl fX12_212 rfl dX12_readNew_92 ?_
            refine n_if_ne 116 (by omega) dX12_readNew_95 (by decide) (fun h_95 => ?_) (fun h_95 => absurd h_95 (by omega))
            refine a_aload_n rfl dX12_readNew_116 ?_
            refine n_iconst 1 rfl dX12_readNew_117 ?_
            refine n_callV (mi' := miX12_must) dX12_readNew_118 lX12_228 mX12_must (by decide) rfl rfl rfl (c_X12_must (b := true) hDl hn hc_88 (x := 1) rfl (fun M_118 hc_118 hf_118 => ?_) d) rfl rfl (by omega) (by decide) (Nat.le_of_ble_eq_true rfl)
            show AW _ _ _ _ _ _ _
            refine a_iload_n rfl dX12_readNew_121 ?_
            refine a_iret dX12_readNew_122 rfl ?_
            rw [if_pos rfl] at hc_118
            have e : newC (tkN D n) S N (bgC (tkN D n) (decide (6 ≤ S 0 2)) 6 c) = flC (tkN D n) 3 (bgC (tkN D n) (decide (6 ≤ S 0 2)) 6 c) := (congrArg (spC (tkN D n)) ((if_pos hn2_47).trans (if_neg (fun q => by have e := (show nmS (tkN D n) S N (bgC (tkN D n) (decide (6 ≤ S 0 2)) 6 c) = some i_76 from hi_76); rw [e] at q; cases q.2)))).trans (sp_fl (by decide))
            have e2 : spC (tkN D n) (flC (tkN D n) 3 (bgC (tkN D n) (decide (6 ≤ S 0 2)) 6 c)) = flC (tkN D n) 3 (bgC (tkN D n) (decide (6 ≤ S 0 2)) 6 c) := sp_fl (by decide)
            rw [e2] at hc_118
            rw [e] at hQ
            exact hQ _ hc_118 (fun q => absurd q hz) (((hf_36.t hf_88).t hf_118).mo (fun _ _ h => Or.inl h))
          · show AW _ _ _ _ _ _ _
            refine r_if_lt 91 dX12_readNew_79 (by decide) (fun h_79 => ?_) (fun h_79 => absurd (show (-1 : Int32).toInt < 0 by rw [show (-1 : Int32).toInt = -1 from by decide]; omega) h_79)
            refine a_aload_n rfl dX12_readNew_91 ?_
            refine g_i hc_36.2.2.1 (by decide) rfl fX12_212 rfl dX12_readNew_92 ?_
            refine n_if_ne 116 (by omega) dX12_readNew_95 (by decide) (fun h_95 => absurd h_95 (by omega)) (fun h_95 => ?_)
            refine a_aload_n rfl dX12_readNew_98 ?_
            refine a_geta dX12_readNew_99 fX12_41 (by decide) rfl rfl ?_
            refine n_bipush 52 rfl dX12_readNew_102 ?_
            refine n_bipush 6 rfl dX12_readNew_104 ?_
            refine a_iload_n rfl dX12_readNew_106 ?_
            refine n_imul dX12_readNew_107 ?_
            refine n_iadd dX12_readNew_108 ?_
            refine a_iload_n rfl dX12_readNew_109 ?_
            refine n_iadd dX12_readNew_110 ?_
            refine a_aload_n rfl dX12_readNew_111 ?_
            refine a_getl dX12_readNew_112 fX12_130 (by decide) rfl rfl ?_
            refine a_eql (y := lN (cd (tkN D n) (bgC (tkN D n) (decide (6 ≤ S 0 2)) 6 c))) (hc_36.2.1.2.2.2.2.2.1 hn2_47).1 ?_
            refine n_last (by omega) (by decide) rfl (by decide) dX12_readNew_115 ?_
            have hfw : fr (fun k j => k = 139 ∧ j = 52 + 6 * 0 + S 0 2) M_36 (slM M_36 139 (52 + 6 * 0 + S 0 2) (lN (cd (tkN D n) (bgC (tkN D n) (decide (6 ≤ S 0 2)) 6 c)))) := fr.r.sl (by omega)
            refine a_aload_n rfl dX12_readNew_116 ?_
            refine n_iconst 1 rfl dX12_readNew_117 ?_
            refine n_callV (mi' := miX12_must) dX12_readNew_118 lX12_228 mX12_must (by decide) rfl rfl rfl (c_X12_must (b := true) hDl hn (MU_fr hc_36 hfw (fun k j z => by omega)) (x := 1) rfl (fun M_118 hc_118 hf_118 => ?_) d) rfl rfl (by omega) (by decide) (Nat.le_of_ble_eq_true rfl)
            show AW _ _ _ _ _ _ _
            refine a_iload_n rfl dX12_readNew_121 ?_
            refine a_iret dX12_readNew_122 rfl ?_
            rw [if_pos rfl] at hc_118
            have e : newC (tkN D n) S N (bgC (tkN D n) (decide (6 ≤ S 0 2)) 6 c) = spC (tkN D n) (bgC (tkN D n) (decide (6 ≤ S 0 2)) 6 c) := congrArg (spC (tkN D n)) ((if_pos hn2_47).trans (if_pos ⟨hi_67, hi_76⟩))
            rw [e] at hQ
            have hlt : S 0 2 < 6 := Nat.not_le.mp (of_decide_eq_false (bg_0 (by decide) h_43).2.1)
            exact hQ _ hc_118 (fun _ => (hf_118.l slS (by unfold muP; omega))) (((hf_36.mo (fun _ _ h => Or.inl h)).t (hfw.mo (fun _ _ h => Or.inr ⟨h.1, h.2, hlt⟩))).t (hf_118.mo (fun _ _ h => Or.inl h)))
      · show AW _ _ _ _ _ _ _
        refine n_if_ne 57 (by decide) dX12_readNew_50 (by decide) (fun h => absurd h (by decide)) (fun _ => ?_)
        refine a_aload_n rfl dX12_readNew_53 ?_
        refine n_callV (mi' := miX12_amiss) dX12_readNew_54 lX12_225 mX12_amiss (by decide) rfl rfl rfl (c_X12_amiss hDl hn hc_36 (fun M_54 hc_54 hf_54 => ?_) d) rfl rfl (by omega) (by decide) (Nat.le_of_ble_eq_true rfl)
        show AW _ _ _ _ _ _ _
        have hz := fl_z (tk := tkN D n) (w := 2) (c := bgC (tkN D n) (decide (6 ≤ S 0 2)) 6 c) (by decide)
        have hb7_54 := hc_54.2.2.2.2
        have hs9_54 := (tkN_G (D := D) hn (flC (tkN D n) 2 (bgC (tkN D n) (decide (6 ≤ S 0 2)) 6 c)).1).2.1
        refine a_aload_n rfl dX12_readNew_57 ?_
        refine g_i hc_54.2.2.1 (by decide) rfl fX12_212 rfl dX12_readNew_58 ?_
        refine n_if_ne 91 (by omega) dX12_readNew_61 (by decide) (fun h_61 => ?_) (fun h_61 => absurd h_61 (by omega))
        refine a_aload_n rfl dX12_readNew_91 ?_
        refine g_i hc_54.2.2.1 (by decide) rfl fX12_212 rfl dX12_readNew_92 ?_
        refine n_if_ne 116 (by omega) dX12_readNew_95 (by decide) (fun h_95 => ?_) (fun h_95 => absurd h_95 (by omega))
        refine a_aload_n rfl dX12_readNew_116 ?_
        refine n_iconst 1 rfl dX12_readNew_117 ?_
        refine n_callV (mi' := miX12_must) dX12_readNew_118 lX12_228 mX12_must (by decide) rfl rfl rfl (c_X12_must (b := true) hDl hn hc_54 (x := 1) rfl (fun M_118 hc_118 hf_118 => ?_) d) rfl rfl (by omega) (by decide) (Nat.le_of_ble_eq_true rfl)
        show AW _ _ _ _ _ _ _
        refine a_iload_n rfl dX12_readNew_121 ?_
        refine a_iret dX12_readNew_122 rfl ?_
        rw [if_pos rfl] at hc_118
        have e : newC (tkN D n) S N (bgC (tkN D n) (decide (6 ≤ S 0 2)) 6 c) = flC (tkN D n) 2 (bgC (tkN D n) (decide (6 ≤ S 0 2)) 6 c) := (congrArg (spC (tkN D n)) (if_neg hn2_47)).trans (sp_fl (by decide))
        have e2 : spC (tkN D n) (flC (tkN D n) 2 (bgC (tkN D n) (decide (6 ≤ S 0 2)) 6 c)) = flC (tkN D n) 2 (bgC (tkN D n) (decide (6 ≤ S 0 2)) 6 c) := sp_fl (by decide)
        rw [e2] at hc_118
        rw [e] at hQ
        exact hQ _ hc_118 (fun q => absurd q hz) (((hf_36.t hf_54).t hf_118).mo (fun _ _ h => Or.inl h))
  · refine a_aload_n rfl dX12_readNew_24 ?_
    refine n_bipush 6 rfl dX12_readNew_25 ?_
    refine a_aload_n rfl dX12_readNew_27 ?_
    refine g_i hU.2.1.2.1 (by decide) rfl fX12_118 rfl dX12_readNew_28 ?_
    refine n_callV (mi' := miX12_fail) dX12_readNew_31 lX12_218 mX12_fail (by decide) rfl rfl rfl (c_X12_fail hDl hn hU (by omega) (fun _ => by omega) rfl (fun M_31 hc_31 hf_31 => ?_) d) rfl rfl (by omega) (by decide) (Nat.le_of_ble_eq_true rfl)
    show AW _ _ _ _ _ _ _
    have hb7_31 := hc_31.2.2.2.2
    have hs9_31 := (tkN_G (D := D) hn (flC (tkN D n) 6 c).1).2.1
    refine a_aload_n rfl dX12_readNew_34 ?_
    refine n_iconst 1 rfl dX12_readNew_35 ?_
    refine n_callV (mi' := miX12_must) dX12_readNew_36 lX12_228 mX12_must (by decide) rfl rfl rfl (c_X12_must (b := true) hDl hn hc_31 (x := 1) rfl (fun M_36 hc_36 hf_36 => ?_) d) rfl rfl (by omega) (by decide) (Nat.le_of_ble_eq_true rfl)
    show AW _ _ _ _ _ _ _
    rw [if_pos rfl] at hc_36
    have hbg : spC (tkN D n) (flC (tkN D n) 6 c) = bgC (tkN D n) (decide (6 ≤ S 0 2)) 6 c := by unfold bgC; rw [if_pos (decide_eq_true (by omega))]
    rw [hbg] at hc_36
    have hzf : (bgC (tkN D n) (decide (6 ≤ S 0 2)) 6 c).2.1 ≠ 0 := by rw [← hbg, sp_f]; exact fl_z (by decide)
    have hb7_36 := hc_36.2.2.2.2
    have hs9_36 := (tkN_G (D := D) hn (bgC (tkN D n) (decide (6 ≤ S 0 2)) 6 c).1).2.1
    refine a_aload_n rfl dX12_readNew_39 ?_
    refine g_i hc_36.2.2.1 (by decide) rfl fX12_212 rfl dX12_readNew_40 ?_
    refine n_if_ne 57 (by omega) dX12_readNew_43 (by decide) (fun h_43 => ?_) (fun h_43 => absurd h_43 (by omega))
    refine a_aload_n rfl dX12_readNew_57 ?_
    refine g_i hc_36.2.2.1 (by decide) rfl fX12_212 rfl dX12_readNew_58 ?_
    refine n_if_ne 91 (by omega) dX12_readNew_61 (by decide) (fun h_61 => ?_) (fun h_61 => absurd h_61 (by omega))
    refine a_aload_n rfl dX12_readNew_91 ?_
    refine g_i hc_36.2.2.1 (by decide) rfl fX12_212 rfl dX12_readNew_92 ?_
    refine n_if_ne 116 (by omega) dX12_readNew_95 (by decide) (fun h_95 => ?_) (fun h_95 => absurd h_95 (by omega))
    refine a_aload_n rfl dX12_readNew_116 ?_
    refine n_iconst 1 rfl dX12_readNew_117 ?_
    refine n_callV (mi' := miX12_must) dX12_readNew_118 lX12_228 mX12_must (by decide) rfl rfl rfl (c_X12_must (b := true) hDl hn hc_36 (x := 1) rfl (fun M_118 hc_118 hf_118 => ?_) d) rfl rfl (by omega) (by decide) (Nat.le_of_ble_eq_true rfl)
    show AW _ _ _ _ _ _ _
    refine a_iload_n rfl dX12_readNew_121 ?_
    refine a_iret dX12_readNew_122 rfl ?_
    rw [if_pos rfl] at hc_118
    have e : newC (tkN D n) S N (bgC (tkN D n) (decide (6 ≤ S 0 2)) 6 c) = bgC (tkN D n) (decide (6 ≤ S 0 2)) 6 c := by
      unfold newC
      split
      · split
        · exact sp_n h_43
        · rw [fl_n h_43]; exact sp_n h_43
      · rw [fl_n h_43]; exact sp_n h_43
    have e2 : spC (tkN D n) (bgC (tkN D n) (decide (6 ≤ S 0 2)) 6 c) = bgC (tkN D n) (decide (6 ≤ S 0 2)) 6 c := sp_n h_43
    rw [e2] at hc_118
    rw [e] at hQ
    exact hQ _ hc_118 (fun q => absurd q h_43) (((hf_31.t hf_36).t hf_118).mo (fun _ _ h => Or.inl h))

set_option maxRecDepth 100000 in
set_option maxHeartbeats 800000 in
theorem c_readNew1 {M : Mm} {D : Nat → Nat} {n : Nat} (hDl : ∀ j, D j < 256) (hn : n ≤ 900) {c : CC} (hU : MU M D n c) {S : ST} {N : NM} (hVM : VM (362 * 4) M S) (hF : WF S) (hVN : VNM 4 M S N) (h0 : c.2.1 = 0) (hk1 : kd (tkN D n) c = 1) {Q : Option Value → Mm → Prop} (hQ : ∀ M', MU M' D n (newC (tkN D n) S N (bgC (tkN D n) (decide (7 ≤ S 0 4)) 6 c)) → ((newC (tkN D n) S N (bgC (tkN D n) (decide (7 ≤ S 0 4)) 6 c)).2.1 = 0 → M'.2 139 (52 + 6 * 1 + S 0 4) = lN (cd (tkN D n) (bgC (tkN D n) (decide (7 ≤ S 0 4)) 6 c))) → fr (fun k j => muP k j ∨ (k = 139 ∧ j = 52 + 6 * 1 + S 0 4 ∧ S 0 4 < 7)) M M' → Q (some (.int (nI (S 0 4)))) M') (d : Nat) : AMt miX12_readNew (d + 6) [.ref 132, .int (nI 1), .int (nI 7)] M Q := by
  refine AMt.of (by decide) (Nat.le_of_ble_eq_true rfl) ?_
  show AW miX12_readNew (d + 6) (mxA Q) 0 [(0, some (.ref 132)), (1, some (.int (nI 1))), (2, some (.int (nI 7)))] [] M
  have hf7 := hU.2.2.2.2
  have hKG := tkN_G (D := D) hn c.1
  have hkd : kd (tkN D n) c ≤ 6 := hKG.1
  have hst := hKG.2.1
  obtain ⟨mk0, mk1, mk2, mk3, mk4, mk5⟩ := mkd_i hkd
  have hm := WF_m hF
  have hs := WF_s hF
  refine a_aload_n rfl dX12_readNew_0 ?_
  refine a_geta dX12_readNew_1 fX12_35 (by decide) rfl rfl ?_
  refine n_sipush 1448 rfl dX12_readNew_4 ?_
  refine a_iload_n rfl dX12_readNew_7 ?_
  refine n_if_ne 15 (by decide) dX12_readNew_8 (by decide) (fun _ => ?_) (fun h => absurd h (by decide))
  refine n_iconst 2 rfl dX12_readNew_15 ?_
  refine n_iadd dX12_readNew_16 ?_
  refine v_iald (by omega) (show M.1 137 (1448 + 2) = nI (S 0 4) from hVM.2.2.1) (by decide) rfl (by decide) dX12_readNew_17 ?_
  refine a_istore_n (by decide) rfl dX12_readNew_18 ?_
  refine a_iload_n rfl dX12_readNew_19 ?_
  refine a_iload_n rfl dX12_readNew_20 ?_
  refine n_icmp_ne 34 (by omega) (by omega) dX12_readNew_21 (by decide) (fun h_21 => ?_) (fun h_21 => ?_)
  · refine a_aload_n rfl dX12_readNew_34 ?_
    refine n_iconst 1 rfl dX12_readNew_35 ?_
    refine n_callV (mi' := miX12_must) dX12_readNew_36 lX12_228 mX12_must (by decide) rfl rfl rfl (c_X12_must (b := true) hDl hn hU (x := 1) rfl (fun M_36 hc_36 hf_36 => ?_) d) rfl rfl (by omega) (by decide) (Nat.le_of_ble_eq_true rfl)
    show AW _ _ _ _ _ _ _
    rw [if_pos rfl] at hc_36
    have hbg : spC (tkN D n) (c) = bgC (tkN D n) (decide (7 ≤ S 0 4)) 6 c := by unfold bgC; rw [if_neg (fun q => absurd (of_decide_eq_true q) (by omega))]
    rw [hbg] at hc_36
    have hb7_36 := hc_36.2.2.2.2
    have hs9_36 := (tkN_G (D := D) hn (bgC (tkN D n) (decide (7 ≤ S 0 4)) 6 c).1).2.1
    refine a_aload_n rfl dX12_readNew_39 ?_
    refine g_i hc_36.2.2.1 (by decide) rfl fX12_212 rfl dX12_readNew_40 ?_
    refine n_if_ne 57 (by omega) dX12_readNew_43 (by decide) (fun h_43 => ?_) (fun h_43 => ?_)
    · refine a_aload_n rfl dX12_readNew_57 ?_
      refine g_i hc_36.2.2.1 (by decide) rfl fX12_212 rfl dX12_readNew_58 ?_
      refine n_if_ne 91 (by omega) dX12_readNew_61 (by decide) (fun h_61 => ?_) (fun h_61 => absurd h_61 (by omega))
      refine a_aload_n rfl dX12_readNew_91 ?_
      refine g_i hc_36.2.2.1 (by decide) rfl fX12_212 rfl dX12_readNew_92 ?_
      refine n_if_ne 116 (by omega) dX12_readNew_95 (by decide) (fun h_95 => ?_) (fun h_95 => absurd h_95 (by omega))
      refine a_aload_n rfl dX12_readNew_116 ?_
      refine n_iconst 1 rfl dX12_readNew_117 ?_
      refine n_callV (mi' := miX12_must) dX12_readNew_118 lX12_228 mX12_must (by decide) rfl rfl rfl (c_X12_must (b := true) hDl hn hc_36 (x := 1) rfl (fun M_118 hc_118 hf_118 => ?_) d) rfl rfl (by omega) (by decide) (Nat.le_of_ble_eq_true rfl)
      show AW _ _ _ _ _ _ _
      refine a_iload_n rfl dX12_readNew_121 ?_
      refine a_iret dX12_readNew_122 rfl ?_
      rw [if_pos rfl] at hc_118
      have e : newC (tkN D n) S N (bgC (tkN D n) (decide (7 ≤ S 0 4)) 6 c) = bgC (tkN D n) (decide (7 ≤ S 0 4)) 6 c := by
        unfold newC
        split
        · split
          · exact sp_n h_43
          · rw [fl_n h_43]; exact sp_n h_43
        · rw [fl_n h_43]; exact sp_n h_43
      have e2 : spC (tkN D n) (bgC (tkN D n) (decide (7 ≤ S 0 4)) 6 c) = bgC (tkN D n) (decide (7 ≤ S 0 4)) 6 c := sp_n h_43
      rw [e2] at hc_118
      rw [e] at hQ
      exact hQ _ hc_118 (fun q => absurd q h_43) ((hf_36.t hf_118).mo (fun _ _ h => Or.inl h))
    · refine a_aload_n rfl dX12_readNew_46 ?_
      refine n_callV (mi' := miX12_isName) dX12_readNew_47 lX12_241 mX12_isName (by decide) rfl rfl rfl (c_X12_isName hDl hn hc_36 (fun hn2_47 => ?_) (fun hn2_47 => ?_) d) rfl rfl (by omega) (by decide) (Nat.le_of_ble_eq_true rfl)
      · show AW _ _ _ _ _ _ _
        refine n_if_ne 57 (by decide) dX12_readNew_50 (by decide) (fun _ => ?_) (fun h => absurd h (by decide))
        refine a_aload_n rfl dX12_readNew_57 ?_
        refine g_i hc_36.2.2.1 (by decide) rfl fX12_212 rfl dX12_readNew_58 ?_
        refine n_if_ne 91 (by omega) dX12_readNew_61 (by decide) (fun h_61 => absurd h_61 (by omega)) (fun h_61 => ?_)
        refine a_aload_n rfl dX12_readNew_64 ?_
        refine n_iconst 4 rfl dX12_readNew_65 ?_
        refine n_iconst 0 rfl dX12_readNew_66 ?_
        refine n_callV (mi' := miX12_named) dX12_readNew_67 lX12_244 mX12_named (by decide) rfl rfl rfl (c_named0 (b := 4) (x := lN (cd (tkN D n) (bgC (tkN D n) (decide (7 ≤ S 0 4)) 6 c))) (by omega) (VM_mu (o := 362 * 4) hVM hf_36) hF (VNM_mu hVN hf_36) (hc_36.2.1.2.2.2.2.2.1 hn2_47).1 (fun i_67 hi_67 => ?_) (fun hi_67 => ?_) d) rfl rfl (by omega) (by decide) (Nat.le_of_ble_eq_true rfl)
        · show AW _ _ _ _ _ _ _
          have hil_67 := (nmI_lt hi_67).1
          refine n_if_ge 82 (by omega) dX12_readNew_70 (by decide) ?_
          refine a_aload_n rfl dX12_readNew_82 ?_
          refine n_iconst 3 rfl dX12_readNew_83 ?_
          refine a_aload_n rfl dX12_readNew_84 ?_
          refine g_i hc_36.2.1.2.1 (by decide) rfl fX12_118 rfl dX12_readNew_85 ?_
          refine n_callV (mi' := miX12_fail) dX12_readNew_88 lX12_218 mX12_fail (by decide) rfl rfl rfl (c_X12_fail hDl hn hc_36 (by omega) (fun _ => by omega) rfl (fun M_88 hc_88 hf_88 => ?_) d) rfl rfl (by omega) (by decide) (Nat.le_of_ble_eq_true rfl)
          show AW _ _ _ _ _ _ _
          have hz := fl_z (tk := tkN D n) (w := 3) (c := bgC (tkN D n) (decide (7 ≤ S 0 4)) 6 c) (by decide)
          have hb7_88 := hc_88.2.2.2.2
          have hs9_88 := (tkN_G (D := D) hn (flC (tkN D n) 3 (bgC (tkN D n) (decide (7 ≤ S 0 4)) 6 c)).1).2.1
          refine a_aload_n rfl dX12_readNew_91 ?_
          refine g_i hc_88.2.2.1 (by decide) rfl fX12_212 rfl dX12_readNew_92 ?_
          refine n_if_ne 116 (by omega) dX12_readNew_95 (by decide) (fun h_95 => ?_) (fun h_95 => absurd h_95 (by omega))
          refine a_aload_n rfl dX12_readNew_116 ?_
          refine n_iconst 1 rfl dX12_readNew_117 ?_
          refine n_callV (mi' := miX12_must) dX12_readNew_118 lX12_228 mX12_must (by decide) rfl rfl rfl (c_X12_must (b := true) hDl hn hc_88 (x := 1) rfl (fun M_118 hc_118 hf_118 => ?_) d) rfl rfl (by omega) (by decide) (Nat.le_of_ble_eq_true rfl)
          show AW _ _ _ _ _ _ _
          refine a_iload_n rfl dX12_readNew_121 ?_
          refine a_iret dX12_readNew_122 rfl ?_
          rw [if_pos rfl] at hc_118
          have e : newC (tkN D n) S N (bgC (tkN D n) (decide (7 ≤ S 0 4)) 6 c) = flC (tkN D n) 3 (bgC (tkN D n) (decide (7 ≤ S 0 4)) 6 c) := (congrArg (spC (tkN D n)) ((if_pos hn2_47).trans (if_neg (fun q => by have e := (show nmM (tkN D n) S N (bgC (tkN D n) (decide (7 ≤ S 0 4)) 6 c) = some i_67 from hi_67); rw [e] at q; cases q.1)))).trans (sp_fl (by decide))
          have e2 : spC (tkN D n) (flC (tkN D n) 3 (bgC (tkN D n) (decide (7 ≤ S 0 4)) 6 c)) = flC (tkN D n) 3 (bgC (tkN D n) (decide (7 ≤ S 0 4)) 6 c) := sp_fl (by decide)
          rw [e2] at hc_118
          rw [e] at hQ
          exact hQ _ hc_118 (fun q => absurd q hz) (((hf_36.t hf_88).t hf_118).mo (fun _ _ h => Or.inl h))
        · show AW _ _ _ _ _ _ _
          refine r_if_ge 82 dX12_readNew_70 (by decide) (fun h_70 => absurd h_70 (by rw [show (-1 : Int32).toInt = -1 from by decide]; omega)) (fun h_70 => ?_)
          refine a_aload_n rfl dX12_readNew_73 ?_
          refine n_iconst 4 rfl dX12_readNew_74 ?_
          refine n_iconst 1 rfl dX12_readNew_75 ?_
          refine n_callV (mi' := miX12_named) dX12_readNew_76 lX12_244 mX12_named (by decide) rfl rfl rfl (c_named1 (b := 4) (x := lN (cd (tkN D n) (bgC (tkN D n) (decide (7 ≤ S 0 4)) 6 c))) (by omega) (VM_mu (o := 362 * 4) hVM hf_36) hF (VNM_mu hVN hf_36) (hc_36.2.1.2.2.2.2.2.1 hn2_47).1 (fun i_76 hi_76 => ?_) (fun hi_76 => ?_) d) rfl rfl (by omega) (by decide) (Nat.le_of_ble_eq_true rfl)
          · show AW _ _ _ _ _ _ _
            have hil_76 := (nmI_lt hi_76).1
            refine n_if_lt (tgt := 91) (by omega) dX12_readNew_79 (by decide) ?_
            refine a_aload_n rfl dX12_readNew_82 ?_
            refine n_iconst 3 rfl dX12_readNew_83 ?_
            refine a_aload_n rfl dX12_readNew_84 ?_
            refine g_i hc_36.2.1.2.1 (by decide) rfl fX12_118 rfl dX12_readNew_85 ?_
            refine n_callV (mi' := miX12_fail) dX12_readNew_88 lX12_218 mX12_fail (by decide) rfl rfl rfl (c_X12_fail hDl hn hc_36 (by omega) (fun _ => by omega) rfl (fun M_88 hc_88 hf_88 => ?_) d) rfl rfl (by omega) (by decide) (Nat.le_of_ble_eq_true rfl)
            show AW _ _ _ _ _ _ _
            have hz := fl_z (tk := tkN D n) (w := 3) (c := bgC (tkN D n) (decide (7 ≤ S 0 4)) 6 c) (by decide)
            have hb7_88 := hc_88.2.2.2.2
            have hs9_88 := (tkN_G (D := D) hn (flC (tkN D n) 3 (bgC (tkN D n) (decide (7 ≤ S 0 4)) 6 c)).1).2.1
            refine a_aload_n rfl dX12_readNew_91 ?_
            refine g_i hc_88.2.2.1 (by decide) rfl fX12_212 rfl dX12_readNew_92 ?_
            refine n_if_ne 116 (by omega) dX12_readNew_95 (by decide) (fun h_95 => ?_) (fun h_95 => absurd h_95 (by omega))
            refine a_aload_n rfl dX12_readNew_116 ?_
            refine n_iconst 1 rfl dX12_readNew_117 ?_
            refine n_callV (mi' := miX12_must) dX12_readNew_118 lX12_228 mX12_must (by decide) rfl rfl rfl (c_X12_must (b := true) hDl hn hc_88 (x := 1) rfl (fun M_118 hc_118 hf_118 => ?_) d) rfl rfl (by omega) (by decide) (Nat.le_of_ble_eq_true rfl)
            show AW _ _ _ _ _ _ _
            refine a_iload_n rfl dX12_readNew_121 ?_
            refine a_iret dX12_readNew_122 rfl ?_
            rw [if_pos rfl] at hc_118
            have e : newC (tkN D n) S N (bgC (tkN D n) (decide (7 ≤ S 0 4)) 6 c) = flC (tkN D n) 3 (bgC (tkN D n) (decide (7 ≤ S 0 4)) 6 c) := (congrArg (spC (tkN D n)) ((if_pos hn2_47).trans (if_neg (fun q => by have e := (show nmS (tkN D n) S N (bgC (tkN D n) (decide (7 ≤ S 0 4)) 6 c) = some i_76 from hi_76); rw [e] at q; cases q.2)))).trans (sp_fl (by decide))
            have e2 : spC (tkN D n) (flC (tkN D n) 3 (bgC (tkN D n) (decide (7 ≤ S 0 4)) 6 c)) = flC (tkN D n) 3 (bgC (tkN D n) (decide (7 ≤ S 0 4)) 6 c) := sp_fl (by decide)
            rw [e2] at hc_118
            rw [e] at hQ
            exact hQ _ hc_118 (fun q => absurd q hz) (((hf_36.t hf_88).t hf_118).mo (fun _ _ h => Or.inl h))
          · show AW _ _ _ _ _ _ _
            refine r_if_lt 91 dX12_readNew_79 (by decide) (fun h_79 => ?_) (fun h_79 => absurd (show (-1 : Int32).toInt < 0 by rw [show (-1 : Int32).toInt = -1 from by decide]; omega) h_79)
            refine a_aload_n rfl dX12_readNew_91 ?_
            refine g_i hc_36.2.2.1 (by decide) rfl fX12_212 rfl dX12_readNew_92 ?_
            refine n_if_ne 116 (by omega) dX12_readNew_95 (by decide) (fun h_95 => absurd h_95 (by omega)) (fun h_95 => ?_)
            refine a_aload_n rfl dX12_readNew_98 ?_
            refine a_geta dX12_readNew_99 fX12_41 (by decide) rfl rfl ?_
            refine n_bipush 52 rfl dX12_readNew_102 ?_
            refine n_bipush 6 rfl dX12_readNew_104 ?_
            refine a_iload_n rfl dX12_readNew_106 ?_
            refine n_imul dX12_readNew_107 ?_
            refine n_iadd dX12_readNew_108 ?_
            refine a_iload_n rfl dX12_readNew_109 ?_
            refine n_iadd dX12_readNew_110 ?_
            refine a_aload_n rfl dX12_readNew_111 ?_
            refine a_getl dX12_readNew_112 fX12_130 (by decide) rfl rfl ?_
            refine a_eql (y := lN (cd (tkN D n) (bgC (tkN D n) (decide (7 ≤ S 0 4)) 6 c))) (hc_36.2.1.2.2.2.2.2.1 hn2_47).1 ?_
            refine n_last (by omega) (by decide) rfl (by decide) dX12_readNew_115 ?_
            have hfw : fr (fun k j => k = 139 ∧ j = 52 + 6 * 1 + S 0 4) M_36 (slM M_36 139 (52 + 6 * 1 + S 0 4) (lN (cd (tkN D n) (bgC (tkN D n) (decide (7 ≤ S 0 4)) 6 c)))) := fr.r.sl (by omega)
            refine a_aload_n rfl dX12_readNew_116 ?_
            refine n_iconst 1 rfl dX12_readNew_117 ?_
            refine n_callV (mi' := miX12_must) dX12_readNew_118 lX12_228 mX12_must (by decide) rfl rfl rfl (c_X12_must (b := true) hDl hn (MU_fr hc_36 hfw (fun k j z => by omega)) (x := 1) rfl (fun M_118 hc_118 hf_118 => ?_) d) rfl rfl (by omega) (by decide) (Nat.le_of_ble_eq_true rfl)
            show AW _ _ _ _ _ _ _
            refine a_iload_n rfl dX12_readNew_121 ?_
            refine a_iret dX12_readNew_122 rfl ?_
            rw [if_pos rfl] at hc_118
            have e : newC (tkN D n) S N (bgC (tkN D n) (decide (7 ≤ S 0 4)) 6 c) = spC (tkN D n) (bgC (tkN D n) (decide (7 ≤ S 0 4)) 6 c) := congrArg (spC (tkN D n)) ((if_pos hn2_47).trans (if_pos ⟨hi_67, hi_76⟩))
            rw [e] at hQ
            have hlt : S 0 4 < 7 := Nat.not_le.mp (of_decide_eq_false (bg_0 (by decide) h_43).2.1)
            exact hQ _ hc_118 (fun _ => (hf_118.l slS (by unfold muP; omega))) (((hf_36.mo (fun _ _ h => Or.inl h)).t (hfw.mo (fun _ _ h => Or.inr ⟨h.1, h.2, hlt⟩))).t (hf_118.mo (fun _ _ h => Or.inl h)))
      · show AW _ _ _ _ _ _ _
        refine n_if_ne 57 (by decide) dX12_readNew_50 (by decide) (fun h => absurd h (by decide)) (fun _ => ?_)
        refine a_aload_n rfl dX12_readNew_53 ?_
        refine n_callV (mi' := miX12_amiss) dX12_readNew_54 lX12_225 mX12_amiss (by decide) rfl rfl rfl (c_X12_amiss hDl hn hc_36 (fun M_54 hc_54 hf_54 => ?_) d) rfl rfl (by omega) (by decide) (Nat.le_of_ble_eq_true rfl)
        show AW _ _ _ _ _ _ _
        have hz := fl_z (tk := tkN D n) (w := 2) (c := bgC (tkN D n) (decide (7 ≤ S 0 4)) 6 c) (by decide)
        have hb7_54 := hc_54.2.2.2.2
        have hs9_54 := (tkN_G (D := D) hn (flC (tkN D n) 2 (bgC (tkN D n) (decide (7 ≤ S 0 4)) 6 c)).1).2.1
        refine a_aload_n rfl dX12_readNew_57 ?_
        refine g_i hc_54.2.2.1 (by decide) rfl fX12_212 rfl dX12_readNew_58 ?_
        refine n_if_ne 91 (by omega) dX12_readNew_61 (by decide) (fun h_61 => ?_) (fun h_61 => absurd h_61 (by omega))
        refine a_aload_n rfl dX12_readNew_91 ?_
        refine g_i hc_54.2.2.1 (by decide) rfl fX12_212 rfl dX12_readNew_92 ?_
        refine n_if_ne 116 (by omega) dX12_readNew_95 (by decide) (fun h_95 => ?_) (fun h_95 => absurd h_95 (by omega))
        refine a_aload_n rfl dX12_readNew_116 ?_
        refine n_iconst 1 rfl dX12_readNew_117 ?_
        refine n_callV (mi' := miX12_must) dX12_readNew_118 lX12_228 mX12_must (by decide) rfl rfl rfl (c_X12_must (b := true) hDl hn hc_54 (x := 1) rfl (fun M_118 hc_118 hf_118 => ?_) d) rfl rfl (by omega) (by decide) (Nat.le_of_ble_eq_true rfl)
        show AW _ _ _ _ _ _ _
        refine a_iload_n rfl dX12_readNew_121 ?_
        refine a_iret dX12_readNew_122 rfl ?_
        rw [if_pos rfl] at hc_118
        have e : newC (tkN D n) S N (bgC (tkN D n) (decide (7 ≤ S 0 4)) 6 c) = flC (tkN D n) 2 (bgC (tkN D n) (decide (7 ≤ S 0 4)) 6 c) := (congrArg (spC (tkN D n)) (if_neg hn2_47)).trans (sp_fl (by decide))
        have e2 : spC (tkN D n) (flC (tkN D n) 2 (bgC (tkN D n) (decide (7 ≤ S 0 4)) 6 c)) = flC (tkN D n) 2 (bgC (tkN D n) (decide (7 ≤ S 0 4)) 6 c) := sp_fl (by decide)
        rw [e2] at hc_118
        rw [e] at hQ
        exact hQ _ hc_118 (fun q => absurd q hz) (((hf_36.t hf_54).t hf_118).mo (fun _ _ h => Or.inl h))
  · refine a_aload_n rfl dX12_readNew_24 ?_
    refine n_bipush 6 rfl dX12_readNew_25 ?_
    refine a_aload_n rfl dX12_readNew_27 ?_
    refine g_i hU.2.1.2.1 (by decide) rfl fX12_118 rfl dX12_readNew_28 ?_
    refine n_callV (mi' := miX12_fail) dX12_readNew_31 lX12_218 mX12_fail (by decide) rfl rfl rfl (c_X12_fail hDl hn hU (by omega) (fun _ => by omega) rfl (fun M_31 hc_31 hf_31 => ?_) d) rfl rfl (by omega) (by decide) (Nat.le_of_ble_eq_true rfl)
    show AW _ _ _ _ _ _ _
    have hb7_31 := hc_31.2.2.2.2
    have hs9_31 := (tkN_G (D := D) hn (flC (tkN D n) 6 c).1).2.1
    refine a_aload_n rfl dX12_readNew_34 ?_
    refine n_iconst 1 rfl dX12_readNew_35 ?_
    refine n_callV (mi' := miX12_must) dX12_readNew_36 lX12_228 mX12_must (by decide) rfl rfl rfl (c_X12_must (b := true) hDl hn hc_31 (x := 1) rfl (fun M_36 hc_36 hf_36 => ?_) d) rfl rfl (by omega) (by decide) (Nat.le_of_ble_eq_true rfl)
    show AW _ _ _ _ _ _ _
    rw [if_pos rfl] at hc_36
    have hbg : spC (tkN D n) (flC (tkN D n) 6 c) = bgC (tkN D n) (decide (7 ≤ S 0 4)) 6 c := by unfold bgC; rw [if_pos (decide_eq_true (by omega))]
    rw [hbg] at hc_36
    have hzf : (bgC (tkN D n) (decide (7 ≤ S 0 4)) 6 c).2.1 ≠ 0 := by rw [← hbg, sp_f]; exact fl_z (by decide)
    have hb7_36 := hc_36.2.2.2.2
    have hs9_36 := (tkN_G (D := D) hn (bgC (tkN D n) (decide (7 ≤ S 0 4)) 6 c).1).2.1
    refine a_aload_n rfl dX12_readNew_39 ?_
    refine g_i hc_36.2.2.1 (by decide) rfl fX12_212 rfl dX12_readNew_40 ?_
    refine n_if_ne 57 (by omega) dX12_readNew_43 (by decide) (fun h_43 => ?_) (fun h_43 => absurd h_43 (by omega))
    refine a_aload_n rfl dX12_readNew_57 ?_
    refine g_i hc_36.2.2.1 (by decide) rfl fX12_212 rfl dX12_readNew_58 ?_
    refine n_if_ne 91 (by omega) dX12_readNew_61 (by decide) (fun h_61 => ?_) (fun h_61 => absurd h_61 (by omega))
    refine a_aload_n rfl dX12_readNew_91 ?_
    refine g_i hc_36.2.2.1 (by decide) rfl fX12_212 rfl dX12_readNew_92 ?_
    refine n_if_ne 116 (by omega) dX12_readNew_95 (by decide) (fun h_95 => ?_) (fun h_95 => absurd h_95 (by omega))
    refine a_aload_n rfl dX12_readNew_116 ?_
    refine n_iconst 1 rfl dX12_readNew_117 ?_
    refine n_callV (mi' := miX12_must) dX12_readNew_118 lX12_228 mX12_must (by decide) rfl rfl rfl (c_X12_must (b := true) hDl hn hc_36 (x := 1) rfl (fun M_118 hc_118 hf_118 => ?_) d) rfl rfl (by omega) (by decide) (Nat.le_of_ble_eq_true rfl)
    show AW _ _ _ _ _ _ _
    refine a_iload_n rfl dX12_readNew_121 ?_
    refine a_iret dX12_readNew_122 rfl ?_
    rw [if_pos rfl] at hc_118
    have e : newC (tkN D n) S N (bgC (tkN D n) (decide (7 ≤ S 0 4)) 6 c) = bgC (tkN D n) (decide (7 ≤ S 0 4)) 6 c := by
      unfold newC
      split
      · split
        · exact sp_n h_43
        · rw [fl_n h_43]; exact sp_n h_43
      · rw [fl_n h_43]; exact sp_n h_43
    have e2 : spC (tkN D n) (bgC (tkN D n) (decide (7 ≤ S 0 4)) 6 c) = bgC (tkN D n) (decide (7 ≤ S 0 4)) 6 c := sp_n h_43
    rw [e2] at hc_118
    rw [e] at hQ
    exact hQ _ hc_118 (fun q => absurd q h_43) (((hf_31.t hf_36).t hf_118).mo (fun _ _ h => Or.inl h))

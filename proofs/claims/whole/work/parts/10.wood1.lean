def inR (x : Int32) (n : Nat) : Prop := ∃ j, j < n ∧ x = nI j
theorem isW17 : isW 17 := by unfold isW; omega
theorem isW37 : isW 37 := by unfold isW; omega
theorem isW58 : isW 58 := by unfold isW; omega
theorem isW78 : isW 78 := by unfold isW; omega
theorem isW98 : isW 98 := by unfold isW; omega

set_option maxRecDepth 100000 in
set_option maxHeartbeats 800000 in
theorem c_X6_hasMatter {w : Nat} (hw : isW w) {M : Mm} {S : ST} (hV : VX w M S) (hF : WF S) {x : Int32} {Q : Option Value → Mm → Prop} (h1 : ∀ j, j < S 0 2 → x = nI j → Q (some (.int (nI 1))) M) (h0 : ¬ inR x (S 0 2) → Q (some (.int (nI 0))) M) (d : Nat) : AMt miX6_hasMatter (d) [.ref w, .int x] M Q := by
  refine AMt.of (by decide) (Nat.le_of_ble_eq_true rfl) ?_
  show AW miX6_hasMatter (d) (mxA Q) 0 [(0, some (.ref w)), (1, some (.int x))] [] M
  have hm := WF_m hF
  have hh := WF_h hF
  have hs := WF_s hF
  have hn := WF_n hF
  refine a_iload_n rfl dX6_hasMatter_0 ?_
  refine a_if_lt 16 dX6_hasMatter_1 (by decide) (fun h_1 => ?_) (fun h_1 => ?_)
  · refine n_iconst 0 rfl dX6_hasMatter_16 ?_
    refine a_zret dX6_hasMatter_17 rfl (Or.inl rfl) ?_
    exact h0 (fun ⟨j, hj, e⟩ => by subst e; exact absurd h_1 (nI_pos (by omega)))
  · obtain ⟨j, hj, rfl⟩ := nI_of h_1
    refine a_iload_n rfl dX6_hasMatter_4 ?_
    refine a_aload_n rfl dX6_hasMatter_5 ?_
    refine g_i (VX_2 hV) (isW_lt hw (i := 0) (by decide)) (layW_0 hw) fX6_63 rfl dX6_hasMatter_6 ?_
    refine n_icmp_ge 16 (by omega) (by omega) dX6_hasMatter_9 (by decide) (fun h_9 => ?_) (fun h_9 => ?_)
    · refine n_iconst 0 rfl dX6_hasMatter_16 ?_
      refine a_zret dX6_hasMatter_17 rfl (Or.inl rfl) ?_
      exact h0 (fun ⟨i, hi, e⟩ => by have := (nI_eq (by omega) (by omega)).mp e; omega)
    · refine n_iconst 1 rfl dX6_hasMatter_12 ?_
      refine a_goto 17 dX6_hasMatter_13 (by decide) ?_
      refine a_zret dX6_hasMatter_17 rfl (Or.inr rfl) ?_
      exact h1 j (by omega) rfl

theorem c_X6_hasMatterN {w : Nat} (hw : isW w) {M : Mm} {S : ST} (hV : VX w M S) (hF : WF S) {i : Nat} (hi31 : i < 2 ^ 31) {Q : Option Value → Mm → Prop} (h1 : i < S 0 2 → Q (some (.int (nI 1))) M) (h0 : ¬ i < S 0 2 → Q (some (.int (nI 0))) M) (d : Nat) : AMt miX6_hasMatter d [.ref w, .int (nI i)] M Q := by
  have hb : S 0 2 < 2 ^ 31 := by have := WF_m hF; have := WF_h hF; have := WF_s hF; have := WF_n hF; omega
  exact c_X6_hasMatter hw hV hF (fun j hj e => h1 (by have := (nI_eq hi31 (by omega)).mp e; omega)) (fun h => h0 (fun hi => h ⟨i, hi, rfl⟩)) d

set_option maxRecDepth 100000 in
set_option maxHeartbeats 800000 in
theorem c_X6_hasHold {w : Nat} (hw : isW w) {M : Mm} {S : ST} (hV : VX w M S) (hF : WF S) {x : Int32} {Q : Option Value → Mm → Prop} (h1 : ∀ j, j < S 0 3 → x = nI j → Q (some (.int (nI 1))) M) (h0 : ¬ inR x (S 0 3) → Q (some (.int (nI 0))) M) (d : Nat) : AMt miX6_hasHold (d) [.ref w, .int x] M Q := by
  refine AMt.of (by decide) (Nat.le_of_ble_eq_true rfl) ?_
  show AW miX6_hasHold (d) (mxA Q) 0 [(0, some (.ref w)), (1, some (.int x))] [] M
  have hm := WF_m hF
  have hh := WF_h hF
  have hs := WF_s hF
  have hn := WF_n hF
  refine a_iload_n rfl dX6_hasHold_0 ?_
  refine a_if_lt 16 dX6_hasHold_1 (by decide) (fun h_1 => ?_) (fun h_1 => ?_)
  · refine n_iconst 0 rfl dX6_hasHold_16 ?_
    refine a_zret dX6_hasHold_17 rfl (Or.inl rfl) ?_
    exact h0 (fun ⟨j, hj, e⟩ => by subst e; exact absurd h_1 (nI_pos (by omega)))
  · obtain ⟨j, hj, rfl⟩ := nI_of h_1
    refine a_iload_n rfl dX6_hasHold_4 ?_
    refine a_aload_n rfl dX6_hasHold_5 ?_
    refine g_i (VX_3 hV) (isW_lt hw (i := 0) (by decide)) (layW_0 hw) fX6_66 rfl dX6_hasHold_6 ?_
    refine n_icmp_ge 16 (by omega) (by omega) dX6_hasHold_9 (by decide) (fun h_9 => ?_) (fun h_9 => ?_)
    · refine n_iconst 0 rfl dX6_hasHold_16 ?_
      refine a_zret dX6_hasHold_17 rfl (Or.inl rfl) ?_
      exact h0 (fun ⟨i, hi, e⟩ => by have := (nI_eq (by omega) (by omega)).mp e; omega)
    · refine n_iconst 1 rfl dX6_hasHold_12 ?_
      refine a_goto 17 dX6_hasHold_13 (by decide) ?_
      refine a_zret dX6_hasHold_17 rfl (Or.inr rfl) ?_
      exact h1 j (by omega) rfl

theorem c_X6_hasHoldN {w : Nat} (hw : isW w) {M : Mm} {S : ST} (hV : VX w M S) (hF : WF S) {i : Nat} (hi31 : i < 2 ^ 31) {Q : Option Value → Mm → Prop} (h1 : i < S 0 3 → Q (some (.int (nI 1))) M) (h0 : ¬ i < S 0 3 → Q (some (.int (nI 0))) M) (d : Nat) : AMt miX6_hasHold d [.ref w, .int (nI i)] M Q := by
  have hb : S 0 3 < 2 ^ 31 := by have := WF_m hF; have := WF_h hF; have := WF_s hF; have := WF_n hF; omega
  exact c_X6_hasHold hw hV hF (fun j hj e => h1 (by have := (nI_eq hi31 (by omega)).mp e; omega)) (fun h => h0 (fun hi => h ⟨i, hi, rfl⟩)) d

set_option maxRecDepth 100000 in
set_option maxHeartbeats 800000 in
theorem c_X6_hasSitter {w : Nat} (hw : isW w) {M : Mm} {S : ST} (hV : VX w M S) (hF : WF S) {x : Int32} {Q : Option Value → Mm → Prop} (h1 : ∀ j, j < S 0 4 → x = nI j → Q (some (.int (nI 1))) M) (h0 : ¬ inR x (S 0 4) → Q (some (.int (nI 0))) M) (d : Nat) : AMt miX6_hasSitter (d) [.ref w, .int x] M Q := by
  refine AMt.of (by decide) (Nat.le_of_ble_eq_true rfl) ?_
  show AW miX6_hasSitter (d) (mxA Q) 0 [(0, some (.ref w)), (1, some (.int x))] [] M
  have hm := WF_m hF
  have hh := WF_h hF
  have hs := WF_s hF
  have hn := WF_n hF
  refine a_iload_n rfl dX6_hasSitter_0 ?_
  refine a_if_lt 16 dX6_hasSitter_1 (by decide) (fun h_1 => ?_) (fun h_1 => ?_)
  · refine n_iconst 0 rfl dX6_hasSitter_16 ?_
    refine a_zret dX6_hasSitter_17 rfl (Or.inl rfl) ?_
    exact h0 (fun ⟨j, hj, e⟩ => by subst e; exact absurd h_1 (nI_pos (by omega)))
  · obtain ⟨j, hj, rfl⟩ := nI_of h_1
    refine a_iload_n rfl dX6_hasSitter_4 ?_
    refine a_aload_n rfl dX6_hasSitter_5 ?_
    refine g_i (VX_4 hV) (isW_lt hw (i := 0) (by decide)) (layW_0 hw) fX6_69 rfl dX6_hasSitter_6 ?_
    refine n_icmp_ge 16 (by omega) (by omega) dX6_hasSitter_9 (by decide) (fun h_9 => ?_) (fun h_9 => ?_)
    · refine n_iconst 0 rfl dX6_hasSitter_16 ?_
      refine a_zret dX6_hasSitter_17 rfl (Or.inl rfl) ?_
      exact h0 (fun ⟨i, hi, e⟩ => by have := (nI_eq (by omega) (by omega)).mp e; omega)
    · refine n_iconst 1 rfl dX6_hasSitter_12 ?_
      refine a_goto 17 dX6_hasSitter_13 (by decide) ?_
      refine a_zret dX6_hasSitter_17 rfl (Or.inr rfl) ?_
      exact h1 j (by omega) rfl

theorem c_X6_hasSitterN {w : Nat} (hw : isW w) {M : Mm} {S : ST} (hV : VX w M S) (hF : WF S) {i : Nat} (hi31 : i < 2 ^ 31) {Q : Option Value → Mm → Prop} (h1 : i < S 0 4 → Q (some (.int (nI 1))) M) (h0 : ¬ i < S 0 4 → Q (some (.int (nI 0))) M) (d : Nat) : AMt miX6_hasSitter d [.ref w, .int (nI i)] M Q := by
  have hb : S 0 4 < 2 ^ 31 := by have := WF_m hF; have := WF_h hF; have := WF_s hF; have := WF_n hF; omega
  exact c_X6_hasSitter hw hV hF (fun j hj e => h1 (by have := (nI_eq hi31 (by omega)).mp e; omega)) (fun h => h0 (fun hi => h ⟨i, hi, rfl⟩)) d

set_option maxRecDepth 100000 in
set_option maxHeartbeats 800000 in
theorem c_X6_hasNews {w : Nat} (hw : isW w) {M : Mm} {S : ST} (hV : VX w M S) (hF : WF S) {x : Int32} {Q : Option Value → Mm → Prop} (h1 : ∀ j, j < S 0 5 → x = nI j → Q (some (.int (nI 1))) M) (h0 : ¬ inR x (S 0 5) → Q (some (.int (nI 0))) M) (d : Nat) : AMt miX6_hasNews (d) [.ref w, .int x] M Q := by
  refine AMt.of (by decide) (Nat.le_of_ble_eq_true rfl) ?_
  show AW miX6_hasNews (d) (mxA Q) 0 [(0, some (.ref w)), (1, some (.int x))] [] M
  have hm := WF_m hF
  have hh := WF_h hF
  have hs := WF_s hF
  have hn := WF_n hF
  refine a_iload_n rfl dX6_hasNews_0 ?_
  refine a_if_lt 16 dX6_hasNews_1 (by decide) (fun h_1 => ?_) (fun h_1 => ?_)
  · refine n_iconst 0 rfl dX6_hasNews_16 ?_
    refine a_zret dX6_hasNews_17 rfl (Or.inl rfl) ?_
    exact h0 (fun ⟨j, hj, e⟩ => by subst e; exact absurd h_1 (nI_pos (by omega)))
  · obtain ⟨j, hj, rfl⟩ := nI_of h_1
    refine a_iload_n rfl dX6_hasNews_4 ?_
    refine a_aload_n rfl dX6_hasNews_5 ?_
    refine g_i (VX_5 hV) (isW_lt hw (i := 0) (by decide)) (layW_0 hw) fX6_72 rfl dX6_hasNews_6 ?_
    refine n_icmp_ge 16 (by omega) (by omega) dX6_hasNews_9 (by decide) (fun h_9 => ?_) (fun h_9 => ?_)
    · refine n_iconst 0 rfl dX6_hasNews_16 ?_
      refine a_zret dX6_hasNews_17 rfl (Or.inl rfl) ?_
      exact h0 (fun ⟨i, hi, e⟩ => by have := (nI_eq (by omega) (by omega)).mp e; omega)
    · refine n_iconst 1 rfl dX6_hasNews_12 ?_
      refine a_goto 17 dX6_hasNews_13 (by decide) ?_
      refine a_zret dX6_hasNews_17 rfl (Or.inr rfl) ?_
      exact h1 j (by omega) rfl

theorem c_X6_hasNewsN {w : Nat} (hw : isW w) {M : Mm} {S : ST} (hV : VX w M S) (hF : WF S) {i : Nat} (hi31 : i < 2 ^ 31) {Q : Option Value → Mm → Prop} (h1 : i < S 0 5 → Q (some (.int (nI 1))) M) (h0 : ¬ i < S 0 5 → Q (some (.int (nI 0))) M) (d : Nat) : AMt miX6_hasNews d [.ref w, .int (nI i)] M Q := by
  have hb : S 0 5 < 2 ^ 31 := by have := WF_m hF; have := WF_h hF; have := WF_s hF; have := WF_n hF; omega
  exact c_X6_hasNews hw hV hF (fun j hj e => h1 (by have := (nI_eq hi31 (by omega)).mp e; omega)) (fun h => h0 (fun hi => h ⟨i, hi, rfl⟩)) d

set_option maxRecDepth 100000 in
set_option maxHeartbeats 800000 in
theorem c_X6_heightBy {w : Nat} (hw : isW w) {M : Mm} {S : ST} (hV : VX w M S) (hF : WF S) {p c : Nat} (hp : p < S 0 4) (hc : c ≤ 100) {Q : Option Value → Mm → Prop} (hQ : Q (some (.int (nI (hgt (S 6 p) c)))) M) (d : Nat) : AMt miX6_heightBy (d) [.ref w, .int (nI p), .int (nI c)] M Q := by
  refine AMt.of (by decide) (Nat.le_of_ble_eq_true rfl) ?_
  show AW miX6_heightBy (d) (mxA Q) 0 [(0, some (.ref w)), (1, some (.int (nI p))), (2, some (.int (nI c)))] [] M
  have hm := WF_m hF
  have hh := WF_h hF
  have hs := WF_s hF
  have hn := WF_n hF
  have ht := WF_tall hF p hp
  have hb : S 6 p * (100 - c) ≤ 99 * 100 := Nat.mul_le_mul ht.2 (by omega)
  refine a_aload_n rfl dX6_heightBy_0 ?_
  refine a_geta dX6_heightBy_1 fX6_38 (isW_lt hw (i := 0) (by decide)) (layW_0 hw) rfl ?_
  refine a_iload_n rfl dX6_heightBy_4 ?_
  refine v_iald (by omega) (VX_a8 hV (by omega)) (isW_lt hw (i := 8) (by decide)) (layW_8 hw) (by decide) dX6_heightBy_5 ?_
  refine n_bipush 100 rfl dX6_heightBy_6 ?_
  refine a_iload_n rfl dX6_heightBy_8 ?_
  refine n_isub (by omega) dX6_heightBy_9 ?_
  refine n_imul dX6_heightBy_10 ?_
  refine n_bipush 100 rfl dX6_heightBy_11 ?_
  refine n_idiv (by omega) (by omega) (by omega) dX6_heightBy_13 ?_
  refine a_iret dX6_heightBy_14 rfl ?_
  exact hQ

set_option maxRecDepth 100000 in
set_option maxHeartbeats 800000 in
theorem c_X6_heightNow {w : Nat} (hw : isW w) {M : Mm} {S : ST} (hV : VX w M S) (hF : WF S) {p : Nat} (hp : p < S 0 4) {Q : Option Value → Mm → Prop} (hQ : Q (some (.int (nI (hgt (S 6 p) (S 2 (S 7 p)))))) M) (d : Nat) : AMt miX6_heightNow (d + 1) [.ref w, .int (nI p)] M Q := by
  refine AMt.of (by decide) (Nat.le_of_ble_eq_true rfl) ?_
  show AW miX6_heightNow (d + 1) (mxA Q) 0 [(0, some (.ref w)), (1, some (.int (nI p)))] [] M
  have hm := WF_m hF
  have hh := WF_h hF
  have hs := WF_s hF
  have hn := WF_n hF
  have hf := WF_for hF p hp
  have hc := WF_clear hF _ hf
  refine a_aload_n rfl dX6_heightNow_0 ?_
  refine a_iload_n rfl dX6_heightNow_1 ?_
  refine a_aload_n rfl dX6_heightNow_2 ?_
  refine a_geta dX6_heightNow_3 fX6_23 (isW_lt hw (i := 0) (by decide)) (layW_0 hw) rfl ?_
  refine a_aload_n rfl dX6_heightNow_6 ?_
  refine a_geta dX6_heightNow_7 fX6_41 (isW_lt hw (i := 0) (by decide)) (layW_0 hw) rfl ?_
  refine a_iload_n rfl dX6_heightNow_10 ?_
  refine v_iald (by omega) (VX_a9 hV (by omega)) (isW_lt hw (i := 9) (by decide)) (layW_9 hw) (by decide) dX6_heightNow_11 ?_
  refine v_iald (by omega) (VX_a3 hV (by omega)) (isW_lt hw (i := 3) (by decide)) (layW_3 hw) (by decide) dX6_heightNow_12 ?_
  refine n_callV (mi' := miX6_heightBy) dX6_heightNow_13 lX6_91 mX6_heightBy (isW_lt hw (i := 0) (by decide)) (layW_0 hw) rfl rfl (c_X6_heightBy hw hV hF (by omega) (by omega) ?_ d) rfl rfl (by omega) (by decide) (Nat.le_of_ble_eq_true rfl)
  show AW _ _ _ _ _ _ _
  refine a_iret dX6_heightNow_16 rfl ?_
  exact hQ

set_option maxRecDepth 100000 in
set_option maxHeartbeats 800000 in
theorem c_X6_sittersFor {w : Nat} (hw : isW w) {M : Mm} {S : ST} (hV : VX w M S) (hF : WF S) {k : Nat} (hk : k < S 0 2) {Q : Option Value → Mm → Prop} (hQ : Q (some (.int (nI (bsN (fun j => S 7 j == k) (S 0 4))))) M) (d : Nat) : AMt miX6_sittersFor (d) [.ref w, .int (nI k)] M Q := by
  refine AMt.of (by decide) (Nat.le_of_ble_eq_true rfl) ?_
  show AW miX6_sittersFor (d) (mxA Q) 0 [(0, some (.ref w)), (1, some (.int (nI k)))] [] M
  have hm := WF_m hF
  have hh := WF_h hF
  have hs := WF_s hF
  have hn := WF_n hF
  refine n_iconst 0 rfl dX6_sittersFor_0 ?_
  refine a_istore_n (by decide) rfl dX6_sittersFor_1 ?_
  refine n_iconst 0 rfl dX6_sittersFor_2 ?_
  refine a_istore_n (by decide) rfl dX6_sittersFor_3 ?_
  have loop_4 : ∀ i, i ≤ S 0 4 → AW miX6_sittersFor (d) (mxA Q) 4 [(0, some (.ref w)), (1, some (.int (nI k))), (2, some (.int (nI (bsN (fun j => S 7 j == k) i)))), (3, some (.int (nI i)))] [] M := by
    refine up (S 0 4) ?_ (fun i hi_4 ih_4 => ?_)
    · refine a_iload_n rfl dX6_sittersFor_4 ?_
      refine a_aload_n rfl dX6_sittersFor_5 ?_
      refine g_i (VX_4 hV) (isW_lt hw (i := 0) (by decide)) (layW_0 hw) fX6_69 rfl dX6_sittersFor_6 ?_
      refine n_icmp_ge 34 (by omega) (by omega) dX6_sittersFor_9 (by decide) (fun h_9 => ?_) (fun h_9 => absurd h_9 (by omega))
      refine a_iload_n rfl dX6_sittersFor_34 ?_
      refine a_iret dX6_sittersFor_35 rfl ?_
      exact hQ
    · have hf := WF_for hF i hi_4
      refine a_iload_n rfl dX6_sittersFor_4 ?_
      refine a_aload_n rfl dX6_sittersFor_5 ?_
      refine g_i (VX_4 hV) (isW_lt hw (i := 0) (by decide)) (layW_0 hw) fX6_69 rfl dX6_sittersFor_6 ?_
      refine n_icmp_ge 34 (by omega) (by omega) dX6_sittersFor_9 (by decide) (fun h_9 => absurd h_9 (by omega)) (fun h_9 => ?_)
      refine a_aload_n rfl dX6_sittersFor_12 ?_
      refine a_geta dX6_sittersFor_13 fX6_41 (isW_lt hw (i := 0) (by decide)) (layW_0 hw) rfl ?_
      refine a_iload_n rfl dX6_sittersFor_16 ?_
      refine v_iald (by omega) (VX_a9 hV (by omega)) (isW_lt hw (i := 9) (by decide)) (layW_9 hw) (by decide) dX6_sittersFor_17 ?_
      refine a_iload_n rfl dX6_sittersFor_18 ?_
      refine n_icmp_ne 28 (by omega) (by omega) dX6_sittersFor_19 (by decide) (fun h_19 => ?_) (fun h_19 => ?_)
      · refine n_iinc (c := 1) rfl rfl (by decide) rfl dX6_sittersFor_28 ?_
        refine a_goto 4 dX6_sittersFor_31 (by decide) ?_
        rw [show bsN (fun j => S 7 j == k) (i + 1) = bsN (fun j => S 7 j == k) i by simp [bsN, h_19]] at ih_4
        exact a_bk ih_4 ⟨rfl, rfl, rfl, rfl, trivial⟩
      · refine a_iload_n rfl dX6_sittersFor_22 ?_
        refine n_iconst 1 rfl dX6_sittersFor_23 ?_
        refine a_iload_n rfl dX6_sittersFor_24 ?_
        refine n_bit (by omega) dX6_sittersFor_25 ?_
        refine n_ior dX6_sittersFor_26 ?_
        refine a_istore_n (by decide) rfl dX6_sittersFor_27 ?_
        refine n_iinc (c := 1) rfl rfl (by decide) rfl dX6_sittersFor_28 ?_
        refine a_goto 4 dX6_sittersFor_31 (by decide) ?_
        rw [show bsN (fun j => S 7 j == k) (i + 1) = bsN (fun j => S 7 j == k) i ||| 2 ^ i by simp [bsN, h_19]] at ih_4
        exact a_bk ih_4 ⟨rfl, rfl, rfl, rfl, trivial⟩
  exact a_bk (loop_4 0 (by omega)) ⟨rfl, rfl, rfl, rfl, trivial⟩

set_option maxRecDepth 100000 in
set_option maxHeartbeats 800000 in
theorem c_X6_holdersOf {w : Nat} (hw : isW w) {M : Mm} {S : ST} (hV : VX w M S) (hF : WF S) {k : Nat} (hk : k < S 0 2) {Q : Option Value → Mm → Prop} (hQ : Q (some (.int (nI (orN (fun q => S 3 q == k) (S 4) (S 0 3))))) M) (d : Nat) : AMt miX6_holdersOf (d) [.ref w, .int (nI k)] M Q := by
  refine AMt.of (by decide) (Nat.le_of_ble_eq_true rfl) ?_
  show AW miX6_holdersOf (d) (mxA Q) 0 [(0, some (.ref w)), (1, some (.int (nI k)))] [] M
  have hm := WF_m hF
  have hh := WF_h hF
  have hs := WF_s hF
  have hn := WF_n hF
  refine n_iconst 0 rfl dX6_holdersOf_0 ?_
  refine a_istore_n (by decide) rfl dX6_holdersOf_1 ?_
  refine n_iconst 0 rfl dX6_holdersOf_2 ?_
  refine a_istore_n (by decide) rfl dX6_holdersOf_3 ?_
  have loop_4 : ∀ i, i ≤ S 0 3 → AW miX6_holdersOf (d) (mxA Q) 4 [(0, some (.ref w)), (1, some (.int (nI k))), (2, some (.int (nI (orN (fun q => S 3 q == k) (S 4) i)))), (3, some (.int (nI i)))] [] M := by
    refine up (S 0 3) ?_ (fun i hi_4 ih_4 => ?_)
    · refine a_iload_n rfl dX6_holdersOf_4 ?_
      refine a_aload_n rfl dX6_holdersOf_5 ?_
      refine g_i (VX_3 hV) (isW_lt hw (i := 0) (by decide)) (layW_0 hw) fX6_66 rfl dX6_holdersOf_6 ?_
      refine n_icmp_ge 39 (by omega) (by omega) dX6_holdersOf_9 (by decide) (fun h_9 => ?_) (fun h_9 => absurd h_9 (by omega))
      refine a_iload_n rfl dX6_holdersOf_39 ?_
      refine a_iret dX6_holdersOf_40 rfl ?_
      exact hQ
    · have h1 := WF_held hF i hi_4
      have h2 := WF_by hF i hi_4
      refine a_iload_n rfl dX6_holdersOf_4 ?_
      refine a_aload_n rfl dX6_holdersOf_5 ?_
      refine g_i (VX_3 hV) (isW_lt hw (i := 0) (by decide)) (layW_0 hw) fX6_66 rfl dX6_holdersOf_6 ?_
      refine n_icmp_ge 39 (by omega) (by omega) dX6_holdersOf_9 (by decide) (fun h_9 => absurd h_9 (by omega)) (fun h_9 => ?_)
      refine a_aload_n rfl dX6_holdersOf_12 ?_
      refine a_geta dX6_holdersOf_13 fX6_26 (isW_lt hw (i := 0) (by decide)) (layW_0 hw) rfl ?_
      refine a_iload_n rfl dX6_holdersOf_16 ?_
      refine v_iald (by omega) (VX_a4 hV (by omega)) (isW_lt hw (i := 4) (by decide)) (layW_4 hw) (by decide) dX6_holdersOf_17 ?_
      refine a_iload_n rfl dX6_holdersOf_18 ?_
      refine n_icmp_ne 33 (by omega) (by omega) dX6_holdersOf_19 (by decide) (fun h_19 => ?_) (fun h_19 => ?_)
      · refine n_iinc (c := 1) rfl rfl (by decide) rfl dX6_holdersOf_33 ?_
        refine a_goto 4 dX6_holdersOf_36 (by decide) ?_
        rw [show orN (fun q => S 3 q == k) (S 4) (i + 1) = orN (fun q => S 3 q == k) (S 4) i by simp [orN, h_19]] at ih_4
        exact a_bk ih_4 ⟨rfl, rfl, rfl, rfl, trivial⟩
      · refine a_iload_n rfl dX6_holdersOf_22 ?_
        refine n_iconst 1 rfl dX6_holdersOf_23 ?_
        refine a_aload_n rfl dX6_holdersOf_24 ?_
        refine a_geta dX6_holdersOf_25 fX6_29 (isW_lt hw (i := 0) (by decide)) (layW_0 hw) rfl ?_
        refine a_iload_n rfl dX6_holdersOf_28 ?_
        refine v_iald (by omega) (VX_a5 hV (by omega)) (isW_lt hw (i := 5) (by decide)) (layW_5 hw) (by decide) dX6_holdersOf_29 ?_
        refine n_bit (by omega) dX6_holdersOf_30 ?_
        refine n_ior dX6_holdersOf_31 ?_
        refine a_istore_n (by decide) rfl dX6_holdersOf_32 ?_
        refine n_iinc (c := 1) rfl rfl (by decide) rfl dX6_holdersOf_33 ?_
        refine a_goto 4 dX6_holdersOf_36 (by decide) ?_
        rw [show orN (fun q => S 3 q == k) (S 4) (i + 1) = orN (fun q => S 3 q == k) (S 4) i ||| 2 ^ S 4 i by simp [orN, h_19]] at ih_4
        exact a_bk ih_4 ⟨rfl, rfl, rfl, rfl, trivial⟩
  exact a_bk (loop_4 0 (by omega)) ⟨rfl, rfl, rfl, rfl, trivial⟩

set_option maxRecDepth 100000 in
set_option maxHeartbeats 800000 in
theorem c_X6_settledSet {w : Nat} (hw : isW w) {M : Mm} {S : ST} (hV : VX w M S) (hF : WF S) {k : Nat} (hk : k < nC) (hc : layC k = .inr (0, 6, fun _ => 0)) {f : Nat → Nat} (hf : ∀ j, j < S 0 2 → M.1 k j = nI (f j)) (hf1 : ∀ j, j < S 0 2 → f j ≤ 100) {Q : Option Value → Mm → Prop} (hQ : Q (some (.int (nI (bsN (fun j => decide (100 ≤ f j)) (S 0 2))))) M) (d : Nat) : AMt miX6_settledSet (d) [.ref w, .ref k] M Q := by
  refine AMt.of (by decide) (Nat.le_of_ble_eq_true rfl) ?_
  show AW miX6_settledSet (d) (mxA Q) 0 [(0, some (.ref w)), (1, some (.ref k))] [] M
  have hm := WF_m hF
  have hh := WF_h hF
  have hs := WF_s hF
  have hn := WF_n hF
  refine n_iconst 0 rfl dX6_settledSet_0 ?_
  refine a_istore_n (by decide) rfl dX6_settledSet_1 ?_
  refine n_iconst 0 rfl dX6_settledSet_2 ?_
  refine a_istore_n (by decide) rfl dX6_settledSet_3 ?_
  have loop_4 : ∀ i, i ≤ S 0 2 → AW miX6_settledSet (d) (mxA Q) 4 [(0, some (.ref w)), (1, some (.ref k)), (2, some (.int (nI (bsN (fun j => decide (100 ≤ f j)) i)))), (3, some (.int (nI i)))] [] M := by
    refine up (S 0 2) ?_ (fun i hi_4 ih_4 => ?_)
    · refine a_iload_n rfl dX6_settledSet_4 ?_
      refine a_aload_n rfl dX6_settledSet_5 ?_
      refine g_i (VX_2 hV) (isW_lt hw (i := 0) (by decide)) (layW_0 hw) fX6_63 rfl dX6_settledSet_6 ?_
      refine n_icmp_ge 32 (by omega) (by omega) dX6_settledSet_9 (by decide) (fun h_9 => ?_) (fun h_9 => absurd h_9 (by omega))
      refine a_iload_n rfl dX6_settledSet_32 ?_
      refine a_iret dX6_settledSet_33 rfl ?_
      exact hQ
    · have h1 := hf1 i hi_4
      refine a_iload_n rfl dX6_settledSet_4 ?_
      refine a_aload_n rfl dX6_settledSet_5 ?_
      refine g_i (VX_2 hV) (isW_lt hw (i := 0) (by decide)) (layW_0 hw) fX6_63 rfl dX6_settledSet_6 ?_
      refine n_icmp_ge 32 (by omega) (by omega) dX6_settledSet_9 (by decide) (fun h_9 => absurd h_9 (by omega)) (fun h_9 => ?_)
      refine a_aload_n rfl dX6_settledSet_12 ?_
      refine a_iload_n rfl dX6_settledSet_13 ?_
      refine v_iald (by omega) (hf _ (by omega)) hk hc (by decide) dX6_settledSet_14 ?_
      refine n_bipush 100 rfl dX6_settledSet_15 ?_
      refine n_icmp_lt 26 (by omega) (by omega) dX6_settledSet_17 (by decide) (fun h_17 => ?_) (fun h_17 => ?_)
      · refine n_iinc (c := 1) rfl rfl (by decide) rfl dX6_settledSet_26 ?_
        refine a_goto 4 dX6_settledSet_29 (by decide) ?_
        rw [show bsN (fun j => decide (100 ≤ f j)) (i + 1) = bsN (fun j => decide (100 ≤ f j)) i by simp [bsN, show (100 ≤ f i) = False by simp; omega]] at ih_4
        exact a_bk ih_4 ⟨rfl, rfl, rfl, rfl, trivial⟩
      · refine a_iload_n rfl dX6_settledSet_20 ?_
        refine n_iconst 1 rfl dX6_settledSet_21 ?_
        refine a_iload_n rfl dX6_settledSet_22 ?_
        refine n_bit (by omega) dX6_settledSet_23 ?_
        refine n_ior dX6_settledSet_24 ?_
        refine a_istore_n (by decide) rfl dX6_settledSet_25 ?_
        refine n_iinc (c := 1) rfl rfl (by decide) rfl dX6_settledSet_26 ?_
        refine a_goto 4 dX6_settledSet_29 (by decide) ?_
        rw [show bsN (fun j => decide (100 ≤ f j)) (i + 1) = bsN (fun j => decide (100 ≤ f j)) i ||| 2 ^ i by simp [bsN, show (100 ≤ f i) = True by simp; omega]] at ih_4
        exact a_bk ih_4 ⟨rfl, rfl, rfl, rfl, trivial⟩
  exact a_bk (loop_4 0 (by omega)) ⟨rfl, rfl, rfl, rfl, trivial⟩

set_option maxRecDepth 100000 in
set_option maxHeartbeats 800000 in
theorem c_X6_stuckSet {w : Nat} (hw : isW w) {M : Mm} {S : ST} (hV : VX w M S) (hF : WF S) {k : Nat} (hk : k < nC) (hc : layC k = .inr (0, 6, fun _ => 0)) {f : Nat → Nat} (hf : ∀ j, j < S 0 2 → M.1 k j = nI (f j)) (hf1 : ∀ j, j < S 0 2 → f j ≤ 100) {Q : Option Value → Mm → Prop} (hQ : Q (some (.int (nI (stkN S f)))) M) (d : Nat) : AMt miX6_stuckSet (d) [.ref w, .ref k] M Q := by
  refine AMt.of (by decide) (Nat.le_of_ble_eq_true rfl) ?_
  show AW miX6_stuckSet (d) (mxA Q) 0 [(0, some (.ref w)), (1, some (.ref k))] [] M
  have hm := WF_m hF
  have hh := WF_h hF
  have hs := WF_s hF
  have hn := WF_n hF
  refine n_iconst 0 rfl dX6_stuckSet_0 ?_
  refine a_istore_n (by decide) rfl dX6_stuckSet_1 ?_
  refine n_iconst 0 rfl dX6_stuckSet_2 ?_
  refine a_istore_n (by decide) rfl dX6_stuckSet_3 ?_
  refine n_iconst 0 rfl dX6_stuckSet_4 ?_
  refine a_istore (by decide) rfl dX6_stuckSet_5 ?_
  have loop_7 : ∀ i, i ≤ S 0 2 → AW miX6_stuckSet (d) (mxA Q) 7 [(0, some (.ref w)), (1, some (.ref k)), (2, some (.int (nI (bsN (fun j => decide (100 ≤ f j)) i)))), (3, some (.int (nI 0))), (4, some (.int (nI i)))] [] M := by
    refine up (S 0 2) ?_ (fun i hi_7 ih_7 => ?_)
    · refine a_iload rfl dX6_stuckSet_7 ?_
      refine a_aload_n rfl dX6_stuckSet_9 ?_
      refine g_i (VX_2 hV) (isW_lt hw (i := 0) (by decide)) (layW_0 hw) fX6_63 rfl dX6_stuckSet_10 ?_
      refine n_icmp_ge 38 (by omega) (by omega) dX6_stuckSet_13 (by decide) (fun h_13 => ?_) (fun h_13 => absurd h_13 (by omega))
      refine n_iconst 0 rfl dX6_stuckSet_38 ?_
      refine a_istore (by decide) rfl dX6_stuckSet_39 ?_
      have loop_41 : ∀ i, i ≤ S 0 3 → AW miX6_stuckSet (d) (mxA Q) 41 [(0, some (.ref w)), (1, some (.ref k)), (2, some (.int (nI (bsN (fun j => decide (100 ≤ f j)) (S 0 2))))), (3, some (.int (nI (orN (fun i => decide (f (S 4 i) < 100)) (S 3) i)))), (4, some (.int (nI i)))] [] M := by
        refine up (S 0 3) ?_ (fun i hi_41 ih_41 => ?_)
        · refine a_iload rfl dX6_stuckSet_41 ?_
          refine a_aload_n rfl dX6_stuckSet_43 ?_
          refine g_i (VX_3 hV) (isW_lt hw (i := 0) (by decide)) (layW_0 hw) fX6_66 rfl dX6_stuckSet_44 ?_
          refine n_icmp_ge 82 (by omega) (by omega) dX6_stuckSet_47 (by decide) (fun h_47 => ?_) (fun h_47 => absurd h_47 (by omega))
          refine a_iload_n rfl dX6_stuckSet_82 ?_
          refine a_iload_n rfl dX6_stuckSet_83 ?_
          refine a_iconst (-1) rfl dX6_stuckSet_84 ?_
          refine a_ixor dX6_stuckSet_85 ?_
          refine n_andc dX6_stuckSet_86 ?_
          refine a_iret dX6_stuckSet_87 rfl ?_
          exact hQ
        · have h1 := WF_held hF i hi_41
          have h2 := WF_by hF i hi_41
          have h3 := hf1 _ h2
          refine a_iload rfl dX6_stuckSet_41 ?_
          refine a_aload_n rfl dX6_stuckSet_43 ?_
          refine g_i (VX_3 hV) (isW_lt hw (i := 0) (by decide)) (layW_0 hw) fX6_66 rfl dX6_stuckSet_44 ?_
          refine n_icmp_ge 82 (by omega) (by omega) dX6_stuckSet_47 (by decide) (fun h_47 => absurd h_47 (by omega)) (fun h_47 => ?_)
          refine a_aload_n rfl dX6_stuckSet_50 ?_
          refine a_aload_n rfl dX6_stuckSet_51 ?_
          refine a_geta dX6_stuckSet_52 fX6_29 (isW_lt hw (i := 0) (by decide)) (layW_0 hw) rfl ?_
          refine a_iload rfl dX6_stuckSet_55 ?_
          refine v_iald (by omega) (VX_a5 hV (by omega)) (isW_lt hw (i := 5) (by decide)) (layW_5 hw) (by decide) dX6_stuckSet_57 ?_
          refine v_iald (by omega) (hf _ (by omega)) hk hc (by decide) dX6_stuckSet_58 ?_
          refine n_bipush 100 rfl dX6_stuckSet_59 ?_
          refine n_icmp_ge 76 (by omega) (by omega) dX6_stuckSet_61 (by decide) (fun h_61 => ?_) (fun h_61 => ?_)
          · refine n_iinc (c := 1) rfl rfl (by decide) rfl dX6_stuckSet_76 ?_
            refine a_goto 41 dX6_stuckSet_79 (by decide) ?_
            rw [show orN (fun i => decide (f (S 4 i) < 100)) (S 3) (i + 1) = orN (fun i => decide (f (S 4 i) < 100)) (S 3) i by simp [orN, show (f (S 4 i) < 100) = False by simp; omega]] at ih_41
            exact a_bk ih_41 ⟨rfl, rfl, rfl, rfl, rfl, trivial⟩
          · refine a_iload_n rfl dX6_stuckSet_64 ?_
            refine n_iconst 1 rfl dX6_stuckSet_65 ?_
            refine a_aload_n rfl dX6_stuckSet_66 ?_
            refine a_geta dX6_stuckSet_67 fX6_26 (isW_lt hw (i := 0) (by decide)) (layW_0 hw) rfl ?_
            refine a_iload rfl dX6_stuckSet_70 ?_
            refine v_iald (by omega) (VX_a4 hV (by omega)) (isW_lt hw (i := 4) (by decide)) (layW_4 hw) (by decide) dX6_stuckSet_72 ?_
            refine n_bit (by omega) dX6_stuckSet_73 ?_
            refine n_ior dX6_stuckSet_74 ?_
            refine a_istore_n (by decide) rfl dX6_stuckSet_75 ?_
            refine n_iinc (c := 1) rfl rfl (by decide) rfl dX6_stuckSet_76 ?_
            refine a_goto 41 dX6_stuckSet_79 (by decide) ?_
            rw [show orN (fun i => decide (f (S 4 i) < 100)) (S 3) (i + 1) = orN (fun i => decide (f (S 4 i) < 100)) (S 3) i ||| 2 ^ S 3 i by simp [orN, show (f (S 4 i) < 100) = True by simp; omega]] at ih_41
            exact a_bk ih_41 ⟨rfl, rfl, rfl, rfl, rfl, trivial⟩
      exact a_bk (loop_41 0 (by omega)) ⟨rfl, rfl, rfl, rfl, rfl, trivial⟩
    · have h1 := hf1 i hi_7
      refine a_iload rfl dX6_stuckSet_7 ?_
      refine a_aload_n rfl dX6_stuckSet_9 ?_
      refine g_i (VX_2 hV) (isW_lt hw (i := 0) (by decide)) (layW_0 hw) fX6_63 rfl dX6_stuckSet_10 ?_
      refine n_icmp_ge 38 (by omega) (by omega) dX6_stuckSet_13 (by decide) (fun h_13 => absurd h_13 (by omega)) (fun h_13 => ?_)
      refine a_aload_n rfl dX6_stuckSet_16 ?_
      refine a_iload rfl dX6_stuckSet_17 ?_
      refine v_iald (by omega) (hf _ (by omega)) hk hc (by decide) dX6_stuckSet_19 ?_
      refine n_bipush 100 rfl dX6_stuckSet_20 ?_
      refine n_icmp_lt 32 (by omega) (by omega) dX6_stuckSet_22 (by decide) (fun h_22 => ?_) (fun h_22 => ?_)
      · refine n_iinc (c := 1) rfl rfl (by decide) rfl dX6_stuckSet_32 ?_
        refine a_goto 7 dX6_stuckSet_35 (by decide) ?_
        rw [show bsN (fun j => decide (100 ≤ f j)) (i + 1) = bsN (fun j => decide (100 ≤ f j)) i by simp [bsN, show (100 ≤ f i) = False by simp; omega]] at ih_7
        exact a_bk ih_7 ⟨rfl, rfl, rfl, rfl, rfl, trivial⟩
      · refine a_iload_n rfl dX6_stuckSet_25 ?_
        refine n_iconst 1 rfl dX6_stuckSet_26 ?_
        refine a_iload rfl dX6_stuckSet_27 ?_
        refine n_bit (by omega) dX6_stuckSet_29 ?_
        refine n_ior dX6_stuckSet_30 ?_
        refine a_istore_n (by decide) rfl dX6_stuckSet_31 ?_
        refine n_iinc (c := 1) rfl rfl (by decide) rfl dX6_stuckSet_32 ?_
        refine a_goto 7 dX6_stuckSet_35 (by decide) ?_
        rw [show bsN (fun j => decide (100 ≤ f j)) (i + 1) = bsN (fun j => decide (100 ≤ f j)) i ||| 2 ^ i by simp [bsN, show (100 ≤ f i) = True by simp; omega]] at ih_7
        exact a_bk ih_7 ⟨rfl, rfl, rfl, rfl, rfl, trivial⟩
  exact a_bk (loop_7 0 (by omega)) ⟨rfl, rfl, rfl, rfl, rfl, trivial⟩

set_option maxRecDepth 100000 in
set_option maxHeartbeats 800000 in
theorem c_X6_downSet {w : Nat} (hw : isW w) {M : Mm} {S : ST} (hV : VX w M S) (hF : WF S) {k : Nat} (hk : k < nC) (hc : layC k = .inr (0, 6, fun _ => 0)) {f : Nat → Nat} (hf : ∀ j, j < S 0 2 → M.1 k j = nI (f j)) (hf1 : ∀ j, j < S 0 2 → f j ≤ 100) {Q : Option Value → Mm → Prop} (hQ : Q (some (.int (nI (bsN (fun p => hgt (S 6 p) (f (S 7 p)) == 0) (S 0 4))))) M) (d : Nat) : AMt miX6_downSet (d + 1) [.ref w, .ref k] M Q := by
  refine AMt.of (by decide) (Nat.le_of_ble_eq_true rfl) ?_
  show AW miX6_downSet (d + 1) (mxA Q) 0 [(0, some (.ref w)), (1, some (.ref k))] [] M
  have hm := WF_m hF
  have hh := WF_h hF
  have hs := WF_s hF
  have hn := WF_n hF
  refine n_iconst 0 rfl dX6_downSet_0 ?_
  refine a_istore_n (by decide) rfl dX6_downSet_1 ?_
  refine n_iconst 0 rfl dX6_downSet_2 ?_
  refine a_istore_n (by decide) rfl dX6_downSet_3 ?_
  have loop_4 : ∀ i, i ≤ S 0 4 → AW miX6_downSet (d + 1) (mxA Q) 4 [(0, some (.ref w)), (1, some (.ref k)), (2, some (.int (nI (bsN (fun p => hgt (S 6 p) (f (S 7 p)) == 0) i)))), (3, some (.int (nI i)))] [] M := by
    refine up (S 0 4) ?_ (fun i hi_4 ih_4 => ?_)
    · refine a_iload_n rfl dX6_downSet_4 ?_
      refine a_aload_n rfl dX6_downSet_5 ?_
      refine g_i (VX_4 hV) (isW_lt hw (i := 0) (by decide)) (layW_0 hw) fX6_69 rfl dX6_downSet_6 ?_
      refine n_icmp_ge 40 (by omega) (by omega) dX6_downSet_9 (by decide) (fun h_9 => ?_) (fun h_9 => absurd h_9 (by omega))
      refine a_iload_n rfl dX6_downSet_40 ?_
      refine a_iret dX6_downSet_41 rfl ?_
      exact hQ
    · have h1 := WF_for hF i hi_4
      have h2 := hf1 _ h1
      have h3 := WF_tall hF i hi_4
      have h4 := hgt_le (S 6 i) (f (S 7 i))
      refine a_iload_n rfl dX6_downSet_4 ?_
      refine a_aload_n rfl dX6_downSet_5 ?_
      refine g_i (VX_4 hV) (isW_lt hw (i := 0) (by decide)) (layW_0 hw) fX6_69 rfl dX6_downSet_6 ?_
      refine n_icmp_ge 40 (by omega) (by omega) dX6_downSet_9 (by decide) (fun h_9 => absurd h_9 (by omega)) (fun h_9 => ?_)
      refine a_aload_n rfl dX6_downSet_12 ?_
      refine a_iload_n rfl dX6_downSet_13 ?_
      refine a_aload_n rfl dX6_downSet_14 ?_
      refine a_aload_n rfl dX6_downSet_15 ?_
      refine a_geta dX6_downSet_16 fX6_41 (isW_lt hw (i := 0) (by decide)) (layW_0 hw) rfl ?_
      refine a_iload_n rfl dX6_downSet_19 ?_
      refine v_iald (by omega) (VX_a9 hV (by omega)) (isW_lt hw (i := 9) (by decide)) (layW_9 hw) (by decide) dX6_downSet_20 ?_
      refine v_iald (by omega) (hf _ (by omega)) hk hc (by decide) dX6_downSet_21 ?_
      refine n_callV (mi' := miX6_heightBy) dX6_downSet_22 lX6_91 mX6_heightBy (isW_lt hw (i := 0) (by decide)) (layW_0 hw) rfl rfl (c_X6_heightBy hw hV hF (by omega) (by omega) ?_ d) rfl rfl (by omega) (by decide) (Nat.le_of_ble_eq_true rfl)
      show AW _ _ _ _ _ _ _
      refine n_if_ne 34 (by omega) dX6_downSet_25 (by decide) (fun h_25 => ?_) (fun h_25 => ?_)
      · refine n_iinc (c := 1) rfl rfl (by decide) rfl dX6_downSet_34 ?_
        refine a_goto 4 dX6_downSet_37 (by decide) ?_
        rw [show bsN (fun p => hgt (S 6 p) (f (S 7 p)) == 0) (i + 1) = bsN (fun p => hgt (S 6 p) (f (S 7 p)) == 0) i by simp [bsN, h_25]] at ih_4
        exact a_bk ih_4 ⟨rfl, rfl, rfl, rfl, trivial⟩
      · refine a_iload_n rfl dX6_downSet_28 ?_
        refine n_iconst 1 rfl dX6_downSet_29 ?_
        refine a_iload_n rfl dX6_downSet_30 ?_
        refine n_bit (by omega) dX6_downSet_31 ?_
        refine n_ior dX6_downSet_32 ?_
        refine a_istore_n (by decide) rfl dX6_downSet_33 ?_
        refine n_iinc (c := 1) rfl rfl (by decide) rfl dX6_downSet_34 ?_
        refine a_goto 4 dX6_downSet_37 (by decide) ?_
        rw [show bsN (fun p => hgt (S 6 p) (f (S 7 p)) == 0) (i + 1) = bsN (fun p => hgt (S 6 p) (f (S 7 p)) == 0) i ||| 2 ^ i by simp [bsN, h_25]] at ih_4
        exact a_bk ih_4 ⟨rfl, rfl, rfl, rfl, trivial⟩
  exact a_bk (loop_4 0 (by omega)) ⟨rfl, rfl, rfl, rfl, trivial⟩

def sumN (f : Nat → Nat) : Nat → Nat
  | 0 => 0
  | n + 1 => sumN f n + f n
theorem sumN_le {f : Nat → Nat} {b : Nat} : ∀ {n : Nat}, (∀ j, j < n → f j ≤ b) → sumN f n ≤ n * b
  | 0, _ => by simp [sumN]
  | n + 1, h => by
    have ih := sumN_le (n := n) (fun j hj => h j (by omega))
    have := h n (by omega)
    rw [sumN, Nat.add_mul]; omega
theorem sumN_congr {f g : Nat → Nat} : ∀ {n : Nat}, (∀ j, j < n → f j = g j) → sumN f n = sumN g n
  | 0, _ => rfl
  | n + 1, h => by rw [sumN, sumN, sumN_congr (fun j hj => h j (by omega)), h n (by omega)]

set_option maxRecDepth 100000 in
set_option maxHeartbeats 800000 in
theorem c_X6_heightsTogether {w : Nat} (hw : isW w) {M : Mm} {S : ST} (hV : VX w M S) (hF : WF S) {Q : Option Value → Mm → Prop} (hQ : Q (some (.int (nI (sumN (fun p => hgt (S 6 p) (S 2 (S 7 p))) (S 0 4))))) M) (d : Nat) : AMt miX6_heightsTogether (d + 2) [.ref w] M Q := by
  refine AMt.of (by decide) (Nat.le_of_ble_eq_true rfl) ?_
  show AW miX6_heightsTogether (d + 2) (mxA Q) 0 [(0, some (.ref w))] [] M
  have hm := WF_m hF
  have hh := WF_h hF
  have hs := WF_s hF
  have hn := WF_n hF
  refine n_iconst 0 rfl dX6_heightsTogether_0 ?_
  refine a_istore_n (by decide) rfl dX6_heightsTogether_1 ?_
  refine n_iconst 0 rfl dX6_heightsTogether_2 ?_
  refine a_istore_n (by decide) rfl dX6_heightsTogether_3 ?_
  have loop_4 : ∀ i, i ≤ S 0 4 → AW miX6_heightsTogether (d + 2) (mxA Q) 4 [(0, some (.ref w)), (1, some (.int (nI (sumN (fun p => hgt (S 6 p) (S 2 (S 7 p))) i)))), (2, some (.int (nI i)))] [] M := by
    refine up (S 0 4) ?_ (fun i hi_4 ih_4 => ?_)
    · refine a_iload_n rfl dX6_heightsTogether_4 ?_
      refine a_aload_n rfl dX6_heightsTogether_5 ?_
      refine g_i (VX_4 hV) (isW_lt hw (i := 0) (by decide)) (layW_0 hw) fX6_69 rfl dX6_heightsTogether_6 ?_
      refine n_icmp_ge 26 (by omega) (by omega) dX6_heightsTogether_9 (by decide) (fun h_9 => ?_) (fun h_9 => absurd h_9 (by omega))
      refine a_iload_n rfl dX6_heightsTogether_26 ?_
      refine a_iret dX6_heightsTogether_27 rfl ?_
      exact hQ
    · refine a_iload_n rfl dX6_heightsTogether_4 ?_
      refine a_aload_n rfl dX6_heightsTogether_5 ?_
      refine g_i (VX_4 hV) (isW_lt hw (i := 0) (by decide)) (layW_0 hw) fX6_69 rfl dX6_heightsTogether_6 ?_
      refine n_icmp_ge 26 (by omega) (by omega) dX6_heightsTogether_9 (by decide) (fun h_9 => absurd h_9 (by omega)) (fun h_9 => ?_)
      refine a_iload_n rfl dX6_heightsTogether_12 ?_
      refine a_aload_n rfl dX6_heightsTogether_13 ?_
      refine a_iload_n rfl dX6_heightsTogether_14 ?_
      refine n_callV (mi' := miX6_heightNow) dX6_heightsTogether_15 lX6_95 mX6_heightNow (isW_lt hw (i := 0) (by decide)) (layW_0 hw) rfl rfl (c_X6_heightNow hw hV hF (by omega) ?_ d) rfl rfl (by omega) (by decide) (Nat.le_of_ble_eq_true rfl)
      show AW _ _ _ _ _ _ _
      refine n_iadd dX6_heightsTogether_18 ?_
      refine a_istore_n (by decide) rfl dX6_heightsTogether_19 ?_
      refine n_iinc (c := 1) rfl rfl (by decide) rfl dX6_heightsTogether_20 ?_
      refine a_goto 4 dX6_heightsTogether_23 (by decide) ?_
      exact a_bk ih_4 ⟨rfl, rfl, rfl, trivial⟩
  exact a_bk (loop_4 0 (by omega)) ⟨rfl, rfl, rfl, trivial⟩

set_option maxRecDepth 100000 in
set_option maxHeartbeats 800000 in
theorem c_X6_canCome {w : Nat} (hw : isW w) {M : Mm} {S : ST} (hV : VX w M S) (hF : WF S) {i : Nat} (hi31 : i < 31) {Q : Option Value → Mm → Prop} (h1 : i < S 0 5 → (bsN (fun j => S 11 j == 1) (S 0 5)).testBit i = false → S 2 (S 9 i) < 100 → Q (some (.int (nI 1))) M) (h0 : ¬ (i < S 0 5 ∧ (bsN (fun j => S 11 j == 1) (S 0 5)).testBit i = false ∧ S 2 (S 9 i) < 100) → Q (some (.int (nI 0))) M) (d : Nat) : AMt miX6_canCome (d + 1) [.ref w, .int (nI i)] M Q := by
  refine AMt.of (by decide) (Nat.le_of_ble_eq_true rfl) ?_
  show AW miX6_canCome (d + 1) (mxA Q) 0 [(0, some (.ref w)), (1, some (.int (nI i)))] [] M
  have hm := WF_m hF
  have hh := WF_h hF
  have hs := WF_s hF
  have hn := WF_n hF
  have hcl := bsN_lt (fun j => S 11 j == 1) (S 0 5)
  have hc2 := pow_le hn
  refine a_aload_n rfl dX6_canCome_0 ?_
  refine a_iload_n rfl dX6_canCome_1 ?_
  refine n_callV (mi' := miX6_hasNews) dX6_canCome_2 lX6_112 mX6_hasNews (isW_lt hw (i := 0) (by decide)) (layW_0 hw) rfl rfl (c_X6_hasNewsN hw hV hF (by omega) (fun h_2 => ?_) (fun h_2 => ?_) d) rfl rfl (by omega) (by decide) (Nat.le_of_ble_eq_true rfl)
  · show AW _ _ _ _ _ _ _
    refine n_if_eq 39 (by decide) dX6_canCome_5 (by decide) (fun h => absurd h (by decide)) (fun _ => ?_)
    refine a_aload_n rfl dX6_canCome_8 ?_
    refine g_i (VX_6 hV) (isW_lt hw (i := 0) (by decide)) (layW_0 hw) fX6_75 rfl dX6_canCome_9 ?_
    refine a_iload_n rfl dX6_canCome_12 ?_
    refine n_shr (by omega) (by omega) dX6_canCome_13 ?_
    refine n_iconst 1 rfl dX6_canCome_14 ?_
    refine n_has dX6_canCome_15 ?_
    have hbt : (if (bsN (fun j => S 11 j == 1) (S 0 5)).testBit i then 1 else 0) < 2 := by split <;> omega
    refine n_if_ne 39 (by omega) dX6_canCome_16 (by decide) (fun h_16 => ?_) (fun h_16 => ?_)
    · refine n_iconst 0 rfl dX6_canCome_39 ?_
      refine a_zret dX6_canCome_40 rfl (Or.inl rfl) ?_
      exact h0 (fun ⟨a, b, c⟩ => by simp [b] at h_16)
    · have h5 := WF_about hF i (by omega)
      have h6 := WF_clear hF _ h5
      refine a_aload_n rfl dX6_canCome_19 ?_
      refine a_geta dX6_canCome_20 fX6_23 (isW_lt hw (i := 0) (by decide)) (layW_0 hw) rfl ?_
      refine a_aload_n rfl dX6_canCome_23 ?_
      refine a_geta dX6_canCome_24 fX6_47 (isW_lt hw (i := 0) (by decide)) (layW_0 hw) rfl ?_
      refine a_iload_n rfl dX6_canCome_27 ?_
      refine v_iald (by omega) (VX_a11 hV (by omega)) (isW_lt hw (i := 11) (by decide)) (layW_11 hw) (by decide) dX6_canCome_28 ?_
      refine v_iald (by omega) (VX_a3 hV (by omega)) (isW_lt hw (i := 3) (by decide)) (layW_3 hw) (by decide) dX6_canCome_29 ?_
      refine n_bipush 100 rfl dX6_canCome_30 ?_
      refine n_icmp_ge 39 (by omega) (by omega) dX6_canCome_32 (by decide) (fun h_32 => ?_) (fun h_32 => ?_)
      · refine n_iconst 0 rfl dX6_canCome_39 ?_
        refine a_zret dX6_canCome_40 rfl (Or.inl rfl) ?_
        exact h0 (fun ⟨a, b, c⟩ => by omega)
      · refine n_iconst 1 rfl dX6_canCome_35 ?_
        refine a_goto 40 dX6_canCome_36 (by decide) ?_
        refine a_zret dX6_canCome_40 rfl (Or.inr rfl) ?_
        exact h1 (by omega) (by simpa using h_16) (by omega)
  · show AW _ _ _ _ _ _ _
    refine n_if_eq 39 (by decide) dX6_canCome_5 (by decide) (fun _ => ?_) (fun h => absurd h (by decide))
    refine n_iconst 0 rfl dX6_canCome_39 ?_
    refine a_zret dX6_canCome_40 rfl (Or.inl rfl) ?_
    exact h0 (fun ⟨a, b, c⟩ => by omega)

set_option maxRecDepth 100000 in
set_option maxHeartbeats 800000 in
theorem c_X6_hasDays {w : Nat} (hw : isW w) {M : Mm} {S : ST} (hV : VX w M S) (hF : WF S) (hd : S 0 1 ≤ 9999) {n : Nat} (hn31 : n < 2 ^ 31) {Q : Option Value → Mm → Prop} (h1 : S 0 1 + n ≤ 9999 → Q (some (.int (nI 1))) M) (h0 : ¬ S 0 1 + n ≤ 9999 → Q (some (.int (nI 0))) M) (d : Nat) : AMt miX6_hasDays (d) [.ref w, .int (nI n)] M Q := by
  refine AMt.of (by decide) (Nat.le_of_ble_eq_true rfl) ?_
  show AW miX6_hasDays (d) (mxA Q) 0 [(0, some (.ref w)), (1, some (.int (nI n)))] [] M
  have hm := WF_m hF
  have hh := WF_h hF
  have hs := WF_s hF
  have hn := WF_n hF
  refine a_iload_n rfl dX6_hasDays_0 ?_
  refine n_sipush 9999 rfl dX6_hasDays_1 ?_
  refine a_aload_n rfl dX6_hasDays_4 ?_
  refine g_i (VX_1 hV) (isW_lt hw (i := 0) (by decide)) (layW_0 hw) fX6_60 rfl dX6_hasDays_5 ?_
  refine n_isub (by omega) dX6_hasDays_8 ?_
  refine n_icmp_gt 16 (by omega) (by omega) dX6_hasDays_9 (by decide) (fun h_9 => ?_) (fun h_9 => ?_)
  · refine n_iconst 0 rfl dX6_hasDays_16 ?_
    refine a_zret dX6_hasDays_17 rfl (Or.inl rfl) ?_
    exact h0 (fun q => by omega)
  · refine n_iconst 1 rfl dX6_hasDays_12 ?_
    refine a_goto 17 dX6_hasDays_13 (by decide) ?_
    refine a_zret dX6_hasDays_17 rfl (Or.inr rfl) ?_
    exact h1 (by omega)

set_option maxRecDepth 100000 in
set_option maxHeartbeats 800000 in
theorem c_X6_isSitterSet {w : Nat} (hw : isW w) {M : Mm} {S : ST} (hV : VX w M S) (hF : WF S) {x : Int32} {Q : Option Value → Mm → Prop} (h1 : ∀ j, j < 2 ^ S 0 4 → x = nI j → Q (some (.int (nI 1))) M) (h0 : ¬ inR x (2 ^ S 0 4) → Q (some (.int (nI 0))) M) (d : Nat) : AMt miX6_isSitterSet (d) [.ref w, .int x] M Q := by
  refine AMt.of (by decide) (Nat.le_of_ble_eq_true rfl) ?_
  show AW miX6_isSitterSet (d) (mxA Q) 0 [(0, some (.ref w)), (1, some (.int x))] [] M
  have hm := WF_m hF
  have hh := WF_h hF
  have hs := WF_s hF
  have hn := WF_n hF
  have hp := pow_le hs
  refine a_iload_n rfl dX6_isSitterSet_0 ?_
  refine a_if_lt 18 dX6_isSitterSet_1 (by decide) (fun h_1 => ?_) (fun h_1 => ?_)
  · refine n_iconst 0 rfl dX6_isSitterSet_18 ?_
    refine a_zret dX6_isSitterSet_19 rfl (Or.inl rfl) ?_
    exact h0 (fun ⟨j, hj, e⟩ => by subst e; exact absurd h_1 (nI_pos (by omega)))
  · obtain ⟨j, hj, rfl⟩ := nI_of h_1
    refine a_iload_n rfl dX6_isSitterSet_4 ?_
    refine n_iconst 1 rfl dX6_isSitterSet_5 ?_
    refine a_aload_n rfl dX6_isSitterSet_6 ?_
    refine g_i (VX_4 hV) (isW_lt hw (i := 0) (by decide)) (layW_0 hw) fX6_69 rfl dX6_isSitterSet_7 ?_
    refine n_bit (by omega) dX6_isSitterSet_10 ?_
    refine n_icmp_ge 18 (by omega) (by omega) dX6_isSitterSet_11 (by decide) (fun h_11 => ?_) (fun h_11 => ?_)
    · refine n_iconst 0 rfl dX6_isSitterSet_18 ?_
      refine a_zret dX6_isSitterSet_19 rfl (Or.inl rfl) ?_
      exact h0 (fun ⟨i, hi, e⟩ => by have := (nI_eq (by omega) (by omega)).mp e; omega)
    · refine n_iconst 1 rfl dX6_isSitterSet_14 ?_
      refine a_goto 19 dX6_isSitterSet_15 (by decide) ?_
      refine a_zret dX6_isSitterSet_19 rfl (Or.inr rfl) ?_
      exact h1 j (by omega) rfl

def hbN (S : ST) (a b : Nat) : Nat → Bool
  | 0 => false
  | n + 1 => hbN S a b n || (S 3 n == a && S 4 n == b)

set_option maxRecDepth 100000 in
set_option maxHeartbeats 800000 in
theorem c_X6_isHeldBy {w : Nat} (hw : isW w) {M : Mm} {S : ST} (hV : VX w M S) (hF : WF S) {a b : Nat} (ha : a < 6) (hb : b < 6) {Q : Option Value → Mm → Prop} (h1 : (∃ i, i < S 0 3 ∧ S 3 i = a ∧ S 4 i = b) → Q (some (.int (nI 1))) M) (h0 : (∀ i, i < S 0 3 → ¬ (S 3 i = a ∧ S 4 i = b)) → Q (some (.int (nI 0))) M) (d : Nat) : AMt miX6_isHeldBy (d) [.ref w, .int (nI a), .int (nI b)] M Q := by
  refine AMt.of (by decide) (Nat.le_of_ble_eq_true rfl) ?_
  show AW miX6_isHeldBy (d) (mxA Q) 0 [(0, some (.ref w)), (1, some (.int (nI a))), (2, some (.int (nI b)))] [] M
  have hm := WF_m hF
  have hh := WF_h hF
  have hs := WF_s hF
  have hn := WF_n hF
  refine n_iconst 0 rfl dX6_isHeldBy_0 ?_
  refine a_istore_n (by decide) rfl dX6_isHeldBy_1 ?_
  have loop_2 : ∀ i, i ≤ S 0 3 → (∀ j, j < i → ¬ (S 3 j = a ∧ S 4 j = b)) → AW miX6_isHeldBy (d) (mxA Q) 2 [(0, some (.ref w)), (1, some (.int (nI a))), (2, some (.int (nI b))), (3, some (.int (nI i)))] [] M := by
    refine up (W := fun i => (∀ j, j < i → ¬ (S 3 j = a ∧ S 4 j = b)) → AW miX6_isHeldBy (d) (mxA Q) 2 [(0, some (.ref w)), (1, some (.int (nI a))), (2, some (.int (nI b))), (3, some (.int (nI i)))] [] M) (S 0 3) (fun hI_2 => ?_) (fun i hi_2 ih_2 hI_2 => ?_)
    · refine a_iload_n rfl dX6_isHeldBy_2 ?_
      refine a_aload_n rfl dX6_isHeldBy_3 ?_
      refine g_i (VX_3 hV) (isW_lt hw (i := 0) (by decide)) (layW_0 hw) fX6_66 rfl dX6_isHeldBy_4 ?_
      refine n_icmp_ge 38 (by omega) (by omega) dX6_isHeldBy_7 (by decide) (fun h_7 => ?_) (fun h_7 => absurd h_7 (by omega))
      refine n_iconst 0 rfl dX6_isHeldBy_38 ?_
      refine a_zret dX6_isHeldBy_39 rfl (Or.inl rfl) ?_
      exact h0 hI_2
    · have hq1 := WF_held hF i hi_2
      have hq2 := WF_by hF i hi_2
      refine a_iload_n rfl dX6_isHeldBy_2 ?_
      refine a_aload_n rfl dX6_isHeldBy_3 ?_
      refine g_i (VX_3 hV) (isW_lt hw (i := 0) (by decide)) (layW_0 hw) fX6_66 rfl dX6_isHeldBy_4 ?_
      refine n_icmp_ge 38 (by omega) (by omega) dX6_isHeldBy_7 (by decide) (fun h_7 => absurd h_7 (by omega)) (fun h_7 => ?_)
      refine a_aload_n rfl dX6_isHeldBy_10 ?_
      refine a_geta dX6_isHeldBy_11 fX6_26 (isW_lt hw (i := 0) (by decide)) (layW_0 hw) rfl ?_
      refine a_iload_n rfl dX6_isHeldBy_14 ?_
      refine v_iald (by omega) (VX_a4 hV (by omega)) (isW_lt hw (i := 4) (by decide)) (layW_4 hw) (by decide) dX6_isHeldBy_15 ?_
      refine a_iload_n rfl dX6_isHeldBy_16 ?_
      refine n_icmp_ne 32 (by omega) (by omega) dX6_isHeldBy_17 (by decide) (fun h_17 => ?_) (fun h_17 => ?_)
      · refine n_iinc (c := 1) rfl rfl (by decide) rfl dX6_isHeldBy_32 ?_
        refine a_goto 2 dX6_isHeldBy_35 (by decide) ?_
        exact a_bk (ih_2 (fun j hj => by rcases (show j < i ∨ j = i by omega) with h | h; exact hI_2 j h; subst h; omega)) ⟨rfl, rfl, rfl, rfl, trivial⟩
      · refine a_aload_n rfl dX6_isHeldBy_20 ?_
        refine a_geta dX6_isHeldBy_21 fX6_29 (isW_lt hw (i := 0) (by decide)) (layW_0 hw) rfl ?_
        refine a_iload_n rfl dX6_isHeldBy_24 ?_
        refine v_iald (by omega) (VX_a5 hV (by omega)) (isW_lt hw (i := 5) (by decide)) (layW_5 hw) (by decide) dX6_isHeldBy_25 ?_
        refine a_iload_n rfl dX6_isHeldBy_26 ?_
        refine n_icmp_ne 32 (by omega) (by omega) dX6_isHeldBy_27 (by decide) (fun h_27 => ?_) (fun h_27 => ?_)
        · refine n_iinc (c := 1) rfl rfl (by decide) rfl dX6_isHeldBy_32 ?_
          refine a_goto 2 dX6_isHeldBy_35 (by decide) ?_
          exact a_bk (ih_2 (fun j hj => by rcases (show j < i ∨ j = i by omega) with h | h; exact hI_2 j h; subst h; omega)) ⟨rfl, rfl, rfl, rfl, trivial⟩
        · refine n_iconst 1 rfl dX6_isHeldBy_30 ?_
          refine a_zret dX6_isHeldBy_31 rfl (Or.inr rfl) ?_
          exact h1 ⟨i, hi_2, by omega, by omega⟩
  exact a_bk (loop_2 0 (by omega) (fun j hj => absurd hj (by omega))) ⟨rfl, rfl, rfl, rfl, trivial⟩

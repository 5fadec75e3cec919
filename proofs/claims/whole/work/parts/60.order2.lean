def WW (S : ST) (set : Nat) : Nat := wF S (S 0 2 - cnN S set) set
/-- what the class has laid for its look at the orders -/
def lwP (S : ST) (M : Mm) : Prop := (∀ k, k < 6 → M.1 125 k = nI (hoN S 0 k)) ∧ (∀ k, k < S 0 2 → M.1 126 k = nI (ldN S k)) ∧ ∀ k, k < S 0 2 → M.1 127 k = nI (wgN S k)
def wtP (S : ST) (lo : Nat) (M : Mm) : Prop := ∀ s, lo ≤ s → s < 2 ^ S 0 2 → M.1 128 s = nI (WW S s)
def tmP (S : ST) (set i : Nat) : Nat := sumN (fun k => if set.testBit k = true then ldN S k else 0) i
theorem tmP_le {S : ST} (hF : WF S) (set : Nat) {i : Nat} (hi : i ≤ S 0 2) : tmP S set i ≤ 1200 := by
  have hm := WF_m hF
  have := sumN_le (f := fun k => if set.testBit k = true then ldN S k else 0) (b := 200) (n := i) (fun j hj => by
    have := ld_le hF (show j < S 0 2 by omega)
    split <;> omega)
  have h2 : i * 200 ≤ 6 * 200 := Nat.mul_le_mul_right 200 (by omega)
  unfold tmP; omega
theorem tmP_t {S : ST} {set i : Nat} (h : set.testBit i = true) : tmP S set (i + 1) = tmP S set i + ldN S i := by
  show tmP S set i + (if _ then _ else 0) = _
  rw [if_pos h]
theorem tmP_f {S : ST} {set i : Nat} (h : set.testBit i = false) : tmP S set (i + 1) = tmP S set i := by
  show tmP S set i + (if _ then _ else 0) = _
  rw [if_neg (by rw [h]; exact Bool.false_ne_true)]; rfl
theorem not_all {m set : Nat} (h : set < 2 ^ m - 1) : ∃ k, k < m ∧ set.testBit k = false := by
  rcases Classical.em (∃ k, k < m ∧ set.testBit k = false) with q | q
  · exact q
  · exfalso
    have : set = 2 ^ m - 1 := by
      apply Nat.eq_of_testBit_eq
      intro j
      rw [Nat.testBit_two_pow_sub_one]
      by_cases hj : j < m
      · cases e : set.testBit j with
        | true => simp [hj]
        | false => exact absurd ⟨j, hj, e⟩ q
      · rw [Nat.testBit_lt_two_pow (Nat.lt_of_lt_of_le (show set < 2 ^ m by omega) (Nat.pow_le_pow_right (by decide) (by omega)))]; simp [hj]
    omega
theorem cn_lt {S : ST} {set : Nat} (h : set < 2 ^ S 0 2 - 1) : cnN S set < S 0 2 := by
  obtain ⟨k, hk, hb⟩ := not_all h
  have := cn_add hk hb
  have := cn_le S (set ||| 2 ^ k)
  omega
theorem WW_st {S : ST} {set : Nat} (h : set < 2 ^ S 0 2 - 1) : mnN (fun k => stN S set k (WW S (set ||| 2 ^ k))) (S 0 2) = WW S set := by
  have hc := cn_lt h
  unfold WW
  obtain ⟨n, hn⟩ : ∃ n, S 0 2 - cnN S set = n + 1 := ⟨S 0 2 - cnN S set - 1, by omega⟩
  rw [hn]
  show _ = mnN (fun k => stN S set k (wF S n (set ||| 2 ^ k))) (S 0 2)
  apply mn_congr
  intro k hk
  show stN S set k _ = stN S set k _
  by_cases c : alwB S set k = true
  · rw [cn_add hk (alw_b c), show S 0 2 - (cnN S set + 1) = n by omega]
  · unfold stN; rw [if_neg c, if_neg c]
theorem WW_all {S : ST} : WW S (2 ^ S 0 2 - 1) = 0 := by
  have e : cnN S (2 ^ S 0 2 - 1) = S 0 2 := by
    unfold cnN
    have : ∀ n, n ≤ S 0 2 → sumN (fun k => if (2 ^ S 0 2 - 1).testBit k = true then 1 else 0) n = n := by
      intro n
      induction n with
      | zero => intro _; rfl
      | succ n ih =>
        intro h
        rw [sumN, ih (by omega), if_pos (by rw [Nat.testBit_two_pow_sub_one]; simp; omega)]
    exact this _ (Nat.le_refl _)
  unfold WW
  rw [e, Nat.sub_self]; rfl
theorem cn_0 (S : ST) : cnN S 0 = 0 := by
  unfold cnN
  have := sumN_le (f := fun k => if (0 : Nat).testBit k = true then 1 else 0) (b := 0) (n := S 0 2) (fun j _ => by simp)
  omega
theorem WW_0 (S : ST) : WW S 0 = wF S (S 0 2) 0 := by unfold WW; rw [cn_0]; rfl
theorem WW_far (S : ST) (set : Nat) : WW S set ≤ 1000000 := wF_far _ _ _
theorem or_lt2 {m set k : Nat} (hs : set < 2 ^ m) (hk : k < m) : set ||| 2 ^ k < 2 ^ m := Nat.or_lt_two_pow hs (Nat.pow_lt_pow_right (by decide) hk)
theorem or_gt {set k : Nat} (hb : set.testBit k = false) : set < set ||| 2 ^ k := by
  rcases Nat.lt_or_ge set (set ||| 2 ^ k) with h | h
  · exact h
  · exfalso
    have h1 : set ≤ set ||| 2 ^ k := Nat.left_le_or
    have e : set ||| 2 ^ k = set := by omega
    have := congrArg (fun z => Nat.testBit z k) e
    simp [Nat.testBit_or, hb] at this

set_option maxRecDepth 100000 in
set_option maxHeartbeats 800000 in
theorem c_X3_weightFor {M : Mm} {S : ST} (hV : VX 17 M S) (hF : WF S) {k : Nat} (hk : k < S 0 2) {Q : Option Value → Mm → Prop} (hQ : Q (some (.int (nI (wgN S k)))) M) (d : Nat) : AMt miX3_weightFor (d) [.ref 17, .int (nI k)] M Q := by
  refine AMt.of (by decide) (Nat.le_of_ble_eq_true rfl) ?_
  show AW miX3_weightFor (d) (mxA Q) 0 [(0, some (.ref 17)), (1, some (.int (nI k)))] [] M
  have hm := WF_m hF
  have hh := WF_h hF
  have hs := WF_s hF
  have hn := WF_n hF
  refine n_iconst 0 rfl dX3_weightFor_0 ?_
  refine a_istore_n (by decide) rfl dX3_weightFor_1 ?_
  refine n_iconst 0 rfl dX3_weightFor_2 ?_
  refine a_istore_n (by decide) rfl dX3_weightFor_3 ?_
  have loop_4 : ∀ i, i ≤ S 0 4 → AW miX3_weightFor (d) (mxA Q) 4 [(0, some (.ref 17)), (1, some (.int (nI k))), (2, some (.int (nI (sumN (fun p => if S 7 p = k then S 8 p else 0) i)))), (3, some (.int (nI i)))] [] M := by
    refine up (S 0 4) ?_ (fun i hi_4 ih_4 => ?_)
    · refine a_iload_n rfl dX3_weightFor_4 ?_
      refine a_aload_n rfl dX3_weightFor_5 ?_
      refine g_i (VX_4 hV) (by decide) rfl fX3_125 rfl dX3_weightFor_6 ?_
      refine n_icmp_ge 37 (by omega) (by omega) dX3_weightFor_9 (by decide) (fun h_9 => ?_) (fun h_9 => absurd h_9 (by omega))
      refine a_iload_n rfl dX3_weightFor_37 ?_
      refine a_iret dX3_weightFor_38 rfl ?_
      exact hQ
    · have hw := WF_wt hF i hi_4
      have hfo := WF_for hF i hi_4
      refine a_iload_n rfl dX3_weightFor_4 ?_
      refine a_aload_n rfl dX3_weightFor_5 ?_
      refine g_i (VX_4 hV) (by decide) rfl fX3_125 rfl dX3_weightFor_6 ?_
      refine n_icmp_ge 37 (by omega) (by omega) dX3_weightFor_9 (by decide) (fun h_9 => absurd h_9 (by omega)) (fun h_9 => ?_)
      refine a_aload_n rfl dX3_weightFor_12 ?_
      refine a_geta dX3_weightFor_13 fX3_128 (by decide) rfl rfl ?_
      refine a_iload_n rfl dX3_weightFor_16 ?_
      refine v_iald (by omega) (VX_a9 hV (by omega)) (by decide) rfl (by decide) dX3_weightFor_17 ?_
      refine a_iload_n rfl dX3_weightFor_18 ?_
      refine n_icmp_ne 31 (by omega) (by omega) dX3_weightFor_19 (by decide) (fun h_19 => ?_) (fun h_19 => ?_)
      · refine n_iinc (c := 1) rfl rfl (by decide) rfl dX3_weightFor_31 ?_
        refine a_goto 4 dX3_weightFor_34 (by decide) ?_
        rw [show sumN (fun p => if S 7 p = k then S 8 p else 0) (i + 1) = sumN (fun p => if S 7 p = k then S 8 p else 0) i by simp [sumN, h_19]] at ih_4
        exact a_bk ih_4 ⟨rfl, rfl, rfl, rfl, trivial⟩
      · refine a_iload_n rfl dX3_weightFor_22 ?_
        refine a_aload_n rfl dX3_weightFor_23 ?_
        refine a_geta dX3_weightFor_24 fX3_131 (by decide) rfl rfl ?_
        refine a_iload_n rfl dX3_weightFor_27 ?_
        refine v_iald (by omega) (VX_a10 hV (by omega)) (by decide) rfl (by decide) dX3_weightFor_28 ?_
        refine n_iadd dX3_weightFor_29 ?_
        refine a_istore_n (by decide) rfl dX3_weightFor_30 ?_
        refine n_iinc (c := 1) rfl rfl (by decide) rfl dX3_weightFor_31 ?_
        refine a_goto 4 dX3_weightFor_34 (by decide) ?_
        rw [show sumN (fun p => if S 7 p = k then S 8 p else 0) (i + 1) = (sumN (fun p => if S 7 p = k then S 8 p else 0) i) + (S 8 i) by simp [sumN, h_19]] at ih_4
        exact a_bk ih_4 ⟨rfl, rfl, rfl, rfl, trivial⟩
  exact a_bk (loop_4 0 (by omega)) ⟨rfl, rfl, rfl, rfl, trivial⟩

set_option maxRecDepth 100000 in
set_option maxHeartbeats 800000 in
theorem c_X3_waitsWith {M : Mm} {S : ST} (hV : VX 17 M S) (hF : WF S) (hlw : lwP S M) {set k w : Nat} (hset : set < 2 ^ S 0 2) (hk : k < S 0 2) (hw : set.testBit k = false → M.1 128 (set ||| 2 ^ k) = nI w) (hwf : w ≤ 1000000) {Q : Option Value → Mm → Prop} (hQ : Q (some (.int (nI (stN S set k w)))) M) (d : Nat) : AMt miX3_waitsWith (d + 1) [.ref 123, .ref 17, .int (nI set), .int (nI k)] M Q := by
  refine AMt.of (by decide) (Nat.le_of_ble_eq_true rfl) ?_
  show AW miX3_waitsWith (d + 1) (mxA Q) 0 [(0, some (.ref 123)), (1, some (.ref 17)), (2, some (.int (nI set))), (3, some (.int (nI k)))] [] M
  have hm := WF_m hF
  have hh := WF_h hF
  have hs := WF_s hF
  have hn := WF_n hF
  have hk3 := pow_le hm
  have hk0 := Nat.two_pow_pos (S 0 2)
  refine a_iload_n rfl dX3_waitsWith_0 ?_
  refine a_iload_n rfl dX3_waitsWith_1 ?_
  refine n_callS (mi' := miX3_isIn) dX3_waitsWith_2 lX3_50 mX3_isIn (c_X3_isIn (by omega) (by omega) (fun h_2 => ?_) (fun h_2 => ?_) d) rfl rfl (by omega) (by decide) (Nat.le_of_ble_eq_true rfl)
  · show AW _ _ _ _ _ _ _
    refine n_if_ne 21 (by decide) dX3_waitsWith_5 (by decide) (fun _ => ?_) (fun h => absurd h (by decide))
    refine a_ldc kX3_120 dX3_waitsWith_21 ?_
    refine a_eqi (y := nI 1000000) rfl ?_
    refine a_iret dX3_waitsWith_23 rfl ?_
    rw [show stN S set k w = 1000000 by unfold stN; rw [if_neg (show ¬ alwB S set k = true by unfold alwB; rw [h_2]; simp)]] at hQ
    exact hQ
  · show AW _ _ _ _ _ _ _
    refine n_if_ne 21 (by decide) dX3_waitsWith_5 (by decide) (fun h => absurd h (by decide)) (fun _ => ?_)
    refine a_aload_n rfl dX3_waitsWith_8 ?_
    refine a_geta dX3_waitsWith_9 fX3_15 (by decide) rfl rfl ?_
    refine a_iload_n rfl dX3_waitsWith_12 ?_
    refine v_iald (by omega) (hlw.1 _ (by omega)) (by decide) rfl (by decide) dX3_waitsWith_13 ?_
    refine a_iload_n rfl dX3_waitsWith_14 ?_
    refine a_iconst (-1) rfl dX3_waitsWith_15 ?_
    refine a_ixor dX3_waitsWith_16 ?_
    have hhl := ho_lt hF 0 k
    have hxl : hoN S 0 k ^^^ (hoN S 0 k &&& set) < 2 ^ S 0 2 := Nat.xor_lt_two_pow hhl (Nat.lt_of_le_of_lt Nat.and_le_left hhl)
    refine n_andc dX3_waitsWith_17 ?_
    refine n_if_eq 24 (by omega) dX3_waitsWith_18 (by decide) (fun h_18 => ?_) (fun h_18 => ?_)
    · refine a_aload_n rfl dX3_waitsWith_24 ?_
      refine a_geta dX3_waitsWith_25 fX3_18 (by decide) rfl rfl ?_
      refine a_iload_n rfl dX3_waitsWith_28 ?_
      refine v_iald (by omega) (hlw.2.1 _ (by omega)) (by decide) rfl (by decide) dX3_waitsWith_29 ?_
      refine a_istore (by decide) rfl dX3_waitsWith_30 ?_
      refine n_iconst 0 rfl dX3_waitsWith_32 ?_
      refine a_istore (by decide) rfl dX3_waitsWith_33 ?_
      have loop_35 : ∀ i, i ≤ S 0 2 → AW miX3_waitsWith (d + 1) (mxA Q) 35 [(0, some (.ref 123)), (1, some (.ref 17)), (2, some (.int (nI set))), (3, some (.int (nI k))), (4, some (.int (nI (ldN S k + tmP S set i)))), (5, some (.int (nI i)))] [] M := by
        refine up (S 0 2) ?_ (fun i hi_35 ih_35 => ?_)
        · have htl := tmP_le hF set (Nat.le_refl (S 0 2))
          have hld := ld_le hF hk
          refine a_iload rfl dX3_waitsWith_35 ?_
          refine a_aload_n rfl dX3_waitsWith_37 ?_
          refine g_i (VX_2 hV) (by decide) rfl fX3_98 rfl dX3_waitsWith_38 ?_
          refine n_icmp_ge 71 (by omega) (by omega) dX3_waitsWith_41 (by decide) (fun h_41 => ?_) (fun h_41 => absurd h_41 (by omega))
          have hcs := cs_le hF hk h_2
          have htm : tmP S set (S 0 2) = tmN S set := rfl
          have hol := or_lt2 hset hk
          have hmul : (ldN S k + tmP S set (S 0 2)) * wgN S k = csN S set k := by rw [htm, Nat.add_comm]; rfl
          refine a_ldc kX3_120 dX3_waitsWith_71 ?_
          refine a_eqi (y := nI 1000000) rfl ?_
          refine a_iload rfl dX3_waitsWith_73 ?_
          refine a_aload_n rfl dX3_waitsWith_75 ?_
          refine a_geta dX3_waitsWith_76 fX3_21 (by decide) rfl rfl ?_
          refine a_iload_n rfl dX3_waitsWith_79 ?_
          refine v_iald (by omega) (hlw.2.2 _ (by omega)) (by decide) rfl (by decide) dX3_waitsWith_80 ?_
          refine n_imul dX3_waitsWith_81 ?_
          refine a_aload_n rfl dX3_waitsWith_82 ?_
          refine a_geta dX3_waitsWith_83 fX3_24 (by decide) rfl rfl ?_
          refine a_iload_n rfl dX3_waitsWith_86 ?_
          refine n_iconst 1 rfl dX3_waitsWith_87 ?_
          refine a_iload_n rfl dX3_waitsWith_88 ?_
          refine n_bit (by omega) dX3_waitsWith_89 ?_
          refine n_ior dX3_waitsWith_90 ?_
          refine v_iald (by omega) (hw h_2) (by decide) rfl (by decide) dX3_waitsWith_91 ?_
          refine n_iadd dX3_waitsWith_92 ?_
          refine n_min (by omega) (by omega) dX3_waitsWith_93 lX3_73 (Nat.le_of_ble_eq_true rfl) ?_
          refine a_iret dX3_waitsWith_96 rfl ?_
          rw [show stN S set k w = min 1000000 ((ldN S k + tmP S set (S 0 2)) * wgN S k + w) by unfold stN; rw [if_pos (show alwB S set k = true by unfold alwB; rw [h_2, decide_eq_true h_18]; rfl), hmul]] at hQ
          exact hQ
        · have htl := tmP_le hF set (show i ≤ S 0 2 by omega)
          have hld := ld_le hF hk
          have hli := ld_le hF hi_35
          refine a_iload rfl dX3_waitsWith_35 ?_
          refine a_aload_n rfl dX3_waitsWith_37 ?_
          refine g_i (VX_2 hV) (by decide) rfl fX3_98 rfl dX3_waitsWith_38 ?_
          refine n_icmp_ge 71 (by omega) (by omega) dX3_waitsWith_41 (by decide) (fun h_41 => absurd h_41 (by omega)) (fun h_41 => ?_)
          refine a_iload_n rfl dX3_waitsWith_44 ?_
          refine a_iload rfl dX3_waitsWith_45 ?_
          refine n_callS (mi' := miX3_isIn) dX3_waitsWith_47 lX3_50 mX3_isIn (c_X3_isIn (by omega) (by omega) (fun h_47 => ?_) (fun h_47 => ?_) d) rfl rfl (by omega) (by decide) (Nat.le_of_ble_eq_true rfl)
          · show AW _ _ _ _ _ _ _
            refine n_if_eq 65 (by decide) dX3_waitsWith_50 (by decide) (fun h => absurd h (by decide)) (fun _ => ?_)
            refine a_iload rfl dX3_waitsWith_53 ?_
            refine a_aload_n rfl dX3_waitsWith_55 ?_
            refine a_geta dX3_waitsWith_56 fX3_18 (by decide) rfl rfl ?_
            refine a_iload rfl dX3_waitsWith_59 ?_
            refine v_iald (by omega) (hlw.2.1 _ (by omega)) (by decide) rfl (by decide) dX3_waitsWith_61 ?_
            refine n_iadd dX3_waitsWith_62 ?_
            refine a_istore (by decide) rfl dX3_waitsWith_63 ?_
            refine n_iinc (c := 1) rfl rfl (by decide) rfl dX3_waitsWith_65 ?_
            refine a_goto 35 dX3_waitsWith_68 (by decide) ?_
            rw [tmP_t h_47, ← Nat.add_assoc] at ih_35
            exact a_bk ih_35 ⟨rfl, rfl, rfl, rfl, rfl, rfl, trivial⟩
          · show AW _ _ _ _ _ _ _
            refine n_if_eq 65 (by decide) dX3_waitsWith_50 (by decide) (fun _ => ?_) (fun h => absurd h (by decide))
            refine n_iinc (c := 1) rfl rfl (by decide) rfl dX3_waitsWith_65 ?_
            refine a_goto 35 dX3_waitsWith_68 (by decide) ?_
            rw [tmP_f h_47] at ih_35
            exact a_bk ih_35 ⟨rfl, rfl, rfl, rfl, rfl, rfl, trivial⟩
      exact a_bk (loop_35 0 (by omega)) ⟨rfl, rfl, rfl, rfl, rfl, rfl, trivial⟩
    · refine a_ldc kX3_120 dX3_waitsWith_21 ?_
      refine a_eqi (y := nI 1000000) rfl ?_
      refine a_iret dX3_waitsWith_23 rfl ?_
      rw [show stN S set k w = 1000000 by unfold stN; rw [if_neg (show ¬ alwB S set k = true by unfold alwB; rw [decide_eq_false h_18]; simp)]] at hQ
      exact hQ

theorem ld_some {S : ST} {k v : Nat} (h : loadN S k = some v) : ldN S k = v := by unfold ldN; rw [h]; rfl
theorem or_no {S : ST} {k : Nat} (hk : k < S 0 2) (h : loadN S k = none) : owN S = none := by
  unfold owN
  rw [if_neg (fun q => by have := q.1; unfold oaN at this; rw [al_no (p := fun k => (loadN S k).isSome) (i := k) (by rw [h]; rfl) hk] at this; exact absurd this Bool.false_ne_true)]
theorem st_all2 {M : Mm} {k i : Nat} {f : Nat → Nat} {v : Int32} (h : ∀ j, j < i → M.1 k j = nI (f j)) (hv : v = nI (f i)) : ∀ j, j < i + 1 → (siM M k i v).1 k j = nI (f j) := by
  intro j hj
  by_cases e : j = i
  · subst e; rw [siS]; exact hv
  · exact siN (h j (by omega)) (by omega)
theorem dec_n {a b : Nat} (h : b ≤ a) : nI (a - b) + Int32.ofInt (-1) = nI a - nI (b + 1) := by
  rw [← pk_sub h, ← nI_add b 1]
  rw [Int32.sub_eq_add_neg, Int32.sub_eq_add_neg, Int32.neg_add, Int32.add_assoc, Int32.sub_eq_add_neg]
  rfl
theorem wt_in {S : ST} {M M2 : Mm} {lo : Nat} (h : wtP S (lo + 1) M) (hf : fr (fun k j => k = 128 ∧ j = lo) M M2) (h2 : M2.1 128 lo = nI (WW S lo)) : wtP S lo M2 := by
  intro s h1 h3
  by_cases e : s = lo
  · subst e; exact h2
  · exact hf.i (h s (by omega) h3) (by omega)

set_option maxRecDepth 100000 in
set_option maxHeartbeats 800000 in
theorem c_X3_leastWaiting {M : Mm} {S : ST} (hV : VX 17 M S) (hF : WF S) {Q : Option Value → Mm → Prop} (h1 : ∀ M', lwP S M' → wtP S 0 M' → oaN S = true → wF S (S 0 2) 0 < FAR → fr (fun k _ => 125 ≤ k ∧ k ≤ 128) M M' → Q (some (.int (nI (wF S (S 0 2) 0)))) M') (h0 : owN S = none → ∀ M', fr (fun k _ => 125 ≤ k ∧ k ≤ 128) M M' → Q (some (.int (-1))) M') (d : Nat) : AMt miX3_leastWaiting (d + 2) [.ref 123, .ref 17] M Q := by
  refine AMt.of (by decide) (Nat.le_of_ble_eq_true rfl) ?_
  show AW miX3_leastWaiting (d + 2) (mxA Q) 0 [(0, some (.ref 123)), (1, some (.ref 17))] [] M
  have hm := WF_m hF
  have hh := WF_h hF
  have hs := WF_s hF
  have hn := WF_n hF
  have hk3 := pow_le hm
  have hk0 := Nat.two_pow_pos (S 0 2)
  refine a_aload_n rfl dX3_leastWaiting_0 ?_
  refine a_aload_n rfl dX3_leastWaiting_1 ?_
  refine n_iconst 0 rfl dX3_leastWaiting_2 ?_
  refine n_callV (mi' := miX3_findHolders) dX3_leastWaiting_3 lX3_101 mX3_findHolders (by decide) rfl rfl rfl (c_X3_findHolders hV hF (by omega) (fun M_3 hol hf_3 => ?_) d) rfl rfl (by omega) (by decide) (Nat.le_of_ble_eq_true rfl)
  show AW _ _ _ _ _ _ _
  have hV_3 : VX 17 M_3 S := VX_fr hV (fun k j a b => (hf_3 k j (by omega)).1)
  refine n_iconst 0 rfl dX3_leastWaiting_6 ?_
  refine a_istore_n (by decide) rfl dX3_leastWaiting_7 ?_
  have loop_8 : ∀ i, i ≤ S 0 2 → ∀ M1, ((∀ j, j < i → (M1).1 126 j = nI (ldN S j)) ∧ (∀ j, j < i → (M1).1 127 j = nI (wgN S j)) ∧ fr (fun k _ => 126 ≤ k ∧ k ≤ 127) M_3 M1 ∧ ∀ j, j < i → (loadN S j).isSome = true) → AW miX3_leastWaiting (d + 2) (mxA Q) 8 [(0, some (.ref 123)), (1, some (.ref 17)), (2, some (.int (nI i)))] [] M1 := by
    refine up (W := fun i => ∀ M1, ((∀ j, j < i → (M1).1 126 j = nI (ldN S j)) ∧ (∀ j, j < i → (M1).1 127 j = nI (wgN S j)) ∧ fr (fun k _ => 126 ≤ k ∧ k ≤ 127) M_3 M1 ∧ ∀ j, j < i → (loadN S j).isSome = true) → AW miX3_leastWaiting (d + 2) (mxA Q) 8 [(0, some (.ref 123)), (1, some (.ref 17)), (2, some (.int (nI i)))] [] M1) (S 0 2) (fun M1 hI_8 => ?_) (fun i hi_8 ih_8 M1 hI_8 => ?_)
    · have hV_8 : VX 17 M1 S := VX_fr hV_3 (fun k j a b => (hI_8.2.2.1 k j (by omega)).1)
      refine a_iload_n rfl dX3_leastWaiting_8 ?_
      refine a_aload_n rfl dX3_leastWaiting_9 ?_
      refine g_i (VX_2 hV_8) (by decide) rfl fX3_98 rfl dX3_leastWaiting_10 ?_
      refine n_icmp_ge 56 (by omega) (by omega) dX3_leastWaiting_13 (by decide) (fun h_13 => ?_) (fun h_13 => absurd h_13 (by omega))
      have hlw : lwP S M1 := ⟨fun k hk => hI_8.2.2.1.i (hol k hk) (by omega), hI_8.1, hI_8.2.1⟩
      have hoa : oaN S = true := alN_bit.mpr hI_8.2.2.2
      refine n_iconst 1 rfl dX3_leastWaiting_56 ?_
      refine a_aload_n rfl dX3_leastWaiting_57 ?_
      refine g_i (VX_2 hV_8) (by decide) rfl fX3_98 rfl dX3_leastWaiting_58 ?_
      refine n_bit (by omega) dX3_leastWaiting_61 ?_
      refine n_iconst 1 rfl dX3_leastWaiting_62 ?_
      refine n_isub (by omega) dX3_leastWaiting_63 ?_
      refine a_istore_n (by decide) rfl dX3_leastWaiting_64 ?_
      refine a_aload_n rfl dX3_leastWaiting_65 ?_
      refine a_geta dX3_leastWaiting_66 fX3_24 (by decide) rfl rfl ?_
      refine a_iload_n rfl dX3_leastWaiting_69 ?_
      refine n_iconst 0 rfl dX3_leastWaiting_70 ?_
      refine n_iast (by omega) (by decide) rfl (by decide) dX3_leastWaiting_71 ?_
      refine a_iload_n rfl dX3_leastWaiting_72 ?_
      refine n_iconst 1 rfl dX3_leastWaiting_73 ?_
      refine a_isub dX3_leastWaiting_74 ?_
      refine a_istore_n (by decide) rfl dX3_leastWaiting_75 ?_
      have loop_76 : ∀ i, i ≤ 2 ^ S 0 2 - 1 → ∀ M2, (wtP S (2 ^ S 0 2 - 1 - i) M2 ∧ fr (fun k _ => k = 128) M1 M2) → AW miX3_leastWaiting (d + 2) (mxA Q) 76 [(0, some (.ref 123)), (1, some (.ref 17)), (2, some (.int (nI ((2 ^ (S 0 2)) - 1)))), (3, some (.int ((nI (2 ^ S 0 2 - 1) - nI (i + 1)))))] [] M2 := by
        refine up (W := fun i => ∀ M2, (wtP S (2 ^ S 0 2 - 1 - i) M2 ∧ fr (fun k _ => k = 128) M1 M2) → AW miX3_leastWaiting (d + 2) (mxA Q) 76 [(0, some (.ref 123)), (1, some (.ref 17)), (2, some (.int (nI ((2 ^ (S 0 2)) - 1)))), (3, some (.int ((nI (2 ^ S 0 2 - 1) - nI (i + 1)))))] [] M2) (2 ^ S 0 2 - 1) (fun M2 hI_76 => ?_) (fun i hi_76 ih_76 M2 hI_76 => ?_)
        · have hV_76 : VX 17 M2 S := VX_fr hV_8 (fun k j a b => (hI_76.2 k j (by omega)).1)
          have hdc : (nI (2 ^ S 0 2 - 1) - nI (2 ^ S 0 2 - 1 + 1)).toInt = ((2 ^ S 0 2 - 1 : Nat) : Int) - ((2 ^ S 0 2 - 1 + 1 : Nat) : Int) := pk_sub_toInt (by omega) (by omega)
          refine a_iload_n rfl dX3_leastWaiting_76 ?_
          refine r_if_lt 135 dX3_leastWaiting_77 (by decide) (fun h_77 => ?_) (fun h_77 => absurd h_77 (by omega))
          have hw0 : M2.1 128 0 = nI (wF S (S 0 2) 0) := by rw [← WW_0]; exact hI_76.1 0 (by omega) hk0
          have hwf0 : wF S (S 0 2) 0 ≤ 1000000 := wF_far S (S 0 2) 0
          refine a_aload_n rfl dX3_leastWaiting_135 ?_
          refine a_geta dX3_leastWaiting_136 fX3_24 (by decide) rfl rfl ?_
          refine n_iconst 0 rfl dX3_leastWaiting_139 ?_
          refine v_iald (by omega) hw0 (by decide) rfl (by decide) dX3_leastWaiting_140 ?_
          refine a_ldc kX3_120 dX3_leastWaiting_141 ?_
          refine a_eqi (y := nI 1000000) rfl ?_
          refine n_icmp_ge 155 (by omega) (by omega) dX3_leastWaiting_143 (by decide) (fun h_143 => ?_) (fun h_143 => ?_)
          · refine a_iconst (-1) rfl dX3_leastWaiting_155 ?_
            refine a_iret dX3_leastWaiting_156 rfl ?_
            exact h0 (by unfold owN; rw [if_neg (fun q => by have := q.2; unfold FAR at this; omega)]) _ ((hf_3.mo (fun k j h => by omega)).t ((hI_8.2.2.1.mo (fun k j h => by omega)).t (hI_76.2.mo (fun k j h => by omega))))
          · refine a_aload_n rfl dX3_leastWaiting_146 ?_
            refine a_geta dX3_leastWaiting_147 fX3_24 (by decide) rfl rfl ?_
            refine n_iconst 0 rfl dX3_leastWaiting_150 ?_
            refine v_iald (by omega) hw0 (by decide) rfl (by decide) dX3_leastWaiting_151 ?_
            refine a_goto 156 dX3_leastWaiting_152 (by decide) ?_
            refine a_iret dX3_leastWaiting_156 rfl ?_
            exact h1 _ ⟨fun k hk => hI_76.2.i (hlw.1 k hk) (by omega), fun k hk => hI_76.2.i (hlw.2.1 k hk) (by omega), fun k hk => hI_76.2.i (hlw.2.2 k hk) (by omega)⟩ (fun s _ hs => hI_76.1 s (by omega) hs) hoa (by unfold FAR; omega) ((hf_3.mo (fun k j h => by omega)).t ((hI_8.2.2.1.mo (fun k j h => by omega)).t (hI_76.2.mo (fun k j h => by omega))))
        · have hV_76 : VX 17 M2 S := VX_fr hV_8 (fun k j a b => (hI_76.2 k j (by omega)).1)
          have hdc : (nI (2 ^ S 0 2 - 1) - nI (i + 1)).toInt = ((2 ^ S 0 2 - 1 : Nat) : Int) - ((i + 1 : Nat) : Int) := pk_sub_toInt (by omega) (by omega)
          refine a_iload_n rfl dX3_leastWaiting_76 ?_
          refine r_if_lt 135 dX3_leastWaiting_77 (by decide) (fun h_77 => absurd h_77 (by omega)) (fun h_77 => ?_)
          rw [pk_sub (show i + 1 ≤ 2 ^ S 0 2 - 1 by omega)]
          refine a_aload_n rfl dX3_leastWaiting_80 ?_
          refine a_geta dX3_leastWaiting_81 fX3_24 (by decide) rfl rfl ?_
          refine a_iload_n rfl dX3_leastWaiting_84 ?_
          refine a_ldc kX3_120 dX3_leastWaiting_85 ?_
          refine a_eqi (y := nI 1000000) rfl ?_
          refine n_iast (by omega) (by decide) rfl (by decide) dX3_leastWaiting_87 ?_
          refine n_iconst 0 rfl dX3_leastWaiting_88 ?_
          refine a_istore (by decide) rfl dX3_leastWaiting_89 ?_
          have loop_91 : ∀ j, j ≤ S 0 2 → ∀ M3, ((M3).1 128 (2 ^ S 0 2 - 1 - (i + 1)) = nI (mnN (fun k => stN S (2 ^ S 0 2 - 1 - (i + 1)) k (WW S ((2 ^ S 0 2 - 1 - (i + 1)) ||| 2 ^ k))) j) ∧ fr (fun k j => k = 128 ∧ j = 2 ^ S 0 2 - 1 - (i + 1)) M2 M3) → AW miX3_leastWaiting (d + 2) (mxA Q) 91 [(0, some (.ref 123)), (1, some (.ref 17)), (2, some (.int (nI ((2 ^ (S 0 2)) - 1)))), (3, some (.int (nI (2 ^ S 0 2 - 1 - (i + 1))))), (4, some (.int (nI j)))] [] M3 := by
            refine up (W := fun j => ∀ M3, ((M3).1 128 (2 ^ S 0 2 - 1 - (i + 1)) = nI (mnN (fun k => stN S (2 ^ S 0 2 - 1 - (i + 1)) k (WW S ((2 ^ S 0 2 - 1 - (i + 1)) ||| 2 ^ k))) j) ∧ fr (fun k j => k = 128 ∧ j = 2 ^ S 0 2 - 1 - (i + 1)) M2 M3) → AW miX3_leastWaiting (d + 2) (mxA Q) 91 [(0, some (.ref 123)), (1, some (.ref 17)), (2, some (.int (nI ((2 ^ (S 0 2)) - 1)))), (3, some (.int (nI (2 ^ S 0 2 - 1 - (i + 1))))), (4, some (.int (nI j)))] [] M3) (S 0 2) (fun M3 hI_91 => ?_) (fun j hi_91 ih_91 M3 hI_91 => ?_)
            · have hV_91 : VX 17 M3 S := VX_fr hV_76 (fun k j a b => (hI_91.2 k j (by omega)).1)
              refine a_iload rfl dX3_leastWaiting_91 ?_
              refine a_aload_n rfl dX3_leastWaiting_93 ?_
              refine g_i (VX_2 hV_91) (by decide) rfl fX3_98 rfl dX3_leastWaiting_94 ?_
              refine n_icmp_ge 129 (by omega) (by omega) dX3_leastWaiting_97 (by decide) (fun h_97 => ?_) (fun h_97 => absurd h_97 (by omega))
              refine a_iinc rfl (by decide) rfl dX3_leastWaiting_129 ?_
              refine a_goto 76 dX3_leastWaiting_132 (by decide) ?_
              rw [dec_n (show i + 1 ≤ 2 ^ S 0 2 - 1 by omega)]
              exact a_bk (ih_76 _ ⟨by rw [show 2 ^ S 0 2 - 1 - (i + 1) = 2 ^ S 0 2 - 1 - (i + 1) from rfl]; exact wt_in (by rw [show 2 ^ S 0 2 - 1 - (i + 1) + 1 = 2 ^ S 0 2 - 1 - i by omega]; exact hI_76.1) hI_91.2 (by rw [← WW_st (show 2 ^ S 0 2 - 1 - (i + 1) < 2 ^ S 0 2 - 1 by omega)]; exact hI_91.1), hI_76.2.t (hI_91.2.mo (fun k j h => h.1))⟩) ⟨rfl, rfl, rfl, rfl, trivial⟩
            · have hV_91 : VX 17 M3 S := VX_fr hV_76 (fun k j a b => (hI_91.2 k j (by omega)).1)
              have hlw2 : lwP S M3 := ⟨fun k hk => hI_91.2.i (hI_76.2.i (hlw.1 k hk) (by omega)) (by omega), fun k hk => hI_91.2.i (hI_76.2.i (hlw.2.1 k hk) (by omega)) (by omega), fun k hk => hI_91.2.i (hI_76.2.i (hlw.2.2 k hk) (by omega)) (by omega)⟩
              refine a_iload rfl dX3_leastWaiting_91 ?_
              refine a_aload_n rfl dX3_leastWaiting_93 ?_
              refine g_i (VX_2 hV_91) (by decide) rfl fX3_98 rfl dX3_leastWaiting_94 ?_
              refine n_icmp_ge 129 (by omega) (by omega) dX3_leastWaiting_97 (by decide) (fun h_97 => absurd h_97 (by omega)) (fun h_97 => ?_)
              refine a_aload_n rfl dX3_leastWaiting_100 ?_
              refine a_geta dX3_leastWaiting_101 fX3_24 (by decide) rfl rfl ?_
              refine a_iload_n rfl dX3_leastWaiting_104 ?_
              refine a_aload_n rfl dX3_leastWaiting_105 ?_
              refine a_geta dX3_leastWaiting_106 fX3_24 (by decide) rfl rfl ?_
              refine a_iload_n rfl dX3_leastWaiting_109 ?_
              refine v_iald (by omega) hI_91.1 (by decide) rfl (by decide) dX3_leastWaiting_110 ?_
              refine a_aload_n rfl dX3_leastWaiting_111 ?_
              refine a_aload_n rfl dX3_leastWaiting_112 ?_
              refine a_iload_n rfl dX3_leastWaiting_113 ?_
              refine a_iload rfl dX3_leastWaiting_114 ?_
              refine n_callV (mi' := miX3_waitsWith) dX3_leastWaiting_116 lX3_121 mX3_waitsWith (by decide) rfl rfl rfl (c_X3_waitsWith hV_91 hF hlw2 (w := WW S ((2 ^ S 0 2 - 1 - (i + 1)) ||| 2 ^ j)) (by omega) (by omega) (fun hb => hI_91.2.i (hI_76.1 _ (by have := or_gt hb; omega) (or_lt2 (by omega) (by omega))) (by have := or_gt hb; omega)) (WW_far _ _) ?_ d) rfl rfl (by omega) (by decide) (Nat.le_of_ble_eq_true rfl)
              show AW _ _ _ _ _ _ _
              have hmf : mnN (fun k => stN S (2 ^ S 0 2 - 1 - (i + 1)) k (WW S ((2 ^ S 0 2 - 1 - (i + 1)) ||| 2 ^ k))) j ≤ 1000000 := mn_far _ _
              have hsf : stN S (2 ^ S 0 2 - 1 - (i + 1)) j (WW S ((2 ^ S 0 2 - 1 - (i + 1)) ||| 2 ^ j)) ≤ 1000000 := st_far _ _ _
              refine n_min (by omega) (by omega) dX3_leastWaiting_119 lX3_73 (Nat.le_of_ble_eq_true rfl) ?_
              refine n_iast (by omega) (by decide) rfl (by decide) dX3_leastWaiting_122 ?_
              refine n_iinc (c := 1) rfl rfl (by decide) rfl dX3_leastWaiting_123 ?_
              refine a_goto 91 dX3_leastWaiting_126 (by decide) ?_
              exact a_bk (ih_91 _ ⟨siS, hI_91.2.si ⟨rfl, rfl⟩⟩) ⟨rfl, rfl, rfl, rfl, rfl, trivial⟩
          exact a_bk (loop_91 0 (by omega) _ ⟨siS, fr.r.si ⟨rfl, rfl⟩⟩) ⟨rfl, rfl, rfl, rfl, rfl, trivial⟩
      exact a_bk (loop_76 0 (by omega) _ ⟨fun s h1 h2 => by
        have e : s = 2 ^ S 0 2 - 1 := by omega
        subst e; rw [siS, WW_all], fr.r.si rfl⟩) ⟨rfl, rfl, rfl, rfl, trivial⟩
    · have hV_8 : VX 17 M1 S := VX_fr hV_3 (fun k j a b => (hI_8.2.2.1 k j (by omega)).1)
      have hwl := wg_le hF i
      refine a_iload_n rfl dX3_leastWaiting_8 ?_
      refine a_aload_n rfl dX3_leastWaiting_9 ?_
      refine g_i (VX_2 hV_8) (by decide) rfl fX3_98 rfl dX3_leastWaiting_10 ?_
      refine n_icmp_ge 56 (by omega) (by omega) dX3_leastWaiting_13 (by decide) (fun h_13 => absurd h_13 (by omega)) (fun h_13 => ?_)
      refine a_aload_n rfl dX3_leastWaiting_16 ?_
      refine a_geta dX3_leastWaiting_17 fX3_18 (by decide) rfl rfl ?_
      refine a_iload_n rfl dX3_leastWaiting_20 ?_
      refine a_aload_n rfl dX3_leastWaiting_21 ?_
      refine a_iload_n rfl dX3_leastWaiting_22 ?_
      refine n_callV (mi' := miX6_loadOf) dX3_leastWaiting_23 lX3_114 mX6_loadOf (by decide) rfl rfl rfl (c_X6_loadOf isW17 hV_8 hF (by omega) (fun v_23 hl_23 => ?_) (fun hl_23 => ?_) d) rfl rfl (by omega) (by decide) (Nat.le_of_ble_eq_true rfl)
      · show AW _ _ _ _ _ _ _
        have hv_23 : v_23 ≤ 200 := loadN_le (WF_clear hF i hi_8) (WF_pace hF i hi_8) hl_23
        refine n_iast (by omega) (by decide) rfl (by decide) dX3_leastWaiting_26 ?_
        refine a_aload_n rfl dX3_leastWaiting_27 ?_
        refine a_geta dX3_leastWaiting_28 fX3_21 (by decide) rfl rfl ?_
        refine a_iload_n rfl dX3_leastWaiting_31 ?_
        refine a_aload_n rfl dX3_leastWaiting_32 ?_
        refine a_iload_n rfl dX3_leastWaiting_33 ?_
        refine n_callS (mi' := miX3_weightFor) dX3_leastWaiting_34 lX3_117 mX3_weightFor (c_X3_weightFor (VX_fr hV_8 (fun k j a b => siN rfl (by omega))) hF (by omega) ?_ d) rfl rfl (by omega) (by decide) (Nat.le_of_ble_eq_true rfl)
        show AW _ _ _ _ _ _ _
        refine n_iast (by omega) (by decide) rfl (by decide) dX3_leastWaiting_37 ?_
        refine a_aload_n rfl dX3_leastWaiting_38 ?_
        refine a_geta dX3_leastWaiting_39 fX3_18 (by decide) rfl rfl ?_
        refine a_iload_n rfl dX3_leastWaiting_42 ?_
        refine n_iald (by omega) (by decide) rfl (by decide) dX3_leastWaiting_43 ?_
        refine a_eqi (y := nI v_23) (siN siS (by omega)) ?_
        refine a_iconst (-1) rfl dX3_leastWaiting_44 ?_
        refine s_icmp_ne 50 (by omega) dX3_leastWaiting_45 (by decide) (fun h_45 => ?_) (fun h_45 => absurd h_45 (by rw [show (-1 : Int32).toInt = -1 by decide]; omega))
        refine n_iinc (c := 1) rfl rfl (by decide) rfl dX3_leastWaiting_50 ?_
        refine a_goto 8 dX3_leastWaiting_53 (by decide) ?_
        exact a_bk (ih_8 _ ⟨fun j hj => siN (st_all2 hI_8.1 (by rw [ld_some hl_23]) j hj) (by omega), st_all2 (fun j hj => siN (hI_8.2.1 j hj) (by omega)) rfl, (hI_8.2.2.1.si (by omega)).si (by omega), fun j hj => by
            rcases (show j < i ∨ j = i by omega) with h | h
            · exact hI_8.2.2.2 j h
            · subst h; rw [hl_23]; rfl⟩) ⟨rfl, rfl, rfl, trivial⟩
      · show AW _ _ _ _ _ _ _
        refine n_iast (by omega) (by decide) rfl (by decide) dX3_leastWaiting_26 ?_
        refine a_aload_n rfl dX3_leastWaiting_27 ?_
        refine a_geta dX3_leastWaiting_28 fX3_21 (by decide) rfl rfl ?_
        refine a_iload_n rfl dX3_leastWaiting_31 ?_
        refine a_aload_n rfl dX3_leastWaiting_32 ?_
        refine a_iload_n rfl dX3_leastWaiting_33 ?_
        refine n_callS (mi' := miX3_weightFor) dX3_leastWaiting_34 lX3_117 mX3_weightFor (c_X3_weightFor (VX_fr hV_8 (fun k j a b => siN rfl (by omega))) hF (by omega) ?_ d) rfl rfl (by omega) (by decide) (Nat.le_of_ble_eq_true rfl)
        show AW _ _ _ _ _ _ _
        refine n_iast (by omega) (by decide) rfl (by decide) dX3_leastWaiting_37 ?_
        refine a_aload_n rfl dX3_leastWaiting_38 ?_
        refine a_geta dX3_leastWaiting_39 fX3_18 (by decide) rfl rfl ?_
        refine a_iload_n rfl dX3_leastWaiting_42 ?_
        refine n_iald (by omega) (by decide) rfl (by decide) dX3_leastWaiting_43 ?_
        refine a_eqi (y := -1) (siN siS (by omega)) ?_
        refine a_iconst (-1) rfl dX3_leastWaiting_44 ?_
        refine u_icmp_ne 50 dX3_leastWaiting_45 (by decide) (fun h_45 => absurd rfl h_45) (fun h_45 => ?_)
        refine a_iconst (-1) rfl dX3_leastWaiting_48 ?_
        refine a_iret dX3_leastWaiting_49 rfl ?_
        exact h0 (or_no hi_8 hl_23) _ ((hf_3.mo (fun k j h => by omega)).t ((((hI_8.2.2.1.si (by omega)).si (by omega))).mo (fun k j h => by omega)))
  exact a_bk (loop_8 0 (by omega) _ ⟨fun j hj => absurd hj (by omega), fun j hj => absurd hj (by omega), fr.r, fun j hj => absurd hj (by omega)⟩) ⟨rfl, rfl, rfl, trivial⟩

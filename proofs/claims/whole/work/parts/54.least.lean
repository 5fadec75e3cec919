/-- of the sets below n with ok: the first of the smallest -/
def lsN (ok : Nat → Bool) : Nat → Option Nat
  | 0 => none
  | n + 1 => match lsN ok n with
    | none => if ok n then some n else none
    | some b => if decide (szN n < szN b) && ok n then some n else some b
theorem ls_n1 {ok : Nat → Bool} {n : Nat} (h : lsN ok n = none) (h2 : ok n = true) : lsN ok (n + 1) = some n := by simp only [lsN, h, h2]; rfl
theorem ls_n0 {ok : Nat → Bool} {n : Nat} (h : lsN ok n = none) (h2 : ok n = false) : lsN ok (n + 1) = none := by simp only [lsN, h, h2]; rfl
theorem ls_s1 {ok : Nat → Bool} {n b : Nat} (h : lsN ok n = some b) (h3 : szN n < szN b) (h2 : ok n = true) : lsN ok (n + 1) = some n := by simp only [lsN, h, h2, h3, decide_true]; rfl
theorem ls_s0 {ok : Nat → Bool} {n b : Nat} (h : lsN ok n = some b) (h3 : ¬ szN n < szN b) : lsN ok (n + 1) = some b := by simp only [lsN, h, h3, decide_false]; rfl
theorem ls_sf {ok : Nat → Bool} {n b : Nat} (h : lsN ok n = some b) (h2 : ok n = false) : lsN ok (n + 1) = some b := by simp only [lsN, h, h2, Bool.and_false]; rfl
theorem ls_lt {ok : Nat → Bool} {b : Nat} : ∀ {n : Nat}, lsN ok n = some b → b < n
  | 0, h => by cases h
  | n + 1, h => by
    cases e : lsN ok n with
    | none =>
      simp only [lsN, e] at h
      split at h
      · cases h; omega
      · cases h
    | some c =>
      have := ls_lt e
      simp only [lsN, e] at h
      split at h
      · cases h; omega
      · cases h; omega
/-- how CLEAR the matters are when the first i of a set of NEWS are BROUGHT -/
def rowN (S : ST) (set : Nat) : Nat → Nat → Nat
  | 0 => S 2
  | i + 1 => fun k => if set.testBit i = true ∧ k = S 9 i then min 100 (rowN S set i k + S 10 i) else rowN S set i k
theorem rowN_le {S : ST} {set m : Nat} (h : ∀ j, j < m → S 2 j ≤ 100) : ∀ i j, j < m → rowN S set i j ≤ 100
  | 0, j, hj => h j hj
  | i + 1, j, hj => by
    show (if _ then _ else _) ≤ 100
    split
    · exact Nat.min_le_left _ _
    · exact rowN_le h i j hj
def cbB (S : ST) (set n : Nat) : Bool := !set.testBit n || (S 11 n == 0 && decide (S 2 (S 9 n) < 100))
def dnB (S : ST) (sit set p : Nat) : Bool := !sit.testBit p || hgt (S 6 p) (rowN S set (S 0 5) (S 7 p)) == 0
def enB (S : ST) (sit set : Nat) : Bool := alN (cbB S set) (S 0 5) && alN (dnB S sit set) (S 0 4)
def leN (S : ST) (sit : Nat) : Option Nat := lsN (enB S sit) (2 ^ S 0 5)
theorem alN_bit {p : Nat → Bool} : ∀ {n : Nat}, alN p n = true ↔ ∀ j, j < n → p j = true
  | 0 => ⟨fun _ j hj => absurd hj (by omega), fun _ => rfl⟩
  | n + 1 => by
    unfold alN
    rw [Bool.and_eq_true, alN_bit (n := n)]
    constructor
    · intro ⟨a, b⟩ j hj
      rcases (show j < n ∨ j = n by omega) with h | h
      · exact a j h
      · subst h; exact b
    · exact fun h => ⟨fun j hj => h j (by omega), h n (by omega)⟩
theorem andc_0 {a m : Nat} {q : Nat → Bool} (ha : a < 2 ^ m) : a ^^^ (a &&& bsN q m) = 0 ↔ alN (fun p => !a.testBit p || q p) m = true := by
  rw [alN_bit]
  constructor
  · intro h j hj
    have := congrArg (fun z => Nat.testBit z j) h
    simp only [Nat.testBit_xor, Nat.testBit_and, Nat.zero_testBit, bsN_bit] at this
    cases e : a.testBit j <;> cases e2 : q j <;> simp [e, e2, hj] at this ⊢
  · intro h
    apply Nat.eq_of_testBit_eq
    intro j
    simp only [Nat.testBit_xor, Nat.testBit_and, Nat.zero_testBit, bsN_bit]
    by_cases hj : j < m
    · have := h j hj
      cases e : a.testBit j <;> cases e2 : q j <;> simp [e, e2, hj] at this ⊢
    · rw [Nat.testBit_lt_two_pow (Nat.lt_of_lt_of_le ha (Nat.pow_le_pow_right (by decide) (by omega)))]; simp
theorem row_t {S : ST} {set i k : Nat} (h : set.testBit i = true) (hk : k = S 9 i) : rowN S set (i + 1) k = min 100 (rowN S set i k + S 10 i) := if_pos ⟨h, hk⟩
theorem row_f {S : ST} {set i k : Nat} (h : ¬ (set.testBit i = true ∧ k = S 9 i)) : rowN S set (i + 1) k = rowN S set i k := if_neg h
/-- a step of the row's laying, in either memory -/
theorem row_step {S : ST} {set i A : Nat} {M : Mm} (h : ∀ k, k < S 0 2 → M.1 A k = nI (rowN S set i k)) (hb : set.testBit i = true) : ∀ k, k < S 0 2 → (siM M A (S 9 i) (nI (min 100 (rowN S set i (S 9 i) + S 10 i)))).1 A k = nI (rowN S set (i + 1) k) := by
  intro k hk
  by_cases e : k = S 9 i
  · subst e; rw [siS, row_t hb rfl]
  · rw [siN (h k hk) (by omega), row_f (fun z => e z.2)]
theorem row_skip {S : ST} {set i A : Nat} {M : Mm} (h : ∀ k, k < S 0 2 → M.1 A k = nI (rowN S set i k)) (hb : set.testBit i = false) : ∀ k, k < S 0 2 → M.1 A k = nI (rowN S set (i + 1) k) := by
  intro k hk
  rw [h k hk, row_f (fun z => by rw [hb] at z; exact absurd z.1 Bool.false_ne_true)]

set_option maxRecDepth 100000 in
set_option maxHeartbeats 800000 in
theorem c_X3_isIn {M : Mm} {a k : Nat} (ha : a < 2 ^ 31) (hk : k < 32) {Q : Option Value → Mm → Prop} (h1 : a.testBit k = true → Q (some (.int (nI 1))) M) (h0 : a.testBit k = false → Q (some (.int (nI 0))) M) (d : Nat) : AMt miX3_isIn (d) [.int (nI a), .int (nI k)] M Q := by
  refine AMt.of (by decide) (Nat.le_of_ble_eq_true rfl) ?_
  show AW miX3_isIn (d) (mxA Q) 0 [(0, some (.int (nI a))), (1, some (.int (nI k)))] [] M
  have hb : (if a.testBit k then 1 else 0) < 2 := by split <;> omega
  refine a_iload_n rfl dX3_isIn_0 ?_
  refine a_iload_n rfl dX3_isIn_1 ?_
  refine n_shr (by omega) (by omega) dX3_isIn_2 ?_
  refine n_iconst 1 rfl dX3_isIn_3 ?_
  refine n_has dX3_isIn_4 ?_
  refine n_iconst 1 rfl dX3_isIn_5 ?_
  refine n_icmp_ne 13 (by omega) (by omega) dX3_isIn_6 (by decide) (fun h_6 => ?_) (fun h_6 => ?_)
  · refine n_iconst 0 rfl dX3_isIn_13 ?_
    refine a_zret dX3_isIn_14 rfl (Or.inl rfl) ?_
    exact h0 (by cases e : a.testBit k <;> simp [e] at h_6 ⊢)
  · refine n_iconst 1 rfl dX3_isIn_9 ?_
    refine a_goto 14 dX3_isIn_10 (by decide) ?_
    refine a_zret dX3_isIn_14 rfl (Or.inr rfl) ?_
    exact h1 (by cases e : a.testBit k <;> simp [e] at h_6 ⊢)

set_option maxRecDepth 100000 in
set_option maxHeartbeats 800000 in
theorem c_X3_canAllCome {M : Mm} {S : ST} (hV : VX 17 M S) (hF : WF S) {set : Nat} (hset : set < 256) {Q : Option Value → Mm → Prop} (h1 : alN (cbB S set) (S 0 5) = true → Q (some (.int (nI 1))) M) (h0 : alN (cbB S set) (S 0 5) = false → Q (some (.int (nI 0))) M) (d : Nat) : AMt miX3_canAllCome (d + 2) [.ref 17, .int (nI set)] M Q := by
  refine AMt.of (by decide) (Nat.le_of_ble_eq_true rfl) ?_
  show AW miX3_canAllCome (d + 2) (mxA Q) 0 [(0, some (.ref 17)), (1, some (.int (nI set)))] [] M
  have hm := WF_m hF
  have hh := WF_h hF
  have hs := WF_s hF
  have hn := WF_n hF
  refine n_iconst 0 rfl dX3_canAllCome_0 ?_
  refine a_istore_n (by decide) rfl dX3_canAllCome_1 ?_
  have loop_2 : ∀ i, i ≤ S 0 5 → (alN (cbB S set) i = true) → AW miX3_canAllCome (d + 2) (mxA Q) 2 [(0, some (.ref 17)), (1, some (.int (nI set))), (2, some (.int (nI i)))] [] M := by
    refine up (W := fun i => (alN (cbB S set) i = true) → AW miX3_canAllCome (d + 2) (mxA Q) 2 [(0, some (.ref 17)), (1, some (.int (nI set))), (2, some (.int (nI i)))] [] M) (S 0 5) (fun hI_2 => ?_) (fun i hi_2 ih_2 hI_2 => ?_)
    · refine a_iload_n rfl dX3_canAllCome_2 ?_
      refine a_aload_n rfl dX3_canAllCome_3 ?_
      refine g_i (VX_5 hV) (by decide) rfl fX3_30 rfl dX3_canAllCome_4 ?_
      refine n_icmp_ge 34 (by omega) (by omega) dX3_canAllCome_7 (by decide) (fun h_7 => ?_) (fun h_7 => absurd h_7 (by omega))
      refine n_iconst 1 rfl dX3_canAllCome_34 ?_
      refine a_zret dX3_canAllCome_35 rfl (Or.inr rfl) ?_
      exact h1 hI_2
    · refine a_iload_n rfl dX3_canAllCome_2 ?_
      refine a_aload_n rfl dX3_canAllCome_3 ?_
      refine g_i (VX_5 hV) (by decide) rfl fX3_30 rfl dX3_canAllCome_4 ?_
      refine n_icmp_ge 34 (by omega) (by omega) dX3_canAllCome_7 (by decide) (fun h_7 => absurd h_7 (by omega)) (fun h_7 => ?_)
      refine a_iload_n rfl dX3_canAllCome_10 ?_
      refine a_iload_n rfl dX3_canAllCome_11 ?_
      refine n_callS (mi' := miX3_isIn) dX3_canAllCome_12 lX3_50 mX3_isIn (c_X3_isIn (by omega) (by omega) (fun h_12 => ?_) (fun h_12 => ?_) d) rfl rfl (by omega) (by decide) (Nat.le_of_ble_eq_true rfl)
      · show AW _ _ _ _ _ _ _
        refine n_if_eq 28 (by decide) dX3_canAllCome_15 (by decide) (fun h => absurd h (by decide)) (fun _ => ?_)
        refine a_aload_n rfl dX3_canAllCome_18 ?_
        refine a_iload_n rfl dX3_canAllCome_19 ?_
        refine n_callV (mi' := miX6_canCome) dX3_canAllCome_20 lX3_54 mX6_canCome (by decide) rfl rfl rfl (c_X6_canCome isW17 hV hF (by omega) (fun hx_20 hb_20 hc_20 => ?_) (fun h_20 => ?_) d) rfl rfl (by omega) (by decide) (Nat.le_of_ble_eq_true rfl)
        · show AW _ _ _ _ _ _ _
          have hb_20 := (came_bit hF (by omega)).mp hb_20
          refine n_if_ne 28 (by decide) dX3_canAllCome_23 (by decide) (fun _ => ?_) (fun h => absurd h (by decide))
          refine n_iinc (c := 1) rfl rfl (by decide) rfl dX3_canAllCome_28 ?_
          refine a_goto 2 dX3_canAllCome_31 (by decide) ?_
          exact a_bk (ih_2 (al_step hI_2 (by unfold cbB; simp [hb_20, hc_20]))) ⟨rfl, rfl, rfl, trivial⟩
        · show AW _ _ _ _ _ _ _
          rw [came_bit hF (by omega)] at h_20
          refine n_if_ne 28 (by decide) dX3_canAllCome_23 (by decide) (fun h => absurd h (by decide)) (fun _ => ?_)
          refine n_iconst 0 rfl dX3_canAllCome_26 ?_
          refine a_zret dX3_canAllCome_27 rfl (Or.inl rfl) ?_
          exact h0 (al_no (i := i) (by unfold cbB; rw [h_12]; simp; intro z; have := WF_came hF i hi_2; omega) hi_2)
      · show AW _ _ _ _ _ _ _
        refine n_if_eq 28 (by decide) dX3_canAllCome_15 (by decide) (fun _ => ?_) (fun h => absurd h (by decide))
        refine n_iinc (c := 1) rfl rfl (by decide) rfl dX3_canAllCome_28 ?_
        refine a_goto 2 dX3_canAllCome_31 (by decide) ?_
        exact a_bk (ih_2 (al_step hI_2 (by unfold cbB; rw [h_12]; rfl))) ⟨rfl, rfl, rfl, trivial⟩
  exact a_bk (loop_2 0 (by omega) rfl) ⟨rfl, rfl, rfl, trivial⟩

set_option maxRecDepth 100000 in
set_option maxHeartbeats 800000 in
theorem c_X3_downBy {M : Mm} {S : ST} (hV : VX 17 M S) (hF : WF S) {set : Nat} (hset : set < 256) {Q : Option Value → Mm → Prop} (hQ : ∀ M', fr (fun k _ => k = 124) M M' → Q (some (.int (nI (bsN (fun p => hgt (S 6 p) (rowN S set (S 0 5) (S 7 p)) == 0) (S 0 4))))) M') (d : Nat) : AMt miX3_downBy (d + 2) [.ref 123, .ref 17, .int (nI set)] M Q := by
  refine AMt.of (by decide) (Nat.le_of_ble_eq_true rfl) ?_
  show AW miX3_downBy (d + 2) (mxA Q) 0 [(0, some (.ref 123)), (1, some (.ref 17)), (2, some (.int (nI set)))] [] M
  have hm := WF_m hF
  have hh := WF_h hF
  have hs := WF_s hF
  have hn := WF_n hF
  refine a_aload_n rfl dX3_downBy_0 ?_
  refine a_geta dX3_downBy_1 fX3_58 (by decide) rfl rfl ?_
  refine n_iconst 0 rfl dX3_downBy_4 ?_
  refine a_aload_n rfl dX3_downBy_5 ?_
  refine a_geta dX3_downBy_6 fX3_9 (by decide) rfl rfl ?_
  refine n_iconst 0 rfl dX3_downBy_9 ?_
  refine n_bipush 6 rfl dX3_downBy_10 ?_
  refine n_copyi (by decide) rfl (by decide) rfl (by omega) (by omega) (by decide) (by decide) (Nat.le_of_ble_eq_true rfl) dX3_downBy_12 lX3_61 ?_
  refine n_iconst 0 rfl dX3_downBy_15 ?_
  refine a_istore_n (by decide) rfl dX3_downBy_16 ?_
  have loop_17 : ∀ i, i ≤ S 0 5 → ∀ M1, ((∀ k, k < S 0 2 → (M1).1 124 k = nI (rowN S set i k)) ∧ fr (fun k _ => k = 124) M M1) → AW miX3_downBy (d + 2) (mxA Q) 17 [(0, some (.ref 123)), (1, some (.ref 17)), (2, some (.int (nI set))), (3, some (.int (nI i)))] [] M1 := by
    refine up (W := fun i => ∀ M1, ((∀ k, k < S 0 2 → (M1).1 124 k = nI (rowN S set i k)) ∧ fr (fun k _ => k = 124) M M1) → AW miX3_downBy (d + 2) (mxA Q) 17 [(0, some (.ref 123)), (1, some (.ref 17)), (2, some (.int (nI set))), (3, some (.int (nI i)))] [] M1) (S 0 5) (fun M1 hI_17 => ?_) (fun i hi_17 ih_17 M1 hI_17 => ?_)
    · have hV_17 : VX 17 M1 S := VX_fr hV (fun k j a b => (hI_17.2 k j (by omega)).1)
      refine a_iload_n rfl dX3_downBy_17 ?_
      refine a_aload_n rfl dX3_downBy_18 ?_
      refine g_i (VX_5 hV_17) (by decide) rfl fX3_30 rfl dX3_downBy_19 ?_
      refine n_icmp_ge 73 (by omega) (by omega) dX3_downBy_22 (by decide) (fun h_22 => ?_) (fun h_22 => absurd h_22 (by omega))
      refine a_aload_n rfl dX3_downBy_73 ?_
      refine a_aload_n rfl dX3_downBy_74 ?_
      refine a_geta dX3_downBy_75 fX3_9 (by decide) rfl rfl ?_
      refine n_callV (mi' := miX6_downSet) dX3_downBy_78 lX3_79 mX6_downSet (by decide) rfl rfl rfl (c_X6_downSet isW17 hV_17 hF (f := rowN S set (S 0 5)) (by decide) rfl hI_17.1 (rowN_le (fun j hj => WF_clear hF j hj) _) ?_ d) rfl rfl (by omega) (by decide) (Nat.le_of_ble_eq_true rfl)
      show AW _ _ _ _ _ _ _
      refine a_iret dX3_downBy_81 rfl ?_
      exact hQ _ hI_17.2
    · have hV_17 : VX 17 M1 S := VX_fr hV (fun k j a b => (hI_17.2 k j (by omega)).1)
      refine a_iload_n rfl dX3_downBy_17 ?_
      refine a_aload_n rfl dX3_downBy_18 ?_
      refine g_i (VX_5 hV_17) (by decide) rfl fX3_30 rfl dX3_downBy_19 ?_
      refine n_icmp_ge 73 (by omega) (by omega) dX3_downBy_22 (by decide) (fun h_22 => absurd h_22 (by omega)) (fun h_22 => ?_)
      refine a_iload_n rfl dX3_downBy_25 ?_
      refine a_iload_n rfl dX3_downBy_26 ?_
      refine n_callS (mi' := miX3_isIn) dX3_downBy_27 lX3_50 mX3_isIn (c_X3_isIn (by omega) (by omega) (fun h_27 => ?_) (fun h_27 => ?_) d) rfl rfl (by omega) (by decide) (Nat.le_of_ble_eq_true rfl)
      · show AW _ _ _ _ _ _ _
        refine n_if_eq 67 (by decide) dX3_downBy_30 (by decide) (fun h => absurd h (by decide)) (fun _ => ?_)
        have hab := WF_about hF i hi_17
        have hsz := WF_size hF i hi_17
        have hrl := rowN_le (S := S) (set := set) (fun j hj => WF_clear hF j hj) i (S 9 i) hab
        refine a_aload_n rfl dX3_downBy_33 ?_
        refine a_geta dX3_downBy_34 fX3_67 (by decide) rfl rfl ?_
        refine a_iload_n rfl dX3_downBy_37 ?_
        refine v_iald (by omega) (VX_a11 hV_17 (by omega)) (by decide) rfl (by decide) dX3_downBy_38 ?_
        refine a_istore (by decide) rfl dX3_downBy_39 ?_
        refine a_aload_n rfl dX3_downBy_41 ?_
        refine a_geta dX3_downBy_42 fX3_9 (by decide) rfl rfl ?_
        refine a_iload rfl dX3_downBy_45 ?_
        refine n_bipush 100 rfl dX3_downBy_47 ?_
        refine a_aload_n rfl dX3_downBy_49 ?_
        refine a_geta dX3_downBy_50 fX3_9 (by decide) rfl rfl ?_
        refine a_iload rfl dX3_downBy_53 ?_
        refine v_iald (by omega) (hI_17.1 _ (by omega)) (by decide) rfl (by decide) dX3_downBy_55 ?_
        refine a_aload_n rfl dX3_downBy_56 ?_
        refine a_geta dX3_downBy_57 fX3_70 (by decide) rfl rfl ?_
        refine a_iload_n rfl dX3_downBy_60 ?_
        refine v_iald (by omega) (VX_a12 hV_17 (by omega)) (by decide) rfl (by decide) dX3_downBy_61 ?_
        refine n_iadd dX3_downBy_62 ?_
        refine n_min (by omega) (by omega) dX3_downBy_63 lX3_73 (Nat.le_of_ble_eq_true rfl) ?_
        refine n_iast (by omega) (by decide) rfl (by decide) dX3_downBy_66 ?_
        refine n_iinc (c := 1) rfl rfl (by decide) rfl dX3_downBy_67 ?_
        refine a_goto 17 dX3_downBy_70 (by decide) ?_
        exact a_bk (ih_17 _ ⟨row_step hI_17.1 h_27, hI_17.2.si rfl⟩) ⟨rfl, rfl, rfl, rfl, trivial⟩
      · show AW _ _ _ _ _ _ _
        refine n_if_eq 67 (by decide) dX3_downBy_30 (by decide) (fun _ => ?_) (fun h => absurd h (by decide))
        refine n_iinc (c := 1) rfl rfl (by decide) rfl dX3_downBy_67 ?_
        refine a_goto 17 dX3_downBy_70 (by decide) ?_
        exact a_bk (ih_17 _ ⟨row_skip hI_17.1 h_27, hI_17.2⟩) ⟨rfl, rfl, rfl, rfl, trivial⟩
  exact a_bk (loop_17 0 (by omega) _ ⟨fun j hj => (srM_at _ _ _ _).trans ((if_pos (by omega)).trans (by rw [show 0 + (j - 0) = j by omega]; exact VX_a3 hV hj)), fr.r.sr (fun _ => rfl)⟩) ⟨rfl, rfl, rfl, rfl, trivial⟩

set_option maxRecDepth 100000 in
set_option maxHeartbeats 800000 in
theorem c_X3_fewestNews {M : Mm} {S : ST} (hV : VX 17 M S) (hF : WF S) {sit : Nat} (hsit : sit < 2 ^ S 0 4) {Q : Option Value → Mm → Prop} (h1 : ∀ v, v < 256 → leN S sit = some v → ∀ M', fr (fun k _ => k = 124) M M' → Q (some (.int (nI v))) M') (h0 : leN S sit = none → ∀ M', fr (fun k _ => k = 124) M M' → Q (some (.int (-1))) M') (d : Nat) : AMt miX3_fewestNews (d + 3) [.ref 123, .ref 17, .int (nI sit)] M Q := by
  refine AMt.of (by decide) (Nat.le_of_ble_eq_true rfl) ?_
  show AW miX3_fewestNews (d + 3) (mxA Q) 0 [(0, some (.ref 123)), (1, some (.ref 17)), (2, some (.int (nI sit)))] [] M
  have hm := WF_m hF
  have hh := WF_h hF
  have hs := WF_s hF
  have hn := WF_n hF
  have hp5 := pow_le hn
  have hp4 := pow_le hs
  have hp0 := Nat.two_pow_pos (S 0 5)
  refine a_iconst (-1) rfl dX3_fewestNews_0 ?_
  refine a_istore_n (by decide) rfl dX3_fewestNews_1 ?_
  refine n_iconst 0 rfl dX3_fewestNews_2 ?_
  refine a_istore (by decide) rfl dX3_fewestNews_3 ?_
  have loop_5 : ∀ i, i ≤ 2 ^ S 0 5 → ∀ M1, (fr (fun k _ => k = 124) M M1) → AW miX3_fewestNews (d + 3) (mxA Q) 5 [(0, some (.ref 123)), (1, some (.ref 17)), (2, some (.int (nI sit))), (3, some (.int ((optI (lsN (enB S sit) i))))), (4, some (.int (nI i)))] [] M1 := by
    refine up (W := fun i => ∀ M1, (fr (fun k _ => k = 124) M M1) → AW miX3_fewestNews (d + 3) (mxA Q) 5 [(0, some (.ref 123)), (1, some (.ref 17)), (2, some (.int (nI sit))), (3, some (.int ((optI (lsN (enB S sit) i))))), (4, some (.int (nI i)))] [] M1) (2 ^ S 0 5) (fun M1 hI_5 => ?_) (fun i hi_5 ih_5 M1 hI_5 => ?_)
    · have hV_5 : VX 17 M1 S := VX_fr hV (fun k j a b => (hI_5 k j (by omega)).1)
      refine a_iload rfl dX3_fewestNews_5 ?_
      refine n_iconst 1 rfl dX3_fewestNews_7 ?_
      refine a_aload_n rfl dX3_fewestNews_8 ?_
      refine g_i (VX_5 hV_5) (by decide) rfl fX3_30 rfl dX3_fewestNews_9 ?_
      refine n_bit (by omega) dX3_fewestNews_12 ?_
      refine n_icmp_ge 77 (by omega) (by omega) dX3_fewestNews_13 (by decide) (fun h_13 => ?_) (fun h_13 => absurd h_13 (by omega))
      cases ho : lsN (enB S sit) (2 ^ S 0 5) with
      | none =>
        show AW _ _ _ _ [(0, some (.ref 123)), (1, some (.ref 17)), (2, some (.int (nI sit))), (3, some (.int (-1))), (4, some (.int (nI (2 ^ S 0 5))))] [] _
        refine a_iload_n rfl dX3_fewestNews_77 ?_
        refine a_iret dX3_fewestNews_78 rfl ?_
        exact h0 ho _ hI_5
      | some b =>
        show AW _ _ _ _ [(0, some (.ref 123)), (1, some (.ref 17)), (2, some (.int (nI sit))), (3, some (.int (nI b))), (4, some (.int (nI (2 ^ S 0 5))))] [] _
        refine a_iload_n rfl dX3_fewestNews_77 ?_
        refine a_iret dX3_fewestNews_78 rfl ?_
        exact h1 b (by have := ls_lt ho; omega) ho _ hI_5
    · have hV_5 : VX 17 M1 S := VX_fr hV (fun k j a b => (hI_5 k j (by omega)).1)
      refine a_iload rfl dX3_fewestNews_5 ?_
      refine n_iconst 1 rfl dX3_fewestNews_7 ?_
      refine a_aload_n rfl dX3_fewestNews_8 ?_
      refine g_i (VX_5 hV_5) (by decide) rfl fX3_30 rfl dX3_fewestNews_9 ?_
      refine n_bit (by omega) dX3_fewestNews_12 ?_
      refine n_icmp_ge 77 (by omega) (by omega) dX3_fewestNews_13 (by decide) (fun h_13 => absurd h_13 (by omega)) (fun h_13 => ?_)
      cases ho : lsN (enB S sit) i with
      | none =>
        show AW _ _ _ _ [(0, some (.ref 123)), (1, some (.ref 17)), (2, some (.int (nI sit))), (3, some (.int (-1))), (4, some (.int (nI i)))] [] _
        refine a_iload_n rfl dX3_fewestNews_16 ?_
        refine a_iconst (-1) rfl dX3_fewestNews_17 ?_
        refine u_icmp_eq 33 dX3_fewestNews_18 (by decide) (fun h_18 => ?_) (fun h_18 => absurd rfl h_18)
        refine n_iconst 1 rfl dX3_fewestNews_33 ?_
        refine a_goto 38 dX3_fewestNews_34 (by decide) ?_
        refine a_istore (by decide) rfl dX3_fewestNews_38 ?_
        refine a_iload rfl dX3_fewestNews_40 ?_
        refine n_if_eq 71 (by decide) dX3_fewestNews_42 (by decide) (fun h => absurd h (by decide)) (fun _ => ?_)
        refine a_aload_n rfl dX3_fewestNews_45 ?_
        refine a_iload rfl dX3_fewestNews_46 ?_
        refine n_callS (mi' := miX3_canAllCome) dX3_fewestNews_48 lX3_42 mX3_canAllCome (c_X3_canAllCome hV_5 hF (by omega) (fun h_48 => ?_) (fun h_48 => ?_) d) rfl rfl (by omega) (by decide) (Nat.le_of_ble_eq_true rfl)
        · show AW _ _ _ _ _ _ _
          refine n_if_eq 71 (by decide) dX3_fewestNews_51 (by decide) (fun h => absurd h (by decide)) (fun _ => ?_)
          refine a_iload_n rfl dX3_fewestNews_54 ?_
          refine a_aload_n rfl dX3_fewestNews_55 ?_
          refine a_aload_n rfl dX3_fewestNews_56 ?_
          refine a_iload rfl dX3_fewestNews_57 ?_
          refine n_callV (mi' := miX3_downBy) dX3_fewestNews_59 lX3_46 mX3_downBy (by decide) rfl rfl rfl (c_X3_downBy hV_5 hF (by omega) (fun M_59 hf_59 => ?_) d) rfl rfl (by omega) (by decide) (Nat.le_of_ble_eq_true rfl)
          show AW _ _ _ _ _ _ _
          have hdl := bsN_lt (fun p => hgt (S 6 p) (rowN S i (S 0 5) (S 7 p)) == 0) (S 0 4)
          refine a_iconst (-1) rfl dX3_fewestNews_62 ?_
          refine a_ixor dX3_fewestNews_63 ?_
          refine n_andc dX3_fewestNews_64 ?_
          have hxl : sit ^^^ (sit &&& bsN (fun p => hgt (S 6 p) (rowN S i (S 0 5) (S 7 p)) == 0) (S 0 4)) < 2 ^ S 0 4 := Nat.xor_lt_two_pow hsit (Nat.lt_of_le_of_lt Nat.and_le_left hsit)
          refine n_if_ne 71 (by omega) dX3_fewestNews_65 (by decide) (fun h_65 => ?_) (fun h_65 => ?_)
          · refine n_iinc (c := 1) rfl rfl (by decide) rfl dX3_fewestNews_71 ?_
            refine a_goto 5 dX3_fewestNews_74 (by decide) ?_
            rw [ls_n0 ho (by unfold enB; rw [h_48, show alN (dnB S sit i) (S 0 4) = false from by cases e : alN (dnB S sit i) (S 0 4) with | false => rfl | true => exact absurd ((andc_0 hsit).mpr e) h_65]; rfl)] at ih_5
            exact a_bk (ih_5 _ (hI_5.t hf_59)) ⟨rfl, rfl, rfl, rfl, rfl, trivial⟩
          · refine a_iload rfl dX3_fewestNews_68 ?_
            refine a_istore_n (by decide) rfl dX3_fewestNews_70 ?_
            refine n_iinc (c := 1) rfl rfl (by decide) rfl dX3_fewestNews_71 ?_
            refine a_goto 5 dX3_fewestNews_74 (by decide) ?_
            rw [ls_n1 ho (by unfold enB; rw [h_48, show alN (dnB S sit i) (S 0 4) = true from (andc_0 hsit).mp h_65]; rfl)] at ih_5
            exact a_bk (ih_5 _ (hI_5.t hf_59)) ⟨rfl, rfl, rfl, rfl, rfl, trivial⟩
        · show AW _ _ _ _ _ _ _
          refine n_if_eq 71 (by decide) dX3_fewestNews_51 (by decide) (fun _ => ?_) (fun h => absurd h (by decide))
          refine n_iinc (c := 1) rfl rfl (by decide) rfl dX3_fewestNews_71 ?_
          refine a_goto 5 dX3_fewestNews_74 (by decide) ?_
          rw [ls_n0 ho (by unfold enB; rw [h_48]; rfl)] at ih_5
          exact a_bk (ih_5 _ hI_5) ⟨rfl, rfl, rfl, rfl, rfl, trivial⟩
      | some b =>
        show AW _ _ _ _ [(0, some (.ref 123)), (1, some (.ref 17)), (2, some (.int (nI sit))), (3, some (.int (nI b))), (4, some (.int (nI i)))] [] _
        have hbl := ls_lt ho
        refine a_iload_n rfl dX3_fewestNews_16 ?_
        refine a_iconst (-1) rfl dX3_fewestNews_17 ?_
        refine s_icmp_eq 33 (by omega) dX3_fewestNews_18 (by decide) (fun h_18 => absurd h_18 (by rw [show (-1 : Int32).toInt = -1 by decide]; omega)) (fun h_18 => ?_)
        refine a_iload rfl dX3_fewestNews_21 ?_
        refine n_callS (mi' := miJ6_bitCount_0f7a4) dX3_fewestNews_23 lX3_36 mJ6_bitCount_0f7a4 (c_J6_bitCount_0f7a4 (by omega) ?_ d) rfl rfl (by omega) (by decide) (Nat.le_of_ble_eq_true rfl)
        show AW _ _ _ _ _ _ _
        refine a_iload_n rfl dX3_fewestNews_26 ?_
        have hz1 := szN_le i
        refine n_callS (mi' := miJ6_bitCount_0f7a4) dX3_fewestNews_27 lX3_36 mJ6_bitCount_0f7a4 (c_J6_bitCount_0f7a4 (by omega) ?_ d) rfl rfl (by omega) (by decide) (Nat.le_of_ble_eq_true rfl)
        show AW _ _ _ _ _ _ _
        have hz2 := szN_le b
        refine n_icmp_ge 37 (by omega) (by omega) dX3_fewestNews_30 (by decide) (fun h_30 => ?_) (fun h_30 => ?_)
        · refine n_iconst 0 rfl dX3_fewestNews_37 ?_
          refine a_istore (by decide) rfl dX3_fewestNews_38 ?_
          refine a_iload rfl dX3_fewestNews_40 ?_
          refine n_if_eq 71 (by decide) dX3_fewestNews_42 (by decide) (fun _ => ?_) (fun h => absurd h (by decide))
          refine n_iinc (c := 1) rfl rfl (by decide) rfl dX3_fewestNews_71 ?_
          refine a_goto 5 dX3_fewestNews_74 (by decide) ?_
          rw [ls_s0 ho (by omega)] at ih_5
          exact a_bk (ih_5 _ hI_5) ⟨rfl, rfl, rfl, rfl, rfl, trivial⟩
        · refine n_iconst 1 rfl dX3_fewestNews_33 ?_
          refine a_goto 38 dX3_fewestNews_34 (by decide) ?_
          refine a_istore (by decide) rfl dX3_fewestNews_38 ?_
          refine a_iload rfl dX3_fewestNews_40 ?_
          refine n_if_eq 71 (by decide) dX3_fewestNews_42 (by decide) (fun h => absurd h (by decide)) (fun _ => ?_)
          refine a_aload_n rfl dX3_fewestNews_45 ?_
          refine a_iload rfl dX3_fewestNews_46 ?_
          refine n_callS (mi' := miX3_canAllCome) dX3_fewestNews_48 lX3_42 mX3_canAllCome (c_X3_canAllCome hV_5 hF (by omega) (fun h_48 => ?_) (fun h_48 => ?_) d) rfl rfl (by omega) (by decide) (Nat.le_of_ble_eq_true rfl)
          · show AW _ _ _ _ _ _ _
            refine n_if_eq 71 (by decide) dX3_fewestNews_51 (by decide) (fun h => absurd h (by decide)) (fun _ => ?_)
            refine a_iload_n rfl dX3_fewestNews_54 ?_
            refine a_aload_n rfl dX3_fewestNews_55 ?_
            refine a_aload_n rfl dX3_fewestNews_56 ?_
            refine a_iload rfl dX3_fewestNews_57 ?_
            refine n_callV (mi' := miX3_downBy) dX3_fewestNews_59 lX3_46 mX3_downBy (by decide) rfl rfl rfl (c_X3_downBy hV_5 hF (by omega) (fun M_59 hf_59 => ?_) d) rfl rfl (by omega) (by decide) (Nat.le_of_ble_eq_true rfl)
            show AW _ _ _ _ _ _ _
            have hdl := bsN_lt (fun p => hgt (S 6 p) (rowN S i (S 0 5) (S 7 p)) == 0) (S 0 4)
            refine a_iconst (-1) rfl dX3_fewestNews_62 ?_
            refine a_ixor dX3_fewestNews_63 ?_
            refine n_andc dX3_fewestNews_64 ?_
            have hxl : sit ^^^ (sit &&& bsN (fun p => hgt (S 6 p) (rowN S i (S 0 5) (S 7 p)) == 0) (S 0 4)) < 2 ^ S 0 4 := Nat.xor_lt_two_pow hsit (Nat.lt_of_le_of_lt Nat.and_le_left hsit)
            refine n_if_ne 71 (by omega) dX3_fewestNews_65 (by decide) (fun h_65 => ?_) (fun h_65 => ?_)
            · refine n_iinc (c := 1) rfl rfl (by decide) rfl dX3_fewestNews_71 ?_
              refine a_goto 5 dX3_fewestNews_74 (by decide) ?_
              rw [ls_sf ho (by unfold enB; rw [h_48, show alN (dnB S sit i) (S 0 4) = false from by cases e : alN (dnB S sit i) (S 0 4) with | false => rfl | true => exact absurd ((andc_0 hsit).mpr e) h_65]; rfl)] at ih_5
              exact a_bk (ih_5 _ (hI_5.t hf_59)) ⟨rfl, rfl, rfl, rfl, rfl, trivial⟩
            · refine a_iload rfl dX3_fewestNews_68 ?_
              refine a_istore_n (by decide) rfl dX3_fewestNews_70 ?_
              refine n_iinc (c := 1) rfl rfl (by decide) rfl dX3_fewestNews_71 ?_
              refine a_goto 5 dX3_fewestNews_74 (by decide) ?_
              rw [ls_s1 ho (by omega) (by unfold enB; rw [h_48, show alN (dnB S sit i) (S 0 4) = true from (andc_0 hsit).mp h_65]; rfl)] at ih_5
              exact a_bk (ih_5 _ (hI_5.t hf_59)) ⟨rfl, rfl, rfl, rfl, rfl, trivial⟩
          · show AW _ _ _ _ _ _ _
            refine n_if_eq 71 (by decide) dX3_fewestNews_51 (by decide) (fun _ => ?_) (fun h => absurd h (by decide))
            refine n_iinc (c := 1) rfl rfl (by decide) rfl dX3_fewestNews_71 ?_
            refine a_goto 5 dX3_fewestNews_74 (by decide) ?_
            rw [ls_sf ho (by unfold enB; rw [h_48]; rfl)] at ih_5
            exact a_bk (ih_5 _ hI_5) ⟨rfl, rfl, rfl, rfl, rfl, trivial⟩
  exact a_bk (loop_5 0 (by omega) _ fr.r) ⟨rfl, rfl, rfl, rfl, rfl, trivial⟩

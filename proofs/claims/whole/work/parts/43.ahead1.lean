/-- the first number below n of which p holds -/
def fiN (p : Nat → Bool) : Nat → Option Nat
  | 0 => none
  | n + 1 => match fiN p n with
    | some v => some v
    | none => if p n then some n else none
theorem fiN_no {p : Nat → Bool} : ∀ {n : Nat}, (∀ j, j < n → p j = false) → fiN p n = none
  | 0, _ => rfl
  | n + 1, h => by
    have e := fiN_no (n := n) (fun j hj => h j (by omega))
    simp only [fiN, e, h n (by omega)]; rfl
theorem fiN_at {p : Nat → Bool} {i : Nat} (h1 : ∀ j, j < i → p j = false) (h2 : p i = true) : ∀ {n : Nat}, i < n → fiN p n = some i
  | 0, h => absurd h (by omega)
  | n + 1, h => by
    by_cases e : i = n
    · subst e
      simp only [fiN, fiN_no h1, h2]; rfl
    · have := fiN_at h1 h2 (n := n) (by omega)
      simp only [fiN, this]
theorem fiN_lt {p : Nat → Bool} {v : Nat} : ∀ {n : Nat}, fiN p n = some v → v < n
  | 0, h => by cases h
  | n + 1, h => by
    cases e : fiN p n with
    | some w => simp only [fiN, e] at h; cases h; have := fiN_lt e; omega
    | none =>
      simp only [fiN, e] at h
      split at h
      · cases h; omega
      · cases h
theorem fiN_none {p : Nat → Bool} : ∀ {n : Nat}, fiN p n = none → ∀ j, j < n → p j = false
  | 0, _, j, hj => absurd hj (by omega)
  | n + 1, h, j, hj => by
    cases e : fiN p n with
    | some w => simp only [fiN, e] at h; cases h
    | none =>
      simp only [fiN, e] at h
      by_cases c : p n = true
      · rw [if_pos c] at h; cases h
      · rcases (show j < n ∨ j = n by omega) with h1 | h1
        · exact fiN_none e j h1
        · subst h1; simpa using c
/-- p holds of all numbers below n -/
def alN (p : Nat → Bool) : Nat → Bool
  | 0 => true
  | n + 1 => alN p n && p n
/-- the first of 0 .. n where f is the least -/
def agN (f : Nat → Nat) : Nat → Nat
  | 0 => 0
  | n + 1 => if f (n + 1) < f (agN f n) then n + 1 else agN f n
theorem agN_le (f : Nat → Nat) : ∀ n, agN f n ≤ n
  | 0 => Nat.le_refl 0
  | n + 1 => by
    unfold agN
    split
    · exact Nat.le_refl _
    · exact Nat.le_succ_of_le (agN_le f n)
def mxN (f : Nat → Nat) : Nat → Nat
  | 0 => 0
  | n + 1 => max (mxN f n) (f n)
theorem mxN_le {f : Nat → Nat} {b : Nat} : ∀ {n : Nat}, (∀ j, j < n → f j ≤ b) → mxN f n ≤ b
  | 0, _ => Nat.zero_le b
  | n + 1, h => by
    have := mxN_le (n := n) (fun j hj => h j (by omega))
    have := h n (by omega)
    unfold mxN; omega
theorem mxN_congr {f g : Nat → Nat} : ∀ {n : Nat}, (∀ j, j < n → f j = g j) → mxN f n = mxN g n
  | 0, _ => rfl
  | n + 1, h => by rw [mxN, mxN, mxN_congr (fun j hj => h j (by omega)), h n (by omega)]
theorem bsN_all : ∀ n, bsN (fun _ => true) n = 2 ^ n - 1
  | 0 => rfl
  | n + 1 => by
    have ih := bsN_all n
    have h0 := Nat.two_pow_pos n
    apply Nat.eq_of_testBit_eq
    intro j
    rw [bsN_bit, Nat.testBit_two_pow_sub_one]; simp
theorem l2i_n {x : Int64} (h0 : 0 ≤ x.toInt) (h1 : x.toInt < 2147483648) : x.toInt32 = nI x.toInt.toNat := by
  apply Int32.toInt_inj.mp
  rw [Int64.toInt_toInt32, nI_toInt (by omega), Int.bmod_eq_of_le (by omega) (by omega)]; omega
/-- a number of a TRAY as a natural one -/
def dN (D : Nat → Int64) (i : Nat) : Nat := (D i).toInt.toNat
theorem i64_nI {a : Nat} (h : a < 2 ^ 31) (x : Int64) (h0 : 0 ≤ x.toInt) : (nI a).toInt64 = x ↔ a = x.toInt.toNat := by
  rw [← Int64.toInt_inj, i64_i32, nI_toInt h]
  omega
/-- twos as they may be -/
def TWO (D : Nat → Int64) (n : Nat) : Prop := ∀ i, i < n → 0 ≤ (D (2 * i)).toInt ∧ (D (2 * i)).toInt ≤ 40 ∧ 0 ≤ (D (2 * i + 1)).toInt ∧ (D (2 * i + 1)).toInt ≤ 99
/-- HEIGHT of p in d DAYS, FOR the matter k -/
def hiN (S : ST) (p d k : Nat) : Nat := hgt (S 6 p) (pdI S (S 2) d k)
def dwN (S : ST) (p : Nat) : Option Nat := fiN (fun d => hiN S p d (S 7 p) == 0) 201
def fitB (S : ST) (p : Nat) (D : Nat → Int64) (i k : Nat) : Bool := hiN S p (dN D (2 * i)) k == dN D (2 * i + 1)
def outN (S : ST) (p : Nat) (D : Nat → Int64) (n : Nat) : Nat := bsN (fun k => alN (fun i => fitB S p D i k) n) (S 0 2)
def alkN (S : ST) (p set d k : Nat) : Nat := sumN (fun e => if hiN S p d k = hiN S p d e ∧ set.testBit k = true ∧ set.testBit e = true then 1 else 0) (S 0 2)
def crdN (S : ST) (p set d : Nat) : Nat := mxN (alkN S p set d) (S 0 2)
theorem crd_le {S : ST} (hF : WF S) (p set d : Nat) : crdN S p set d ≤ 6 := by
  have hm := WF_m hF
  refine mxN_le (fun j hj => Nat.le_trans (sumN_le (b := 1) (fun e _ => ?_)) (by omega))
  split <;> omega
def askN (S : ST) (p set : Nat) : Nat := agN (crdN S p set) 40
def isLawB (D : Nat → Int64) (t c i : Nat) : Bool := hgt t (min 100 (c * dN D (2 * i))) == dN D (2 * i + 1)
def lawB (D : Nat → Int64) (n t c : Nat) : Bool := alN (isLawB D t c) n
def lawsN (D : Nat → Int64) (n : Nat) : Nat := sumN (fun t => sumN (fun c => if lawB D n (t + 1) c = true then 1 else 0) 21) 99
/-- the first law: 21 times TALL, and PACE -/
def lawfN (D : Nat → Int64) (n : Nat) : Option Nat := fiN (fun q => lawB D n (q / 21 + 1) (q % 21)) 2079
theorem hiN_le {S : ST} (hF : WF S) {p d k : Nat} (hp : p < S 0 4) : hiN S p d k ≤ 99 := by
  have := (WF_tall hF p hp).2
  have := hgt_le (S 6 p) (pdI S (S 2) d k)
  unfold hiN; omega

set_option maxRecDepth 100000 in
set_option maxHeartbeats 800000 in
theorem c_X0_look {M : Mm} {S : ST} (hV : VX 17 M S) (hF : WF S) {n : Nat} (hn : n < 2 ^ 31) {Q : Option Value → Mm → Prop} (hQ : ∀ M', (∀ j, j < S 0 2 → M'.1 122 j = nI (pdI S (S 2) n j)) → fr (fun k _ => k = 122) M M' → Q none M') (d : Nat) : AMt miX0_look (d + 2) [.ref 121, .ref 17, .int (nI n)] M Q := by
  refine AMt.of (by decide) (Nat.le_of_ble_eq_true rfl) ?_
  show AW miX0_look (d + 2) (mxA Q) 0 [(0, some (.ref 121)), (1, some (.ref 17)), (2, some (.int (nI n)))] [] M
  have hm := WF_m hF
  have hs := WF_s hF
  have hk2 := Nat.two_pow_pos (S 0 2)
  have hk3 := pow_le hm
  refine a_aload_n rfl dX0_look_0 ?_
  refine a_geta dX0_look_1 fX0_15 (by decide) rfl rfl ?_
  refine n_iconst 0 rfl dX0_look_4 ?_
  refine a_aload_n rfl dX0_look_5 ?_
  refine a_geta dX0_look_6 fX0_9 (by decide) rfl rfl ?_
  refine n_iconst 0 rfl dX0_look_9 ?_
  refine n_bipush 6 rfl dX0_look_10 ?_
  refine n_copyi (by decide) rfl (by decide) rfl (by omega) (by omega) (by decide) (by decide) (Nat.le_of_ble_eq_true rfl) dX0_look_12 lX0_20 ?_
  refine n_iconst 1 rfl dX0_look_15 ?_
  refine a_istore_n (by decide) rfl dX0_look_16 ?_
  refine n_iconst 0 rfl dX0_look_17 ?_
  refine a_istore (by decide) rfl dX0_look_18 ?_
  have loop_20 : ∀ i, i ≤ n → ∀ M1, ((∀ j, j < S 0 2 → (M1).1 122 j = nI (pdI S (S 2) i j)) ∧ fr (fun k _ => k = 122) M M1) → AW miX0_look (d + 2) (mxA Q) 20 [(0, some (.ref 121)), (1, some (.ref 17)), (2, some (.int (nI n))), (3, some (.int (nI (gdm S i)))), (4, some (.int (nI i)))] [] M1 := by
    refine up (W := fun i => ∀ M1, ((∀ j, j < S 0 2 → (M1).1 122 j = nI (pdI S (S 2) i j)) ∧ fr (fun k _ => k = 122) M M1) → AW miX0_look (d + 2) (mxA Q) 20 [(0, some (.ref 121)), (1, some (.ref 17)), (2, some (.int (nI n))), (3, some (.int (nI (gdm S i)))), (4, some (.int (nI i)))] [] M1) n (fun M1 hI_20 => ?_) (fun i hi_20 ih_20 M1 hI_20 => ?_)
    · refine a_iload rfl dX0_look_20 ?_
      refine a_iload_n rfl dX0_look_22 ?_
      refine n_icmp_ge 45 (by omega) (by omega) dX0_look_23 (by decide) (fun h_23 => ?_) (fun h_23 => absurd h_23 (by omega))
      refine a_vret dX0_look_45 rfl ?_
      exact hQ _ hI_20.1 hI_20.2
    · have hV_20 : VX 17 M1 S := VX_fr hV (fun k j a b => (hI_20.2 k j (by omega)).1)
      have hgd := gdm_le S i
      refine a_iload rfl dX0_look_20 ?_
      refine a_iload_n rfl dX0_look_22 ?_
      refine n_icmp_ge 45 (by omega) (by omega) dX0_look_23 (by decide) (fun h_23 => absurd h_23 (by omega)) (fun h_23 => ?_)
      refine a_iload_n rfl dX0_look_26 ?_
      refine n_if_eq 45 (by omega) dX0_look_27 (by decide) (fun h_27 => ?_) (fun h_27 => ?_)
      · refine a_vret dX0_look_45 rfl ?_
        exact hQ _ (fun j hj => (hI_20.1 j hj).trans (congrArg nI (gdstop hF hi_20 h_27 j hj))) hI_20.2
      · refine a_aload_n rfl dX0_look_30 ?_
        refine a_aload_n rfl dX0_look_31 ?_
        refine a_geta dX0_look_32 fX0_9 (by decide) rfl rfl ?_
        refine n_callV (mi' := miX6_passDay) dX0_look_35 lX0_26 mX6_passDay (by decide) rfl rfl rfl (c_X6_passDay isW17 hV_20 hF (f := pdI S (S 2) i) (by decide) rfl hI_20.1 (pdI_le (fun j hj => WF_clear hF j hj) _) (Or.inr (Or.inr (by omega))) ?_ d) rfl rfl (by omega) (by decide) (Nat.le_of_ble_eq_true rfl)
        show AW _ _ _ _ _ _ _
        refine a_istore_n (by decide) rfl dX0_look_38 ?_
        refine n_iinc (c := 1) rfl rfl (by decide) rfl dX0_look_39 ?_
        refine a_goto 20 dX0_look_42 (by decide) ?_
        exact a_bk (ih_20 _ ⟨fun j hj => (srM_at _ _ _ _).trans (if_pos hj), hI_20.2.sr (fun _ => rfl)⟩) ⟨rfl, rfl, rfl, rfl, rfl, trivial⟩
  exact a_bk (loop_20 0 (by omega) _ ⟨fun j hj => (srM_at _ _ _ _).trans ((if_pos (by omega)).trans (by rw [show 0 + (j - 0) = j by omega]; exact VX_a3 hV hj)), fr.r.sr (fun _ => rfl)⟩) ⟨rfl, rfl, rfl, rfl, rfl, trivial⟩

set_option maxRecDepth 100000 in
set_option maxHeartbeats 800000 in
theorem c_X0_daysTillDown {M : Mm} {S : ST} (hV : VX 17 M S) (hF : WF S) {p : Nat} (hp : p < S 0 4) {Q : Option Value → Mm → Prop} (h1 : ∀ v, v ≤ 200 → dwN S p = some v → ∀ M', fr (fun k _ => k = 122) M M' → Q (some (.int (nI v))) M') (h0 : dwN S p = none → ∀ M', fr (fun k _ => k = 122) M M' → Q (some (.int (-1))) M') (d : Nat) : AMt miX0_daysTillDown (d + 3) [.ref 121, .ref 17, .int (nI p)] M Q := by
  refine AMt.of (by decide) (Nat.le_of_ble_eq_true rfl) ?_
  show AW miX0_daysTillDown (d + 3) (mxA Q) 0 [(0, some (.ref 121)), (1, some (.ref 17)), (2, some (.int (nI p)))] [] M
  have hm := WF_m hF
  have hs := WF_s hF
  have hk2 := Nat.two_pow_pos (S 0 2)
  have hk3 := pow_le hm
  have hfo := WF_for hF p hp
  have htl := WF_tall hF p hp
  refine a_aload_n rfl dX0_daysTillDown_0 ?_
  refine a_geta dX0_daysTillDown_1 fX0_30 (by decide) rfl rfl ?_
  refine a_iload_n rfl dX0_daysTillDown_4 ?_
  refine v_iald (by omega) (VX_a9 hV (by omega)) (by decide) rfl (by decide) dX0_daysTillDown_5 ?_
  refine a_istore_n (by decide) rfl dX0_daysTillDown_6 ?_
  refine a_aload_n rfl dX0_daysTillDown_7 ?_
  refine a_aload_n rfl dX0_daysTillDown_8 ?_
  refine n_iconst 0 rfl dX0_daysTillDown_9 ?_
  refine n_callV (mi' := miX0_look) dX0_daysTillDown_10 lX0_33 mX0_look (by decide) rfl rfl rfl (c_X0_look hV hF (by omega) (fun M_10 hr_10 hf_10 => ?_) d) rfl rfl (by omega) (by decide) (Nat.le_of_ble_eq_true rfl)
  show AW _ _ _ _ _ _ _
  refine n_iconst 0 rfl dX0_daysTillDown_13 ?_
  refine a_istore (by decide) rfl dX0_daysTillDown_14 ?_
  have loop_16 : ∀ i, i ≤ 201 → ∀ M1, ((∀ j, j < S 0 2 → (M1).1 122 j = nI (pdI S (S 2) i j)) ∧ fr (fun k _ => k = 122) M M1 ∧ ∀ e, e < i → (fun d => hiN S p d (S 7 p) == 0) e = false) → AW miX0_daysTillDown (d + 3) (mxA Q) 16 [(0, some (.ref 121)), (1, some (.ref 17)), (2, some (.int (nI p))), (3, some (.int (nI (S 7 p)))), (4, some (.int (nI i)))] [] M1 := by
    refine up (W := fun i => ∀ M1, ((∀ j, j < S 0 2 → (M1).1 122 j = nI (pdI S (S 2) i j)) ∧ fr (fun k _ => k = 122) M M1 ∧ ∀ e, e < i → (fun d => hiN S p d (S 7 p) == 0) e = false) → AW miX0_daysTillDown (d + 3) (mxA Q) 16 [(0, some (.ref 121)), (1, some (.ref 17)), (2, some (.int (nI p))), (3, some (.int (nI (S 7 p)))), (4, some (.int (nI i)))] [] M1) 201 (fun M1 hI_16 => ?_) (fun i hi_16 ih_16 M1 hI_16 => ?_)
    · refine a_iload rfl dX0_daysTillDown_16 ?_
      refine n_sipush 200 rfl dX0_daysTillDown_18 ?_
      refine n_icmp_gt 56 (by omega) (by omega) dX0_daysTillDown_21 (by decide) (fun h_21 => ?_) (fun h_21 => absurd h_21 (by omega))
      refine a_iconst (-1) rfl dX0_daysTillDown_56 ?_
      refine a_iret dX0_daysTillDown_57 rfl ?_
      exact h0 (fiN_no hI_16.2.2) _ hI_16.2.1
    · have hV_16 : VX 17 M1 S := VX_fr hV (fun k j a b => (hI_16.2.1 k j (by omega)).1)
      refine a_iload rfl dX0_daysTillDown_16 ?_
      refine n_sipush 200 rfl dX0_daysTillDown_18 ?_
      refine n_icmp_gt 56 (by omega) (by omega) dX0_daysTillDown_21 (by decide) (fun h_21 => absurd h_21 (by omega)) (fun h_21 => ?_)
      refine a_aload_n rfl dX0_daysTillDown_24 ?_
      refine a_iload_n rfl dX0_daysTillDown_25 ?_
      refine a_aload_n rfl dX0_daysTillDown_26 ?_
      refine a_geta dX0_daysTillDown_27 fX0_9 (by decide) rfl rfl ?_
      refine a_iload_n rfl dX0_daysTillDown_30 ?_
      refine v_iald (by omega) (hI_16.1 _ (by omega)) (by decide) rfl (by decide) dX0_daysTillDown_31 ?_
      refine n_callV (mi' := miX6_heightBy) dX0_daysTillDown_32 lX0_37 mX6_heightBy (by decide) rfl rfl rfl (c_X6_heightBy isW17 hV_16 hF (by omega) (pdI_le (fun j hj => WF_clear hF j hj) _ _ (by omega)) ?_ d) rfl rfl (by omega) (by decide) (Nat.le_of_ble_eq_true rfl)
      show AW _ _ _ _ _ _ _
      have hh1 := hgt_le (S 6 p) (pdI S (S 2) i (S 7 p))
      refine n_if_ne 41 (by omega) dX0_daysTillDown_35 (by decide) (fun h_35 => ?_) (fun h_35 => ?_)
      · refine a_aload_n rfl dX0_daysTillDown_41 ?_
        refine a_aload_n rfl dX0_daysTillDown_42 ?_
        refine a_geta dX0_daysTillDown_43 fX0_9 (by decide) rfl rfl ?_
        refine n_callV (mi' := miX6_passDay) dX0_daysTillDown_46 lX0_26 mX6_passDay (by decide) rfl rfl rfl (c_X6_passDay isW17 hV_16 hF (f := pdI S (S 2) i) (by decide) rfl hI_16.1 (pdI_le (fun j hj => WF_clear hF j hj) _) (Or.inr (Or.inr (by omega))) ?_ d) rfl rfl (by omega) (by decide) (Nat.le_of_ble_eq_true rfl)
        show AW _ _ _ _ _ _ _
        refine a_pop rfl dX0_daysTillDown_49 ?_
        refine n_iinc (c := 1) rfl rfl (by decide) rfl dX0_daysTillDown_50 ?_
        refine a_goto 16 dX0_daysTillDown_53 (by decide) ?_
        exact a_bk (ih_16 _ ⟨fun j hj => (srM_at _ _ _ _).trans (if_pos hj), hI_16.2.1.sr (fun _ => rfl), fun e he => by
            rcases (show e < i ∨ e = i by omega) with h | h
            · exact hI_16.2.2 e h
            · subst h; simp only [hiN]; simpa using h_35⟩) ⟨rfl, rfl, rfl, rfl, rfl, trivial⟩
      · refine a_iload rfl dX0_daysTillDown_38 ?_
        refine a_iret dX0_daysTillDown_40 rfl ?_
        exact h1 i (by omega) (fiN_at hI_16.2.2 (by simp only [hiN]; simpa using h_35) (by omega)) _ hI_16.2.1
  exact a_bk (loop_16 0 (by omega) _ ⟨hr_10, hf_10, fun e he => absurd he (by omega)⟩) ⟨rfl, rfl, rfl, rfl, rfl, trivial⟩

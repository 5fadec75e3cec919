set_option maxRecDepth 100000 in
set_option maxHeartbeats 800000 in
theorem c_X11_round {M : Mm} {T : TT} (hI : IX M T) (hG : TG T) {x : Int32} {Q : Option Value → Mm → Prop} (hQ : ∀ M', IX M' (sp_round x T).2 → keM M M' → Q (some (.int (sp_round x T).1)) M') (d : Nat) : AMt miX11_round (d + 4) [.ref 0, .int x] M Q := by
  refine AMt.of (by decide) (Nat.le_of_ble_eq_true rfl) ?_
  show AW miX11_round (d + 4) (mxA Q) 0 [(0, some (.ref 0)), (1, some (.int x))] [] M
  have hV : VX 17 M (tS T) := hI.1.1
  have hF : WF (tS T) := hG.1.1
  have hm : tS T 0 2 ≤ 6 := WF_m hF
  have hh : tS T 0 3 ≤ 10 := WF_h hF
  have hs : tS T 0 4 ≤ 7 := WF_s hF
  have hn : tS T 0 5 ≤ 8 := WF_n hF
  refine a_iload_n rfl dX11_round_0 ?_
  refine r_if_lt 10 dX11_round_1 (by decide) (fun h_1 => ?_) (fun h_1 => ?_)
  · refine a_aload_n rfl dX11_round_10 ?_
    refine n_iconst 5 rfl dX11_round_11 ?_
    refine n_callV (mi' := miX11_none) dX11_round_12 lX11_131 mX11_none (by decide) rfl rfl rfl (c_X11_none ?_ d) rfl rfl (by omega) (by decide) (Nat.le_of_ble_eq_true rfl)
    show AW _ _ _ _ _ _ _
    refine a_iret dX11_round_15 rfl ?_
    exact fin_q hQ hI hG (by unfold sp_round; rw [if_neg (by omega)]) fr.r
  · refine a_iload_n rfl dX11_round_4 ?_
    refine n_bipush 59 rfl dX11_round_5 ?_
    refine r_icmp_le 16 (by omega) dX11_round_7 (by decide) (fun h_7 => ?_) (fun h_7 => ?_)
    · obtain ⟨q, hq, rfl⟩ := inR_of (x := x) (m := 60) (by omega) (by omega) (by omega)
      have t_q : (nI q).toInt = (q : Int) := nI_toInt (by omega)
      have i_q : idx (nI q) = q := idx_nI (by omega)
      refine a_aload_n rfl dX11_round_16 ?_
      refine a_aload_n rfl dX11_round_17 ?_
      refine a_geta dX11_round_18 fX11_97 (by decide) rfl rfl ?_
      refine a_aload_n rfl dX11_round_21 ?_
      refine a_geta dX11_round_22 fX11_58 (by decide) rfl rfl ?_
      refine a_iload_n rfl dX11_round_25 ?_
      refine n_callV (mi' := miX3_shortestRound) dX11_round_26 lX11_358 mX3_shortestRound (by decide) rfl rfl rfl (c_X3_shortestRound hV hF (by omega) (fun M_26 hf_26 => ?_) d) rfl rfl (by omega) (by decide) (Nat.le_of_ble_eq_true rfl)
      show AW _ _ _ _ _ _ _
      refine n_callV (mi' := miX11_answer) dX11_round_29 lX11_177 mX11_answer (by decide) rfl rfl rfl (c_X11_answer ?_ d) rfl rfl (by omega) (by decide) (Nat.le_of_ble_eq_true rfl)
      show AW _ _ _ _ _ _ _
      refine a_iret dX11_round_32 rfl ?_
      exact fin_q hQ hI hG (by unfold sp_round; rw [if_pos (by omega), i_q]) (hf_26.mo (fun k j h => by unfold scX coX; omega))
    · refine a_aload_n rfl dX11_round_10 ?_
      refine n_iconst 5 rfl dX11_round_11 ?_
      refine n_callV (mi' := miX11_none) dX11_round_12 lX11_131 mX11_none (by decide) rfl rfl rfl (c_X11_none ?_ d) rfl rfl (by omega) (by decide) (Nat.le_of_ble_eq_true rfl)
      show AW _ _ _ _ _ _ _
      refine a_iret dX11_round_15 rfl ?_
      exact fin_q hQ hI hG (by unfold sp_round; rw [if_neg (by omega)]) fr.r

def rdP (S : ST) : Nat → Bool := fun p => (ndS S).testBit p
theorem nd_bit {S : ST} {p : Nat} (hp : p < S 0 4) : (ndS S).testBit p = !(downN S).testBit p := by
  unfold ndS
  rw [Nat.testBit_xor, Nat.testBit_and, Nat.testBit_two_pow_sub_one]
  simp [hp]
def ctA (S : ST) (t : Nat) : Nat := cnP (S 0 4) (fun p => rdP S p && S 5 p == t)
def mmN (S : ST) : Nat → Nat
  | 0 => 0
  | t + 1 => if ctA S t = 0 then mmN S t else mmN S t + 1
def mlN (S : ST) (q : Nat) : Nat := (fiN (fun t => !decide (ctA S t = 0) && mmN S t == q) 60).getD 0
def cuN (S : ST) (t : Nat) : Nat := cnP (S 0 4) (fun p => rdP S p && decide (S 5 p < t))
theorem mm_mono (S : ST) {a : Nat} : ∀ {b : Nat}, a ≤ b → mmN S a ≤ mmN S b
  | 0, h => by rw [show a = 0 by omega]; exact Nat.le_refl _
  | b + 1, h => by
    by_cases e : a = b + 1
    · rw [e]; exact Nat.le_refl _
    · have := mm_mono S (a := a) (b := b) (by omega)
      rw [show mmN S (b + 1) = if ctA S b = 0 then mmN S b else mmN S b + 1 from rfl]
      split <;> omega
theorem mm_lt {S : ST} {t b : Nat} (h : ctA S t ≠ 0) (hb : t < b) : mmN S t < mmN S b := by
  have h1 : mmN S (t + 1) = mmN S t + 1 := by show (if _ then _ else _) = _; rw [if_neg h]
  have := mm_mono S (show t + 1 ≤ b by omega)
  omega
theorem ml_at {S : ST} {t : Nat} (ht : t < 60) (h : ctA S t ≠ 0) : mlN S (mmN S t) = t := by
  unfold mlN
  rw [fiN_at (i := t) (fun j hj => by
    cases c : decide (ctA S j = 0) with
    | true => rfl
    | false =>
      have := mm_lt (S := S) (t := j) (b := t) (of_decide_eq_false c) hj
      simp; omega) (by rw [decide_eq_false h]; simp) ht]
  rfl
theorem mm_ex {S : ST} {q : Nat} : ∀ {b : Nat}, q < mmN S b → ∃ t, t < b ∧ ctA S t ≠ 0 ∧ mmN S t = q
  | 0, h => absurd h (Nat.not_lt_zero _)
  | b + 1, h => by
    have h : q < (if ctA S b = 0 then mmN S b else mmN S b + 1) := h
    by_cases c : ctA S b = 0
    · rw [if_pos c] at h
      obtain ⟨t, h1, h2⟩ := mm_ex h
      exact ⟨t, by omega, h2⟩
    · rw [if_neg c] at h
      by_cases e : q = mmN S b
      · exact ⟨b, by omega, c, e.symm⟩
      · obtain ⟨t, h1, h2⟩ := mm_ex (show q < mmN S b by omega)
        exact ⟨t, by omega, h2⟩
theorem cu_s (S : ST) (t : Nat) : cuN S (t + 1) = cuN S t + ctA S t := by
  unfold cuN ctA cnP
  have : ∀ m, sumN (fun p => if (rdP S p && decide (S 5 p < t + 1)) = true then 1 else 0) m = sumN (fun p => if (rdP S p && decide (S 5 p < t)) = true then 1 else 0) m + sumN (fun p => if (rdP S p && S 5 p == t) = true then 1 else 0) m := by
    intro m
    induction m with
    | zero => rfl
    | succ m ih =>
      rw [sumN, sumN, sumN, ih]
      have : (if (rdP S m && decide (S 5 m < t + 1)) = true then 1 else 0) = (if (rdP S m && decide (S 5 m < t)) = true then 1 else 0) + (if (rdP S m && S 5 m == t) = true then 1 else 0) := by
        cases rdP S m with
        | false => rfl
        | true =>
          simp only [Bool.true_and, decide_eq_true_eq, beq_iff_eq]
          by_cases c : S 5 m < t
          · rw [if_pos c, if_pos (by omega), if_neg (by omega)]
          · by_cases e : S 5 m = t
            · rw [if_neg c, if_pos (by omega), if_pos e]
            · rw [if_neg c, if_neg (by omega), if_neg e]
      omega
  exact this _
theorem mm_cu (S : ST) : ∀ t, mmN S t ≤ cuN S t
  | 0 => Nat.zero_le _
  | t + 1 => by
    have := mm_cu S t
    rw [cu_s, show mmN S (t + 1) = if ctA S t = 0 then mmN S t else mmN S t + 1 from rfl]
    split <;> omega
theorem mm_7 {S : ST} (hF : WF S) (t : Nat) : mmN S t ≤ 7 := Nat.le_trans (mm_cu S t) (Nat.le_trans (cnP_le _ _) (WF_s hF))
theorem ct_pos {S : ST} {p : Nat} (hp : p < S 0 4) (h : rdP S p = true) : ctA S (S 5 p) ≠ 0 := by
  have := cnP_rm (P := fun q => rdP S q && S 5 q == S 5 p) (s := p) (by simp [h]) (m := S 0 4)
  rw [if_pos hp] at this
  unfold ctA; omega
theorem rd_GX {S : ST} (hF : WF S) : GX (S 5) (S 0 4) (rdP S) (fun p => mmN S (S 5 p)) (mlN S) (mmN S 60) := by
  refine ⟨fun p hp h => ?_, fun a b hab hb => ?_, fun q hq => ?_⟩
  · have hm := WF_mile hF p hp
    exact ⟨mm_lt (ct_pos hp h) (by omega), ml_at (by omega) (ct_pos hp h)⟩
  · obtain ⟨ta, h1, h2, h3⟩ := mm_ex (show a < mmN S 60 by omega)
    obtain ⟨tb, h4, h5, h6⟩ := mm_ex hb
    rw [← h3, ← h6, ml_at h1 h2, ml_at h4 h5]
    rcases Nat.lt_or_ge ta tb with c | c
    · exact c
    · have := mm_mono S c; omega
  · obtain ⟨t, h1, h2, h3⟩ := mm_ex hq
    obtain ⟨p, hp, hP⟩ := cnP_ex (show 0 < cnP (S 0 4) (fun p => rdP S p && S 5 p == t) from Nat.pos_of_ne_zero h2)
    rw [Bool.and_eq_true] at hP
    exact ⟨p, hp, hP.1, by show mmN S (S 5 p) = q; rw [show S 5 p = t by simpa using hP.2]; exact h3⟩
theorem ml_lt {S : ST} {q mile : Nat} (hq : q < mmN S 60) (hm : mile ≤ 59) : mlN S q < mile ↔ q < mmN S mile := by
  obtain ⟨t, h1, h2, h3⟩ := mm_ex hq
  rw [← h3, ml_at h1 h2]
  constructor
  · exact fun h => mm_lt h2 h
  · intro h
    rcases Nat.lt_or_ge t mile with c | c
    · exact c
    · have := mm_mono S c; omega
def lwC (S : ST) (mile i : Nat) : Nat := sumN (fun q => if mlN S q < mile then 1 else 0) i
def atC (S : ST) (i : Nat) : Nat := sumN (fun q => ctA S (mlN S q)) i
theorem lw_min {S : ST} {mile : Nat} (hm : mile ≤ 59) : ∀ {n : Nat}, n ≤ mmN S 60 → lwC S mile n = min n (mmN S mile)
  | 0, _ => by rw [Nat.zero_min]; rfl
  | n + 1, h => by
    have ih := lw_min (S := S) hm (n := n) (by omega)
    have e := ml_lt (S := S) (q := n) (mile := mile) (by omega) hm
    show lwC S mile n + (if _ then 1 else 0) = _
    rw [ih]
    by_cases c : n < mmN S mile
    · rw [if_pos (e.mpr c)]; omega
    · rw [if_neg (fun q => c (e.mp q))]; omega
theorem lw_all {S : ST} {mile : Nat} (hm : mile ≤ 59) : lwC S mile (mmN S 60) = mmN S mile := by
  rw [lw_min hm (Nat.le_refl _)]
  have := mm_mono S (show mile ≤ 60 by omega)
  omega
theorem at_cu {S : ST} : ∀ {t : Nat}, t ≤ 60 → atC S (mmN S t) = cuN S t
  | 0, _ => by
    show 0 = _
    unfold cuN
    exact (Nat.le_zero.mp (Nat.le_trans (sumN_le (f := fun p => if (fun p => rdP S p && decide (S 5 p < 0)) p = true then 1 else 0) (b := 0) (n := S 0 4) (fun j _ => by simp)) (by simp))).symm
  | t + 1, h => by
    have ih := at_cu (S := S) (t := t) (by omega)
    rw [cu_s]
    by_cases c : ctA S t = 0
    · rw [show mmN S (t + 1) = mmN S t by show (if _ then _ else _) = _; rw [if_pos c], ih, c, Nat.add_zero]
    · rw [show mmN S (t + 1) = mmN S t + 1 by show (if _ then _ else _) = _; rw [if_neg c]]
      show atC S (mmN S t) + ctA S (mlN S (mmN S t)) = _
      rw [ih, ml_at (by omega) c]
theorem at_all {S : ST} (hF : WF S) : atC S (mmN S 60) = cnP (S 0 4) (rdP S) := by
  rw [at_cu (Nat.le_refl _)]
  exact cnP_congr (fun p hp => by
    have := WF_mile hF p hp
    rw [show decide (S 5 p < 60) = true by simp; omega, Bool.and_true])
theorem ct_le (S : ST) (hF : WF S) (t : Nat) : ctA S t ≤ 7 := Nat.le_trans (cnP_le _ _) (WF_s hF)
theorem at_le {S : ST} (hF : WF S) {i : Nat} (hi : i ≤ mmN S 60) : atC S i ≤ 49 := by
  have h7 := mm_7 hF 60
  have := sumN_le (f := fun q => ctA S (mlN S q)) (b := 7) (n := i) (fun j _ => ct_le S hF _)
  unfold atC; omega
theorem ml_59 {S : ST} {q : Nat} (hq : q < mmN S 60) : mlN S q ≤ 59 := by
  obtain ⟨t, h1, h2, h3⟩ := mm_ex hq
  rw [← h3, ml_at h1 h2]; omega
theorem cn_split {m : Nat} {R : Nat → Bool} {mi : Nat → Nat} {y : Nat} : cnP m R = cnP m (rmY mi R y) + cnP m (fun p => R p && mi p == y) := by
  unfold cnP
  induction m with
  | zero => rfl
  | succ m ih =>
    rw [sumN, sumN, sumN, ih]
    have : (if R m = true then 1 else 0) = (if rmY mi R y m = true then 1 else 0) + (if (fun p => R p && mi p == y) m = true then 1 else 0) := by
      show _ = _ + (if (R m && mi m == y) = true then 1 else 0)
      unfold rmY
      cases R m with
      | false => rfl
      | true => by_cases e : mi m = y <;> simp [e]
    omega
abbrev rE (S : ST) (lo hi : Nat) : Nat := reM (S 0 4) (rdP S) (fun p => mmN S (S 5 p)) lo hi
abbrev sE' (S : ST) (f lo hi x : Nat) : Nat := sV (S 0 4) (rdP S) (fun p => mmN S (S 5 p)) (mlN S) (mmN S 60) f lo hi x
theorem re_ctL {S : ST} (hF : WF S) {lo hi : Nat} (hlh : lo ≤ hi) (hh : hi ≤ mmN S 60) (h0 : 0 < lo) : rE S (lo - 1) hi + ctA S (mlN S (lo - 1)) = rE S lo hi := by
  have h := rd_GX hF
  show reM _ _ _ _ _ + _ = reM _ _ _ _ _
  unfold reM
  rw [cn_split (R := uQ (rdP S) (fun p => mmN S (S 5 p)) lo hi) (mi := S 5) (y := mlN S (lo - 1)), cnP_congr (u_left h hlh hh h0)]
  congr 1
  exact cnP_congr (fun p hp => by
    unfold uQ
    cases c : rdP S p with
    | false => rfl
    | true =>
      have e := ix_eq h hp c (show lo - 1 < mmN S 60 by omega)
      by_cases q : S 5 p = mlN S (lo - 1)
      · have := e.mp q
        simp [q] at this ⊢; omega
      · simp [q])
theorem re_ctR {S : ST} (hF : WF S) {lo hi : Nat} (hlh : lo ≤ hi) (hh : hi < mmN S 60) : rE S lo (hi + 1) + ctA S (mlN S hi) = rE S lo hi := by
  have h := rd_GX hF
  show reM _ _ _ _ _ + _ = reM _ _ _ _ _
  unfold reM
  rw [cn_split (R := uQ (rdP S) (fun p => mmN S (S 5 p)) lo hi) (mi := S 5) (y := mlN S hi), cnP_congr (u_right h hlh hh)]
  congr 1
  exact cnP_congr (fun p hp => by
    unfold uQ
    cases c : rdP S p with
    | false => rfl
    | true =>
      have e := ix_eq h hp c hh
      by_cases q : S 5 p = mlN S hi
      · have := e.mp q
        simp [q] at this ⊢; omega
      · simp [q])
theorem rE_le {S : ST} (hF : WF S) (lo hi : Nat) : rE S lo hi ≤ 7 := Nat.le_trans (cnP_le _ _) (WF_s hF)
theorem sE_le {S : ST} (hF : WF S) : ∀ {f lo hi x : Nat}, lo ≤ mmN S 60 → hi ≤ mmN S 60 → x ≤ 59 → sE' S f lo hi x ≤ f * 413
  | 0, _, _, _, _, _, _ => Nat.zero_le _
  | f + 1, lo, hi, x, hl, hh, hx => by
    have hr := rE_le hF lo hi
    have hm : ∀ q, q < mmN S 60 → dst x (mlN S q) * rE S lo hi ≤ 413 := fun q hq => by
      have := ml_59 hq
      have h1 : dst x (mlN S q) ≤ 59 := by unfold dst; omega
      exact Nat.mul_le_mul h1 hr
    show (if _ then _ else _) ≤ _
    split
    · exact Nat.zero_le _
    · rename_i c
      rw [Nat.add_mul]
      split
      · rename_i c2
        by_cases c3 : lo = 0
        · have e : rE S 0 (mmN S 60) = 0 := by
            rcases Nat.eq_zero_or_pos (rE S 0 (mmN S 60)) with z | z
            · exact z
            · exfalso
              obtain ⟨p, hp, hu⟩ := cnP_ex (show 0 < cnP (S 0 4) (uQ (rdP S) (fun p => mmN S (S 5 p)) 0 (mmN S 60)) from z)
              unfold uQ at hu
              rw [Bool.and_eq_true] at hu
              have : mmN S (S 5 p) < mmN S 60 := ((rd_GX hF).1 p hp hu.1).1
              have h2 : (decide (mmN S (S 5 p) < 0) || decide (mmN S 60 ≤ mmN S (S 5 p))) = true := hu.2
              simp at h2; omega
          rw [c3, c2] at c; exact absurd e c
        · have h1 := hm (lo - 1) (by omega)
          have h2 := sE_le hF (f := f) (lo := lo - 1) (hi := hi) (x := mlN S (lo - 1)) (by omega) hh (ml_59 (by omega))
          show dst x (mlN S (lo - 1)) * rE S lo hi + sE' S f (lo - 1) hi (mlN S (lo - 1)) ≤ _
          omega
      · split
        · have h1 := hm hi (by omega)
          have h2 := sE_le hF (f := f) (lo := lo) (hi := hi + 1) (x := mlN S hi) hl (by omega) (ml_59 (by omega))
          show dst x (mlN S hi) * rE S lo hi + sE' S f lo (hi + 1) (mlN S hi) ≤ _
          omega
        · have h1 := hm (lo - 1) (by omega)
          have h2 := sE_le hF (f := f) (lo := lo - 1) (hi := hi) (x := mlN S (lo - 1)) (by omega) hh (ml_59 (by omega))
          have h3 := Nat.min_le_left (dst x (mlN S (lo - 1)) * rE S lo hi + sE' S f (lo - 1) hi (mlN S (lo - 1))) (dst x (mlN S hi) * rE S lo hi + sE' S f lo (hi + 1) (mlN S hi))
          show min (dst x (mlN S (lo - 1)) * rE S lo hi + sE' S f (lo - 1) hi (mlN S (lo - 1))) (dst x (mlN S hi) * rE S lo hi + sE' S f lo (hi + 1) (mlN S hi)) ≤ _
          omega

def mlP (S : ST) (t : Nat) (M : Mm) : Prop := M.1 132 32 = nI (mmN S t) ∧ (∀ q, q < mmN S t → M.1 143 q = nI (mlN S q)) ∧ ∀ q, q < mmN S t → M.1 144 q = nI (ctA S (mlN S q))
theorem ml_no {S : ST} {t : Nat} {M : Mm} (h : mlP S t M) (hc : ctA S t = 0) : mlP S (t + 1) M := by
  have e : mmN S (t + 1) = mmN S t := by show (if _ then _ else _) = _; rw [if_pos hc]
  unfold mlP; rw [e]; exact h
theorem ml_yes {S : ST} {t : Nat} {M : Mm} (h : mlP S t M) (ht : t < 60) (hc : ¬ ctA S t = 0) : mlP S (t + 1) (siM (siM (siM M 143 (mmN S t) (nI t)) 144 (mmN S t) (nI (ctA S t))) 132 32 (nI (mmN S t + 1))) := by
  have e : mmN S (t + 1) = mmN S t + 1 := by show (if _ then _ else _) = _; rw [if_neg hc]
  unfold mlP; rw [e]
  refine ⟨siS, fun q hq => ?_, fun q hq => ?_⟩
  · by_cases c : q = mmN S t
    · subst c; rw [siN (siN siS (by omega)) (by omega), ml_at ht hc]
    · exact siN (siN (siN (h.2.1 q (by omega)) (by omega)) (by omega)) (by omega)
  · by_cases c : q = mmN S t
    · subst c; rw [siN siS (by omega), ml_at ht hc]
    · exact siN (siN (siN (h.2.2 q (by omega)) (by omega)) (by omega)) (by omega)
def ctP (S : ST) (t i : Nat) : Nat := sumN (fun p => if (rdP S p && S 5 p == t) = true then 1 else 0) i
theorem ctP_le (S : ST) (t i : Nat) : ctP S t i ≤ i := cnP_le i _

set_option maxRecDepth 100000 in
set_option maxHeartbeats 800000 in
theorem c_X12_laysMiles {M : Mm} {S : ST} (hM : VM 0 M S) (hF : WF S) {Q : Option Value → Mm → Prop} (hQ : ∀ M', mlP S 60 M' → frM (fun k j => (k = 132 ∧ j = 32) ∨ k = 143 ∨ k = 144) M M' → Q none M') (d : Nat) : AMt miX12_laysMiles (d + 3) [.ref 132] M Q := by
  refine AMt.of (by decide) (Nat.le_of_ble_eq_true rfl) ?_
  show AW miX12_laysMiles (d + 3) (mxA Q) 0 [(0, some (.ref 132))] [] M
  have hm := WF_m hF
  have hh := WF_h hF
  have hs := WF_s hF
  have hn := WF_n hF
  have hm7 := mm_7 hF
  have hdl := bsN_lt (fun p => hgt (S 6 p) (S 2 (S 7 p)) == 0) (S 0 4)
  have hdl2 : downN S < 2 ^ S 0 4 := hdl
  have hp4 := pow_le hs
  refine a_aload_n rfl dX12_laysMiles_0 ?_
  refine n_callV (mi' := miX12_downOnes) dX12_laysMiles_1 lX12_351 mX12_downOnes (by decide) rfl rfl rfl (c_X12_downOnes hM hF ?_ d) rfl rfl (by omega) (by decide) (Nat.le_of_ble_eq_true rfl)
  show AW _ _ _ _ _ _ _
  refine a_eqi (y := nI (downN S)) rfl ?_
  refine a_istore_n (by decide) rfl dX12_laysMiles_4 ?_
  refine a_aload_n rfl dX12_laysMiles_5 ?_
  refine n_iconst 0 rfl dX12_laysMiles_6 ?_
  refine a_puti dX12_laysMiles_7 pX12_459 (by decide) rfl rfl ?_
  refine n_iconst 0 rfl dX12_laysMiles_10 ?_
  refine a_istore_n (by decide) rfl dX12_laysMiles_11 ?_
  have loop_12 : ∀ t, t ≤ 60 → ∀ M1, (mlP S t M1 ∧ frM (fun k j => (k = 132 ∧ j = 32) ∨ k = 143 ∨ k = 144) M M1) → AW miX12_laysMiles (d + 3) (mxA Q) 12 [(0, some (.ref 132)), (1, some (.int (nI (downN S)))), (2, some (.int (nI t)))] [] M1 := by
    refine up (W := fun t => ∀ M1, (mlP S t M1 ∧ frM (fun k j => (k = 132 ∧ j = 32) ∨ k = 143 ∨ k = 144) M M1) → AW miX12_laysMiles (d + 3) (mxA Q) 12 [(0, some (.ref 132)), (1, some (.int (nI (downN S)))), (2, some (.int (nI t)))] [] M1) 60 (fun M1 hI_12 => ?_) (fun t hi_12 ih_12 M1 hI_12 => ?_)
    · have hMi : VM 0 M1 S := VM_frM hM hF hI_12.2 (fun j _ => by omega)
      refine a_iload_n rfl dX12_laysMiles_12 ?_
      refine n_bipush 59 rfl dX12_laysMiles_13 ?_
      refine n_icmp_gt 114 (by omega) (by omega) dX12_laysMiles_15 (by decide) (fun h_15 => ?_) (fun h_15 => absurd h_15 (by omega))
      refine a_vret dX12_laysMiles_114 rfl ?_
      exact hQ _ hI_12.1 hI_12.2
    · have hMi : VM 0 M1 S := VM_frM hM hF hI_12.2 (fun j _ => by omega)
      refine a_iload_n rfl dX12_laysMiles_12 ?_
      refine n_bipush 59 rfl dX12_laysMiles_13 ?_
      refine n_icmp_gt 114 (by omega) (by omega) dX12_laysMiles_15 (by decide) (fun h_15 => absurd h_15 (by omega)) (fun h_15 => ?_)
      refine n_iconst 0 rfl dX12_laysMiles_18 ?_
      refine a_istore_n (by decide) rfl dX12_laysMiles_19 ?_
      refine n_iconst 0 rfl dX12_laysMiles_20 ?_
      refine a_istore (by decide) rfl dX12_laysMiles_21 ?_
      have loop_23 : ∀ i, i ≤ S 0 4 → AW miX12_laysMiles (d + 3) (mxA Q) 23 [(0, some (.ref 132)), (1, some (.int (nI (downN S)))), (2, some (.int (nI t))), (3, some (.int (nI (ctP S t i)))), (4, some (.int (nI i)))] [] M1 := by
        refine up (S 0 4) ?_ (fun i hi_23 ih_23 => ?_)
        · have hctl := ctP_le S t (S 0 4)
          refine a_iload rfl dX12_laysMiles_23 ?_
          refine a_aload_n rfl dX12_laysMiles_25 ?_
          refine a_geta dX12_laysMiles_26 fX12_35 (by decide) rfl rfl ?_
          refine n_iconst 2 rfl dX12_laysMiles_29 ?_
          refine v_iald (by omega) (VM_s2 hMi) (by decide) rfl (by decide) dX12_laysMiles_30 ?_
          refine n_icmp_ge 71 (by omega) (by omega) dX12_laysMiles_31 (by decide) (fun h_31 => ?_) (fun h_31 => absurd h_31 (by omega))
          refine a_iload_n rfl dX12_laysMiles_71 ?_
          have hct : ctP S t (S 0 4) = ctA S t := rfl
          have hctl := ctP_le S t (S 0 4)
          refine n_if_ne 78 (by omega) dX12_laysMiles_72 (by decide) (fun h_72 => ?_) (fun h_72 => ?_)
          · have hct0 : ¬ ctA S t = 0 := h_72
            have hmt := mm_lt (S := S) (t := t) (b := 60) hct0 hi_12
            have h760 := hm7 60
            refine a_aload_n rfl dX12_laysMiles_78 ?_
            refine a_geta dX12_laysMiles_79 fX12_53 (by decide) rfl rfl ?_
            refine a_aload_n rfl dX12_laysMiles_82 ?_
            refine g_i hI_12.1.1 (by decide) rfl fX12_459 rfl dX12_laysMiles_83 ?_
            refine a_iload_n rfl dX12_laysMiles_86 ?_
            refine n_iast (by omega) (by decide) rfl (by decide) dX12_laysMiles_87 ?_
            refine a_aload_n rfl dX12_laysMiles_88 ?_
            refine a_geta dX12_laysMiles_89 fX12_56 (by decide) rfl rfl ?_
            refine a_aload_n rfl dX12_laysMiles_92 ?_
            refine g_i (siN hI_12.1.1 (by omega)) (by decide) rfl fX12_459 rfl dX12_laysMiles_93 ?_
            refine a_iload_n rfl dX12_laysMiles_96 ?_
            refine n_iast (by omega) (by decide) rfl (by decide) dX12_laysMiles_97 ?_
            refine a_aload_n rfl dX12_laysMiles_98 ?_
            refine a_dup rfl dX12_laysMiles_99 ?_
            refine g_i (siN (siN hI_12.1.1 (by omega)) (by omega)) (by decide) rfl fX12_459 rfl dX12_laysMiles_100 ?_
            refine n_iconst 1 rfl dX12_laysMiles_103 ?_
            refine n_iadd dX12_laysMiles_104 ?_
            refine a_puti dX12_laysMiles_105 pX12_459 (by decide) rfl rfl ?_
            refine n_iinc (c := 1) rfl rfl (by decide) rfl dX12_laysMiles_108 ?_
            refine a_goto 12 dX12_laysMiles_111 (by decide) ?_
            exact a_bk (ih_12 _ ⟨ml_yes hI_12.1 hi_12 hct0, ((hI_12.2.si (by omega)).si (by omega)).si (by omega)⟩) ⟨rfl, rfl, rfl, trivial⟩
          · refine a_goto 108 dX12_laysMiles_75 (by decide) ?_
            refine n_iinc (c := 1) rfl rfl (by decide) rfl dX12_laysMiles_108 ?_
            refine a_goto 12 dX12_laysMiles_111 (by decide) ?_
            exact a_bk (ih_12 _ ⟨ml_no hI_12.1 h_72, hI_12.2⟩) ⟨rfl, rfl, rfl, trivial⟩
        · have hctl := ctP_le S t i
          have hmls := WF_mile hF i hi_23
          refine a_iload rfl dX12_laysMiles_23 ?_
          refine a_aload_n rfl dX12_laysMiles_25 ?_
          refine a_geta dX12_laysMiles_26 fX12_35 (by decide) rfl rfl ?_
          refine n_iconst 2 rfl dX12_laysMiles_29 ?_
          refine v_iald (by omega) (VM_s2 hMi) (by decide) rfl (by decide) dX12_laysMiles_30 ?_
          refine n_icmp_ge 71 (by omega) (by omega) dX12_laysMiles_31 (by decide) (fun h_31 => absurd h_31 (by omega)) (fun h_31 => ?_)
          refine a_iload_n rfl dX12_laysMiles_34 ?_
          refine a_aload_n rfl dX12_laysMiles_35 ?_
          refine a_geta dX12_laysMiles_36 fX12_35 (by decide) rfl rfl ?_
          refine n_bipush 38 rfl dX12_laysMiles_39 ?_
          refine a_iload rfl dX12_laysMiles_41 ?_
          refine n_iadd dX12_laysMiles_43 ?_
          refine v_iald (by omega) (VM_a38 hMi (j := i) (by omega)) (by decide) rfl (by decide) dX12_laysMiles_44 ?_
          refine a_iload_n rfl dX12_laysMiles_45 ?_
          refine n_icmp_ne 62 (by omega) (by omega) dX12_laysMiles_46 (by decide) (fun h_46 => ?_) (fun h_46 => ?_)
          · refine n_iconst 0 rfl dX12_laysMiles_62 ?_
            refine n_iadd dX12_laysMiles_63 ?_
            refine a_istore_n (by decide) rfl dX12_laysMiles_64 ?_
            refine n_iinc (c := 1) rfl rfl (by decide) rfl dX12_laysMiles_65 ?_
            refine a_goto 23 dX12_laysMiles_68 (by decide) ?_
            rw [show ctP S t (i + 1) = ctP S t i by show ctP S t i + (if _ then 1 else 0) = _; rw [if_neg (by rw [show (S 5 i == t) = false by simpa using h_46]; simp)]; rfl] at ih_23
            exact a_bk ih_23 ⟨rfl, rfl, rfl, rfl, rfl, trivial⟩
          · refine a_iload_n rfl dX12_laysMiles_49 ?_
            refine a_iload rfl dX12_laysMiles_50 ?_
            refine n_callS (mi' := miX12_has) dX12_laysMiles_52 lX12_108 mX12_has (c_X12_has (by omega) (by omega) (fun h_52 => ?_) (fun h_52 => ?_) d) rfl rfl (by omega) (by decide) (Nat.le_of_ble_eq_true rfl)
            · show AW _ _ _ _ _ _ _
              refine n_if_ne 62 (by decide) dX12_laysMiles_55 (by decide) (fun _ => ?_) (fun h => absurd h (by decide))
              refine n_iconst 0 rfl dX12_laysMiles_62 ?_
              refine n_iadd dX12_laysMiles_63 ?_
              refine a_istore_n (by decide) rfl dX12_laysMiles_64 ?_
              refine n_iinc (c := 1) rfl rfl (by decide) rfl dX12_laysMiles_65 ?_
              refine a_goto 23 dX12_laysMiles_68 (by decide) ?_
              rw [show ctP S t (i + 1) = ctP S t i by show ctP S t i + (if _ then 1 else 0) = _; rw [if_neg (by unfold rdP; rw [nd_bit hi_23, h_52]; simp)]; rfl] at ih_23
              exact a_bk ih_23 ⟨rfl, rfl, rfl, rfl, rfl, trivial⟩
            · show AW _ _ _ _ _ _ _
              refine n_if_ne 62 (by decide) dX12_laysMiles_55 (by decide) (fun h => absurd h (by decide)) (fun _ => ?_)
              refine n_iconst 1 rfl dX12_laysMiles_58 ?_
              refine a_goto 63 dX12_laysMiles_59 (by decide) ?_
              refine n_iadd dX12_laysMiles_63 ?_
              refine a_istore_n (by decide) rfl dX12_laysMiles_64 ?_
              refine n_iinc (c := 1) rfl rfl (by decide) rfl dX12_laysMiles_65 ?_
              refine a_goto 23 dX12_laysMiles_68 (by decide) ?_
              rw [show ctP S t (i + 1) = ctP S t i + 1 by show ctP S t i + (if _ then 1 else 0) = _; rw [if_pos (by unfold rdP; rw [nd_bit hi_23, h_52, show (S 5 i == t) = true by simpa using h_46]; rfl)]] at ih_23
              exact a_bk ih_23 ⟨rfl, rfl, rfl, rfl, rfl, trivial⟩
      exact a_bk (loop_23 0 (by omega)) ⟨rfl, rfl, rfl, rfl, rfl, trivial⟩
  exact a_bk (loop_12 0 (by omega) _ ⟨⟨siS, fun q hq => absurd hq (Nat.not_lt_zero _), fun q hq => absurd hq (Nat.not_lt_zero _)⟩, frM.r.si (by omega)⟩) ⟨rfl, rfl, rfl, trivial⟩

set_option maxRecDepth 100000 in
set_option maxHeartbeats 800000 in
theorem c_srv0 {M : Mm} {S : ST} (hF : WF S) (hml : mlP S 60 M) {f lo hi x : Nat} (hlh : lo ≤ hi) (hhi : hi ≤ mmN S 60) (hx : x ≤ 59) (hL : rE S lo hi = 0) {Q : Option Value → Mm → Prop} (hQ : Q (some (.int (nI 0))) M) (d : Nat) : AMt miX12_serves (d) [.ref 132, .int ((nI lo - nI 1)), .int (nI hi), .int (nI x), .int (nI (rE S lo hi))] M Q := by
  refine AMt.of (by decide) (Nat.le_of_ble_eq_true rfl) ?_
  show AW miX12_serves (d) (mxA Q) 0 [(0, some (.ref 132)), (1, some (.int ((nI lo - nI 1)))), (2, some (.int (nI hi))), (3, some (.int (nI x))), (4, some (.int (nI (rE S lo hi))))] [] M
  have hrl := rE_le hF lo hi
  refine a_iload rfl dX12_serves_0 ?_
  refine n_if_ne 7 (by omega) dX12_serves_2 (by decide) (fun h_2 => absurd hL h_2) (fun h_2 => ?_)
  refine n_iconst 0 rfl dX12_serves_5 ?_
  refine a_iret dX12_serves_6 rfl ?_
  exact hQ

set_option maxRecDepth 100000 in
set_option maxHeartbeats 800000 in
theorem c_srvS {M : Mm} {S : ST} (hF : WF S) (hml : mlP S 60 M) {f lo hi x : Nat} (hlh : lo ≤ hi) (hhi : hi ≤ mmN S 60) (hx : x ≤ 59) (hf : f + 1 = lo + (mmN S 60 - hi)) (ih : ∀ {lo hi x : Nat}, lo ≤ hi → hi ≤ mmN S 60 → x ≤ 59 → f = lo + (mmN S 60 - hi) → ∀ {Q : Option Value → Mm → Prop}, Q (some (.int (nI (sE' S f lo hi x)))) M → ∀ d, AMt miX12_serves (d + f) [.ref 132, .int (nI lo - nI 1), .int (nI hi), .int (nI x), .int (nI (rE S lo hi))] M Q) {Q : Option Value → Mm → Prop} (hQ : Q (some (.int (nI (sE' S (f + 1) lo hi x)))) M) (d : Nat) : AMt miX12_serves (d + (f + 1)) [.ref 132, .int ((nI lo - nI 1)), .int (nI hi), .int (nI x), .int (nI (rE S lo hi))] M Q := by
  refine AMt.of (by decide) (Nat.le_of_ble_eq_true rfl) ?_
  show AW miX12_serves (d + (f + 1)) (mxA Q) 0 [(0, some (.ref 132)), (1, some (.int ((nI lo - nI 1)))), (2, some (.int (nI hi))), (3, some (.int (nI x))), (4, some (.int (nI (rE S lo hi))))] [] M
  have hrl := rE_le hF lo hi
  have h7 := mm_7 hF 60
  have hlo : (nI lo - nI 1).toInt = (lo : Int) - 1 := pk_sub_toInt (by omega) (by decide)
  have hre0 : rE S 0 (mmN S 60) = 0 := by
    rcases Nat.eq_zero_or_pos (rE S 0 (mmN S 60)) with z | z
    · exact z
    · exfalso
      obtain ⟨p, hp, hu⟩ := cnP_ex (show 0 < cnP (S 0 4) (uQ (rdP S) (fun p => mmN S (S 5 p)) 0 (mmN S 60)) from z)
      unfold uQ at hu
      rw [Bool.and_eq_true] at hu
      have : mmN S (S 5 p) < mmN S 60 := ((rd_GX hF).1 p hp hu.1).1
      have h2 : (decide (mmN S (S 5 p) < 0) || decide (mmN S 60 ≤ mmN S (S 5 p))) = true := hu.2
      simp at h2; omega
  refine a_iload rfl dX12_serves_0 ?_
  refine n_if_ne 7 (by omega) dX12_serves_2 (by decide) (fun h_2 => ?_) (fun h_2 => ?_)
  · refine a_iconst (-1) rfl dX12_serves_7 ?_
    refine a_istore (by decide) rfl dX12_serves_8 ?_
    refine a_iload_n rfl dX12_serves_10 ?_
    refine r_if_lt 54 dX12_serves_11 (by decide) (fun h_11 => ?_) (fun h_11 => ?_)
    · refine a_iload_n rfl dX12_serves_54 ?_
      refine a_aload_n rfl dX12_serves_55 ?_
      refine g_i hml.1 (by decide) rfl fX12_459 rfl dX12_serves_56 ?_
      refine n_icmp_ne 65 (by omega) (by omega) dX12_serves_59 (by decide) (fun h_59 => ?_) (fun h_59 => ?_)
      · have hmR := ml_59 (S := S) (q := hi) (by omega)
        have hcR := re_ctR hF hlh (show hi < mmN S 60 by omega)
        have hdR : dst x (mlN S hi) * rE S lo hi ≤ 59 * 7 := Nat.mul_le_mul (by unfold dst; omega) hrl
        have hsR := sE_le hF (f := f) (lo := lo) (hi := hi + 1) (x := mlN S hi) (by omega) (by omega) hmR
        refine a_iload_n rfl dX12_serves_65 ?_
        refine a_aload_n rfl dX12_serves_66 ?_
        refine a_geta dX12_serves_67 fX12_53 (by decide) rfl rfl ?_
        refine a_iload_n rfl dX12_serves_70 ?_
        refine v_iald (by omega) (hml.2.1 _ (by omega)) (by decide) rfl (by decide) dX12_serves_71 ?_
        refine a_isub dX12_serves_72 ?_
        refine n_abs (by omega) (by omega) dX12_serves_73 lX12_462 (Nat.le_of_ble_eq_true rfl) ?_
        refine a_iload rfl dX12_serves_76 ?_
        refine n_imul dX12_serves_78 ?_
        refine a_aload_n rfl dX12_serves_79 ?_
        refine a_iload_n rfl dX12_serves_80 ?_
        refine a_iload_n rfl dX12_serves_81 ?_
        refine n_iconst 1 rfl dX12_serves_82 ?_
        refine n_iadd dX12_serves_83 ?_
        refine a_aload_n rfl dX12_serves_84 ?_
        refine a_geta dX12_serves_85 fX12_53 (by decide) rfl rfl ?_
        refine a_iload_n rfl dX12_serves_88 ?_
        refine v_iald (by omega) (hml.2.1 _ (by omega)) (by decide) rfl (by decide) dX12_serves_89 ?_
        refine a_iload rfl dX12_serves_90 ?_
        refine a_aload_n rfl dX12_serves_92 ?_
        refine a_geta dX12_serves_93 fX12_56 (by decide) rfl rfl ?_
        refine a_iload_n rfl dX12_serves_96 ?_
        refine v_iald (by omega) (hml.2.2 _ (by omega)) (by decide) rfl (by decide) dX12_serves_97 ?_
        refine n_isub (by omega) dX12_serves_98 ?_
        refine a_eqi (y := nI (rE S lo (hi + 1))) (congrArg nI (by have := hcR; omega)) ?_
        refine n_callV (mi' := miX12_serves) dX12_serves_99 lX12_464 mX12_serves (by decide) rfl rfl rfl (ih (lo := lo) (hi := hi + 1) (x := mlN S hi) (by omega) (by omega) (ml_59 (by omega)) (by omega) ?_ d) rfl rfl (by omega) (by decide) (Nat.le_of_ble_eq_true rfl)
        show AW _ _ _ _ _ _ _
        refine n_iadd dX12_serves_102 ?_
        refine a_istore (by decide) rfl dX12_serves_103 ?_
        refine a_iload rfl dX12_serves_105 ?_
        refine r_if_ge 115 dX12_serves_107 (by decide) (fun h_107 => absurd h_107 (by decide)) (fun h_107 => ?_)
        refine a_iload rfl dX12_serves_110 ?_
        refine a_goto 122 dX12_serves_112 (by decide) ?_
        refine a_iret dX12_serves_122 rfl ?_
        rw [show sE' S (f + 1) lo hi x = dst x (mlN S hi) * rE S lo hi + sE' S f lo (hi + 1) (mlN S hi) by show (if _ then _ else _) = _; rw [if_neg h_2, if_neg h_59, if_pos (by omega)]] at hQ
        exact hQ
      · refine a_iload rfl dX12_serves_62 ?_
        refine a_iret dX12_serves_64 rfl ?_
        exfalso
        exact h_2 (by have := hre0; rw [show lo = 0 by omega, h_59]; exact this)
    · have hmL := ml_59 (S := S) (q := lo - 1) (by omega)
      have hcL := re_ctL hF hlh hhi (show 0 < lo by omega)
      have hdL : dst x (mlN S (lo - 1)) * rE S lo hi ≤ 59 * 7 := Nat.mul_le_mul (by unfold dst; omega) hrl
      have hsL := sE_le hF (f := f) (lo := lo - 1) (hi := hi) (x := mlN S (lo - 1)) (by omega) hhi hmL
      refine a_iload_n rfl dX12_serves_14 ?_
      refine a_aload_n rfl dX12_serves_15 ?_
      refine a_geta dX12_serves_16 fX12_53 (by decide) rfl rfl ?_
      refine a_iload_n rfl dX12_serves_19 ?_
      refine a_eqi (y := nI (lo - 1)) (pk_sub (show 1 ≤ lo by omega)) ?_
      refine v_iald (by omega) (hml.2.1 _ (by omega)) (by decide) rfl (by decide) dX12_serves_20 ?_
      refine a_isub dX12_serves_21 ?_
      refine n_abs (by omega) (by omega) dX12_serves_22 lX12_462 (Nat.le_of_ble_eq_true rfl) ?_
      refine a_iload rfl dX12_serves_25 ?_
      refine n_imul dX12_serves_27 ?_
      refine a_aload_n rfl dX12_serves_28 ?_
      refine a_iload_n rfl dX12_serves_29 ?_
      refine a_eqi (y := nI (lo - 1)) (pk_sub (show 1 ≤ lo by omega)) ?_
      refine n_iconst 1 rfl dX12_serves_30 ?_
      refine a_isub dX12_serves_31 ?_
      refine a_iload_n rfl dX12_serves_32 ?_
      refine a_aload_n rfl dX12_serves_33 ?_
      refine a_geta dX12_serves_34 fX12_53 (by decide) rfl rfl ?_
      refine a_iload_n rfl dX12_serves_37 ?_
      refine a_eqi (y := nI (lo - 1)) (pk_sub (show 1 ≤ lo by omega)) ?_
      refine v_iald (by omega) (hml.2.1 _ (by omega)) (by decide) rfl (by decide) dX12_serves_38 ?_
      refine a_iload rfl dX12_serves_39 ?_
      refine a_aload_n rfl dX12_serves_41 ?_
      refine a_geta dX12_serves_42 fX12_56 (by decide) rfl rfl ?_
      refine a_iload_n rfl dX12_serves_45 ?_
      refine a_eqi (y := nI (lo - 1)) (pk_sub (show 1 ≤ lo by omega)) ?_
      refine v_iald (by omega) (hml.2.2 _ (by omega)) (by decide) rfl (by decide) dX12_serves_46 ?_
      refine n_isub (by omega) dX12_serves_47 ?_
      refine a_eqi (y := nI (rE S (lo - 1) hi)) (congrArg nI (by have := hcL; omega)) ?_
      refine n_callV (mi' := miX12_serves) dX12_serves_48 lX12_464 mX12_serves (by decide) rfl rfl rfl (ih (lo := lo - 1) (hi := hi) (x := mlN S (lo - 1)) (by omega) hhi (ml_59 (by omega)) (by omega) ?_ d) rfl rfl (by omega) (by decide) (Nat.le_of_ble_eq_true rfl)
      show AW _ _ _ _ _ _ _
      refine n_iadd dX12_serves_51 ?_
      refine a_istore (by decide) rfl dX12_serves_52 ?_
      refine a_iload_n rfl dX12_serves_54 ?_
      refine a_aload_n rfl dX12_serves_55 ?_
      refine g_i hml.1 (by decide) rfl fX12_459 rfl dX12_serves_56 ?_
      refine n_icmp_ne 65 (by omega) (by omega) dX12_serves_59 (by decide) (fun h_59 => ?_) (fun h_59 => ?_)
      · have hmR := ml_59 (S := S) (q := hi) (by omega)
        have hcR := re_ctR hF hlh (show hi < mmN S 60 by omega)
        have hdR : dst x (mlN S hi) * rE S lo hi ≤ 59 * 7 := Nat.mul_le_mul (by unfold dst; omega) hrl
        have hsR := sE_le hF (f := f) (lo := lo) (hi := hi + 1) (x := mlN S hi) (by omega) (by omega) hmR
        refine a_iload_n rfl dX12_serves_65 ?_
        refine a_aload_n rfl dX12_serves_66 ?_
        refine a_geta dX12_serves_67 fX12_53 (by decide) rfl rfl ?_
        refine a_iload_n rfl dX12_serves_70 ?_
        refine v_iald (by omega) (hml.2.1 _ (by omega)) (by decide) rfl (by decide) dX12_serves_71 ?_
        refine a_isub dX12_serves_72 ?_
        refine n_abs (by omega) (by omega) dX12_serves_73 lX12_462 (Nat.le_of_ble_eq_true rfl) ?_
        refine a_iload rfl dX12_serves_76 ?_
        refine n_imul dX12_serves_78 ?_
        refine a_aload_n rfl dX12_serves_79 ?_
        refine a_iload_n rfl dX12_serves_80 ?_
        refine a_iload_n rfl dX12_serves_81 ?_
        refine n_iconst 1 rfl dX12_serves_82 ?_
        refine n_iadd dX12_serves_83 ?_
        refine a_aload_n rfl dX12_serves_84 ?_
        refine a_geta dX12_serves_85 fX12_53 (by decide) rfl rfl ?_
        refine a_iload_n rfl dX12_serves_88 ?_
        refine v_iald (by omega) (hml.2.1 _ (by omega)) (by decide) rfl (by decide) dX12_serves_89 ?_
        refine a_iload rfl dX12_serves_90 ?_
        refine a_aload_n rfl dX12_serves_92 ?_
        refine a_geta dX12_serves_93 fX12_56 (by decide) rfl rfl ?_
        refine a_iload_n rfl dX12_serves_96 ?_
        refine v_iald (by omega) (hml.2.2 _ (by omega)) (by decide) rfl (by decide) dX12_serves_97 ?_
        refine n_isub (by omega) dX12_serves_98 ?_
        refine a_eqi (y := nI (rE S lo (hi + 1))) (congrArg nI (by have := hcR; omega)) ?_
        refine n_callV (mi' := miX12_serves) dX12_serves_99 lX12_464 mX12_serves (by decide) rfl rfl rfl (ih (lo := lo) (hi := hi + 1) (x := mlN S hi) (by omega) (by omega) (ml_59 (by omega)) (by omega) ?_ d) rfl rfl (by omega) (by decide) (Nat.le_of_ble_eq_true rfl)
        show AW _ _ _ _ _ _ _
        refine n_iadd dX12_serves_102 ?_
        refine a_istore (by decide) rfl dX12_serves_103 ?_
        refine a_iload rfl dX12_serves_105 ?_
        refine n_if_ge 115 (by omega) dX12_serves_107 (by decide) ?_
        refine a_iload rfl dX12_serves_115 ?_
        refine a_iload rfl dX12_serves_117 ?_
        refine n_min (by omega) (by omega) dX12_serves_119 lX12_386 (Nat.le_of_ble_eq_true rfl) ?_
        refine a_iret dX12_serves_122 rfl ?_
        rw [show sE' S (f + 1) lo hi x = min (dst x (mlN S (lo - 1)) * rE S lo hi + sE' S f (lo - 1) hi (mlN S (lo - 1))) (dst x (mlN S hi) * rE S lo hi + sE' S f lo (hi + 1) (mlN S hi)) by show (if _ then _ else _) = _; rw [if_neg h_2, if_neg h_59, if_neg (by omega)]] at hQ
        exact hQ
      · refine a_iload rfl dX12_serves_62 ?_
        refine a_iret dX12_serves_64 rfl ?_
        rw [show sE' S (f + 1) lo hi x = dst x (mlN S (lo - 1)) * rE S lo hi + sE' S f (lo - 1) hi (mlN S (lo - 1)) by show (if _ then _ else _) = _; rw [if_neg h_2, if_pos h_59]] at hQ
        exact hQ
  · refine n_iconst 0 rfl dX12_serves_5 ?_
    refine a_iret dX12_serves_6 rfl ?_
    rw [show sE' S (f + 1) lo hi x = 0 by show (if _ then _ else _) = _; rw [if_pos h_2]] at hQ
    exact hQ

theorem c_srvN {M : Mm} {S : ST} (hF : WF S) (hml : mlP S 60 M) : ∀ (f : Nat) {lo hi x : Nat}, lo ≤ hi → hi ≤ mmN S 60 → x ≤ 59 → f = lo + (mmN S 60 - hi) → ∀ {Q : Option Value → Mm → Prop}, Q (some (.int (nI (sE' S f lo hi x)))) M → ∀ d, AMt miX12_serves (d + f) [.ref 132, .int (nI lo - nI 1), .int (nI hi), .int (nI x), .int (nI (rE S lo hi))] M Q
  | 0, lo, hi, x, h1, h2, h3, h4, Q, hQ, d => c_srv0 (f := 0) hF hml h1 h2 h3 (by
      rcases Nat.eq_zero_or_pos (rE S lo hi) with z | z
      · exact z
      · exfalso
        obtain ⟨p, hp, hu⟩ := cnP_ex (show 0 < cnP (S 0 4) (uQ (rdP S) (fun p => mmN S (S 5 p)) lo hi) from z)
        unfold uQ at hu
        rw [Bool.and_eq_true] at hu
        have : mmN S (S 5 p) < mmN S 60 := ((rd_GX hF).1 p hp hu.1).1
        have h2 : (decide (mmN S (S 5 p) < lo) || decide (hi ≤ mmN S (S 5 p))) = true := hu.2
        simp at h2; omega) hQ d
  | f + 1, lo, hi, x, h1, h2, h3, h4, Q, hQ, d => c_srvS hF hml h1 h2 h3 h4 (fun {_ _ _} a b c e {_} q d => c_srvN hF hml f a b c e q d) hQ d
theorem c_srvA {M : Mm} {S : ST} (hF : WF S) (hml : mlP S 60 M) {mile : Nat} (hx : mile ≤ 59) {Q : Option Value → Mm → Prop} (hQ : Q (some (.int (nI (roN S mile)))) M) (d : Nat) : AMt miX12_serves (d + 20) [.ref 132, .int (nI (mmN S mile) - nI 1), .int (nI (mmN S mile)), .int (nI mile), .int (nI (cnP (S 0 4) (rdP S)))] M Q := by
  have hl := mm_mono S (show mile ≤ 60 by omega)
  have h7 := mm_7 hF 60
  have e : rE S (mmN S mile) (mmN S mile) = cnP (S 0 4) (rdP S) := cnP_congr (fun p _ => by
    unfold uQ
    rw [show (decide (mmN S (S 5 p) < mmN S mile) || decide (mmN S mile ≤ mmN S (S 5 p))) = true by simp; omega, Bool.and_true])
  have e2 := sV_eq (WF_MB hF) (rd_GX hF) hl hx ⟨fun q hq => Nat.le_of_lt ((ml_lt (by omega) hx).mpr hq), fun q hq hm => by
    rcases Nat.lt_or_ge (mlN S q) mile with c | c
    · have := (ml_lt hm hx).mp c; omega
    · exact c⟩
  have := c_srvN hF hml (mmN S mile + (mmN S 60 - mmN S mile)) (lo := mmN S mile) (hi := mmN S mile) (x := mile) (Nat.le_refl _) hl hx rfl (Q := Q) (by
    show Q (some (.int (nI (sV (S 0 4) (rdP S) (fun p => mmN S (S 5 p)) (mlN S) (mmN S 60) (mmN S mile + (mmN S 60 - mmN S mile)) (mmN S mile) (mmN S mile) mile)))) M
    rw [e2]; exact hQ) (d + 20 - (mmN S mile + (mmN S 60 - mmN S mile)))
  rw [e, show d + 20 - (mmN S mile + (mmN S 60 - mmN S mile)) + (mmN S mile + (mmN S 60 - mmN S mile)) = d + 20 by omega] at this
  exact this
theorem low_s (c k : Nat) : (nI c - nI 1) + nI k = nI (c + k) - nI 1 := by
  rw [← nI_add c k, Int32.sub_eq_add_neg, Int32.sub_eq_add_neg, Int32.add_assoc, Int32.add_comm (-nI 1), ← Int32.add_assoc]
theorem low_1 (c : Nat) : (nI c - nI 1) + nI 1 = nI c := by
  rw [low_s, pk_sub (by omega), Nat.add_sub_cancel]

set_option maxRecDepth 100000 in
set_option maxHeartbeats 800000 in
theorem c_X12_round {M : Mm} {T : TT} (hI : IM M T) (hG : TG T) {x : Int32} {Q : Option Value → Mm → Prop} (hQ : ∀ M', IM M' (sp_round x T).2 → keX M M' → Q (some (.int (sp_round x T).1)) M') (d : Nat) : AMt miX12_round (d + 21) [.ref 132, .int x] M Q := by
  refine AMt.of (by decide) (Nat.le_of_ble_eq_true rfl) ?_
  show AW miX12_round (d + 21) (mxA Q) 0 [(0, some (.ref 132)), (1, some (.int x))] [] M
  have hF : WF (tS T) := hG.1.1
  have hM : VM 0 M (tS T) := hI.1.1
  have hM1 := m0_VM hM hF
  have hm : tS T 0 2 ≤ 6 := WF_m hF
  have hh : tS T 0 3 ≤ 10 := WF_h hF
  have hs : tS T 0 4 ≤ 7 := WF_s hF
  have hn : tS T 0 5 ≤ 8 := WF_n hF
  have hd9 : tS T 0 1 ≤ 9999 := hG.1.2.2.2.2.1
  refine a_aload_n rfl dX12_round_0 ?_
  refine n_iconst 0 rfl dX12_round_1 ?_
  refine a_puti dX12_round_2 pX12_69 (by decide) rfl rfl ?_
  refine a_aload_n rfl dX12_round_5 ?_
  refine n_iconst 0 rfl dX12_round_6 ?_
  refine a_puti dX12_round_7 pX12_72 (by decide) rfl rfl ?_
  show AW miX12_round (d + 21) (mxA Q) 10 [(0, some (.ref 132)), (1, some (.int x))] [] (m0 M)
  refine a_iload_n rfl dX12_round_10 ?_
  refine a_i2l dX12_round_11 ?_
  refine a_lconst 0 rfl dX12_round_12 ?_
  refine a_ldc2 kX12_409 dX12_round_13 ?_
  refine n_callS (mi' := miX12_isIn) dX12_round_16 lX12_104 mX12_isIn (c_X12_isIn (fun h_16 => ?_) (fun h_16 => ?_) d) rfl rfl (by omega) (by decide) (Nat.le_of_ble_eq_true rfl)
  · show AW _ _ _ _ _ _ _
    have h_16 := isIn4 (x := x) (a := 0) (b := 59) (by decide) (by decide) h_16
    refine n_if_ne 28 (by decide) dX12_round_19 (by decide) (fun _ => ?_) (fun h => absurd h (by decide))
    obtain ⟨q, hq, rfl⟩ := inR_of (x := x) (m := 60) (by omega) (by omega) (by omega)
    have t_q : (nI q).toInt = (q : Int) := nI_toInt (by omega)
    have i_q : idx (nI q) = q := idx_nI (by omega)
    have h7 := mm_7 hF 60
    refine a_aload_n rfl dX12_round_28 ?_
    refine n_callV (mi' := miX12_laysMiles) dX12_round_29 lX12_468 mX12_laysMiles (by decide) rfl rfl rfl (c_X12_laysMiles hM1 hF (fun M_29 hml hf_29 => ?_) d) rfl rfl (by omega) (by decide) (Nat.le_of_ble_eq_true rfl)
    show AW _ _ _ _ _ _ _
    refine n_iconst 0 rfl dX12_round_32 ?_
    refine a_istore_n (by decide) rfl dX12_round_33 ?_
    refine a_iconst (-1) rfl dX12_round_34 ?_
    refine a_istore_n (by decide) rfl dX12_round_35 ?_
    refine n_iconst 0 rfl dX12_round_36 ?_
    refine a_istore (by decide) rfl dX12_round_37 ?_
    have loop_39 : ∀ i, i ≤ mmN (tS T) 60 → AW miX12_round (d + 21) (mxA Q) 39 [(0, some (.ref 132)), (1, some (.int (nI q))), (2, some (.int (nI (atC (tS T) i)))), (3, some (.int ((nI (lwC (tS T) q i) - nI 1)))), (4, some (.int (nI i)))] [] M_29 := by
      refine up (mmN (tS T) 60) ?_ (fun i hi_39 ih_39 => ?_)
      · have hal := at_le hF (Nat.le_refl (mmN (tS T) 60))
        refine a_iload rfl dX12_round_39 ?_
        refine a_aload_n rfl dX12_round_41 ?_
        refine g_i hml.1 (by decide) rfl fX12_459 rfl dX12_round_42 ?_
        refine n_icmp_ge 83 (by omega) (by omega) dX12_round_45 (by decide) (fun h_45 => ?_) (fun h_45 => absurd h_45 (by omega))
        have hla : lwC (tS T) q (mmN (tS T) 60) = mmN (tS T) q := lw_all (by omega)
        have haa : atC (tS T) (mmN (tS T) 60) = cnP (tS T 0 4) (rdP (tS T)) := at_all hF
        refine a_aload_n rfl dX12_round_83 ?_
        refine a_iload_n rfl dX12_round_84 ?_
        refine a_iload_n rfl dX12_round_85 ?_
        refine n_iconst 1 rfl dX12_round_86 ?_
        refine a_iadd dX12_round_87 ?_
        refine a_eqi (y := nI (lwC (tS T) q (mmN (tS T) 60))) (low_1 _) ?_
        refine a_iload_n rfl dX12_round_88 ?_
        refine a_iload_n rfl dX12_round_89 ?_
        rw [hla, haa]
        refine n_callV (mi' := miX12_serves) dX12_round_90 lX12_464 mX12_serves (by decide) rfl rfl rfl (c_srvA hF hml (mile := q) (by omega) ?_ d) rfl rfl (by omega) (by decide) (Nat.le_of_ble_eq_true rfl)
        show AW _ _ _ _ _ _ _
        refine a_iret dX12_round_93 rfl ?_
        exact fin_qM hQ hI hG (by unfold sp_round; rw [if_pos (by omega), i_q]) (hf_29.f.i m0_s (by omega)) (m0_fr.t (hf_29.f.mo (fun k j h => by unfold scM coM; omega)))
      · have hal := at_le hF (show i ≤ mmN (tS T) 60 by omega)
        have hm5 := ml_59 (S := tS T) (q := i) hi_39
        refine a_iload rfl dX12_round_39 ?_
        refine a_aload_n rfl dX12_round_41 ?_
        refine g_i hml.1 (by decide) rfl fX12_459 rfl dX12_round_42 ?_
        refine n_icmp_ge 83 (by omega) (by omega) dX12_round_45 (by decide) (fun h_45 => absurd h_45 (by omega)) (fun h_45 => ?_)
        refine a_iload_n rfl dX12_round_48 ?_
        refine a_aload_n rfl dX12_round_49 ?_
        refine a_geta dX12_round_50 fX12_56 (by decide) rfl rfl ?_
        refine a_iload rfl dX12_round_53 ?_
        refine v_iald (by omega) (hml.2.2 _ (by omega)) (by decide) rfl (by decide) dX12_round_55 ?_
        refine n_iadd dX12_round_56 ?_
        refine a_istore_n (by decide) rfl dX12_round_57 ?_
        refine a_iload_n rfl dX12_round_58 ?_
        refine a_aload_n rfl dX12_round_59 ?_
        refine a_geta dX12_round_60 fX12_53 (by decide) rfl rfl ?_
        refine a_iload rfl dX12_round_63 ?_
        refine v_iald (by omega) (hml.2.1 _ (by omega)) (by decide) rfl (by decide) dX12_round_65 ?_
        refine a_iload_n rfl dX12_round_66 ?_
        refine n_icmp_ge 74 (by omega) (by omega) dX12_round_67 (by decide) (fun h_67 => ?_) (fun h_67 => ?_)
        · refine n_iconst 0 rfl dX12_round_74 ?_
          refine a_iadd dX12_round_75 ?_
          refine a_eqi (y := nI (lwC (tS T) q (i + 1)) - nI 1) (by rw [low_s]; show nI (lwC (tS T) q i + 0) - nI 1 = nI (lwC (tS T) q i + if mlN (tS T) i < q then 1 else 0) - nI 1; rw [if_neg (by omega)]) ?_
          refine a_istore_n (by decide) rfl dX12_round_76 ?_
          refine n_iinc (c := 1) rfl rfl (by decide) rfl dX12_round_77 ?_
          refine a_goto 39 dX12_round_80 (by decide) ?_
          exact a_bk ih_39 ⟨rfl, rfl, rfl, rfl, rfl, trivial⟩
        · refine n_iconst 1 rfl dX12_round_70 ?_
          refine a_goto 75 dX12_round_71 (by decide) ?_
          refine a_iadd dX12_round_75 ?_
          refine a_eqi (y := nI (lwC (tS T) q (i + 1)) - nI 1) (by rw [low_s]; show nI (lwC (tS T) q i + 1) - nI 1 = nI (lwC (tS T) q i + if mlN (tS T) i < q then 1 else 0) - nI 1; rw [if_pos (by omega)]) ?_
          refine a_istore_n (by decide) rfl dX12_round_76 ?_
          refine n_iinc (c := 1) rfl rfl (by decide) rfl dX12_round_77 ?_
          refine a_goto 39 dX12_round_80 (by decide) ?_
          exact a_bk ih_39 ⟨rfl, rfl, rfl, rfl, rfl, trivial⟩
    exact a_bk (loop_39 0 (by omega)) ⟨rfl, rfl, rfl, rfl, rfl, trivial⟩
  · show AW _ _ _ _ _ _ _
    have h_16 := isIn4n (x := x) (a := 0) (b := 59) (by decide) (by decide) h_16
    refine n_if_ne 28 (by decide) dX12_round_19 (by decide) (fun h => absurd h (by decide)) (fun _ => ?_)
    refine a_aload_n rfl dX12_round_22 ?_
    refine n_iconst 5 rfl dX12_round_23 ?_
    refine n_callV (mi' := miX12_refuse) dX12_round_24 lX12_345 mX12_refuse (by decide) rfl rfl rfl (c_X12_refuse ?_ d) rfl rfl (by omega) (by decide) (Nat.le_of_ble_eq_true rfl)
    show AW _ _ _ _ _ _ _
    refine a_iret dX12_round_27 rfl ?_
    exact fin_qM hQ hI hG (by unfold sp_round; rw [if_neg (by omega)]) siS (m0_fr.si (by unfold scM coM; omega))

theorem law_t {D : Nat → Int64} {t c i : Nat} (h : hgt t (min 100 (c * dN D (2 * i))) = dN D (2 * i + 1)) : isLawB D t c i = true := by unfold isLawB; rw [h]; simp
theorem law_f {D : Nat → Int64} {t c i : Nat} (h : ¬ hgt t (min 100 (c * dN D (2 * i))) = dN D (2 * i + 1)) : isLawB D t c i = false := by unfold isLawB; simpa using h
theorem al_step {p : Nat → Bool} {i : Nat} (h : alN p i = true) (h2 : p i = true) : alN p (i + 1) = true := by unfold alN; rw [h, h2]; rfl
theorem al_no {p : Nat → Bool} {i : Nat} (h2 : p i = false) : ∀ {n : Nat}, i < n → alN p n = false
  | 0, h => absurd h (by omega)
  | n + 1, h => by
    unfold alN
    by_cases e : i = n
    · subst e; rw [h2]; simp
    · rw [al_no h2 (n := n) (by omega)]; rfl

set_option maxRecDepth 100000 in
set_option maxHeartbeats 800000 in
theorem c_X0_isLaw {M : Mm} {t c : Nat} (ht : t ≤ 99) (hcc : c ≤ 20) {k : Nat} (hk : k < nC) (hc : layC k = .inr (2, 60, fun _ => 0)) {D : Nat → Int64} {n : Nat} (hn : n ≤ 20) (hD : ∀ i, i < 2 * n → M.2 k i = D i) (hT : TWO D n) {Q : Option Value → Mm → Prop} (h1 : lawB D n t c = true → Q (some (.int (nI 1))) M) (h0 : lawB D n t c = false → Q (some (.int (nI 0))) M) (d : Nat) : AMt miX0_isLaw (d) [.int (nI t), .int (nI c), .ref k, .int (nI n)] M Q := by
  refine AMt.of (by decide) (Nat.le_of_ble_eq_true rfl) ?_
  show AW miX0_isLaw (d) (mxA Q) 0 [(0, some (.int (nI t))), (1, some (.int (nI c))), (2, some (.ref k)), (3, some (.int (nI n)))] [] M
  refine n_iconst 0 rfl dX0_isLaw_0 ?_
  refine a_istore (by decide) rfl dX0_isLaw_1 ?_
  have loop_3 : ∀ i, i ≤ n → (alN (isLawB D t c) i = true) → AW miX0_isLaw (d) (mxA Q) 3 [(0, some (.int (nI t))), (1, some (.int (nI c))), (2, some (.ref k)), (3, some (.int (nI n))), (4, some (.int (nI i)))] [] M := by
    refine up (W := fun i => (alN (isLawB D t c) i = true) → AW miX0_isLaw (d) (mxA Q) 3 [(0, some (.int (nI t))), (1, some (.int (nI c))), (2, some (.ref k)), (3, some (.int (nI n))), (4, some (.int (nI i)))] [] M) n (fun hI_3 => ?_) (fun i hi_3 ih_3 hI_3 => ?_)
    · refine a_iload rfl dX0_isLaw_3 ?_
      refine a_iload_n rfl dX0_isLaw_5 ?_
      refine n_icmp_ge 56 (by omega) (by omega) dX0_isLaw_6 (by decide) (fun h_6 => ?_) (fun h_6 => absurd h_6 (by omega))
      refine n_iconst 1 rfl dX0_isLaw_56 ?_
      refine a_zret dX0_isLaw_57 rfl (Or.inr rfl) ?_
      exact h1 hI_3
    · have hd40 := TWO_d hT hi_3
      refine a_iload rfl dX0_isLaw_3 ?_
      refine a_iload_n rfl dX0_isLaw_5 ?_
      refine n_icmp_ge 56 (by omega) (by omega) dX0_isLaw_6 (by decide) (fun h_6 => absurd h_6 (by omega)) (fun h_6 => ?_)
      refine n_bipush 100 rfl dX0_isLaw_9 ?_
      refine a_iload_n rfl dX0_isLaw_11 ?_
      refine a_aload_n rfl dX0_isLaw_12 ?_
      refine n_iconst 2 rfl dX0_isLaw_13 ?_
      refine a_iload rfl dX0_isLaw_14 ?_
      refine n_imul dX0_isLaw_16 ?_
      refine n_lald (by omega) hk hc (by decide) dX0_isLaw_17 ?_
      refine a_l2i dX0_isLaw_18 ?_
      refine a_eqi (y := nI (dN D (2 * i))) (by rw [hD _ (by omega)]; exact l2i_n (hT i hi_3).1 (by have := (hT i hi_3).2.1; omega)) ?_
      refine n_imul dX0_isLaw_19 ?_
      have hmc : c * dN D (2 * i) ≤ 20 * 40 := Nat.mul_le_mul hcc hd40.1
      refine n_min (by omega) (by omega) dX0_isLaw_20 lX0_58 (Nat.le_of_ble_eq_true rfl) ?_
      refine a_istore (by decide) rfl dX0_isLaw_23 ?_
      refine a_iload_n rfl dX0_isLaw_25 ?_
      refine n_bipush 100 rfl dX0_isLaw_26 ?_
      refine a_iload rfl dX0_isLaw_28 ?_
      refine n_isub (by omega) dX0_isLaw_30 ?_
      refine n_imul dX0_isLaw_31 ?_
      have hmt : t * (100 - min 100 (c * dN D (2 * i))) ≤ 99 * 100 := Nat.mul_le_mul ht (by omega)
      refine n_bipush 100 rfl dX0_isLaw_32 ?_
      refine n_idiv (by omega) (by omega) (by omega) dX0_isLaw_34 ?_
      have hh1 : t * (100 - min 100 (c * dN D (2 * i))) / 100 = hgt t (min 100 (c * dN D (2 * i))) := rfl
      have hh2 := hgt_le t (min 100 (c * dN D (2 * i)))
      refine a_i2l dX0_isLaw_35 ?_
      refine a_aload_n rfl dX0_isLaw_36 ?_
      refine n_iconst 2 rfl dX0_isLaw_37 ?_
      refine a_iload rfl dX0_isLaw_38 ?_
      refine n_imul dX0_isLaw_40 ?_
      refine n_iconst 1 rfl dX0_isLaw_41 ?_
      refine n_iadd dX0_isLaw_42 ?_
      refine n_lald (by omega) hk hc (by decide) dX0_isLaw_43 ?_
      refine a_lcmp dX0_isLaw_44 ?_
      refine l_if_eq 50 dX0_isLaw_45 (by decide) (fun h_45 => ?_) (fun h_45 => ?_)
      · rw [hD (2 * i + 1) (by omega), i64_nI (by omega) _ (hT i hi_3).2.2.1] at h_45
        refine n_iinc (c := 1) rfl rfl (by decide) rfl dX0_isLaw_50 ?_
        refine a_goto 3 dX0_isLaw_53 (by decide) ?_
        exact a_bk (ih_3 (al_step hI_3 (law_t h_45))) ⟨rfl, rfl, rfl, rfl, rfl, trivial⟩
      · rw [hD (2 * i + 1) (by omega), i64_nI (by omega) _ (hT i hi_3).2.2.1] at h_45
        refine n_iconst 0 rfl dX0_isLaw_48 ?_
        refine a_zret dX0_isLaw_49 rfl (Or.inl rfl) ?_
        exact h0 (al_no (law_f h_45) hi_3)
  exact a_bk (loop_3 0 (by omega) rfl) ⟨rfl, rfl, rfl, rfl, rfl, trivial⟩

def lwI (D : Nat → Int64) (n t c : Nat) : Nat := sumN (fun c => if lawB D n (t + 1) c = true then 1 else 0) c
def lwO (D : Nat → Int64) (n t : Nat) : Nat := sumN (fun t => lwI D n t 21) t
theorem lwI_le (D : Nat → Int64) (n t c : Nat) : lwI D n t c ≤ c := by
  have := sumN_le (f := fun c => if lawB D n (t + 1) c = true then 1 else 0) (b := 1) (n := c) (fun j _ => by split <;> omega)
  unfold lwI; omega
theorem lwO_le (D : Nat → Int64) (n t : Nat) : lwO D n t ≤ t * 21 := sumN_le (fun j _ => lwI_le D n j 21)
theorem lwI_t {D : Nat → Int64} {n t c : Nat} (h : lawB D n (t + 1) c = true) : lwI D n t (c + 1) = lwI D n t c + 1 := by
  show lwI D n t c + (if _ then 1 else 0) = _
  rw [if_pos h]
theorem lwI_f {D : Nat → Int64} {n t c : Nat} (h : lawB D n (t + 1) c = false) : lwI D n t (c + 1) = lwI D n t c := by
  show lwI D n t c + (if _ then 1 else 0) = _
  rw [if_neg (by rw [h]; exact Bool.false_ne_true)]; rfl

set_option maxRecDepth 100000 in
set_option maxHeartbeats 800000 in
theorem c_X0_lawCount {M : Mm} {k : Nat} (hk : k < nC) (hc : layC k = .inr (2, 60, fun _ => 0)) {D : Nat → Int64} {n : Nat} (hn : n ≤ 20) (hD : ∀ i, i < 2 * n → M.2 k i = D i) (hT : TWO D n) {Q : Option Value → Mm → Prop} (hQ : Q (some (.int (nI (lawsN D n)))) M) (d : Nat) : AMt miX0_lawCount (d + 1) [.ref k, .int (nI n)] M Q := by
  refine AMt.of (by decide) (Nat.le_of_ble_eq_true rfl) ?_
  show AW miX0_lawCount (d + 1) (mxA Q) 0 [(0, some (.ref k)), (1, some (.int (nI n)))] [] M
  refine n_iconst 0 rfl dX0_lawCount_0 ?_
  refine a_istore_n (by decide) rfl dX0_lawCount_1 ?_
  refine n_iconst 1 rfl dX0_lawCount_2 ?_
  refine a_istore_n (by decide) rfl dX0_lawCount_3 ?_
  have loop_4 : ∀ t, t ≤ 99 → AW miX0_lawCount (d + 1) (mxA Q) 4 [(0, some (.ref k)), (1, some (.int (nI n))), (2, some (.int (nI (lwO D n t)))), (3, some (.int (nI (t + 1))))] [] M := by
    refine up 99 ?_ (fun t hi_4 ih_4 => ?_)
    · refine a_iload_n rfl dX0_lawCount_4 ?_
      refine n_bipush 99 rfl dX0_lawCount_5 ?_
      refine n_icmp_gt 46 (by omega) (by omega) dX0_lawCount_7 (by decide) (fun h_7 => ?_) (fun h_7 => absurd h_7 (by omega))
      refine a_iload_n rfl dX0_lawCount_46 ?_
      refine a_iret dX0_lawCount_47 rfl ?_
      exact hQ
    · have hlo := lwO_le D n t
      refine a_iload_n rfl dX0_lawCount_4 ?_
      refine n_bipush 99 rfl dX0_lawCount_5 ?_
      refine n_icmp_gt 46 (by omega) (by omega) dX0_lawCount_7 (by decide) (fun h_7 => absurd h_7 (by omega)) (fun h_7 => ?_)
      refine n_iconst 0 rfl dX0_lawCount_10 ?_
      refine a_istore (by decide) rfl dX0_lawCount_11 ?_
      have loop_13 : ∀ c, c ≤ 21 → AW miX0_lawCount (d + 1) (mxA Q) 13 [(0, some (.ref k)), (1, some (.int (nI n))), (2, some (.int (nI (lwO D n t + lwI D n t c)))), (3, some (.int (nI (t + 1)))), (4, some (.int (nI c)))] [] M := by
        refine up 21 ?_ (fun c hi_13 ih_13 => ?_)
        · refine a_iload rfl dX0_lawCount_13 ?_
          refine n_bipush 20 rfl dX0_lawCount_15 ?_
          refine n_icmp_gt 40 (by omega) (by omega) dX0_lawCount_17 (by decide) (fun h_17 => ?_) (fun h_17 => absurd h_17 (by omega))
          refine n_iinc (c := 1) rfl rfl (by decide) rfl dX0_lawCount_40 ?_
          refine a_goto 4 dX0_lawCount_43 (by decide) ?_
          exact a_bk ih_4 ⟨rfl, rfl, rfl, rfl, trivial⟩
        · have hli := lwI_le D n t c
          refine a_iload rfl dX0_lawCount_13 ?_
          refine n_bipush 20 rfl dX0_lawCount_15 ?_
          refine n_icmp_gt 40 (by omega) (by omega) dX0_lawCount_17 (by decide) (fun h_17 => absurd h_17 (by omega)) (fun h_17 => ?_)
          refine a_iload_n rfl dX0_lawCount_20 ?_
          refine a_iload rfl dX0_lawCount_21 ?_
          refine a_aload_n rfl dX0_lawCount_23 ?_
          refine a_iload_n rfl dX0_lawCount_24 ?_
          refine n_callS (mi' := miX0_isLaw) dX0_lawCount_25 lX0_54 mX0_isLaw (c_X0_isLaw (by omega) (by omega) hk hc hn hD hT (fun hz_25 => ?_) (fun hz_25 => ?_) d) rfl rfl (by omega) (by decide) (Nat.le_of_ble_eq_true rfl)
          · show AW _ _ _ _ _ _ _
            refine n_if_eq 34 (by decide) dX0_lawCount_28 (by decide) (fun h => absurd h (by decide)) (fun _ => ?_)
            refine n_iinc (c := 1) rfl rfl (by decide) rfl dX0_lawCount_31 ?_
            refine n_iinc (c := 1) rfl rfl (by decide) rfl dX0_lawCount_34 ?_
            refine a_goto 13 dX0_lawCount_37 (by decide) ?_
            rw [lwI_t hz_25, ← Nat.add_assoc] at ih_13
            exact a_bk ih_13 ⟨rfl, rfl, rfl, rfl, rfl, trivial⟩
          · show AW _ _ _ _ _ _ _
            refine n_if_eq 34 (by decide) dX0_lawCount_28 (by decide) (fun _ => ?_) (fun h => absurd h (by decide))
            refine n_iinc (c := 1) rfl rfl (by decide) rfl dX0_lawCount_34 ?_
            refine a_goto 13 dX0_lawCount_37 (by decide) ?_
            rw [lwI_f hz_25] at ih_13
            exact a_bk ih_13 ⟨rfl, rfl, rfl, rfl, rfl, trivial⟩
      exact a_bk (loop_13 0 (by omega)) ⟨rfl, rfl, rfl, rfl, rfl, trivial⟩
  exact a_bk (loop_4 0 (by omega)) ⟨rfl, rfl, rfl, rfl, trivial⟩

theorem lawf_no {D : Nat → Int64} {n t c : Nat} (h1 : ∀ a, a < t → ∀ b, b < 21 → lawB D n (a + 1) b = false) (h2 : ∀ b, b < c → lawB D n (t + 1) b = false) (hc : c ≤ 21) : ∀ q, q < t * 21 + c → (fun q => lawB D n (q / 21 + 1) (q % 21)) q = false := by
  intro q hq
  show lawB D n (q / 21 + 1) (q % 21) = false
  by_cases e : q / 21 < t
  · exact h1 _ e _ (by omega)
  · rw [show q / 21 = t by omega]
    exact h2 _ (by omega)

set_option maxRecDepth 100000 in
set_option maxHeartbeats 800000 in
theorem c_X0_firstLaw {M : Mm} {k : Nat} (hk : k < nC) (hc : layC k = .inr (2, 60, fun _ => 0)) {D : Nat → Int64} {n : Nat} (hn : n ≤ 20) (hD : ∀ i, i < 2 * n → M.2 k i = D i) (hT : TWO D n) {Q : Option Value → Mm → Prop} (h1 : ∀ v, v < 2079 → lawfN D n = some v → Q (some (.int (nI (v + 21)))) M) (h0 : lawfN D n = none → Q (some (.int (-1))) M) (d : Nat) : AMt miX0_firstLaw (d + 1) [.ref k, .int (nI n)] M Q := by
  refine AMt.of (by decide) (Nat.le_of_ble_eq_true rfl) ?_
  show AW miX0_firstLaw (d + 1) (mxA Q) 0 [(0, some (.ref k)), (1, some (.int (nI n)))] [] M
  refine n_iconst 1 rfl dX0_firstLaw_0 ?_
  refine a_istore_n (by decide) rfl dX0_firstLaw_1 ?_
  have loop_2 : ∀ t, t ≤ 99 → (∀ a, a < t → ∀ b, b < 21 → lawB D n (a + 1) b = false) → AW miX0_firstLaw (d + 1) (mxA Q) 2 [(0, some (.ref k)), (1, some (.int (nI n))), (2, some (.int (nI (t + 1))))] [] M := by
    refine up (W := fun t => (∀ a, a < t → ∀ b, b < 21 → lawB D n (a + 1) b = false) → AW miX0_firstLaw (d + 1) (mxA Q) 2 [(0, some (.ref k)), (1, some (.int (nI n))), (2, some (.int (nI (t + 1))))] [] M) 99 (fun hI_2 => ?_) (fun t hi_2 ih_2 hI_2 => ?_)
    · refine a_iload_n rfl dX0_firstLaw_2 ?_
      refine n_bipush 99 rfl dX0_firstLaw_3 ?_
      refine n_icmp_gt 45 (by omega) (by omega) dX0_firstLaw_5 (by decide) (fun h_5 => ?_) (fun h_5 => absurd h_5 (by omega))
      refine a_iconst (-1) rfl dX0_firstLaw_45 ?_
      refine a_iret dX0_firstLaw_46 rfl ?_
      exact h0 (fiN_no (lawf_no (t := 99) (c := 0) hI_2 (fun b hb => absurd hb (by omega)) (by omega)))
    · refine a_iload_n rfl dX0_firstLaw_2 ?_
      refine n_bipush 99 rfl dX0_firstLaw_3 ?_
      refine n_icmp_gt 45 (by omega) (by omega) dX0_firstLaw_5 (by decide) (fun h_5 => absurd h_5 (by omega)) (fun h_5 => ?_)
      refine n_iconst 0 rfl dX0_firstLaw_8 ?_
      refine a_istore_n (by decide) rfl dX0_firstLaw_9 ?_
      have loop_10 : ∀ c, c ≤ 21 → (∀ b, b < c → lawB D n (t + 1) b = false) → AW miX0_firstLaw (d + 1) (mxA Q) 10 [(0, some (.ref k)), (1, some (.int (nI n))), (2, some (.int (nI (t + 1)))), (3, some (.int (nI c)))] [] M := by
        refine up (W := fun c => (∀ b, b < c → lawB D n (t + 1) b = false) → AW miX0_firstLaw (d + 1) (mxA Q) 10 [(0, some (.ref k)), (1, some (.int (nI n))), (2, some (.int (nI (t + 1)))), (3, some (.int (nI c)))] [] M) 21 (fun hI_10 => ?_) (fun c hi_10 ih_10 hI_10 => ?_)
        · refine a_iload_n rfl dX0_firstLaw_10 ?_
          refine n_bipush 20 rfl dX0_firstLaw_11 ?_
          refine n_icmp_gt 39 (by omega) (by omega) dX0_firstLaw_13 (by decide) (fun h_13 => ?_) (fun h_13 => absurd h_13 (by omega))
          refine n_iinc (c := 1) rfl rfl (by decide) rfl dX0_firstLaw_39 ?_
          refine a_goto 2 dX0_firstLaw_42 (by decide) ?_
          exact a_bk (ih_2 (fun a ha => by
          rcases (show a < t ∨ a = t by omega) with h | h
          · exact hI_2 a h
          · subst h; exact hI_10)) ⟨rfl, rfl, rfl, trivial⟩
        · refine a_iload_n rfl dX0_firstLaw_10 ?_
          refine n_bipush 20 rfl dX0_firstLaw_11 ?_
          refine n_icmp_gt 39 (by omega) (by omega) dX0_firstLaw_13 (by decide) (fun h_13 => absurd h_13 (by omega)) (fun h_13 => ?_)
          refine a_iload_n rfl dX0_firstLaw_16 ?_
          refine a_iload_n rfl dX0_firstLaw_17 ?_
          refine a_aload_n rfl dX0_firstLaw_18 ?_
          refine a_iload_n rfl dX0_firstLaw_19 ?_
          refine n_callS (mi' := miX0_isLaw) dX0_firstLaw_20 lX0_54 mX0_isLaw (c_X0_isLaw (by omega) (by omega) hk hc hn hD hT (fun hz_20 => ?_) (fun hz_20 => ?_) d) rfl rfl (by omega) (by decide) (Nat.le_of_ble_eq_true rfl)
          · show AW _ _ _ _ _ _ _
            refine n_if_eq 33 (by decide) dX0_firstLaw_23 (by decide) (fun h => absurd h (by decide)) (fun _ => ?_)
            refine a_iload_n rfl dX0_firstLaw_26 ?_
            refine n_bipush 21 rfl dX0_firstLaw_27 ?_
            refine n_imul dX0_firstLaw_29 ?_
            refine a_iload_n rfl dX0_firstLaw_30 ?_
            refine n_iadd dX0_firstLaw_31 ?_
            refine a_iret dX0_firstLaw_32 rfl ?_
            have e := h1 (t * 21 + c) (by omega) (fiN_at (lawf_no hI_2 hI_10 (by omega)) (by show lawB D n ((t * 21 + c) / 21 + 1) ((t * 21 + c) % 21) = true; rw [show (t * 21 + c) / 21 = t by omega, show (t * 21 + c) % 21 = c by omega]; exact hz_20) (by omega))
            rw [show t * 21 + c + 21 = (t + 1) * 21 + c by omega] at e
            exact e
          · show AW _ _ _ _ _ _ _
            refine n_if_eq 33 (by decide) dX0_firstLaw_23 (by decide) (fun _ => ?_) (fun h => absurd h (by decide))
            refine n_iinc (c := 1) rfl rfl (by decide) rfl dX0_firstLaw_33 ?_
            refine a_goto 10 dX0_firstLaw_36 (by decide) ?_
            exact a_bk (ih_10 (fun b hb => by
            rcases (show b < c ∨ b = c by omega) with h | h
            · exact hI_10 b h
            · subst h; exact hz_20)) ⟨rfl, rfl, rfl, rfl, trivial⟩
      exact a_bk (loop_10 0 (by omega) (fun b hb => absurd hb (by omega))) ⟨rfl, rfl, rfl, rfl, trivial⟩
  exact a_bk (loop_2 0 (by omega) (fun a ha => absurd ha (by omega))) ⟨rfl, rfl, rfl, trivial⟩

/-- how many of the numbers below 10 a set has -/
def szN (a : Nat) : Nat := sumN (fun k => if a.testBit k then 1 else 0) 10
theorem szN_le (a : Nat) : szN a ≤ 10 := by
  have := sumN_le (f := fun k => if a.testBit k then 1 else 0) (b := 1) (n := 10) (fun j _ => by split <;> omega)
  unfold szN; omega
def shU (x : Int32) (k : Nat) : Int32 := (x.toUInt32 >>> ((nI k).toUInt32 &&& Int32.toUInt32 31)).toInt32
def bitcE (x : Int32) : Int32 := (fun a1 => (fun a2 => (fun a3 => (fun a4 => (a4 + shU a4 16) &&& nI 63) (a3 + shU a3 8)) ((a2 + shU a2 4) &&& 252645135)) ((a1 &&& 858993459) + (shU a1 2 &&& 858993459))) (x - (shU x 1 &&& 1431655765))
theorem bitc_ok : ∀ a, a < 1024 → bitcE (nI a) = nI (szN a) := by decide +kernel

set_option maxRecDepth 100000 in
set_option maxHeartbeats 800000 in
theorem c_J6_bitCount_0f7a4 {M : Mm} {a : Nat} (ha : a < 1024) {Q : Option Value → Mm → Prop} (hQ : Q (some (.int (nI (szN a)))) M) (d : Nat) : AMt miJ6_bitCount_0f7a4 (d) [.int ((nI a))] M Q := by
  refine AMt.of (by decide) (Nat.le_of_ble_eq_true rfl) ?_
  show AW miJ6_bitCount_0f7a4 (d) (mxA Q) 0 [(0, some (.int ((nI a))))] [] M
  refine a_iload_n rfl dJ6_bitCount_0f7a4_0 ?_
  refine a_iload_n rfl dJ6_bitCount_0f7a4_1 ?_
  refine n_iconst 1 rfl dJ6_bitCount_0f7a4_2 ?_
  refine a_iushr dJ6_bitCount_0f7a4_3 ?_
  refine a_ldcw kJ6_265 dJ6_bitCount_0f7a4_4 ?_
  refine a_iand dJ6_bitCount_0f7a4_7 ?_
  refine a_isub dJ6_bitCount_0f7a4_8 ?_
  refine a_istore_n (by decide) rfl dJ6_bitCount_0f7a4_9 ?_
  refine a_iload_n rfl dJ6_bitCount_0f7a4_10 ?_
  refine a_ldcw kJ6_266 dJ6_bitCount_0f7a4_11 ?_
  refine a_iand dJ6_bitCount_0f7a4_14 ?_
  refine a_iload_n rfl dJ6_bitCount_0f7a4_15 ?_
  refine n_iconst 2 rfl dJ6_bitCount_0f7a4_16 ?_
  refine a_iushr dJ6_bitCount_0f7a4_17 ?_
  refine a_ldcw kJ6_266 dJ6_bitCount_0f7a4_18 ?_
  refine a_iand dJ6_bitCount_0f7a4_21 ?_
  refine a_iadd dJ6_bitCount_0f7a4_22 ?_
  refine a_istore_n (by decide) rfl dJ6_bitCount_0f7a4_23 ?_
  refine a_iload_n rfl dJ6_bitCount_0f7a4_24 ?_
  refine a_iload_n rfl dJ6_bitCount_0f7a4_25 ?_
  refine n_iconst 4 rfl dJ6_bitCount_0f7a4_26 ?_
  refine a_iushr dJ6_bitCount_0f7a4_27 ?_
  refine a_iadd dJ6_bitCount_0f7a4_28 ?_
  refine a_ldcw kJ6_267 dJ6_bitCount_0f7a4_29 ?_
  refine a_iand dJ6_bitCount_0f7a4_32 ?_
  refine a_istore_n (by decide) rfl dJ6_bitCount_0f7a4_33 ?_
  refine a_iload_n rfl dJ6_bitCount_0f7a4_34 ?_
  refine a_iload_n rfl dJ6_bitCount_0f7a4_35 ?_
  refine n_bipush 8 rfl dJ6_bitCount_0f7a4_36 ?_
  refine a_iushr dJ6_bitCount_0f7a4_38 ?_
  refine a_iadd dJ6_bitCount_0f7a4_39 ?_
  refine a_istore_n (by decide) rfl dJ6_bitCount_0f7a4_40 ?_
  refine a_iload_n rfl dJ6_bitCount_0f7a4_41 ?_
  refine a_iload_n rfl dJ6_bitCount_0f7a4_42 ?_
  refine n_bipush 16 rfl dJ6_bitCount_0f7a4_43 ?_
  refine a_iushr dJ6_bitCount_0f7a4_45 ?_
  refine a_iadd dJ6_bitCount_0f7a4_46 ?_
  refine a_istore_n (by decide) rfl dJ6_bitCount_0f7a4_47 ?_
  refine a_iload_n rfl dJ6_bitCount_0f7a4_48 ?_
  refine n_bipush 63 rfl dJ6_bitCount_0f7a4_49 ?_
  refine a_iand dJ6_bitCount_0f7a4_51 ?_
  refine a_iret dJ6_bitCount_0f7a4_52 rfl ?_
  rw [← bitc_ok a ha] at hQ
  exact hQ

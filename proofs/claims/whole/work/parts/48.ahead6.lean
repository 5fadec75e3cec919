def szP (a i : Nat) : Nat := sumN (fun k => if a.testBit k then 1 else 0) i
theorem szP_le (a i : Nat) : szP a i ≤ i := by
  have := sumN_le (f := fun k => if a.testBit k then 1 else 0) (b := 1) (n := i) (fun j _ => by split <;> omega)
  unfold szP; omega
theorem szP_t {a i : Nat} (h : a.testBit i = true) : szP a (i + 1) = szP a i + 1 := by
  show szP a i + (if _ then 1 else 0) = _
  rw [if_pos h]
theorem szP_f {a i : Nat} (h : a.testBit i = false) : szP a (i + 1) = szP a i := by
  show szP a i + (if _ then 1 else 0) = _
  rw [if_neg (by rw [h]; exact Bool.false_ne_true)]; rfl

set_option maxRecDepth 100000 in
set_option maxHeartbeats 800000 in
theorem c_X12_sizeOf {M : Mm} {a : Nat} (ha : a < 1024) {Q : Option Value → Mm → Prop} (hQ : Q (some (.int (nI (szN a)))) M) (d : Nat) : AMt miX12_sizeOf (d + 1) [.int (nI a)] M Q := by
  refine AMt.of (by decide) (Nat.le_of_ble_eq_true rfl) ?_
  show AW miX12_sizeOf (d + 1) (mxA Q) 0 [(0, some (.int (nI a)))] [] M
  refine n_iconst 0 rfl dX12_sizeOf_0 ?_
  refine a_istore_n (by decide) rfl dX12_sizeOf_1 ?_
  refine n_iconst 0 rfl dX12_sizeOf_2 ?_
  refine a_istore_n (by decide) rfl dX12_sizeOf_3 ?_
  have loop_4 : ∀ i, i ≤ 10 → AW miX12_sizeOf (d + 1) (mxA Q) 4 [(0, some (.int (nI a))), (1, some (.int (nI (szP a i)))), (2, some (.int (nI i)))] [] M := by
    refine up 10 ?_ (fun i hi_4 ih_4 => ?_)
    · refine a_iload_n rfl dX12_sizeOf_4 ?_
      refine n_bipush 10 rfl dX12_sizeOf_5 ?_
      refine n_icmp_ge 32 (by omega) (by omega) dX12_sizeOf_7 (by decide) (fun h_7 => ?_) (fun h_7 => absurd h_7 (by omega))
      refine a_iload_n rfl dX12_sizeOf_32 ?_
      refine a_iret dX12_sizeOf_33 rfl ?_
      exact hQ
    · have hsl := szP_le a i
      refine a_iload_n rfl dX12_sizeOf_4 ?_
      refine n_bipush 10 rfl dX12_sizeOf_5 ?_
      refine n_icmp_ge 32 (by omega) (by omega) dX12_sizeOf_7 (by decide) (fun h_7 => absurd h_7 (by omega)) (fun h_7 => ?_)
      refine a_iload_n rfl dX12_sizeOf_10 ?_
      refine a_iload_n rfl dX12_sizeOf_11 ?_
      refine a_iload_n rfl dX12_sizeOf_12 ?_
      refine n_callS (mi' := miX12_has) dX12_sizeOf_13 lX12_108 mX12_has (c_X12_has (by omega) (by omega) (fun h_13 => ?_) (fun h_13 => ?_) d) rfl rfl (by omega) (by decide) (Nat.le_of_ble_eq_true rfl)
      · show AW _ _ _ _ _ _ _
        refine n_if_eq 23 (by decide) dX12_sizeOf_16 (by decide) (fun h => absurd h (by decide)) (fun _ => ?_)
        refine n_iconst 1 rfl dX12_sizeOf_19 ?_
        refine a_goto 24 dX12_sizeOf_20 (by decide) ?_
        refine n_iadd dX12_sizeOf_24 ?_
        refine a_istore_n (by decide) rfl dX12_sizeOf_25 ?_
        refine n_iinc (c := 1) rfl rfl (by decide) rfl dX12_sizeOf_26 ?_
        refine a_goto 4 dX12_sizeOf_29 (by decide) ?_
        rw [szP_t h_13] at ih_4
        exact a_bk ih_4 ⟨rfl, rfl, rfl, trivial⟩
      · show AW _ _ _ _ _ _ _
        refine n_if_eq 23 (by decide) dX12_sizeOf_16 (by decide) (fun _ => ?_) (fun h => absurd h (by decide))
        refine n_iconst 0 rfl dX12_sizeOf_23 ?_
        refine n_iadd dX12_sizeOf_24 ?_
        refine a_istore_n (by decide) rfl dX12_sizeOf_25 ?_
        refine n_iinc (c := 1) rfl rfl (by decide) rfl dX12_sizeOf_26 ?_
        refine a_goto 4 dX12_sizeOf_29 (by decide) ?_
        rw [szP_f h_13] at ih_4
        exact a_bk ih_4 ⟨rfl, rfl, rfl, trivial⟩
  exact a_bk (loop_4 0 (by omega)) ⟨rfl, rfl, rfl, trivial⟩

/-- CLEAR in n DAYS, laid beside -/
def clI (S : ST) (i : Nat) (M : Mm) : Prop := ∀ n, n < i → ∀ k, k < S 0 2 → M.1 145 (6 * n + k) = nI (pdI S (S 2) n k)
theorem cl_s {S : ST} {i : Nat} {M : Mm} (h : clI S i M) (h2 : ∀ k, k < S 0 2 → M.1 145 (6 * i + k) = nI (pdI S (S 2) i k)) : clI S (i + 1) M := by
  intro n hn k hk
  by_cases e : n = i
  · subst e; exact h2 k hk
  · exact h n (by omega) k hk
theorem cl_fr {S : ST} {i : Nat} {M M1 : Mm} {P : Nat → Nat → Prop} (h : clI S i M) (hf : frM P M M1) (hp : ∀ j, ¬ P 145 j) : clI S i M1 := fun n hn k hk => hf.i (h n hn k hk) (hp _)
theorem wb_fr {M M1 M2 : Mm} {S : ST} {P : Nat → Nat → Prop} {i : Nat} (h : wbI M S P i M1) (hF : WF (dayN S i)) (hf : frM P M1 M2) (hp : ∀ j, ¬ P 137 j) (hp2 : ∀ j, ¬ P 138 j) : wbI M S P i M2 := by
  refine ⟨VM_frM h.1 hF hf (fun j _ => hp j), h.2.1.t (hf.mo (fun k j h => Or.inl h)), fun j hj => (hf.1 138 j (hp2 j)).trans (h.2.2 j hj)⟩

theorem cl_fr2 {S : ST} {i : Nat} {M M1 : Mm} {P : Nat → Nat → Prop} (h : clI S i M) (hf : frM P M M1) (hq : ∀ q, q < 6 * i → M1.1 145 q = M.1 145 q) (hm : S 0 2 ≤ 6 := by omega) : clI S i M1 := fun n hn k hk => (hq _ (by omega)).trans (h n hn k hk)
theorem cl_st {S : ST} {i j : Nat} {M : Mm} (h : ∀ k, k < j → M.1 145 (6 * i + k) = nI (pdI S (S 2) i k)) : ∀ k, k < j + 1 → (siM M 145 (6 * i + j) (nI (pdI S (S 2) i j))).1 145 (6 * i + k) = nI (pdI S (S 2) i k) := by
  intro k hk
  by_cases e : k = j
  · subst e; exact siS
  · exact siN (h k (by omega)) (by omega)

set_option maxRecDepth 100000 in
set_option maxHeartbeats 800000 in
theorem c_X12_laysClearer {M : Mm} {S : ST} (hM : VM 0 M S) (hF : WF S) (hd9 : S 0 1 ≤ 9999) {Q : Option Value → Mm → Prop} (hQ : ∀ M', clI S 41 M' → frM (fun k _ => k = 145 ∨ k = 138) M M' → Q none M') (d : Nat) : AMt miX12_laysClearer (d + 4) [.ref 132] M Q := by
  refine AMt.of (by decide) (Nat.le_of_ble_eq_true rfl) ?_
  show AW miX12_laysClearer (d + 4) (mxA Q) 0 [(0, some (.ref 132))] [] M
  have hm := WF_m hF
  have hh := WF_h hF
  have hs := WF_s hF
  have hn := WF_n hF
  refine a_aload_n rfl dX12_laysClearer_0 ?_
  refine n_callV (mi' := miX12_keeps) dX12_laysClearer_1 lX12_417 mX12_keeps (by decide) rfl rfl rfl (c_X12_keeps (fun M_1 hk_1 hf_1 => ?_) d) rfl rfl (by omega) (by decide) (Nat.le_of_ble_eq_true rfl)
  show AW _ _ _ _ _ _ _
  refine n_iconst 0 rfl dX12_laysClearer_4 ?_
  refine a_istore_n (by decide) rfl dX12_laysClearer_5 ?_
  have loop_6 : ∀ i, i ≤ 41 → ∀ M1, (wbI M S (fun k _ => k = 145) i M1 ∧ clI S i M1) → AW miX12_laysClearer (d + 4) (mxA Q) 6 [(0, some (.ref 132)), (1, some (.int (nI i)))] [] M1 := by
    refine up (W := fun i => ∀ M1, (wbI M S (fun k _ => k = 145) i M1 ∧ clI S i M1) → AW miX12_laysClearer (d + 4) (mxA Q) 6 [(0, some (.ref 132)), (1, some (.int (nI i)))] [] M1) 41 (fun M1 hI_6 => ?_) (fun i hi_6 ih_6 M1 hI_6 => ?_)
    · refine a_iload_n rfl dX12_laysClearer_6 ?_
      refine n_bipush 40 rfl dX12_laysClearer_7 ?_
      refine n_icmp_gt 60 (by omega) (by omega) dX12_laysClearer_9 (by decide) (fun h_9 => ?_) (fun h_9 => absurd h_9 (by omega))
      refine a_aload_n rfl dX12_laysClearer_60 ?_
      refine n_callV (mi' := miX12_restores) dX12_laysClearer_61 lX12_420 mX12_restores (by decide) rfl rfl rfl (c_X12_restores (fun M_61 hk_61 hf_61 => ?_) d) rfl rfl (by omega) (by decide) (Nat.le_of_ble_eq_true rfl)
      show AW _ _ _ _ _ _ _
      refine a_vret dX12_laysClearer_64 rfl ?_
      exact hQ _ (cl_fr hI_6.2 hf_61 (fun j => by omega)) (wb_e hI_6.1 hk_61 hf_61)
    · have hc2 : (dayN S i) 0 2 = S 0 2 := rfl
      refine a_iload_n rfl dX12_laysClearer_6 ?_
      refine n_bipush 40 rfl dX12_laysClearer_7 ?_
      refine n_icmp_gt 60 (by omega) (by omega) dX12_laysClearer_9 (by decide) (fun h_9 => absurd h_9 (by omega)) (fun h_9 => ?_)
      refine n_iconst 0 rfl dX12_laysClearer_12 ?_
      refine a_istore_n (by decide) rfl dX12_laysClearer_13 ?_
      have loop_14 : ∀ j, j ≤ S 0 2 → ∀ M2, (((∀ k, k < j → (M2).1 145 (6 * i + k) = nI (pdI S (S 2) i k)) ∧ ∀ q, q < 6 * i → (M2).1 145 q = M1.1 145 q) ∧ frM (fun k _ => k = 145) M1 M2) → AW miX12_laysClearer (d + 4) (mxA Q) 14 [(0, some (.ref 132)), (1, some (.int (nI i))), (2, some (.int (nI j)))] [] M2 := by
        refine up (W := fun j => ∀ M2, (((∀ k, k < j → (M2).1 145 (6 * i + k) = nI (pdI S (S 2) i k)) ∧ ∀ q, q < 6 * i → (M2).1 145 q = M1.1 145 q) ∧ frM (fun k _ => k = 145) M1 M2) → AW miX12_laysClearer (d + 4) (mxA Q) 14 [(0, some (.ref 132)), (1, some (.int (nI i))), (2, some (.int (nI j)))] [] M2) (S 0 2) (fun M2 hI_14 => ?_) (fun j hi_14 ih_14 M2 hI_14 => ?_)
        · refine a_iload_n rfl dX12_laysClearer_14 ?_
          refine a_aload_n rfl dX12_laysClearer_15 ?_
          refine a_geta dX12_laysClearer_16 fX12_35 (by decide) rfl rfl ?_
          refine n_iconst 0 rfl dX12_laysClearer_19 ?_
          refine v_iald (by omega) (VM_s0 (wb_fr hI_6.1 (WF_day2 hF (by omega)) hI_14.2 (fun j => by omega) (fun j => by omega)).1) (by decide) rfl (by decide) dX12_laysClearer_20 ?_
          refine n_icmp_ge 50 (by omega) (by omega) dX12_laysClearer_21 (by decide) (fun h_21 => ?_) (fun h_21 => absurd h_21 (by omega))
          refine a_aload_n rfl dX12_laysClearer_50 ?_
          refine n_callV (mi' := miX12_passes) dX12_laysClearer_51 lX12_394 mX12_passes (by decide) rfl rfl rfl (c_pass (S := dayN S i) (wb_fr hI_6.1 (WF_day2 hF (by omega)) hI_14.2 (fun j => by omega) (fun j => by omega)).1 (WF_day2 hF (by omega)) (fun M_51 hV_51 hf_51 => ?_) d) rfl rfl (by omega) (by decide) (Nat.le_of_ble_eq_true rfl)
          show AW _ _ _ _ _ _ _
          refine n_iinc (c := 1) rfl rfl (by decide) rfl dX12_laysClearer_54 ?_
          refine a_goto 6 dX12_laysClearer_57 (by decide) ?_
          exact a_bk (ih_6 _ ⟨wb_s (wb_fr hI_6.1 (WF_day2 hF (by omega)) hI_14.2 (fun j => by omega) (fun j => by omega)) hV_51 hf_51, cl_fr (cl_s (cl_fr2 hI_6.2 hI_14.2 hI_14.1.2) hI_14.1.1) hf_51 (fun j => by omega)⟩) ⟨rfl, rfl, trivial⟩
        · refine a_iload_n rfl dX12_laysClearer_14 ?_
          refine a_aload_n rfl dX12_laysClearer_15 ?_
          refine a_geta dX12_laysClearer_16 fX12_35 (by decide) rfl rfl ?_
          refine n_iconst 0 rfl dX12_laysClearer_19 ?_
          refine v_iald (by omega) (VM_s0 (wb_fr hI_6.1 (WF_day2 hF (by omega)) hI_14.2 (fun j => by omega) (fun j => by omega)).1) (by decide) rfl (by decide) dX12_laysClearer_20 ?_
          refine n_icmp_ge 50 (by omega) (by omega) dX12_laysClearer_21 (by decide) (fun h_21 => absurd h_21 (by omega)) (fun h_21 => ?_)
          refine a_aload_n rfl dX12_laysClearer_24 ?_
          refine a_geta dX12_laysClearer_25 fX12_59 (by decide) rfl rfl ?_
          refine n_bipush 6 rfl dX12_laysClearer_28 ?_
          refine a_iload_n rfl dX12_laysClearer_30 ?_
          refine n_imul dX12_laysClearer_31 ?_
          refine a_iload_n rfl dX12_laysClearer_32 ?_
          refine n_iadd dX12_laysClearer_33 ?_
          refine a_aload_n rfl dX12_laysClearer_34 ?_
          refine a_geta dX12_laysClearer_35 fX12_35 (by decide) rfl rfl ?_
          refine n_bipush 6 rfl dX12_laysClearer_38 ?_
          refine a_iload_n rfl dX12_laysClearer_40 ?_
          refine n_iadd dX12_laysClearer_41 ?_
          refine v_iald (by omega) (VM_a6 (wb_fr hI_6.1 (WF_day2 hF (by omega)) hI_14.2 (fun j => by omega) (fun j => by omega)).1 (j := j) (by omega)) (by decide) rfl (by decide) dX12_laysClearer_42 ?_
          refine n_iast (by omega) (by decide) rfl (by decide) dX12_laysClearer_43 ?_
          refine n_iinc (c := 1) rfl rfl (by decide) rfl dX12_laysClearer_44 ?_
          refine a_goto 14 dX12_laysClearer_47 (by decide) ?_
          exact a_bk (ih_14 _ ⟨⟨cl_st hI_14.1.1, fun q hq => siN (hI_14.1.2 q hq) (by omega)⟩, hI_14.2.si rfl⟩) ⟨rfl, rfl, rfl, trivial⟩
      exact a_bk (loop_14 0 (by omega) _ ⟨⟨fun k hk => absurd hk (by omega), fun _ _ => rfl⟩, frM.r⟩) ⟨rfl, rfl, rfl, trivial⟩
  exact a_bk (loop_6 0 (by omega) _ ⟨wb_0 hM hF hk_1 hf_1, fun n hn => absurd hn (by omega)⟩) ⟨rfl, rfl, trivial⟩

set_option maxRecDepth 100000 in
set_option maxHeartbeats 800000 in
theorem c_X12_numberOf {M : Mm} {t q : Nat} (h : 60 * t + q < 240) {Q : Option Value → Mm → Prop} (hQ : Q (some (.long (M.2 135 (60 * t + q)))) M) (d : Nat) : AMt miX12_numberOf (d) [.ref 132, .int (nI t), .int (nI q)] M Q := by
  refine AMt.of (by decide) (Nat.le_of_ble_eq_true rfl) ?_
  show AW miX12_numberOf (d) (mxA Q) 0 [(0, some (.ref 132)), (1, some (.int (nI t))), (2, some (.int (nI q)))] [] M
  refine a_aload_n rfl dX12_numberOf_0 ?_
  refine a_geta dX12_numberOf_1 fX12_20 (by decide) rfl rfl ?_
  refine n_bipush 60 rfl dX12_numberOf_4 ?_
  refine a_iload_n rfl dX12_numberOf_6 ?_
  refine n_imul dX12_numberOf_7 ?_
  refine a_iload_n rfl dX12_numberOf_8 ?_
  refine n_iadd dX12_numberOf_9 ?_
  refine n_lald (by omega) (by decide) rfl (by decide) dX12_numberOf_10 ?_
  refine a_lret dX12_numberOf_11 rfl ?_
  exact hQ

set_option maxRecDepth 100000 in
set_option maxHeartbeats 800000 in
theorem c_X12_isTray {M : Mm} {x : Int32} {Q : Option Value → Mm → Prop} (h1 : 0 ≤ x.toInt → x.toInt < 4 → Q (some (.int (nI 1))) M) (h0 : ¬ (0 ≤ x.toInt ∧ x.toInt < 4) → Q (some (.int (nI 0))) M) (d : Nat) : AMt miX12_isTray (d + 1) [.ref 132, .int x] M Q := by
  refine AMt.of (by decide) (Nat.le_of_ble_eq_true rfl) ?_
  show AW miX12_isTray (d + 1) (mxA Q) 0 [(0, some (.ref 132)), (1, some (.int x))] [] M
  refine a_iload_n rfl dX12_isTray_0 ?_
  refine a_i2l dX12_isTray_1 ?_
  refine a_lconst 0 rfl dX12_isTray_2 ?_
  refine a_ldc2 kX12_102 dX12_isTray_3 ?_
  refine n_callS (mi' := miX12_isIn) dX12_isTray_6 lX12_104 mX12_isIn (c_X12_isIn (fun h_6 => ?_) (fun h_6 => ?_) d) rfl rfl (by omega) (by decide) (Nat.le_of_ble_eq_true rfl)
  · show AW _ _ _ _ _ _ _
    have h_6 := isIn4 (x := x) (a := 0) (b := 3) (by decide) (by decide) h_6
    refine a_zret dX12_isTray_9 rfl (Or.inr rfl) ?_
    exact h1 (by omega) (by omega)
  · show AW _ _ _ _ _ _ _
    have h_6 := isIn4n (x := x) (a := 0) (b := 3) (by decide) (by decide) h_6
    refine a_zret dX12_isTray_9 rfl (Or.inl rfl) ?_
    exact h0 (by omega)

set_option maxRecDepth 100000 in
set_option maxHeartbeats 800000 in
theorem c_X12_whyNoTwos {M : Mm} {R : TRY} (hR : RM M R) (hG : RG R) {t : Nat} {n : Int32} (ht : t < 4) {Q : Option Value → Mm → Prop} (hQ : Q (some (.int (nI (twosN R t n)))) M) (d : Nat) : AMt miX12_whyNoTwos (d + 2) [.ref 132, .int (nI t), .int n] M Q := by
  refine AMt.of (by decide) (Nat.le_of_ble_eq_true rfl) ?_
  show AW miX12_whyNoTwos (d + 2) (mxA Q) 0 [(0, some (.ref 132)), (1, some (.int (nI t))), (2, some (.int n))] [] M
  have hl := RM_len hR hG ht
  have hle := lenI_le hG ht
  refine a_aload_n rfl dX12_whyNoTwos_0 ?_
  refine a_geta dX12_whyNoTwos_1 fX12_17 (by decide) rfl rfl ?_
  refine a_iload_n rfl dX12_whyNoTwos_4 ?_
  refine n_iald (by omega) (by decide) rfl (by decide) dX12_whyNoTwos_5 ?_
  refine r_if_ge 11 dX12_whyNoTwos_6 (by decide) (fun h_6 => ?_) (fun h_6 => ?_)
  · refine a_aload_n rfl dX12_whyNoTwos_11 ?_
    refine a_geta dX12_whyNoTwos_12 fX12_17 (by decide) rfl rfl ?_
    refine a_iload_n rfl dX12_whyNoTwos_15 ?_
    refine n_iald (by omega) (by decide) rfl (by decide) dX12_whyNoTwos_16 ?_
    refine a_i2l dX12_whyNoTwos_17 ?_
    refine a_ldc2 kX12_377 dX12_whyNoTwos_18 ?_
    refine a_iload_n rfl dX12_whyNoTwos_21 ?_
    refine a_i2l dX12_whyNoTwos_22 ?_
    refine a_lmul dX12_whyNoTwos_23 ?_
    refine a_lcmp dX12_whyNoTwos_24 ?_
    refine l_if_ge 30 dX12_whyNoTwos_25 (by decide) (fun h_25 => ?_) (fun h_25 => ?_)
    · simp only [Int64.lt_iff_toInt_lt, Int64.le_iff_toInt_le, i64_mul2, i64_i32, hl] at h_25
      refine a_iload_n rfl dX12_whyNoTwos_30 ?_
      refine a_i2l dX12_whyNoTwos_31 ?_
      refine a_lconst 0 rfl dX12_whyNoTwos_32 ?_
      refine a_ldc2 kX12_413 dX12_whyNoTwos_33 ?_
      refine n_callS (mi' := miX12_isIn) dX12_whyNoTwos_36 lX12_104 mX12_isIn (c_X12_isIn (fun h_36 => ?_) (fun h_36 => ?_) d) rfl rfl (by omega) (by decide) (Nat.le_of_ble_eq_true rfl)
      · show AW _ _ _ _ _ _ _
        have h_36 := isIn4 (x := n) (a := 0) (b := 20) (by decide) (by decide) h_36
        refine n_if_ne 44 (by decide) dX12_whyNoTwos_39 (by decide) (fun _ => ?_) (fun h => absurd h (by decide))
        obtain ⟨q, hq, rfl⟩ := inR_of (x := n) (m := 21) (by omega) (by omega) (by omega)
        have t_q : (nI q).toInt = (q : Int) := nI_toInt (by omega)
        have i_q : idx (nI q) = q := idx_nI (by omega)
        have h0_ : (0 : Int64).toInt = 0 := by decide
        have h40_ : (40 : Int64).toInt = 40 := by decide
        have h99_ : (99 : Int64).toInt = 99 := by decide
        refine n_iconst 0 rfl dX12_whyNoTwos_44 ?_
        refine a_istore_n (by decide) rfl dX12_whyNoTwos_45 ?_
        have loop_46 : ∀ i, i ≤ q → (∀ j, j < i → twoB R t j = true) → AW miX12_whyNoTwos (d + 2) (mxA Q) 46 [(0, some (.ref 132)), (1, some (.int (nI t))), (2, some (.int (nI q))), (3, some (.int (nI i)))] [] M := by
          refine up (W := fun i => (∀ j, j < i → twoB R t j = true) → AW miX12_whyNoTwos (d + 2) (mxA Q) 46 [(0, some (.ref 132)), (1, some (.int (nI t))), (2, some (.int (nI q))), (3, some (.int (nI i)))] [] M) q (fun hI_46 => ?_) (fun i hi_46 ih_46 hI_46 => ?_)
          · refine a_iload_n rfl dX12_whyNoTwos_46 ?_
            refine a_iload_n rfl dX12_whyNoTwos_47 ?_
            refine n_icmp_ge 97 (by omega) (by omega) dX12_whyNoTwos_48 (by decide) (fun h_48 => ?_) (fun h_48 => absurd h_48 (by omega))
            refine n_iconst 0 rfl dX12_whyNoTwos_97 ?_
            refine a_iret dX12_whyNoTwos_98 rfl ?_
            rw [show twosN R t (nI q) = 0 by unfold twosN; rw [if_neg (by omega), if_neg (by omega), if_pos (by omega), if_pos (fun j hj => hI_46 j (by omega))]] at hQ
            exact hQ
          · have hda := congrArg Int64.toInt (RM_dat hR (t := t) (j := 2 * i) ht (by omega))
            have hdb := congrArg Int64.toInt (RM_dat hR (t := t) (j := 2 * i + 1) ht (by omega))
            refine a_iload_n rfl dX12_whyNoTwos_46 ?_
            refine a_iload_n rfl dX12_whyNoTwos_47 ?_
            refine n_icmp_ge 97 (by omega) (by omega) dX12_whyNoTwos_48 (by decide) (fun h_48 => absurd h_48 (by omega)) (fun h_48 => ?_)
            refine a_aload_n rfl dX12_whyNoTwos_51 ?_
            refine a_iload_n rfl dX12_whyNoTwos_52 ?_
            refine n_iconst 2 rfl dX12_whyNoTwos_53 ?_
            refine a_iload_n rfl dX12_whyNoTwos_54 ?_
            refine n_imul dX12_whyNoTwos_55 ?_
            refine n_callV (mi' := miX12_numberOf) dX12_whyNoTwos_56 lX12_471 mX12_numberOf (by decide) rfl rfl rfl (c_X12_numberOf (by omega) ?_ d) rfl rfl (by omega) (by decide) (Nat.le_of_ble_eq_true rfl)
            show AW _ _ _ _ _ _ _
            refine a_lconst 0 rfl dX12_whyNoTwos_59 ?_
            refine a_ldc2 kX12_475 dX12_whyNoTwos_60 ?_
            refine n_callS (mi' := miX12_isIn) dX12_whyNoTwos_63 lX12_104 mX12_isIn (c_X12_isIn (fun h_63 => ?_) (fun h_63 => ?_) d) rfl rfl (by omega) (by decide) (Nat.le_of_ble_eq_true rfl)
            · show AW _ _ _ _ _ _ _
              refine n_if_eq 89 (by decide) dX12_whyNoTwos_66 (by decide) (fun h => absurd h (by decide)) (fun _ => ?_)
              refine a_aload_n rfl dX12_whyNoTwos_69 ?_
              refine a_iload_n rfl dX12_whyNoTwos_70 ?_
              refine n_iconst 2 rfl dX12_whyNoTwos_71 ?_
              refine a_iload_n rfl dX12_whyNoTwos_72 ?_
              refine n_imul dX12_whyNoTwos_73 ?_
              refine n_iconst 1 rfl dX12_whyNoTwos_74 ?_
              refine n_iadd dX12_whyNoTwos_75 ?_
              refine n_callV (mi' := miX12_numberOf) dX12_whyNoTwos_76 lX12_471 mX12_numberOf (by decide) rfl rfl rfl (c_X12_numberOf (by omega) ?_ d) rfl rfl (by omega) (by decide) (Nat.le_of_ble_eq_true rfl)
              show AW _ _ _ _ _ _ _
              refine a_lconst 0 rfl dX12_whyNoTwos_79 ?_
              refine a_ldc2 kX12_411 dX12_whyNoTwos_80 ?_
              refine n_callS (mi' := miX12_isIn) dX12_whyNoTwos_83 lX12_104 mX12_isIn (c_X12_isIn (fun h_83 => ?_) (fun h_83 => ?_) d) rfl rfl (by omega) (by decide) (Nat.le_of_ble_eq_true rfl)
              · show AW _ _ _ _ _ _ _
                refine n_if_ne 91 (by decide) dX12_whyNoTwos_86 (by decide) (fun _ => ?_) (fun h => absurd h (by decide))
                refine n_iinc (c := 1) rfl rfl (by decide) rfl dX12_whyNoTwos_91 ?_
                refine a_goto 46 dX12_whyNoTwos_94 (by decide) ?_
                exact a_bk (ih_46 (fun j hj => by
          rcases (show j < i ∨ j = i by omega) with h | h
          · exact hI_46 j h
          · subst h
            refine twoB_t ?_ ?_ ?_ ?_ <;> omega)) ⟨rfl, rfl, rfl, rfl, trivial⟩
              · show AW _ _ _ _ _ _ _
                refine n_if_ne 91 (by decide) dX12_whyNoTwos_86 (by decide) (fun h => absurd h (by decide)) (fun _ => ?_)
                refine n_iconst 5 rfl dX12_whyNoTwos_89 ?_
                refine a_iret dX12_whyNoTwos_90 rfl ?_
                rw [show twosN R t (nI q) = 5 by unfold twosN; rw [if_neg (by omega), if_neg (by omega), if_pos (by omega), if_neg (fun z => twoB_f (by omega) (z i (by omega)))]] at hQ
                exact hQ
            · show AW _ _ _ _ _ _ _
              refine n_if_eq 89 (by decide) dX12_whyNoTwos_66 (by decide) (fun _ => ?_) (fun h => absurd h (by decide))
              refine n_iconst 5 rfl dX12_whyNoTwos_89 ?_
              refine a_iret dX12_whyNoTwos_90 rfl ?_
              rw [show twosN R t (nI q) = 5 by unfold twosN; rw [if_neg (by omega), if_neg (by omega), if_pos (by omega), if_neg (fun z => twoB_f (by omega) (z i (by omega)))]] at hQ
              exact hQ
        exact a_bk (loop_46 0 (by omega) (fun j hj => absurd hj (by omega))) ⟨rfl, rfl, rfl, rfl, trivial⟩
      · show AW _ _ _ _ _ _ _
        have h_36 := isIn4n (x := n) (a := 0) (b := 20) (by decide) (by decide) h_36
        refine n_if_ne 44 (by decide) dX12_whyNoTwos_39 (by decide) (fun h => absurd h (by decide)) (fun _ => ?_)
        refine n_iconst 5 rfl dX12_whyNoTwos_42 ?_
        refine a_iret dX12_whyNoTwos_43 rfl ?_
        rw [show twosN R t n = 5 by unfold twosN; rw [if_neg (by omega), if_neg (by omega), if_neg (by omega)]] at hQ
        exact hQ
    · refine n_iconst 4 rfl dX12_whyNoTwos_28 ?_
      refine a_iret dX12_whyNoTwos_29 rfl ?_
      simp only [Int64.lt_iff_toInt_lt, Int64.le_iff_toInt_le, i64_mul2, i64_i32, hl] at h_25
      rw [show twosN R t n = 4 by unfold twosN; rw [if_neg (by omega), if_pos (by omega)]] at hQ
      exact hQ
  · refine n_iconst 3 rfl dX12_whyNoTwos_9 ?_
    refine a_iret dX12_whyNoTwos_10 rfl ?_
    rw [show twosN R t n = 3 by unfold twosN; rw [if_pos (by omega)]] at hQ
    exact hQ

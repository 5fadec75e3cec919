/-- OUT as the class makes it: behind i twos, and the next one looked at for the matters below j -/
def inS (S : ST) (p : Nat) (D : Nat → Int64) (i j : Nat) : Nat := bsN (fun k => alN (fun i => fitB S p D i k) i && (decide (j ≤ k) || fitB S p D i k)) (S 0 2)
theorem inS_0 {S : ST} {p : Nat} {D : Nat → Int64} {i : Nat} : outN S p D i = inS S p D i 0 := bsN_congr (fun j _ => by simp)
theorem inS_m {S : ST} {p : Nat} {D : Nat → Int64} {i : Nat} : inS S p D i (S 0 2) = outN S p D (i + 1) := bsN_congr (fun j hj => by rw [show decide (S 0 2 ≤ j) = false by simp; omega]; simp [alN])
theorem inS_t {S : ST} {p : Nat} {D : Nat → Int64} {i j : Nat} (h : fitB S p D i j = true) : inS S p D i j = inS S p D i (j + 1) := bsN_congr (fun k _ => by
  by_cases e : k = j
  · subst e; simp [h]
  · rw [show decide (j ≤ k) = decide (j + 1 ≤ k) by simp; omega])
theorem inS_f {S : ST} {p : Nat} {D : Nat → Int64} {i j : Nat} (h : fitB S p D i j = false) : inS S p D i j ^^^ (inS S p D i j &&& 2 ^ j) = inS S p D i (j + 1) := by
  unfold inS
  apply eq_bsN
  intro k
  rw [Nat.testBit_xor, Nat.testBit_and, bsN_bit, Nat.testBit_two_pow]
  by_cases e : k = j
  · subst e; simp [h]
  · rw [show decide (j ≤ k) = decide (j + 1 ≤ k) by simp; omega, show decide (j = k) = false by simp; omega]
    simp
theorem out_0 {S : ST} {p : Nat} {D : Nat → Int64} : 2 ^ S 0 2 - 1 = outN S p D 0 := (bsN_all _).symm
theorem outN_lt (S : ST) (p : Nat) (D : Nat → Int64) (n : Nat) : outN S p D n < 2 ^ S 0 2 := bsN_lt _ _
theorem inS_lt (S : ST) (p : Nat) (D : Nat → Int64) (i j : Nat) : inS S p D i j < 2 ^ S 0 2 := bsN_lt _ _
theorem TWO_d {D : Nat → Int64} {n : Nat} (h : TWO D n) {i : Nat} (hi : i < n) : dN D (2 * i) ≤ 40 ∧ dN D (2 * i + 1) ≤ 99 := by
  have := h i hi
  unfold dN; omega
theorem fit_t {S : ST} {p : Nat} {D : Nat → Int64} {i j : Nat} (h : hgt (S 6 p) (pdI S (S 2) (dN D (2 * i)) j) = dN D (2 * i + 1)) : fitB S p D i j = true := by unfold fitB hiN; rw [h]; simp
theorem fit_f {S : ST} {p : Nat} {D : Nat → Int64} {i j : Nat} (h : ¬ hgt (S 6 p) (pdI S (S 2) (dN D (2 * i)) j) = dN D (2 * i + 1)) : fitB S p D i j = false := by unfold fitB hiN; simpa using h

set_option maxRecDepth 100000 in
set_option maxHeartbeats 800000 in
theorem c_X0_fitting {M : Mm} {S : ST} (hV : VX 17 M S) (hF : WF S) {p : Nat} (hp : p < S 0 4) {k : Nat} (hk : k < nC) (hc : layC k = .inr (2, 60, fun _ => 0)) {D : Nat → Int64} {n : Nat} (hn : n ≤ 20) (hD : ∀ i, i < 2 * n → M.2 k i = D i) (hT : TWO D n) (hk122 : k ≠ 122) {Q : Option Value → Mm → Prop} (hQ : ∀ M', fr (fun k _ => k = 122) M M' → Q (some (.int (nI (outN S p D n)))) M') (d : Nat) : AMt miX0_fitting (d + 3) [.ref 121, .ref 17, .int (nI p), .ref k, .int (nI n)] M Q := by
  refine AMt.of (by decide) (Nat.le_of_ble_eq_true rfl) ?_
  show AW miX0_fitting (d + 3) (mxA Q) 0 [(0, some (.ref 121)), (1, some (.ref 17)), (2, some (.int (nI p))), (3, some (.ref k)), (4, some (.int (nI n)))] [] M
  have hm := WF_m hF
  have hs := WF_s hF
  have hk2 := Nat.two_pow_pos (S 0 2)
  have hk3 := pow_le hm
  have htl := WF_tall hF p hp
  refine n_iconst 1 rfl dX0_fitting_0 ?_
  refine a_aload_n rfl dX0_fitting_1 ?_
  refine g_i (VX_2 hV) (by decide) rfl fX0_41 rfl dX0_fitting_2 ?_
  refine n_bit (by omega) dX0_fitting_5 ?_
  refine n_iconst 1 rfl dX0_fitting_6 ?_
  refine n_isub (by omega) dX0_fitting_7 ?_
  refine a_istore (by decide) rfl dX0_fitting_8 ?_
  refine n_iconst 0 rfl dX0_fitting_10 ?_
  refine a_istore (by decide) rfl dX0_fitting_11 ?_
  rw [out_0 (S := S) (p := p) (D := D)]
  have loop_13 : ∀ i, i ≤ n → ∀ M1, (fr (fun k _ => k = 122) M M1) → AW miX0_fitting (d + 3) (mxA Q) 13 [(0, some (.ref 121)), (1, some (.ref 17)), (2, some (.int (nI p))), (3, some (.ref k)), (4, some (.int (nI n))), (5, some (.int (nI (outN S p D i)))), (6, some (.int (nI i)))] [] M1 := by
    refine up (W := fun i => ∀ M1, (fr (fun k _ => k = 122) M M1) → AW miX0_fitting (d + 3) (mxA Q) 13 [(0, some (.ref 121)), (1, some (.ref 17)), (2, some (.int (nI p))), (3, some (.ref k)), (4, some (.int (nI n))), (5, some (.int (nI (outN S p D i)))), (6, some (.int (nI i)))] [] M1) n (fun M1 hI_13 => ?_) (fun i hi_13 ih_13 M1 hI_13 => ?_)
    · refine a_iload rfl dX0_fitting_13 ?_
      refine a_iload rfl dX0_fitting_15 ?_
      refine n_icmp_ge 92 (by omega) (by omega) dX0_fitting_17 (by decide) (fun h_17 => ?_) (fun h_17 => absurd h_17 (by omega))
      refine a_iload rfl dX0_fitting_92 ?_
      refine a_iret dX0_fitting_94 rfl ?_
      exact hQ _ hI_13
    · have hV_13 : VX 17 M1 S := VX_fr hV (fun k j a b => (hI_13 k j (by omega)).1)
      have hd40 := TWO_d hT hi_13
      refine a_iload rfl dX0_fitting_13 ?_
      refine a_iload rfl dX0_fitting_15 ?_
      refine n_icmp_ge 92 (by omega) (by omega) dX0_fitting_17 (by decide) (fun h_17 => absurd h_17 (by omega)) (fun h_17 => ?_)
      refine a_aload_n rfl dX0_fitting_20 ?_
      refine a_aload_n rfl dX0_fitting_21 ?_
      refine a_aload_n rfl dX0_fitting_22 ?_
      refine n_iconst 2 rfl dX0_fitting_23 ?_
      refine a_iload rfl dX0_fitting_24 ?_
      refine n_imul dX0_fitting_26 ?_
      refine n_lald (by omega) hk hc (by decide) dX0_fitting_27 ?_
      refine a_l2i dX0_fitting_28 ?_
      refine a_eqi (y := nI (dN D (2 * i))) (by rw [show M1.2 k (2 * i) = D (2 * i) from hI_13.l (hD _ (by omega)) (by omega)]; exact l2i_n (hT i (by omega)).1 (by have := (hT i (by omega)).2.1; omega)) ?_
      refine n_callV (mi' := miX0_look) dX0_fitting_29 lX0_33 mX0_look (by decide) rfl rfl rfl (c_X0_look hV_13 hF (by omega) (fun M_29 hr_29 hf_29 => ?_) d) rfl rfl (by omega) (by decide) (Nat.le_of_ble_eq_true rfl)
      show AW _ _ _ _ _ _ _
      refine n_iconst 0 rfl dX0_fitting_32 ?_
      refine a_istore (by decide) rfl dX0_fitting_33 ?_
      rw [inS_0]
      have loop_35 : ∀ j, j ≤ S 0 2 → ∀ M2, ((∀ q, q < S 0 2 → (M2).1 122 q = nI (pdI S (S 2) (dN D (2 * i)) q)) ∧ fr (fun k _ => k = 122) M M2) → AW miX0_fitting (d + 3) (mxA Q) 35 [(0, some (.ref 121)), (1, some (.ref 17)), (2, some (.int (nI p))), (3, some (.ref k)), (4, some (.int (nI n))), (5, some (.int (nI (inS S p D i j)))), (6, some (.int (nI i))), (7, some (.int (nI j)))] [] M2 := by
        refine up (W := fun j => ∀ M2, ((∀ q, q < S 0 2 → (M2).1 122 q = nI (pdI S (S 2) (dN D (2 * i)) q)) ∧ fr (fun k _ => k = 122) M M2) → AW miX0_fitting (d + 3) (mxA Q) 35 [(0, some (.ref 121)), (1, some (.ref 17)), (2, some (.int (nI p))), (3, some (.ref k)), (4, some (.int (nI n))), (5, some (.int (nI (inS S p D i j)))), (6, some (.int (nI i))), (7, some (.int (nI j)))] [] M2) (S 0 2) (fun M2 hI_35 => ?_) (fun j hi_35 ih_35 M2 hI_35 => ?_)
        · have hV_35 : VX 17 M2 S := VX_fr hV (fun k j a b => (hI_35.2 k j (by omega)).1)
          refine a_iload rfl dX0_fitting_35 ?_
          refine a_aload_n rfl dX0_fitting_37 ?_
          refine g_i (VX_2 hV_35) (by decide) rfl fX0_41 rfl dX0_fitting_38 ?_
          refine n_icmp_ge 86 (by omega) (by omega) dX0_fitting_41 (by decide) (fun h_41 => ?_) (fun h_41 => absurd h_41 (by omega))
          refine n_iinc (c := 1) rfl rfl (by decide) rfl dX0_fitting_86 ?_
          refine a_goto 13 dX0_fitting_89 (by decide) ?_
          rw [inS_m]
          exact a_bk (ih_13 _ hI_35.2) ⟨rfl, rfl, rfl, rfl, rfl, rfl, rfl, trivial⟩
        · have hV_35 : VX 17 M2 S := VX_fr hV (fun k j a b => (hI_35.2 k j (by omega)).1)
          have hlt5 := inS_lt S p D i j
          refine a_iload rfl dX0_fitting_35 ?_
          refine a_aload_n rfl dX0_fitting_37 ?_
          refine g_i (VX_2 hV_35) (by decide) rfl fX0_41 rfl dX0_fitting_38 ?_
          refine n_icmp_ge 86 (by omega) (by omega) dX0_fitting_41 (by decide) (fun h_41 => absurd h_41 (by omega)) (fun h_41 => ?_)
          refine a_aload_n rfl dX0_fitting_44 ?_
          refine a_iload_n rfl dX0_fitting_45 ?_
          refine a_aload_n rfl dX0_fitting_46 ?_
          refine a_geta dX0_fitting_47 fX0_9 (by decide) rfl rfl ?_
          refine a_iload rfl dX0_fitting_50 ?_
          refine v_iald (by omega) (hI_35.1 _ (by omega)) (by decide) rfl (by decide) dX0_fitting_52 ?_
          refine n_callV (mi' := miX6_heightBy) dX0_fitting_53 lX0_37 mX6_heightBy (by decide) rfl rfl rfl (c_X6_heightBy isW17 hV_35 hF (by omega) (pdI_le (fun j hj => WF_clear hF j hj) _ _ (by omega)) ?_ d) rfl rfl (by omega) (by decide) (Nat.le_of_ble_eq_true rfl)
          show AW _ _ _ _ _ _ _
          have hh1 := hgt_le (S 6 p) (pdI S (S 2) (dN D (2 * i)) j)
          refine a_i2l dX0_fitting_56 ?_
          refine a_aload_n rfl dX0_fitting_57 ?_
          refine n_iconst 2 rfl dX0_fitting_58 ?_
          refine a_iload rfl dX0_fitting_59 ?_
          refine n_imul dX0_fitting_61 ?_
          refine n_iconst 1 rfl dX0_fitting_62 ?_
          refine n_iadd dX0_fitting_63 ?_
          refine n_lald (by omega) hk hc (by decide) dX0_fitting_64 ?_
          refine a_lcmp dX0_fitting_65 ?_
          refine l_if_eq 80 dX0_fitting_66 (by decide) (fun h_66 => ?_) (fun h_66 => ?_)
          · refine n_iinc (c := 1) rfl rfl (by decide) rfl dX0_fitting_80 ?_
            refine a_goto 35 dX0_fitting_83 (by decide) ?_
            rw [show M2.2 k (2 * i + 1) = D (2 * i + 1) from hI_35.2.l (hD _ (by omega)) (by omega), i64_nI (by omega) _ (hT i hi_13).2.2.1] at h_66
            rw [inS_t (fit_t h_66)]
            exact a_bk (ih_35 _ hI_35) ⟨rfl, rfl, rfl, rfl, rfl, rfl, rfl, rfl, trivial⟩
          · refine a_iload rfl dX0_fitting_69 ?_
            refine n_iconst 1 rfl dX0_fitting_71 ?_
            refine a_iload rfl dX0_fitting_72 ?_
            refine n_bit (by omega) dX0_fitting_74 ?_
            refine a_iconst (-1) rfl dX0_fitting_75 ?_
            refine a_ixor dX0_fitting_76 ?_
            refine n_andc dX0_fitting_77 ?_
            refine a_istore (by decide) rfl dX0_fitting_78 ?_
            refine n_iinc (c := 1) rfl rfl (by decide) rfl dX0_fitting_80 ?_
            refine a_goto 35 dX0_fitting_83 (by decide) ?_
            rw [show M2.2 k (2 * i + 1) = D (2 * i + 1) from hI_35.2.l (hD _ (by omega)) (by omega), i64_nI (by omega) _ (hT i hi_13).2.2.1] at h_66
            rw [inS_f (fit_f h_66)]
            exact a_bk (ih_35 _ hI_35) ⟨rfl, rfl, rfl, rfl, rfl, rfl, rfl, rfl, trivial⟩
      exact a_bk (loop_35 0 (by omega) _ ⟨hr_29, hI_13.t hf_29⟩) ⟨rfl, rfl, rfl, rfl, rfl, rfl, rfl, rfl, trivial⟩
  exact a_bk (loop_13 0 (by omega) _ fr.r) ⟨rfl, rfl, rfl, rfl, rfl, rfl, rfl, trivial⟩

/-- the crowds as the class counts them -/
def alkC (S : ST) (p set d a b : Nat) : Nat := sumN (fun e => if hiN S p d a = hiN S p d e ∧ set.testBit a = true ∧ set.testBit e = true then 1 else 0) b
theorem alkC_le (S : ST) (p set d a b : Nat) : alkC S p set d a b ≤ b := by
  have := sumN_le (f := fun e => if hiN S p d a = hiN S p d e ∧ set.testBit a = true ∧ set.testBit e = true then 1 else 0) (b := 1) (n := b) (fun j _ => by split <;> omega)
  unfold alkC; omega
theorem bit1 {b : Bool} : (if b then 1 else 0) = 1 ↔ b = true := by cases b <;> simp

set_option maxRecDepth 100000 in
set_option maxHeartbeats 800000 in
theorem c_X0_largestCrowd {M : Mm} {S : ST} (hV : VX 17 M S) (hF : WF S) {p set dd : Nat} (hp : p < S 0 4) (hset : set < 64) (hr : (∀ q, q < S 0 2 → M.1 122 q = nI (pdI S (S 2) dd q))) {Q : Option Value → Mm → Prop} (hQ : Q (some (.int (nI (crdN S p set dd)))) M) (d : Nat) : AMt miX0_largestCrowd (d + 3) [.ref 121, .ref 17, .int (nI p), .int (nI set)] M Q := by
  refine AMt.of (by decide) (Nat.le_of_ble_eq_true rfl) ?_
  show AW miX0_largestCrowd (d + 3) (mxA Q) 0 [(0, some (.ref 121)), (1, some (.ref 17)), (2, some (.int (nI p))), (3, some (.int (nI set)))] [] M
  have hm := WF_m hF
  have hs := WF_s hF
  have hk2 := Nat.two_pow_pos (S 0 2)
  have hk3 := pow_le hm
  have htl := WF_tall hF p hp
  refine n_iconst 0 rfl dX0_largestCrowd_0 ?_
  refine a_istore (by decide) rfl dX0_largestCrowd_1 ?_
  refine n_iconst 0 rfl dX0_largestCrowd_3 ?_
  refine a_istore (by decide) rfl dX0_largestCrowd_4 ?_
  have loop_6 : ∀ i, i ≤ S 0 2 → AW miX0_largestCrowd (d + 3) (mxA Q) 6 [(0, some (.ref 121)), (1, some (.ref 17)), (2, some (.int (nI p))), (3, some (.int (nI set))), (4, some (.int (nI (mxN (alkN S p set dd) i)))), (5, some (.int (nI i)))] [] M := by
    refine up (S 0 2) ?_ (fun i hi_6 ih_6 => ?_)
    · refine a_iload rfl dX0_largestCrowd_6 ?_
      refine a_aload_n rfl dX0_largestCrowd_8 ?_
      refine g_i (VX_2 hV) (by decide) rfl fX0_41 rfl dX0_largestCrowd_9 ?_
      refine n_icmp_ge 113 (by omega) (by omega) dX0_largestCrowd_12 (by decide) (fun h_12 => ?_) (fun h_12 => absurd h_12 (by omega))
      refine a_iload rfl dX0_largestCrowd_113 ?_
      refine a_iret dX0_largestCrowd_115 rfl ?_
      exact hQ
    · have hmx : mxN (alkN S p set dd) i ≤ 6 := mxN_le (fun q _ => Nat.le_trans (alkC_le S p set dd q (S 0 2)) hm)
      refine a_iload rfl dX0_largestCrowd_6 ?_
      refine a_aload_n rfl dX0_largestCrowd_8 ?_
      refine g_i (VX_2 hV) (by decide) rfl fX0_41 rfl dX0_largestCrowd_9 ?_
      refine n_icmp_ge 113 (by omega) (by omega) dX0_largestCrowd_12 (by decide) (fun h_12 => absurd h_12 (by omega)) (fun h_12 => ?_)
      refine n_iconst 0 rfl dX0_largestCrowd_15 ?_
      refine a_istore (by decide) rfl dX0_largestCrowd_16 ?_
      refine n_iconst 0 rfl dX0_largestCrowd_18 ?_
      refine a_istore (by decide) rfl dX0_largestCrowd_19 ?_
      have loop_21 : ∀ j, j ≤ S 0 2 → AW miX0_largestCrowd (d + 3) (mxA Q) 21 [(0, some (.ref 121)), (1, some (.ref 17)), (2, some (.int (nI p))), (3, some (.int (nI set))), (4, some (.int (nI (mxN (alkN S p set dd) i)))), (5, some (.int (nI i))), (6, some (.int (nI (alkC S p set dd i j)))), (7, some (.int (nI j)))] [] M := by
        refine up (S 0 2) ?_ (fun j hi_21 ih_21 => ?_)
        · have hal := alkC_le S p set dd i (S 0 2)
          refine a_iload rfl dX0_largestCrowd_21 ?_
          refine a_aload_n rfl dX0_largestCrowd_23 ?_
          refine g_i (VX_2 hV) (by decide) rfl fX0_41 rfl dX0_largestCrowd_24 ?_
          refine n_icmp_ge 98 (by omega) (by omega) dX0_largestCrowd_27 (by decide) (fun h_27 => ?_) (fun h_27 => absurd h_27 (by omega))
          refine a_iload rfl dX0_largestCrowd_98 ?_
          refine a_iload rfl dX0_largestCrowd_100 ?_
          refine n_max (by omega) (by omega) dX0_largestCrowd_102 lX0_49 (Nat.le_of_ble_eq_true rfl) ?_
          refine a_istore (by decide) rfl dX0_largestCrowd_105 ?_
          refine n_iinc (c := 1) rfl rfl (by decide) rfl dX0_largestCrowd_107 ?_
          refine a_goto 6 dX0_largestCrowd_110 (by decide) ?_
          exact a_bk ih_6 ⟨rfl, rfl, rfl, rfl, rfl, rfl, trivial⟩
        · have hal := alkC_le S p set dd i j
          refine a_iload rfl dX0_largestCrowd_21 ?_
          refine a_aload_n rfl dX0_largestCrowd_23 ?_
          refine g_i (VX_2 hV) (by decide) rfl fX0_41 rfl dX0_largestCrowd_24 ?_
          refine n_icmp_ge 98 (by omega) (by omega) dX0_largestCrowd_27 (by decide) (fun h_27 => absurd h_27 (by omega)) (fun h_27 => ?_)
          refine a_aload_n rfl dX0_largestCrowd_30 ?_
          refine a_iload_n rfl dX0_largestCrowd_31 ?_
          refine a_aload_n rfl dX0_largestCrowd_32 ?_
          refine a_geta dX0_largestCrowd_33 fX0_9 (by decide) rfl rfl ?_
          refine a_iload rfl dX0_largestCrowd_36 ?_
          refine v_iald (by omega) (hr _ (by omega)) (by decide) rfl (by decide) dX0_largestCrowd_38 ?_
          refine n_callV (mi' := miX6_heightBy) dX0_largestCrowd_39 lX0_37 mX6_heightBy (by decide) rfl rfl rfl (c_X6_heightBy isW17 hV hF (by omega) (pdI_le (fun j hj => WF_clear hF j hj) _ _ (by omega)) ?_ d) rfl rfl (by omega) (by decide) (Nat.le_of_ble_eq_true rfl)
          show AW _ _ _ _ _ _ _
          refine a_aload_n rfl dX0_largestCrowd_42 ?_
          refine a_iload_n rfl dX0_largestCrowd_43 ?_
          refine a_aload_n rfl dX0_largestCrowd_44 ?_
          refine a_geta dX0_largestCrowd_45 fX0_9 (by decide) rfl rfl ?_
          refine a_iload rfl dX0_largestCrowd_48 ?_
          refine v_iald (by omega) (hr _ (by omega)) (by decide) rfl (by decide) dX0_largestCrowd_50 ?_
          refine n_callV (mi' := miX6_heightBy) dX0_largestCrowd_51 lX0_37 mX6_heightBy (by decide) rfl rfl rfl (c_X6_heightBy isW17 hV hF (by omega) (pdI_le (fun j hj => WF_clear hF j hj) _ _ (by omega)) ?_ d) rfl rfl (by omega) (by decide) (Nat.le_of_ble_eq_true rfl)
          show AW _ _ _ _ _ _ _
          have hh1 := hgt_le (S 6 p) (pdI S (S 2) dd i)
          have hh2 := hgt_le (S 6 p) (pdI S (S 2) dd j)
          refine n_icmp_ne 61 (by omega) (by omega) dX0_largestCrowd_54 (by decide) (fun h_54 => ?_) (fun h_54 => ?_)
          · refine n_iconst 0 rfl dX0_largestCrowd_61 ?_
            refine a_istore (by decide) rfl dX0_largestCrowd_62 ?_
            refine a_iload rfl dX0_largestCrowd_64 ?_
            refine n_if_eq 92 (by decide) dX0_largestCrowd_66 (by decide) (fun _ => ?_) (fun h => absurd h (by decide))
            refine n_iinc (c := 1) rfl rfl (by decide) rfl dX0_largestCrowd_92 ?_
            refine a_goto 21 dX0_largestCrowd_95 (by decide) ?_
            rw [show alkC S p set dd i (j + 1) = alkC S p set dd i j from by show alkC S p set dd i j + (if _ then 1 else 0) = _; rw [if_neg (fun z => h_54 z.1)] <;> simp] at ih_21
            exact a_bk ih_21 ⟨rfl, rfl, rfl, rfl, rfl, rfl, rfl, rfl, trivial⟩
          · refine n_iconst 1 rfl dX0_largestCrowd_57 ?_
            refine a_goto 62 dX0_largestCrowd_58 (by decide) ?_
            refine a_istore (by decide) rfl dX0_largestCrowd_62 ?_
            refine a_iload rfl dX0_largestCrowd_64 ?_
            refine n_if_eq 92 (by decide) dX0_largestCrowd_66 (by decide) (fun h => absurd h (by decide)) (fun _ => ?_)
            refine a_iload_n rfl dX0_largestCrowd_69 ?_
            refine a_iload rfl dX0_largestCrowd_70 ?_
            refine n_shr (by omega) (by omega) dX0_largestCrowd_72 ?_
            refine n_iconst 1 rfl dX0_largestCrowd_73 ?_
            refine n_has dX0_largestCrowd_74 ?_
            refine n_iconst 1 rfl dX0_largestCrowd_75 ?_
            have hb1 : (if set.testBit i then 1 else 0) < 2 := by split <;> omega
            refine n_icmp_ne 92 (by omega) (by omega) dX0_largestCrowd_76 (by decide) (fun h_76 => ?_) (fun h_76 => ?_)
            · refine n_iinc (c := 1) rfl rfl (by decide) rfl dX0_largestCrowd_92 ?_
              refine a_goto 21 dX0_largestCrowd_95 (by decide) ?_
              rw [show alkC S p set dd i (j + 1) = alkC S p set dd i j from by show alkC S p set dd i j + (if _ then 1 else 0) = _; rw [if_neg (fun z => h_76 (by simp [z.2.1]))] <;> simp] at ih_21
              exact a_bk ih_21 ⟨rfl, rfl, rfl, rfl, rfl, rfl, rfl, rfl, trivial⟩
            · refine a_iload_n rfl dX0_largestCrowd_79 ?_
              refine a_iload rfl dX0_largestCrowd_80 ?_
              refine n_shr (by omega) (by omega) dX0_largestCrowd_82 ?_
              refine n_iconst 1 rfl dX0_largestCrowd_83 ?_
              refine n_has dX0_largestCrowd_84 ?_
              refine n_iconst 1 rfl dX0_largestCrowd_85 ?_
              have hb2 : (if set.testBit j then 1 else 0) < 2 := by split <;> omega
              refine n_icmp_ne 92 (by omega) (by omega) dX0_largestCrowd_86 (by decide) (fun h_86 => ?_) (fun h_86 => ?_)
              · refine n_iinc (c := 1) rfl rfl (by decide) rfl dX0_largestCrowd_92 ?_
                refine a_goto 21 dX0_largestCrowd_95 (by decide) ?_
                rw [show alkC S p set dd i (j + 1) = alkC S p set dd i j from by show alkC S p set dd i j + (if _ then 1 else 0) = _; rw [if_neg (fun z => h_86 (by simp [z.2.2]))] <;> simp] at ih_21
                exact a_bk ih_21 ⟨rfl, rfl, rfl, rfl, rfl, rfl, rfl, rfl, trivial⟩
              · refine n_iinc (c := 1) rfl rfl (by decide) rfl dX0_largestCrowd_89 ?_
                refine n_iinc (c := 1) rfl rfl (by decide) rfl dX0_largestCrowd_92 ?_
                refine a_goto 21 dX0_largestCrowd_95 (by decide) ?_
                rw [show alkC S p set dd i (j + 1) = alkC S p set dd i j + 1 from by show alkC S p set dd i j + (if _ then 1 else 0) = _; rw [if_pos ⟨h_54, by simpa using h_76, by simpa using h_86⟩] <;> simp] at ih_21
                exact a_bk ih_21 ⟨rfl, rfl, rfl, rfl, rfl, rfl, rfl, rfl, trivial⟩
      exact a_bk (loop_21 0 (by omega)) ⟨rfl, rfl, rfl, rfl, rfl, rfl, rfl, rfl, trivial⟩
  exact a_bk (loop_6 0 (by omega)) ⟨rfl, rfl, rfl, rfl, rfl, rfl, trivial⟩

def fwN (S : ST) (p set : Nat) : Nat → Nat
  | 0 => 7
  | n + 1 => crdN S p set (agN (crdN S p set) n)
def bsD (S : ST) (p set : Nat) : Nat → Nat
  | 0 => 0
  | n + 1 => agN (crdN S p set) n
theorem fw_t {S : ST} (hF : WF S) {p set i : Nat} (h : crdN S p set i < fwN S p set i) : fwN S p set (i + 1) = crdN S p set i ∧ bsD S p set (i + 1) = i := by
  cases i with
  | zero => exact ⟨rfl, rfl⟩
  | succ i =>
    have h : crdN S p set (i + 1) < crdN S p set (agN (crdN S p set) i) := h
    have e : agN (crdN S p set) (i + 1) = i + 1 := by rw [agN, if_pos h]
    exact ⟨by show crdN S p set (agN (crdN S p set) (i + 1)) = _; rw [e], e⟩
theorem fw_f {S : ST} (hF : WF S) {p set i : Nat} (h : ¬ crdN S p set i < fwN S p set i) : fwN S p set (i + 1) = fwN S p set i ∧ bsD S p set (i + 1) = bsD S p set i := by
  cases i with
  | zero => exact absurd (show crdN S p set 0 < 7 by have := crd_le hF p set 0; omega) h
  | succ i =>
    have h : ¬ crdN S p set (i + 1) < crdN S p set (agN (crdN S p set) i) := h
    have e : agN (crdN S p set) (i + 1) = agN (crdN S p set) i := by rw [agN, if_neg h]
    exact ⟨by show crdN S p set (agN (crdN S p set) (i + 1)) = _; rw [e]; rfl, e⟩
theorem fw_le {S : ST} (hF : WF S) (p set i : Nat) : fwN S p set i ≤ 7 := by
  cases i with
  | zero => exact Nat.le_refl 7
  | succ i => have := crd_le hF p set (agN (crdN S p set) i); show crdN S p set (agN (crdN S p set) i) ≤ 7; omega

set_option maxRecDepth 100000 in
set_option maxHeartbeats 800000 in
theorem c_X0_partingDays {M : Mm} {S : ST} (hV : VX 17 M S) (hF : WF S) {p set : Nat} (hp : p < S 0 4) (hset : set < 64) {Q : Option Value → Mm → Prop} (hQ : ∀ M', fr (fun k _ => k = 122) M M' → Q (some (.int (nI (askN S p set)))) M') (d : Nat) : AMt miX0_partingDays (d + 4) [.ref 121, .ref 17, .int (nI p), .int (nI set)] M Q := by
  refine AMt.of (by decide) (Nat.le_of_ble_eq_true rfl) ?_
  show AW miX0_partingDays (d + 4) (mxA Q) 0 [(0, some (.ref 121)), (1, some (.ref 17)), (2, some (.int (nI p))), (3, some (.int (nI set)))] [] M
  have hm := WF_m hF
  have hs := WF_s hF
  have hk2 := Nat.two_pow_pos (S 0 2)
  have hk3 := pow_le hm
  refine n_iconst 0 rfl dX0_partingDays_0 ?_
  refine a_istore (by decide) rfl dX0_partingDays_1 ?_
  refine n_bipush 7 rfl dX0_partingDays_3 ?_
  refine a_istore (by decide) rfl dX0_partingDays_5 ?_
  refine a_aload_n rfl dX0_partingDays_7 ?_
  refine a_aload_n rfl dX0_partingDays_8 ?_
  refine n_iconst 0 rfl dX0_partingDays_9 ?_
  refine n_callV (mi' := miX0_look) dX0_partingDays_10 lX0_33 mX0_look (by decide) rfl rfl rfl (c_X0_look hV hF (by omega) (fun M_10 hr_10 hf_10 => ?_) d) rfl rfl (by omega) (by decide) (Nat.le_of_ble_eq_true rfl)
  show AW _ _ _ _ _ _ _
  refine n_iconst 0 rfl dX0_partingDays_13 ?_
  refine a_istore (by decide) rfl dX0_partingDays_14 ?_
  have loop_16 : ∀ i, i ≤ 41 → ∀ M1, ((∀ j, j < S 0 2 → (M1).1 122 j = nI (pdI S (S 2) i j)) ∧ fr (fun k _ => k = 122) M M1) → AW miX0_partingDays (d + 4) (mxA Q) 16 [(0, some (.ref 121)), (1, some (.ref 17)), (2, some (.int (nI p))), (3, some (.int (nI set))), (4, some (.int (nI (bsD S p set i)))), (5, some (.int (nI (fwN S p set i)))), (6, some (.int (nI i)))] [] M1 := by
    refine up (W := fun i => ∀ M1, ((∀ j, j < S 0 2 → (M1).1 122 j = nI (pdI S (S 2) i j)) ∧ fr (fun k _ => k = 122) M M1) → AW miX0_partingDays (d + 4) (mxA Q) 16 [(0, some (.ref 121)), (1, some (.ref 17)), (2, some (.int (nI p))), (3, some (.int (nI set))), (4, some (.int (nI (bsD S p set i)))), (5, some (.int (nI (fwN S p set i)))), (6, some (.int (nI i)))] [] M1) 41 (fun M1 hI_16 => ?_) (fun i hi_16 ih_16 M1 hI_16 => ?_)
    · refine a_iload rfl dX0_partingDays_16 ?_
      refine n_bipush 40 rfl dX0_partingDays_18 ?_
      refine n_icmp_gt 62 (by omega) (by omega) dX0_partingDays_20 (by decide) (fun h_20 => ?_) (fun h_20 => absurd h_20 (by omega))
      refine a_iload rfl dX0_partingDays_62 ?_
      refine a_iret dX0_partingDays_64 rfl ?_
      exact hQ _ hI_16.2
    · have hV_16 : VX 17 M1 S := VX_fr hV (fun k j a b => (hI_16.2 k j (by omega)).1)
      refine a_iload rfl dX0_partingDays_16 ?_
      refine n_bipush 40 rfl dX0_partingDays_18 ?_
      refine n_icmp_gt 62 (by omega) (by omega) dX0_partingDays_20 (by decide) (fun h_20 => absurd h_20 (by omega)) (fun h_20 => ?_)
      refine a_aload_n rfl dX0_partingDays_23 ?_
      refine a_aload_n rfl dX0_partingDays_24 ?_
      refine a_iload_n rfl dX0_partingDays_25 ?_
      refine a_iload_n rfl dX0_partingDays_26 ?_
      refine n_callV (mi' := miX0_largestCrowd) dX0_partingDays_27 lX0_45 mX0_largestCrowd (by decide) rfl rfl rfl (c_X0_largestCrowd (dd := i) hV_16 hF hp hset hI_16.1 ?_ d) rfl rfl (by omega) (by decide) (Nat.le_of_ble_eq_true rfl)
      show AW _ _ _ _ _ _ _
      refine a_istore (by decide) rfl dX0_partingDays_30 ?_
      refine a_iload rfl dX0_partingDays_32 ?_
      refine a_iload rfl dX0_partingDays_34 ?_
      have hcl := crd_le hF p set i
      have hfl := fw_le hF p set i
      refine n_icmp_ge 47 (by omega) (by omega) dX0_partingDays_36 (by decide) (fun h_36 => ?_) (fun h_36 => ?_)
      · refine a_aload_n rfl dX0_partingDays_47 ?_
        refine a_aload_n rfl dX0_partingDays_48 ?_
        refine a_geta dX0_partingDays_49 fX0_9 (by decide) rfl rfl ?_
        refine n_callV (mi' := miX6_passDay) dX0_partingDays_52 lX0_26 mX6_passDay (by decide) rfl rfl rfl (c_X6_passDay isW17 hV_16 hF (f := pdI S (S 2) i) (by decide) rfl hI_16.1 (pdI_le (fun j hj => WF_clear hF j hj) _) (Or.inr (Or.inr (by omega))) ?_ d) rfl rfl (by omega) (by decide) (Nat.le_of_ble_eq_true rfl)
        show AW _ _ _ _ _ _ _
        refine a_pop rfl dX0_partingDays_55 ?_
        refine n_iinc (c := 1) rfl rfl (by decide) rfl dX0_partingDays_56 ?_
        refine a_goto 16 dX0_partingDays_59 (by decide) ?_
        rw [(fw_f hF (by omega)).1, (fw_f hF (by omega)).2] at ih_16
        exact a_bk (ih_16 _ ⟨fun j hj => (srM_at _ _ _ _).trans (if_pos hj), hI_16.2.sr (fun _ => rfl)⟩) ⟨rfl, rfl, rfl, rfl, rfl, rfl, rfl, trivial⟩
      · refine a_iload rfl dX0_partingDays_39 ?_
        refine a_istore (by decide) rfl dX0_partingDays_41 ?_
        refine a_iload rfl dX0_partingDays_43 ?_
        refine a_istore (by decide) rfl dX0_partingDays_45 ?_
        refine a_aload_n rfl dX0_partingDays_47 ?_
        refine a_aload_n rfl dX0_partingDays_48 ?_
        refine a_geta dX0_partingDays_49 fX0_9 (by decide) rfl rfl ?_
        refine n_callV (mi' := miX6_passDay) dX0_partingDays_52 lX0_26 mX6_passDay (by decide) rfl rfl rfl (c_X6_passDay isW17 hV_16 hF (f := pdI S (S 2) i) (by decide) rfl hI_16.1 (pdI_le (fun j hj => WF_clear hF j hj) _) (Or.inr (Or.inr (by omega))) ?_ d) rfl rfl (by omega) (by decide) (Nat.le_of_ble_eq_true rfl)
        show AW _ _ _ _ _ _ _
        refine a_pop rfl dX0_partingDays_55 ?_
        refine n_iinc (c := 1) rfl rfl (by decide) rfl dX0_partingDays_56 ?_
        refine a_goto 16 dX0_partingDays_59 (by decide) ?_
        rw [(fw_t hF (by omega)).1, (fw_t hF (by omega)).2] at ih_16
        exact a_bk (ih_16 _ ⟨fun j hj => (srM_at _ _ _ _).trans (if_pos hj), hI_16.2.sr (fun _ => rfl)⟩) ⟨rfl, rfl, rfl, rfl, rfl, rfl, rfl, trivial⟩
  exact a_bk (loop_16 0 (by omega) _ ⟨hr_10, hf_10⟩) ⟨rfl, rfl, rfl, rfl, rfl, rfl, rfl, trivial⟩

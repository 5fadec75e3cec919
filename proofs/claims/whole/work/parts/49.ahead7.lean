theorem al01_0 {p : Nat → Bool} {j : Nat} (h : (if alN p j = true then 1 else 0 : Nat) = 0) : (if alN p (j + 1) = true then 1 else 0 : Nat) = 0 := by
  by_cases e : alN p j = true
  · rw [if_pos e] at h; omega
  · rw [if_neg (fun q => e (by unfold alN at q; simp at q; exact q.1))]
theorem al01_f {p : Nat → Bool} {j : Nat} (h : p j = false) : (if alN p (j + 1) = true then 1 else 0 : Nat) = 0 := by
  rw [if_neg (fun q => by unfold alN at q; rw [h] at q; simp at q)]
theorem al01_t {p : Nat → Bool} {j : Nat} (h : ¬ (if alN p j = true then 1 else 0 : Nat) = 0) (h2 : p j = true) : (if alN p (j + 1) = true then 1 else 0 : Nat) = 1 := by
  by_cases e : alN p j = true
  · rw [if_pos (by unfold alN; rw [e, h2]; rfl)]
  · rw [if_neg e] at h; exact absurd rfl h
theorem al01_y {p : Nat → Bool} {j : Nat} (h : ¬ (if alN p j = true then 1 else 0 : Nat) = 0) : alN p j = true := by
  by_cases e : alN p j = true
  · exact e
  · rw [if_neg e] at h; exact absurd rfl h
theorem al01_n {p : Nat → Bool} {j : Nat} (h : (if alN p j = true then 1 else 0 : Nat) = 0) : alN p j = false := by
  cases e : alN p j with
  | false => rfl
  | true => rw [if_pos e] at h; omega

set_option maxRecDepth 100000 in
set_option maxHeartbeats 800000 in
theorem c_X12_outOf {M : Mm} {S : ST} (hM : VM 0 M S) (hF : WF S) (hd9 : S 0 1 ≤ 9999) {p : Nat} (hp : p < S 0 4) {t : Nat} (ht : t < 4) {D : Nat → Int64} {n : Nat} (hn20 : n ≤ 20) (hD : ∀ i, i < 2 * n → M.2 135 (60 * t + i) = D i) (hT : TWO D n) {Q : Option Value → Mm → Prop} (hQ : ∀ M', clI S 41 M' → frM (fun k _ => k = 145 ∨ k = 138) M M' → Q (some (.int (nI (outN S p D n)))) M') (d : Nat) : AMt miX12_outOf (d + 5) [.ref 132, .int (nI p), .int (nI t), .int (nI n)] M Q := by
  refine AMt.of (by decide) (Nat.le_of_ble_eq_true rfl) ?_
  show AW miX12_outOf (d + 5) (mxA Q) 0 [(0, some (.ref 132)), (1, some (.int (nI p))), (2, some (.int (nI t))), (3, some (.int (nI n)))] [] M
  have hm := WF_m hF
  have hh := WF_h hF
  have hs := WF_s hF
  have hn := WF_n hF
  have htl := WF_tall hF p hp
  refine n_iconst 0 rfl dX12_outOf_0 ?_
  refine a_istore (by decide) rfl dX12_outOf_1 ?_
  refine a_aload_n rfl dX12_outOf_3 ?_
  refine n_callV (mi' := miX12_laysClearer) dX12_outOf_4 lX12_480 mX12_laysClearer (by decide) rfl rfl rfl (c_X12_laysClearer hM hF hd9 (fun M_4 hcl_4 hf_4 => ?_) d) rfl rfl (by omega) (by decide) (Nat.le_of_ble_eq_true rfl)
  show AW _ _ _ _ _ _ _
  have hM4 : VM 0 M_4 S := VM_frM hM hF hf_4 (fun j _ => by omega)
  refine n_iconst 0 rfl dX12_outOf_7 ?_
  refine a_istore (by decide) rfl dX12_outOf_8 ?_
  have loop_10 : ∀ i, i ≤ S 0 2 → AW miX12_outOf (d + 5) (mxA Q) 10 [(0, some (.ref 132)), (1, some (.int (nI p))), (2, some (.int (nI t))), (3, some (.int (nI n))), (4, some (.int (nI (bsN (fun k => alN (fun q => fitB S p D q k) n) i)))), (5, some (.int (nI i)))] [] M_4 := by
    refine up (S 0 2) ?_ (fun i hi_10 ih_10 => ?_)
    · refine a_iload rfl dX12_outOf_10 ?_
      refine a_aload_n rfl dX12_outOf_12 ?_
      refine a_geta dX12_outOf_13 fX12_35 (by decide) rfl rfl ?_
      refine n_iconst 0 rfl dX12_outOf_16 ?_
      refine v_iald (by omega) (VM_s0 hM4) (by decide) rfl (by decide) dX12_outOf_17 ?_
      refine n_icmp_ge 124 (by omega) (by omega) dX12_outOf_18 (by decide) (fun h_18 => ?_) (fun h_18 => absurd h_18 (by omega))
      refine a_iload rfl dX12_outOf_124 ?_
      refine a_iret dX12_outOf_126 rfl ?_
      exact hQ _ hcl_4 hf_4
    · refine a_iload rfl dX12_outOf_10 ?_
      refine a_aload_n rfl dX12_outOf_12 ?_
      refine a_geta dX12_outOf_13 fX12_35 (by decide) rfl rfl ?_
      refine n_iconst 0 rfl dX12_outOf_16 ?_
      refine v_iald (by omega) (VM_s0 hM4) (by decide) rfl (by decide) dX12_outOf_17 ?_
      refine n_icmp_ge 124 (by omega) (by omega) dX12_outOf_18 (by decide) (fun h_18 => absurd h_18 (by omega)) (fun h_18 => ?_)
      refine n_iconst 1 rfl dX12_outOf_21 ?_
      refine a_istore (by decide) rfl dX12_outOf_22 ?_
      refine n_iconst 0 rfl dX12_outOf_24 ?_
      refine a_istore (by decide) rfl dX12_outOf_25 ?_
      have loop_27 : ∀ j, j ≤ n → AW miX12_outOf (d + 5) (mxA Q) 27 [(0, some (.ref 132)), (1, some (.int (nI p))), (2, some (.int (nI t))), (3, some (.int (nI n))), (4, some (.int (nI (bsN (fun k => alN (fun q => fitB S p D q k) n) i)))), (5, some (.int (nI i))), (6, some (.int (nI (if alN (fun q => fitB S p D q i) j = true then 1 else 0)))), (7, some (.int (nI j)))] [] M_4 := by
        refine up n ?_ (fun j hi_27 ih_27 => ?_)
        · refine a_iload rfl dX12_outOf_27 ?_
          refine a_iload_n rfl dX12_outOf_29 ?_
          refine n_icmp_ge 100 (by omega) (by omega) dX12_outOf_30 (by decide) (fun h_30 => ?_) (fun h_30 => absurd h_30 (by omega))
          refine a_iload rfl dX12_outOf_100 ?_
          refine a_iload rfl dX12_outOf_102 ?_
          have hb104 : (if alN (fun q => fitB S p D q i) n = true then 1 else 0) < 2 := by split <;> omega
          refine n_if_eq 114 (by omega) dX12_outOf_104 (by decide) (fun h_104 => ?_) (fun h_104 => ?_)
          · refine n_iconst 0 rfl dX12_outOf_114 ?_
            refine n_ior dX12_outOf_115 ?_
            refine a_istore (by decide) rfl dX12_outOf_116 ?_
            refine n_iinc (c := 1) rfl rfl (by decide) rfl dX12_outOf_118 ?_
            refine a_goto 10 dX12_outOf_121 (by decide) ?_
            rw [show bsN (fun k => alN (fun q => fitB S p D q k) n) (i + 1) = (bsN (fun k => alN (fun q => fitB S p D q k) n) i) ||| 0 by simp [bsN, al01_n h_104]] at ih_10
            exact a_bk ih_10 ⟨rfl, rfl, rfl, rfl, rfl, rfl, trivial⟩
          · refine n_iconst 1 rfl dX12_outOf_107 ?_
            refine a_iload rfl dX12_outOf_108 ?_
            refine n_bit (by omega) dX12_outOf_110 ?_
            refine a_goto 115 dX12_outOf_111 (by decide) ?_
            refine n_ior dX12_outOf_115 ?_
            refine a_istore (by decide) rfl dX12_outOf_116 ?_
            refine n_iinc (c := 1) rfl rfl (by decide) rfl dX12_outOf_118 ?_
            refine a_goto 10 dX12_outOf_121 (by decide) ?_
            rw [show bsN (fun k => alN (fun q => fitB S p D q k) n) (i + 1) = (bsN (fun k => alN (fun q => fitB S p D q k) n) i) ||| (2 ^ i) by simp [bsN, al01_y h_104]] at ih_10
            exact a_bk ih_10 ⟨rfl, rfl, rfl, rfl, rfl, rfl, trivial⟩
        · have hd40 := TWO_d hT hi_27
          refine a_iload rfl dX12_outOf_27 ?_
          refine a_iload_n rfl dX12_outOf_29 ?_
          refine n_icmp_ge 100 (by omega) (by omega) dX12_outOf_30 (by decide) (fun h_30 => absurd h_30 (by omega)) (fun h_30 => ?_)
          refine a_iload rfl dX12_outOf_33 ?_
          have hb35 : (if alN (fun q => fitB S p D q i) j = true then 1 else 0) < 2 := by split <;> omega
          refine n_if_eq 91 (by omega) dX12_outOf_35 (by decide) (fun h_35 => ?_) (fun h_35 => ?_)
          · refine n_iconst 0 rfl dX12_outOf_91 ?_
            refine a_istore (by decide) rfl dX12_outOf_92 ?_
            refine n_iinc (c := 1) rfl rfl (by decide) rfl dX12_outOf_94 ?_
            refine a_goto 27 dX12_outOf_97 (by decide) ?_
            rw [al01_0 h_35] at ih_27
            exact a_bk ih_27 ⟨rfl, rfl, rfl, rfl, rfl, rfl, rfl, rfl, trivial⟩
          · refine a_aload_n rfl dX12_outOf_38 ?_
            refine a_geta dX12_outOf_39 fX12_35 (by decide) rfl rfl ?_
            refine n_bipush 45 rfl dX12_outOf_42 ?_
            refine a_iload_n rfl dX12_outOf_44 ?_
            refine n_iadd dX12_outOf_45 ?_
            refine v_iald (by omega) (VM_a45 hM4 (j := p) (by omega)) (by decide) rfl (by decide) dX12_outOf_46 ?_
            refine a_aload_n rfl dX12_outOf_47 ?_
            refine a_geta dX12_outOf_48 fX12_59 (by decide) rfl rfl ?_
            refine n_bipush 6 rfl dX12_outOf_51 ?_
            refine a_aload_n rfl dX12_outOf_53 ?_
            refine a_iload_n rfl dX12_outOf_54 ?_
            refine n_iconst 2 rfl dX12_outOf_55 ?_
            refine a_iload rfl dX12_outOf_56 ?_
            refine n_imul dX12_outOf_58 ?_
            refine n_callV (mi' := miX12_numberOf) dX12_outOf_59 lX12_471 mX12_numberOf (by decide) rfl rfl rfl (c_X12_numberOf (by omega) ?_ d) rfl rfl (by omega) (by decide) (Nat.le_of_ble_eq_true rfl)
            show AW _ _ _ _ _ _ _
            refine a_l2i dX12_outOf_62 ?_
            refine a_eqi (y := nI (dN D (2 * j))) (by rw [show M_4.2 135 (60 * t + 2 * j) = D (2 * j) by rw [hf_4.2]; exact hD _ (by omega)]; exact l2i_n (hT j (by omega)).1 (by have := (hT j (by omega)).2.1; omega)) ?_
            refine n_imul dX12_outOf_63 ?_
            refine a_iload rfl dX12_outOf_64 ?_
            refine n_iadd dX12_outOf_66 ?_
            refine v_iald (by omega) (hcl_4 (dN D (2 * j)) (by omega) i (by omega)) (by decide) rfl (by decide) dX12_outOf_67 ?_
            refine n_callS (mi' := miX12_heightBy) dX12_outOf_68 lX12_337 mX12_heightBy (c_X12_heightBy (by omega) (pdI_le (fun j hj => WF_clear hF j hj) _ _ (by omega)) ?_ d) rfl rfl (by omega) (by decide) (Nat.le_of_ble_eq_true rfl)
            show AW _ _ _ _ _ _ _
            have hh1 := hgt_le (S 6 p) (pdI S (S 2) (dN D (2 * j)) i)
            refine a_i2l dX12_outOf_71 ?_
            refine a_aload_n rfl dX12_outOf_72 ?_
            refine a_iload_n rfl dX12_outOf_73 ?_
            refine n_iconst 2 rfl dX12_outOf_74 ?_
            refine a_iload rfl dX12_outOf_75 ?_
            refine n_imul dX12_outOf_77 ?_
            refine n_iconst 1 rfl dX12_outOf_78 ?_
            refine n_iadd dX12_outOf_79 ?_
            refine n_callV (mi' := miX12_numberOf) dX12_outOf_80 lX12_471 mX12_numberOf (by decide) rfl rfl rfl (c_X12_numberOf (by omega) ?_ d) rfl rfl (by omega) (by decide) (Nat.le_of_ble_eq_true rfl)
            show AW _ _ _ _ _ _ _
            refine a_lcmp dX12_outOf_83 ?_
            refine l_if_ne 91 dX12_outOf_84 (by decide) (fun h_84 => ?_) (fun h_84 => ?_)
            · refine n_iconst 0 rfl dX12_outOf_91 ?_
              refine a_istore (by decide) rfl dX12_outOf_92 ?_
              refine n_iinc (c := 1) rfl rfl (by decide) rfl dX12_outOf_94 ?_
              refine a_goto 27 dX12_outOf_97 (by decide) ?_
              rw [show M_4.2 135 (60 * t + (2 * j + 1)) = D (2 * j + 1) by rw [hf_4.2]; exact hD _ (by omega), i64_nI (by omega) _ (hT j hi_27).2.2.1] at h_84
              rw [al01_f (p := (fun q => fitB S p D q i)) (j := j) (fit_f h_84)] at ih_27
              exact a_bk ih_27 ⟨rfl, rfl, rfl, rfl, rfl, rfl, rfl, rfl, trivial⟩
            · refine n_iconst 1 rfl dX12_outOf_87 ?_
              refine a_goto 92 dX12_outOf_88 (by decide) ?_
              refine a_istore (by decide) rfl dX12_outOf_92 ?_
              refine n_iinc (c := 1) rfl rfl (by decide) rfl dX12_outOf_94 ?_
              refine a_goto 27 dX12_outOf_97 (by decide) ?_
              rw [show M_4.2 135 (60 * t + (2 * j + 1)) = D (2 * j + 1) by rw [hf_4.2]; exact hD _ (by omega), i64_nI (by omega) _ (hT j hi_27).2.2.1] at h_84
              rw [al01_t (p := (fun q => fitB S p D q i)) (j := j) h_35 (fit_t h_84)] at ih_27
              exact a_bk ih_27 ⟨rfl, rfl, rfl, rfl, rfl, rfl, rfl, rfl, trivial⟩
      exact a_bk (loop_27 0 (by omega)) ⟨rfl, rfl, rfl, rfl, rfl, rfl, rfl, rfl, trivial⟩
  exact a_bk (loop_10 0 (by omega)) ⟨rfl, rfl, rfl, rfl, rfl, rfl, trivial⟩

def almN (S : ST) (p set dd i j : Nat) : Nat := sumN (fun e => if set.testBit e = true ∧ hiN S p dd e = hiN S p dd i then 1 else 0) j
theorem almN_le (S : ST) (p set dd i j : Nat) : almN S p set dd i j ≤ j := by
  have := sumN_le (f := fun e => if set.testBit e = true ∧ hiN S p dd e = hiN S p dd i then 1 else 0) (b := 1) (n := j) (fun j _ => by split <;> omega)
  unfold almN; omega
theorem alm_t {S : ST} {p set dd i j : Nat} (h1 : set.testBit j = true) (h2 : hiN S p dd j = hiN S p dd i) : almN S p set dd i (j + 1) = almN S p set dd i j + 1 := by
  show almN S p set dd i j + (if _ then 1 else 0) = _
  rw [if_pos ⟨h1, h2⟩]
theorem alm_f {S : ST} {p set dd i j : Nat} (h : ¬ (set.testBit j = true ∧ hiN S p dd j = hiN S p dd i)) : almN S p set dd i (j + 1) = almN S p set dd i j := by
  show almN S p set dd i j + (if _ then 1 else 0) = _
  rw [if_neg h]; rfl
theorem alm_k {S : ST} {p set dd i : Nat} (h : set.testBit i = true) : alkN S p set dd i = almN S p set dd i (S 0 2) := by
  unfold alkN almN
  refine sumN_congr (fun e _ => ?_)
  by_cases c : hiN S p dd i = hiN S p dd e
  · rw [c]; simp [h]
  · have c2 : ¬ hiN S p dd e = hiN S p dd i := fun z => c z.symm
    simp [c, c2]
theorem alm_z {S : ST} {p set dd i : Nat} (h : set.testBit i = false) : alkN S p set dd i = 0 := by
  unfold alkN
  have := sumN_le (f := fun e => if hiN S p dd i = hiN S p dd e ∧ set.testBit i = true ∧ set.testBit e = true then 1 else 0) (b := 0) (n := S 0 2) (fun e _ => by simp [h])
  omega

set_option maxRecDepth 100000 in
set_option maxHeartbeats 800000 in
theorem c_X12_mostAlike {M : Mm} {S : ST} (hM : VM 0 M S) (hF : WF S) {p set dd : Nat} (hp : p < S 0 4) (hset : set < 64) (hdd : dd ≤ 40) (hcl : clI S 41 M) {Q : Option Value → Mm → Prop} (hQ : Q (some (.int (nI (crdN S p set dd)))) M) (d : Nat) : AMt miX12_mostAlike (d + 1) [.ref 132, .int (nI p), .int (nI set), .int (nI dd)] M Q := by
  refine AMt.of (by decide) (Nat.le_of_ble_eq_true rfl) ?_
  show AW miX12_mostAlike (d + 1) (mxA Q) 0 [(0, some (.ref 132)), (1, some (.int (nI p))), (2, some (.int (nI set))), (3, some (.int (nI dd)))] [] M
  have hm := WF_m hF
  have hh := WF_h hF
  have hs := WF_s hF
  have hn := WF_n hF
  have htl := WF_tall hF p hp
  refine n_iconst 0 rfl dX12_mostAlike_0 ?_
  refine a_istore (by decide) rfl dX12_mostAlike_1 ?_
  refine n_iconst 0 rfl dX12_mostAlike_3 ?_
  refine a_istore (by decide) rfl dX12_mostAlike_4 ?_
  have loop_6 : ∀ i, i ≤ S 0 2 → AW miX12_mostAlike (d + 1) (mxA Q) 6 [(0, some (.ref 132)), (1, some (.int (nI p))), (2, some (.int (nI set))), (3, some (.int (nI dd))), (4, some (.int (nI (mxN (alkN S p set dd) i)))), (5, some (.int (nI i)))] [] M := by
    refine up (S 0 2) ?_ (fun i hi_6 ih_6 => ?_)
    · refine a_iload rfl dX12_mostAlike_6 ?_
      refine a_aload_n rfl dX12_mostAlike_8 ?_
      refine a_geta dX12_mostAlike_9 fX12_35 (by decide) rfl rfl ?_
      refine n_iconst 0 rfl dX12_mostAlike_12 ?_
      refine v_iald (by omega) (VM_s0 hM) (by decide) rfl (by decide) dX12_mostAlike_13 ?_
      refine n_icmp_ge 138 (by omega) (by omega) dX12_mostAlike_14 (by decide) (fun h_14 => ?_) (fun h_14 => absurd h_14 (by omega))
      refine a_iload rfl dX12_mostAlike_138 ?_
      refine a_iret dX12_mostAlike_140 rfl ?_
      exact hQ
    · have hmx : mxN (alkN S p set dd) i ≤ 6 := mxN_le (fun q _ => Nat.le_trans (alkC_le S p set dd q (S 0 2)) hm)
      refine a_iload rfl dX12_mostAlike_6 ?_
      refine a_aload_n rfl dX12_mostAlike_8 ?_
      refine a_geta dX12_mostAlike_9 fX12_35 (by decide) rfl rfl ?_
      refine n_iconst 0 rfl dX12_mostAlike_12 ?_
      refine v_iald (by omega) (VM_s0 hM) (by decide) rfl (by decide) dX12_mostAlike_13 ?_
      refine n_icmp_ge 138 (by omega) (by omega) dX12_mostAlike_14 (by decide) (fun h_14 => absurd h_14 (by omega)) (fun h_14 => ?_)
      refine n_iconst 0 rfl dX12_mostAlike_17 ?_
      refine a_istore (by decide) rfl dX12_mostAlike_18 ?_
      refine a_aload_n rfl dX12_mostAlike_20 ?_
      refine a_geta dX12_mostAlike_21 fX12_35 (by decide) rfl rfl ?_
      refine n_bipush 45 rfl dX12_mostAlike_24 ?_
      refine a_iload_n rfl dX12_mostAlike_26 ?_
      refine n_iadd dX12_mostAlike_27 ?_
      refine v_iald (by omega) (VM_a45 hM (j := p) (by omega)) (by decide) rfl (by decide) dX12_mostAlike_28 ?_
      refine a_aload_n rfl dX12_mostAlike_29 ?_
      refine a_geta dX12_mostAlike_30 fX12_59 (by decide) rfl rfl ?_
      refine n_bipush 6 rfl dX12_mostAlike_33 ?_
      refine a_iload_n rfl dX12_mostAlike_35 ?_
      refine n_imul dX12_mostAlike_36 ?_
      refine a_iload rfl dX12_mostAlike_37 ?_
      refine n_iadd dX12_mostAlike_39 ?_
      refine v_iald (by omega) (hcl dd (by omega) i (by omega)) (by decide) rfl (by decide) dX12_mostAlike_40 ?_
      refine n_callS (mi' := miX12_heightBy) dX12_mostAlike_41 lX12_337 mX12_heightBy (c_X12_heightBy (by omega) (pdI_le (fun j hj => WF_clear hF j hj) _ _ (by omega)) ?_ d) rfl rfl (by omega) (by decide) (Nat.le_of_ble_eq_true rfl)
      show AW _ _ _ _ _ _ _
      have hh1 := hgt_le (S 6 p) (pdI S (S 2) dd i)
      refine a_istore (by decide) rfl dX12_mostAlike_44 ?_
      refine n_iconst 0 rfl dX12_mostAlike_46 ?_
      refine a_istore (by decide) rfl dX12_mostAlike_47 ?_
      have loop_49 : ∀ j, j ≤ S 0 2 → AW miX12_mostAlike (d + 1) (mxA Q) 49 [(0, some (.ref 132)), (1, some (.int (nI p))), (2, some (.int (nI set))), (3, some (.int (nI dd))), (4, some (.int (nI (mxN (alkN S p set dd) i)))), (5, some (.int (nI i))), (6, some (.int (nI (almN S p set dd i j)))), (7, some (.int (nI (hgt (S 6 p) (pdI S (S 2) dd i))))), (8, some (.int (nI j)))] [] M := by
        refine up (S 0 2) ?_ (fun j hi_49 ih_49 => ?_)
        · have hal := almN_le S p set dd i (S 0 2)
          refine a_iload rfl dX12_mostAlike_49 ?_
          refine a_aload_n rfl dX12_mostAlike_51 ?_
          refine a_geta dX12_mostAlike_52 fX12_35 (by decide) rfl rfl ?_
          refine n_iconst 0 rfl dX12_mostAlike_55 ?_
          refine v_iald (by omega) (VM_s0 hM) (by decide) rfl (by decide) dX12_mostAlike_56 ?_
          refine n_icmp_ge 114 (by omega) (by omega) dX12_mostAlike_57 (by decide) (fun h_57 => ?_) (fun h_57 => absurd h_57 (by omega))
          refine a_iload_n rfl dX12_mostAlike_114 ?_
          refine a_iload rfl dX12_mostAlike_115 ?_
          refine n_callS (mi' := miX12_has) dX12_mostAlike_117 lX12_108 mX12_has (c_X12_has (by omega) (by omega) (fun h_117 => ?_) (fun h_117 => ?_) d) rfl rfl (by omega) (by decide) (Nat.le_of_ble_eq_true rfl)
          · show AW _ _ _ _ _ _ _
            refine n_if_eq 132 (by decide) dX12_mostAlike_120 (by decide) (fun h => absurd h (by decide)) (fun _ => ?_)
            refine a_iload rfl dX12_mostAlike_123 ?_
            refine a_iload rfl dX12_mostAlike_125 ?_
            refine n_max (by omega) (by omega) dX12_mostAlike_127 lX12_247 (Nat.le_of_ble_eq_true rfl) ?_
            refine a_istore (by decide) rfl dX12_mostAlike_130 ?_
            refine n_iinc (c := 1) rfl rfl (by decide) rfl dX12_mostAlike_132 ?_
            refine a_goto 6 dX12_mostAlike_135 (by decide) ?_
            rw [show mxN (alkN S p set dd) (i + 1) = max (mxN (alkN S p set dd) i) (almN S p set dd i (S 0 2)) by show max _ (alkN S p set dd i) = _; rw [alm_k h_117]] at ih_6
            exact a_bk ih_6 ⟨rfl, rfl, rfl, rfl, rfl, rfl, trivial⟩
          · show AW _ _ _ _ _ _ _
            refine n_if_eq 132 (by decide) dX12_mostAlike_120 (by decide) (fun _ => ?_) (fun h => absurd h (by decide))
            refine n_iinc (c := 1) rfl rfl (by decide) rfl dX12_mostAlike_132 ?_
            refine a_goto 6 dX12_mostAlike_135 (by decide) ?_
            rw [show mxN (alkN S p set dd) (i + 1) = mxN (alkN S p set dd) i by show max _ (alkN S p set dd i) = _; rw [alm_z h_117, Nat.max_zero]] at ih_6
            exact a_bk ih_6 ⟨rfl, rfl, rfl, rfl, rfl, rfl, trivial⟩
        · have hal := almN_le S p set dd i j
          refine a_iload rfl dX12_mostAlike_49 ?_
          refine a_aload_n rfl dX12_mostAlike_51 ?_
          refine a_geta dX12_mostAlike_52 fX12_35 (by decide) rfl rfl ?_
          refine n_iconst 0 rfl dX12_mostAlike_55 ?_
          refine v_iald (by omega) (VM_s0 hM) (by decide) rfl (by decide) dX12_mostAlike_56 ?_
          refine n_icmp_ge 114 (by omega) (by omega) dX12_mostAlike_57 (by decide) (fun h_57 => absurd h_57 (by omega)) (fun h_57 => ?_)
          refine a_iload rfl dX12_mostAlike_60 ?_
          refine a_iload_n rfl dX12_mostAlike_62 ?_
          refine a_iload rfl dX12_mostAlike_63 ?_
          refine n_callS (mi' := miX12_has) dX12_mostAlike_65 lX12_108 mX12_has (c_X12_has (by omega) (by omega) (fun h_65 => ?_) (fun h_65 => ?_) d) rfl rfl (by omega) (by decide) (Nat.le_of_ble_eq_true rfl)
          · show AW _ _ _ _ _ _ _
            refine n_if_eq 104 (by decide) dX12_mostAlike_68 (by decide) (fun h => absurd h (by decide)) (fun _ => ?_)
            refine a_aload_n rfl dX12_mostAlike_71 ?_
            refine a_geta dX12_mostAlike_72 fX12_35 (by decide) rfl rfl ?_
            refine n_bipush 45 rfl dX12_mostAlike_75 ?_
            refine a_iload_n rfl dX12_mostAlike_77 ?_
            refine n_iadd dX12_mostAlike_78 ?_
            refine v_iald (by omega) (VM_a45 hM (j := p) (by omega)) (by decide) rfl (by decide) dX12_mostAlike_79 ?_
            refine a_aload_n rfl dX12_mostAlike_80 ?_
            refine a_geta dX12_mostAlike_81 fX12_59 (by decide) rfl rfl ?_
            refine n_bipush 6 rfl dX12_mostAlike_84 ?_
            refine a_iload_n rfl dX12_mostAlike_86 ?_
            refine n_imul dX12_mostAlike_87 ?_
            refine a_iload rfl dX12_mostAlike_88 ?_
            refine n_iadd dX12_mostAlike_90 ?_
            refine v_iald (by omega) (hcl dd (by omega) j (by omega)) (by decide) rfl (by decide) dX12_mostAlike_91 ?_
            refine n_callS (mi' := miX12_heightBy) dX12_mostAlike_92 lX12_337 mX12_heightBy (c_X12_heightBy (by omega) (pdI_le (fun j hj => WF_clear hF j hj) _ _ (by omega)) ?_ d) rfl rfl (by omega) (by decide) (Nat.le_of_ble_eq_true rfl)
            show AW _ _ _ _ _ _ _
            refine a_iload rfl dX12_mostAlike_95 ?_
            have hh2 := hgt_le (S 6 p) (pdI S (S 2) dd j)
            refine n_icmp_ne 104 (by omega) (by omega) dX12_mostAlike_97 (by decide) (fun h_97 => ?_) (fun h_97 => ?_)
            · refine n_iconst 0 rfl dX12_mostAlike_104 ?_
              refine n_iadd dX12_mostAlike_105 ?_
              refine a_istore (by decide) rfl dX12_mostAlike_106 ?_
              refine n_iinc (c := 1) rfl rfl (by decide) rfl dX12_mostAlike_108 ?_
              refine a_goto 49 dX12_mostAlike_111 (by decide) ?_
              rw [alm_f (fun z => h_97 (by simpa only [hiN] using z.2))] at ih_49
              exact a_bk ih_49 ⟨rfl, rfl, rfl, rfl, rfl, rfl, rfl, rfl, rfl, trivial⟩
            · refine n_iconst 1 rfl dX12_mostAlike_100 ?_
              refine a_goto 105 dX12_mostAlike_101 (by decide) ?_
              refine n_iadd dX12_mostAlike_105 ?_
              refine a_istore (by decide) rfl dX12_mostAlike_106 ?_
              refine n_iinc (c := 1) rfl rfl (by decide) rfl dX12_mostAlike_108 ?_
              refine a_goto 49 dX12_mostAlike_111 (by decide) ?_
              rw [alm_t h_65 (by simp only [hiN]; exact h_97)] at ih_49
              exact a_bk ih_49 ⟨rfl, rfl, rfl, rfl, rfl, rfl, rfl, rfl, rfl, trivial⟩
          · show AW _ _ _ _ _ _ _
            refine n_if_eq 104 (by decide) dX12_mostAlike_68 (by decide) (fun _ => ?_) (fun h => absurd h (by decide))
            refine n_iconst 0 rfl dX12_mostAlike_104 ?_
            refine n_iadd dX12_mostAlike_105 ?_
            refine a_istore (by decide) rfl dX12_mostAlike_106 ?_
            refine n_iinc (c := 1) rfl rfl (by decide) rfl dX12_mostAlike_108 ?_
            refine a_goto 49 dX12_mostAlike_111 (by decide) ?_
            rw [alm_f (fun z => by rw [h_65] at z; simp at z)] at ih_49
            exact a_bk ih_49 ⟨rfl, rfl, rfl, rfl, rfl, rfl, rfl, rfl, rfl, trivial⟩
      exact a_bk (loop_49 0 (by omega)) ⟨rfl, rfl, rfl, rfl, rfl, rfl, rfl, rfl, rfl, trivial⟩
  exact a_bk (loop_6 0 (by omega)) ⟨rfl, rfl, rfl, rfl, rfl, rfl, trivial⟩

set_option maxRecDepth 100000 in
set_option maxHeartbeats 800000 in
theorem c_X12_whyNoOut {M : Mm} {T : TT} (hMt : VM 0 M (tS T)) (hR : RM M (tR T)) (hG : TG T) {p x n : Int32} {Q : Option Value → Mm → Prop} (hQ : Q (some (.int (nI (whyO T p x n)))) M) (d : Nat) : AMt miX12_whyNoOut (d + 3) [.ref 132, .int p, .int x, .int n] M Q := by
  refine AMt.of (by decide) (Nat.le_of_ble_eq_true rfl) ?_
  show AW miX12_whyNoOut (d + 3) (mxA Q) 0 [(0, some (.ref 132)), (1, some (.int p)), (2, some (.int x)), (3, some (.int n))] [] M
  have hF : WF (tS T) := hG.1.1
  have hs : tS T 0 4 ≤ 7 := WF_s hF
  refine a_aload_n rfl dX12_whyNoOut_0 ?_
  refine a_iload_n rfl dX12_whyNoOut_1 ?_
  refine n_callV (mi' := miX12_isTray) dX12_whyNoOut_2 lX12_379 mX12_isTray (by decide) rfl rfl rfl (c_X12_isTray (fun ha_2 hb_2 => ?_) (fun h_2 => ?_) d) rfl rfl (by omega) (by decide) (Nat.le_of_ble_eq_true rfl)
  · show AW _ _ _ _ _ _ _
    refine n_if_ne 12 (by decide) dX12_whyNoOut_5 (by decide) (fun _ => ?_) (fun h => absurd h (by decide))
    obtain ⟨t, ht, rfl⟩ := inR_of (x := x) (m := 4) (by omega) (by omega) (by omega)
    have t_t : (nI t).toInt = (t : Int) := nI_toInt (by omega)
    have i_t : idx (nI t) = t := idx_nI (by omega)
    refine a_aload_n rfl dX12_whyNoOut_12 ?_
    refine a_iload_n rfl dX12_whyNoOut_13 ?_
    refine n_callV (mi' := miX12_isSitterAt) dX12_whyNoOut_14 lX12_371 mX12_isSitterAt (by decide) rfl rfl rfl (c_X12_isSitterAt hMt hF (fun j_14 h_14 e_14 => ?_) (fun h_14 => ?_) d) rfl rfl (by omega) (by decide) (Nat.le_of_ble_eq_true rfl)
    · show AW _ _ _ _ _ _ _
      subst e_14
      have t_14 : (nI j_14).toInt = (j_14 : Int) := nI_toInt (by omega)
      refine n_if_eq 29 (by decide) dX12_whyNoOut_17 (by decide) (fun h => absurd h (by decide)) (fun _ => ?_)
      refine a_aload_n rfl dX12_whyNoOut_20 ?_
      refine a_iload_n rfl dX12_whyNoOut_21 ?_
      refine a_iload_n rfl dX12_whyNoOut_22 ?_
      refine n_callV (mi' := miX12_whyNoTwos) dX12_whyNoOut_23 lX12_477 mX12_whyNoTwos (by decide) rfl rfl rfl (c_X12_whyNoTwos hR hG.2.1 (by omega) ?_ d) rfl rfl (by omega) (by decide) (Nat.le_of_ble_eq_true rfl)
      show AW _ _ _ _ _ _ _
      refine a_goto 30 dX12_whyNoOut_26 (by decide) ?_
      refine a_iret dX12_whyNoOut_30 rfl ?_
      rw [show whyO T (nI j_14) (nI t) n = twosN (tR T) t n by unfold whyO; rw [if_pos (by omega), if_pos (by omega), i_t]] at hQ
      exact hQ
    · show AW _ _ _ _ _ _ _
      have h_14 := not_inR h_14 (by omega)
      refine n_if_eq 29 (by decide) dX12_whyNoOut_17 (by decide) (fun _ => ?_) (fun h => absurd h (by decide))
      refine n_iconst 2 rfl dX12_whyNoOut_29 ?_
      refine a_iret dX12_whyNoOut_30 rfl ?_
      rw [show whyO T p (nI t) n = 2 by unfold whyO; rw [if_pos (by omega), if_neg (by omega)]] at hQ
      exact hQ
  · show AW _ _ _ _ _ _ _
    refine n_if_ne 12 (by decide) dX12_whyNoOut_5 (by decide) (fun h => absurd h (by decide)) (fun _ => ?_)
    refine n_iconst 1 rfl dX12_whyNoOut_8 ?_
    refine a_goto 30 dX12_whyNoOut_9 (by decide) ?_
    refine a_iret dX12_whyNoOut_30 rfl ?_
    rw [show whyO T p x n = 1 by unfold whyO; rw [if_neg (by omega)]] at hQ
    exact hQ

set_option maxRecDepth 100000 in
set_option maxHeartbeats 800000 in
theorem c_X12_whyNoLaw {M : Mm} {T : TT} (hR : RM M (tR T)) (hG : TG T) {x n : Int32} {Q : Option Value → Mm → Prop} (hQ : Q (some (.int (nI (whyL T x n)))) M) (d : Nat) : AMt miX12_whyNoLaw (d + 3) [.ref 132, .int x, .int n] M Q := by
  refine AMt.of (by decide) (Nat.le_of_ble_eq_true rfl) ?_
  show AW miX12_whyNoLaw (d + 3) (mxA Q) 0 [(0, some (.ref 132)), (1, some (.int x)), (2, some (.int n))] [] M
  refine a_aload_n rfl dX12_whyNoLaw_0 ?_
  refine a_iload_n rfl dX12_whyNoLaw_1 ?_
  refine n_callV (mi' := miX12_isTray) dX12_whyNoLaw_2 lX12_379 mX12_isTray (by decide) rfl rfl rfl (c_X12_isTray (fun ha_2 hb_2 => ?_) (fun h_2 => ?_) d) rfl rfl (by omega) (by decide) (Nat.le_of_ble_eq_true rfl)
  · show AW _ _ _ _ _ _ _
    refine n_if_eq 17 (by decide) dX12_whyNoLaw_5 (by decide) (fun h => absurd h (by decide)) (fun _ => ?_)
    obtain ⟨t, ht, rfl⟩ := inR_of (x := x) (m := 4) (by omega) (by omega) (by omega)
    have t_t : (nI t).toInt = (t : Int) := nI_toInt (by omega)
    have i_t : idx (nI t) = t := idx_nI (by omega)
    refine a_aload_n rfl dX12_whyNoLaw_8 ?_
    refine a_iload_n rfl dX12_whyNoLaw_9 ?_
    refine a_iload_n rfl dX12_whyNoLaw_10 ?_
    refine n_callV (mi' := miX12_whyNoTwos) dX12_whyNoLaw_11 lX12_477 mX12_whyNoTwos (by decide) rfl rfl rfl (c_X12_whyNoTwos hR hG.2.1 (by omega) ?_ d) rfl rfl (by omega) (by decide) (Nat.le_of_ble_eq_true rfl)
    show AW _ _ _ _ _ _ _
    refine a_goto 18 dX12_whyNoLaw_14 (by decide) ?_
    refine a_iret dX12_whyNoLaw_18 rfl ?_
    rw [show whyL T (nI t) n = twosN (tR T) t n by unfold whyL; rw [if_pos (by omega), i_t]] at hQ
    exact hQ
  · show AW _ _ _ _ _ _ _
    refine n_if_eq 17 (by decide) dX12_whyNoLaw_5 (by decide) (fun _ => ?_) (fun h => absurd h (by decide))
    refine n_iconst 1 rfl dX12_whyNoLaw_17 ?_
    refine a_iret dX12_whyNoLaw_18 rfl ?_
    rw [show whyL T x n = 1 by unfold whyL; rw [if_neg (by omega)]] at hQ
    exact hQ

set_option maxRecDepth 100000 in
set_option maxHeartbeats 800000 in
theorem c_X12_out {M : Mm} {T : TT} (hI : IM M T) (hG : TG T) {p : Int32} {x : Int32} {n : Int32} {Q : Option Value → Mm → Prop} (hQ : ∀ M', IM M' (sp_out p x n T).2 → keX M M' → Q (some (.int (sp_out p x n T).1)) M') (d : Nat) : AMt miX12_out (d + 6) [.ref 132, .int p, .int x, .int n] M Q := by
  refine AMt.of (by decide) (Nat.le_of_ble_eq_true rfl) ?_
  show AW miX12_out (d + 6) (mxA Q) 0 [(0, some (.ref 132)), (1, some (.int p)), (2, some (.int x)), (3, some (.int n))] [] M
  have hF : WF (tS T) := hG.1.1
  have hM : VM 0 M (tS T) := hI.1.1
  have hM1 := m0_VM hM hF
  have hm : tS T 0 2 ≤ 6 := WF_m hF
  have hh : tS T 0 3 ≤ 10 := WF_h hF
  have hs : tS T 0 4 ≤ 7 := WF_s hF
  have hn : tS T 0 5 ≤ 8 := WF_n hF
  have hd9 : tS T 0 1 ≤ 9999 := hG.1.2.2.2.2.1
  have hwo := whyO_le T p x n
  refine a_aload_n rfl dX12_out_0 ?_
  refine n_iconst 0 rfl dX12_out_1 ?_
  refine a_puti dX12_out_2 pX12_69 (by decide) rfl rfl ?_
  have hMt : VM 0 (siM M 132 1 (nI 0)) (tS T) := VM_e hM (fun j _ => siN rfl (by omega)) hF
  have hRt : RM (siM M 132 1 (nI 0)) (tR T) := RM_fr hI.2.1 (P := fun k j => k = 132) (fr.r.si rfl) (fun k j a b => by omega)
  refine a_aload_n rfl dX12_out_5 ?_
  refine a_aload_n rfl dX12_out_6 ?_
  refine a_iload_n rfl dX12_out_7 ?_
  refine a_iload_n rfl dX12_out_8 ?_
  refine a_iload_n rfl dX12_out_9 ?_
  refine n_callV (mi' := miX12_whyNoOut) dX12_out_10 lX12_483 mX12_whyNoOut (by decide) rfl rfl rfl (c_X12_whyNoOut hMt hRt hG ?_ d) rfl rfl (by omega) (by decide) (Nat.le_of_ble_eq_true rfl)
  show AW _ _ _ _ _ _ _
  refine a_puti dX12_out_13 pX12_72 (by decide) rfl rfl ?_
  refine a_aload_n rfl dX12_out_16 ?_
  refine g_i siS (by decide) rfl fX12_72 rfl dX12_out_17 ?_
  refine n_if_le 27 (by omega) dX12_out_20 (by decide) (fun h_20 => ?_) (fun h_20 => ?_)
  · have h0_ := h_20
    rw [h_20]
    show AW _ _ _ _ _ _ (m0 M)
    obtain ⟨hx0, hp0, ht0⟩ := whyO_0 h_20
    obtain ⟨hn0, hl0, hd0⟩ := twosN_0 ht0
    have hl60 := lenI_le hG.2.1 (t := idx x) (by unfold idx; omega)
    obtain ⟨t, ht, rfl⟩ := inR_of (x := x) (m := 4) (by omega) (by omega) (by omega)
    have t_t : (nI t).toInt = (t : Int) := nI_toInt (by omega)
    have i_t : idx (nI t) = t := idx_nI (by omega)
    obtain ⟨s, hs, rfl⟩ := inR_of (x := p) (m := tS T 0 4) (by omega) (by omega) (by omega)
    have t_s : (nI s).toInt = (s : Int) := nI_toInt (by omega)
    have i_s : idx (nI s) = s := idx_nI (by omega)
    obtain ⟨q, hq, rfl⟩ := inR_of (x := n) (m := 21) (by omega) (by omega) (by omega)
    have t_q : (nI q).toInt = (q : Int) := nI_toInt (by omega)
    have i_q : idx (nI q) = q := idx_nI (by omega)
    rw [i_t] at hl0 hl60 hd0
    rw [i_q] at hd0
    have hD : ∀ i, i < 2 * q → (m0 M).2 135 (60 * t + i) = (tR T).2.2 t i := fun i hi => RM_dat hI.2.1 (by omega) (by omega)
    have hT := TWO_of hd0
    refine a_aload_n rfl dX12_out_27 ?_
    refine a_iload_n rfl dX12_out_28 ?_
    refine a_iload_n rfl dX12_out_29 ?_
    refine a_iload_n rfl dX12_out_30 ?_
    refine n_callV (mi' := miX12_outOf) dX12_out_31 lX12_487 mX12_outOf (by decide) rfl rfl rfl (c_X12_outOf hM1 hF hd9 (p := s) (by omega) (t := t) (by omega) (D := (tR T).2.2 t) (by omega) hD hT (fun M_31 hcl_31 hf_31 => ?_) d) rfl rfl (by omega) (by decide) (Nat.le_of_ble_eq_true rfl)
    show AW _ _ _ _ _ _ _
    have hM_31 : VM 0 M_31 (tS T) := VM_frM hM1 hF hf_31 (fun j _ => by omega)
    refine a_iret dX12_out_34 rfl ?_
    exact fin_qM hQ hI hG (by unfold sp_out; rw [if_pos h0_, i_t, i_s, i_q]) (hf_31.f.i m0_s (by omega)) (m0_fr.t (hf_31.f.mo (fun k j h => by unfold scM coM; omega)))
  · refine a_iconst (-1) rfl dX12_out_23 ?_
    refine a_goto 34 dX12_out_24 (by decide) ?_
    refine a_iret dX12_out_34 rfl ?_
    exact fin_qM hQ hI hG (by unfold sp_out; rw [if_neg h_20]) siS ((fr.r.si (by unfold scM coM; omega)).si (by unfold scM coM; omega))

set_option maxRecDepth 100000 in
set_option maxHeartbeats 800000 in
theorem c_X12_ask {M : Mm} {T : TT} (hI : IM M T) (hG : TG T) {p : Int32} {x : Int32} {n : Int32} {Q : Option Value → Mm → Prop} (hQ : ∀ M', IM M' (sp_ask p x n T).2 → keX M M' → Q (some (.int (sp_ask p x n T).1)) M') (d : Nat) : AMt miX12_ask (d + 6) [.ref 132, .int p, .int x, .int n] M Q := by
  refine AMt.of (by decide) (Nat.le_of_ble_eq_true rfl) ?_
  show AW miX12_ask (d + 6) (mxA Q) 0 [(0, some (.ref 132)), (1, some (.int p)), (2, some (.int x)), (3, some (.int n))] [] M
  have hF : WF (tS T) := hG.1.1
  have hM : VM 0 M (tS T) := hI.1.1
  have hM1 := m0_VM hM hF
  have hm : tS T 0 2 ≤ 6 := WF_m hF
  have hh : tS T 0 3 ≤ 10 := WF_h hF
  have hs : tS T 0 4 ≤ 7 := WF_s hF
  have hn : tS T 0 5 ≤ 8 := WF_n hF
  have hd9 : tS T 0 1 ≤ 9999 := hG.1.2.2.2.2.1
  have hwo := whyO_le T p x n
  refine a_aload_n rfl dX12_ask_0 ?_
  refine n_iconst 0 rfl dX12_ask_1 ?_
  refine a_puti dX12_ask_2 pX12_69 (by decide) rfl rfl ?_
  have hMt : VM 0 (siM M 132 1 (nI 0)) (tS T) := VM_e hM (fun j _ => siN rfl (by omega)) hF
  have hRt : RM (siM M 132 1 (nI 0)) (tR T) := RM_fr hI.2.1 (P := fun k j => k = 132) (fr.r.si rfl) (fun k j a b => by omega)
  refine a_aload_n rfl dX12_ask_5 ?_
  refine a_aload_n rfl dX12_ask_6 ?_
  refine a_iload_n rfl dX12_ask_7 ?_
  refine a_iload_n rfl dX12_ask_8 ?_
  refine a_iload_n rfl dX12_ask_9 ?_
  refine n_callV (mi' := miX12_whyNoOut) dX12_ask_10 lX12_483 mX12_whyNoOut (by decide) rfl rfl rfl (c_X12_whyNoOut hMt hRt hG ?_ d) rfl rfl (by omega) (by decide) (Nat.le_of_ble_eq_true rfl)
  show AW _ _ _ _ _ _ _
  refine a_puti dX12_ask_13 pX12_72 (by decide) rfl rfl ?_
  refine a_aload_n rfl dX12_ask_16 ?_
  refine g_i siS (by decide) rfl fX12_72 rfl dX12_ask_17 ?_
  refine n_if_le 25 (by omega) dX12_ask_20 (by decide) (fun h_20 => ?_) (fun h_20 => ?_)
  · have h0_ := h_20
    rw [h_20]
    show AW _ _ _ _ _ _ (m0 M)
    obtain ⟨hx0, hp0, ht0⟩ := whyO_0 h_20
    obtain ⟨hn0, hl0, hd0⟩ := twosN_0 ht0
    have hl60 := lenI_le hG.2.1 (t := idx x) (by unfold idx; omega)
    obtain ⟨t, ht, rfl⟩ := inR_of (x := x) (m := 4) (by omega) (by omega) (by omega)
    have t_t : (nI t).toInt = (t : Int) := nI_toInt (by omega)
    have i_t : idx (nI t) = t := idx_nI (by omega)
    obtain ⟨s, hs, rfl⟩ := inR_of (x := p) (m := tS T 0 4) (by omega) (by omega) (by omega)
    have t_s : (nI s).toInt = (s : Int) := nI_toInt (by omega)
    have i_s : idx (nI s) = s := idx_nI (by omega)
    obtain ⟨q, hq, rfl⟩ := inR_of (x := n) (m := 21) (by omega) (by omega) (by omega)
    have t_q : (nI q).toInt = (q : Int) := nI_toInt (by omega)
    have i_q : idx (nI q) = q := idx_nI (by omega)
    rw [i_t] at hl0 hl60 hd0
    rw [i_q] at hd0
    have hD : ∀ i, i < 2 * q → (m0 M).2 135 (60 * t + i) = (tR T).2.2 t i := fun i hi => RM_dat hI.2.1 (by omega) (by omega)
    have hT := TWO_of hd0
    refine a_aload_n rfl dX12_ask_25 ?_
    refine a_iload_n rfl dX12_ask_26 ?_
    refine a_iload_n rfl dX12_ask_27 ?_
    refine a_iload_n rfl dX12_ask_28 ?_
    refine n_callV (mi' := miX12_outOf) dX12_ask_29 lX12_487 mX12_outOf (by decide) rfl rfl rfl (c_X12_outOf hM1 hF hd9 (p := s) (by omega) (t := t) (by omega) (D := (tR T).2.2 t) (by omega) hD hT (fun M_29 hcl_29 hf_29 => ?_) d) rfl rfl (by omega) (by decide) (Nat.le_of_ble_eq_true rfl)
    show AW _ _ _ _ _ _ _
    have hM_29 : VM 0 M_29 (tS T) := VM_frM hM1 hF hf_29 (fun j _ => by omega)
    have hol := outN_lt (tS T) s ((tR T).2.2 t) q
    have hop := pow_le hm
    refine a_istore (by decide) rfl dX12_ask_32 ?_
    refine a_iload rfl dX12_ask_34 ?_
    refine n_callS (mi' := miX12_sizeOf) dX12_ask_36 lX12_428 mX12_sizeOf (c_X12_sizeOf (by omega) ?_ d) rfl rfl (by omega) (by decide) (Nat.le_of_ble_eq_true rfl)
    show AW _ _ _ _ _ _ _
    have hsz := szN_le (outN (tS T) s ((tR T).2.2 t) q)
    refine n_iconst 2 rfl dX12_ask_39 ?_
    refine n_icmp_ge 50 (by omega) (by omega) dX12_ask_40 (by decide) (fun h_40 => ?_) (fun h_40 => ?_)
    · refine n_iconst 0 rfl dX12_ask_50 ?_
      refine a_istore (by decide) rfl dX12_ask_51 ?_
      refine n_iconst 1 rfl dX12_ask_53 ?_
      refine a_istore (by decide) rfl dX12_ask_54 ?_
      have loop_56 : ∀ i, i ≤ 40 → AW miX12_ask (d + 6) (mxA Q) 56 [(0, some (.ref 132)), (1, some (.int (nI s))), (2, some (.int (nI t))), (3, some (.int (nI q))), (4, some (.int (nI (outN (tS T) s ((tR T).2.2 t) q)))), (5, some (.int (nI (agN (crdN (tS T) s (outN (tS T) s ((tR T).2.2 t) q)) i)))), (6, some (.int (nI (i + 1))))] [] M_29 := by
        refine up 40 ?_ (fun i hi_56 ih_56 => ?_)
        · refine a_iload rfl dX12_ask_56 ?_
          refine n_bipush 40 rfl dX12_ask_58 ?_
          refine n_icmp_gt 94 (by omega) (by omega) dX12_ask_60 (by decide) (fun h_60 => ?_) (fun h_60 => absurd h_60 (by omega))
          refine a_iload rfl dX12_ask_94 ?_
          refine a_iret dX12_ask_96 rfl ?_
          exact fin_qM hQ hI hG (by unfold sp_ask; rw [if_pos h0_, i_t, i_s, i_q, if_neg (by omega)]; rfl) (hf_29.f.i m0_s (by omega)) (m0_fr.t (hf_29.f.mo (fun k j h => by unfold scM coM; omega)))
        · have hag := agN_le (crdN (tS T) s (outN (tS T) s ((tR T).2.2 t) q)) i
          have hc1 := crd_le hF s (outN (tS T) s ((tR T).2.2 t) q) (i + 1)
          have hc2 := crd_le hF s (outN (tS T) s ((tR T).2.2 t) q) (agN (crdN (tS T) s (outN (tS T) s ((tR T).2.2 t) q)) i)
          refine a_iload rfl dX12_ask_56 ?_
          refine n_bipush 40 rfl dX12_ask_58 ?_
          refine n_icmp_gt 94 (by omega) (by omega) dX12_ask_60 (by decide) (fun h_60 => absurd h_60 (by omega)) (fun h_60 => ?_)
          refine a_aload_n rfl dX12_ask_63 ?_
          refine a_iload_n rfl dX12_ask_64 ?_
          refine a_iload rfl dX12_ask_65 ?_
          refine a_iload rfl dX12_ask_67 ?_
          refine n_callV (mi' := miX12_mostAlike) dX12_ask_69 lX12_490 mX12_mostAlike (by decide) rfl rfl rfl (c_X12_mostAlike hM_29 hF (by omega) (by omega) (by omega) hcl_29 ?_ d) rfl rfl (by omega) (by decide) (Nat.le_of_ble_eq_true rfl)
          show AW _ _ _ _ _ _ _
          refine a_aload_n rfl dX12_ask_72 ?_
          refine a_iload_n rfl dX12_ask_73 ?_
          refine a_iload rfl dX12_ask_74 ?_
          refine a_iload rfl dX12_ask_76 ?_
          refine n_callV (mi' := miX12_mostAlike) dX12_ask_78 lX12_490 mX12_mostAlike (by decide) rfl rfl rfl (c_X12_mostAlike hM_29 hF (by omega) (by omega) (by omega) hcl_29 ?_ d) rfl rfl (by omega) (by decide) (Nat.le_of_ble_eq_true rfl)
          show AW _ _ _ _ _ _ _
          refine n_icmp_ge 88 (by omega) (by omega) dX12_ask_81 (by decide) (fun h_81 => ?_) (fun h_81 => ?_)
          · refine n_iinc (c := 1) rfl rfl (by decide) rfl dX12_ask_88 ?_
            refine a_goto 56 dX12_ask_91 (by decide) ?_
            rw [show agN (crdN (tS T) s (outN (tS T) s ((tR T).2.2 t) q)) (i + 1) = agN (crdN (tS T) s (outN (tS T) s ((tR T).2.2 t) q)) i by rw [agN, if_neg (by omega)]] at ih_56
            exact a_bk ih_56 ⟨rfl, rfl, rfl, rfl, rfl, rfl, rfl, trivial⟩
          · refine a_iload rfl dX12_ask_84 ?_
            refine a_istore (by decide) rfl dX12_ask_86 ?_
            refine n_iinc (c := 1) rfl rfl (by decide) rfl dX12_ask_88 ?_
            refine a_goto 56 dX12_ask_91 (by decide) ?_
            rw [show agN (crdN (tS T) s (outN (tS T) s ((tR T).2.2 t) q)) (i + 1) = i + 1 by rw [agN, if_pos (by omega)]] at ih_56
            exact a_bk ih_56 ⟨rfl, rfl, rfl, rfl, rfl, rfl, rfl, trivial⟩
      exact a_bk (loop_56 0 (by omega)) ⟨rfl, rfl, rfl, rfl, rfl, rfl, rfl, trivial⟩
    · refine a_aload_n rfl dX12_ask_43 ?_
      refine n_bipush 8 rfl dX12_ask_44 ?_
      refine n_callV (mi' := miX12_refuse) dX12_ask_46 lX12_345 mX12_refuse (by decide) rfl rfl rfl (c_X12_refuse ?_ d) rfl rfl (by omega) (by decide) (Nat.le_of_ble_eq_true rfl)
      show AW _ _ _ _ _ _ _
      refine a_iret dX12_ask_49 rfl ?_
      exact fin_qM hQ hI hG (by unfold sp_ask; rw [if_pos h0_, i_t, i_s, i_q, if_pos (by omega)]) siS ((m0_fr.t (hf_29.f.mo (fun k j h => by unfold scM coM; omega))).si (by unfold scM coM; omega))
  · refine a_iconst (-1) rfl dX12_ask_23 ?_
    refine a_iret dX12_ask_24 rfl ?_
    exact fin_qM hQ hI hG (by unfold sp_ask; rw [if_neg h_20]) siS ((fr.r.si (by unfold scM coM; omega)).si (by unfold scM coM; omega))

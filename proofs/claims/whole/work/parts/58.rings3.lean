/-- the model's best as it looks through the walks from k -/
def mbO (S : ST) (but k n : Nat) : Option Nat := minO (rgO S but k) (upO (rfN S but k n))
theorem rf_f {S : ST} {but k n : Nat} (h : (rcN S but k (n + 1)).testBit k = false) : rfN S but k (n + 1) = rfN S but k n := by
  unfold rfN
  cases e : fiN (fun n => (rcN S but k (n + 1)).testBit k) n with
  | none => exact fiN_s1 e h
  | some v => exact fiN_ss e (by omega)
theorem mb_f {S : ST} {but k n : Nat} (h : (rcN S but k (n + 1)).testBit k = false) : mbO S but k (n + 1) = mbO S but k n := by
  unfold mbO; rw [rf_f h]
theorem mb_0 {S : ST} {but k n : Nat} (e : mbO S but k n = none) (h : (rcN S but k (n + 1)).testBit k = true) : mbO S but k (n + 1) = some (n + 1) := by
  unfold mbO at *
  rw [minO_none] at e
  have e2 : rfN S but k n = none := by
    cases q : rfN S but k n with
    | none => rfl
    | some v => rw [q] at e; exact absurd e.2 (by simp [upO])
  rw [e.1, show rfN S but k (n + 1) = some n from fiN_s0 e2 h]; rfl
theorem mb_1 {S : ST} {but k n c : Nat} (e : mbO S but k n = some c) (h : (rcN S but k (n + 1)).testBit k = true) (hc : n + 1 < c) : mbO S but k (n + 1) = some (n + 1) := by
  unfold mbO at *
  cases q : rfN S but k n with
  | none =>
    rw [q] at e
    have e : rgO S but k = some c := e
    rw [e, show rfN S but k (n + 1) = some n from fiN_s0 q h]
    show (if n + 1 < c then some (n + 1) else some c) = _
    rw [if_pos hc]
  | some v =>
    have hv := fiN_lt q
    rw [q] at e
    exfalso
    cases e1 : rgO S but k with
    | none => rw [e1] at e; have e : some (v + 1) = some c := e; cases e; omega
    | some b =>
      rw [e1] at e
      have e : (if v + 1 < b then some (v + 1) else some b) = some c := e
      split at e <;> cases e <;> omega
theorem mb_2 {S : ST} {but k n c : Nat} (e : mbO S but k n = some c) (h : (rcN S but k (n + 1)).testBit k = true) (hc : ¬ n + 1 < c) : mbO S but k (n + 1) = some c := by
  unfold mbO at *
  cases q : rfN S but k n with
  | none =>
    rw [q] at e
    have e : rgO S but k = some c := e
    rw [e, show rfN S but k (n + 1) = some n from fiN_s0 q h]
    show (if n + 1 < c then some (n + 1) else some c) = _
    rw [if_neg hc]
  | some v =>
    rw [show rfN S but k (n + 1) = some v from fiN_ss q (by omega)]
    rw [q] at e; exact e
theorem mb_le {S : ST} (hF : WF S) {but k n c : Nat} (hn : n ≤ S 0 2) (e : mbO S but k n = some c) : c ≤ 6 := by
  have hm := WF_m hF
  unfold mbO at e
  cases q : rfN S but k n with
  | none => rw [q] at e; exact rg_le hF (show rgO S but k = some c from e)
  | some v =>
    have hv := fiN_lt q
    rw [q] at e
    cases e1 : rgO S but k with
    | none => rw [e1] at e; have e : some (v + 1) = some c := e; cases e; omega
    | some b =>
      have := rg_le hF e1
      rw [e1] at e
      have e : (if v + 1 < b then some (v + 1) else some b) = some c := e
      split at e <;> cases e <;> omega
def nxP (S : ST) (but set i : Nat) : Nat := orN (fun i => !but.testBit i && set.testBit (S 3 i)) (S 4) i
theorem nxP_lt {S : ST} (hF : WF S) (but set : Nat) {i : Nat} (hi : i ≤ S 0 3) : nxP S but set i < 2 ^ S 0 2 := orN_lt (fun j hj => WF_by hF j (by omega))

set_option maxRecDepth 100000 in
set_option maxHeartbeats 800000 in
theorem c_X12_ringBut {M : Mm} {S : ST} (hM : VM 0 M S) (hF : WF S) {but : Nat} (hbut : but < 1024) {Q : Option Value → Mm → Prop} (h1 : ∀ v, v ≤ 6 → rgN S but = some v → Q (some (.int (nI v))) M) (h0 : rgN S but = none → Q (some (.int (-1))) M) (d : Nat) : AMt miX12_ringBut (d + 1) [.ref 132, .int (nI but)] M Q := by
  refine AMt.of (by decide) (Nat.le_of_ble_eq_true rfl) ?_
  show AW miX12_ringBut (d + 1) (mxA Q) 0 [(0, some (.ref 132)), (1, some (.int (nI but)))] [] M
  have hm := WF_m hF
  have hh := WF_h hF
  have hs := WF_s hF
  have hn := WF_n hF
  have hk3 := pow_le hm
  have hk0 := Nat.two_pow_pos (S 0 2)
  refine a_iconst (-1) rfl dX12_ringBut_0 ?_
  refine a_istore_n (by decide) rfl dX12_ringBut_1 ?_
  refine n_iconst 0 rfl dX12_ringBut_2 ?_
  refine a_istore_n (by decide) rfl dX12_ringBut_3 ?_
  have loop_4 : ∀ k, k ≤ S 0 2 → AW miX12_ringBut (d + 1) (mxA Q) 4 [(0, some (.ref 132)), (1, some (.int (nI but))), (2, some (.int ((optI (rgO S but k))))), (3, some (.int (nI k)))] [] M := by
    refine up (S 0 2) ?_ (fun k hi_4 ih_4 => ?_)
    · refine a_iload_n rfl dX12_ringBut_4 ?_
      refine a_aload_n rfl dX12_ringBut_5 ?_
      refine a_geta dX12_ringBut_6 fX12_35 (by decide) rfl rfl ?_
      refine n_iconst 0 rfl dX12_ringBut_9 ?_
      refine v_iald (by omega) (VM_s0 hM) (by decide) rfl (by decide) dX12_ringBut_10 ?_
      refine n_icmp_ge 142 (by omega) (by omega) dX12_ringBut_11 (by decide) (fun h_11 => ?_) (fun h_11 => absurd h_11 (by omega))
      cases ho : rgO S but (S 0 2) with
      | none =>
        show AW _ _ _ _ [(0, some (.ref 132)), (1, some (.int (nI but))), (2, some (.int (-1))), (3, some (.int (nI (S 0 2))))] [] _
        refine a_iload_n rfl dX12_ringBut_142 ?_
        refine a_iret dX12_ringBut_143 rfl ?_
        exact h0 ho
      | some b =>
        show AW _ _ _ _ [(0, some (.ref 132)), (1, some (.int (nI but))), (2, some (.int (nI b))), (3, some (.int (nI (S 0 2))))] [] _
        refine a_iload_n rfl dX12_ringBut_142 ?_
        refine a_iret dX12_ringBut_143 rfl ?_
        exact h1 b (rg_le hF ho) ho
    · refine a_iload_n rfl dX12_ringBut_4 ?_
      refine a_aload_n rfl dX12_ringBut_5 ?_
      refine a_geta dX12_ringBut_6 fX12_35 (by decide) rfl rfl ?_
      refine n_iconst 0 rfl dX12_ringBut_9 ?_
      refine v_iald (by omega) (VM_s0 hM) (by decide) rfl (by decide) dX12_ringBut_10 ?_
      refine n_icmp_ge 142 (by omega) (by omega) dX12_ringBut_11 (by decide) (fun h_11 => absurd h_11 (by omega)) (fun h_11 => ?_)
      refine n_iconst 1 rfl dX12_ringBut_14 ?_
      refine a_iload_n rfl dX12_ringBut_15 ?_
      refine n_bit (by omega) dX12_ringBut_16 ?_
      refine a_istore (by decide) rfl dX12_ringBut_17 ?_
      refine n_iconst 1 rfl dX12_ringBut_19 ?_
      refine a_istore (by decide) rfl dX12_ringBut_20 ?_
      have loop_22 : ∀ n, n ≤ S 0 2 → AW miX12_ringBut (d + 1) (mxA Q) 22 [(0, some (.ref 132)), (1, some (.int (nI but))), (2, some (.int ((optI (mbO S but k n))))), (3, some (.int (nI k))), (4, some (.int (nI (rcN S but k n)))), (5, some (.int (nI (n + 1))))] [] M := by
        refine up (S 0 2) ?_ (fun n hi_22 ih_22 => ?_)
        · refine a_iload rfl dX12_ringBut_22 ?_
          refine a_aload_n rfl dX12_ringBut_24 ?_
          refine a_geta dX12_ringBut_25 fX12_35 (by decide) rfl rfl ?_
          refine n_iconst 0 rfl dX12_ringBut_28 ?_
          refine v_iald (by omega) (VM_s0 hM) (by decide) rfl (by decide) dX12_ringBut_29 ?_
          refine n_icmp_gt 136 (by omega) (by omega) dX12_ringBut_30 (by decide) (fun h_30 => ?_) (fun h_30 => absurd h_30 (by omega))
          refine n_iinc (c := 1) rfl rfl (by decide) rfl dX12_ringBut_136 ?_
          refine a_goto 4 dX12_ringBut_139 (by decide) ?_
          exact a_bk ih_4 ⟨rfl, rfl, rfl, rfl, trivial⟩
        · have hrc := rc_lt hF (but := but) hi_4 n
          have hrd : rcN S but k (n + 1) < 2 ^ S 0 2 := rc_lt hF (but := but) hi_4 (n + 1)
          have hre : nxP S but (rcN S but k n) (S 0 3) = rcN S but k (n + 1) := rfl
          refine a_iload rfl dX12_ringBut_22 ?_
          refine a_aload_n rfl dX12_ringBut_24 ?_
          refine a_geta dX12_ringBut_25 fX12_35 (by decide) rfl rfl ?_
          refine n_iconst 0 rfl dX12_ringBut_28 ?_
          refine v_iald (by omega) (VM_s0 hM) (by decide) rfl (by decide) dX12_ringBut_29 ?_
          refine n_icmp_gt 136 (by omega) (by omega) dX12_ringBut_30 (by decide) (fun h_30 => absurd h_30 (by omega)) (fun h_30 => ?_)
          refine n_iconst 0 rfl dX12_ringBut_33 ?_
          refine a_istore (by decide) rfl dX12_ringBut_34 ?_
          refine n_iconst 0 rfl dX12_ringBut_36 ?_
          refine a_istore (by decide) rfl dX12_ringBut_37 ?_
          have loop_39 : ∀ i, i ≤ S 0 3 → AW miX12_ringBut (d + 1) (mxA Q) 39 [(0, some (.ref 132)), (1, some (.int (nI but))), (2, some (.int ((optI (mbO S but k n))))), (3, some (.int (nI k))), (4, some (.int (nI (rcN S but k n)))), (5, some (.int (nI (n + 1)))), (6, some (.int (nI (nxP S but (rcN S but k n) i)))), (7, some (.int (nI i)))] [] M := by
            refine up (S 0 3) ?_ (fun i hi_39 ih_39 => ?_)
            · refine a_iload rfl dX12_ringBut_39 ?_
              refine a_aload_n rfl dX12_ringBut_41 ?_
              refine a_geta dX12_ringBut_42 fX12_35 (by decide) rfl rfl ?_
              refine n_iconst 1 rfl dX12_ringBut_45 ?_
              refine v_iald (by omega) (VM_s1 hM) (by decide) rfl (by decide) dX12_ringBut_46 ?_
              refine n_icmp_ge 104 (by omega) (by omega) dX12_ringBut_47 (by decide) (fun h_47 => ?_) (fun h_47 => absurd h_47 (by omega))
              cases ho : mbO S but k n with
              | none =>
                show AW _ _ _ _ [(0, some (.ref 132)), (1, some (.int (nI but))), (2, some (.int (-1))), (3, some (.int (nI k))), (4, some (.int (nI (rcN S but k n)))), (5, some (.int (nI (n + 1)))), (6, some (.int (nI (nxP S but (rcN S but k n) (S 0 3))))), (7, some (.int (nI (S 0 3))))] [] _
                refine a_iload rfl dX12_ringBut_104 ?_
                refine a_iload_n rfl dX12_ringBut_106 ?_
                refine n_callS (mi' := miX12_has) dX12_ringBut_107 lX12_108 mX12_has (c_X12_has (by omega) (by omega) (fun h_106 => ?_) (fun h_106 => ?_) d) rfl rfl (by omega) (by decide) (Nat.le_of_ble_eq_true rfl)
                · show AW _ _ _ _ _ _ _
                  refine n_if_eq 126 (by decide) dX12_ringBut_110 (by decide) (fun h => absurd h (by decide)) (fun _ => ?_)
                  refine a_iload_n rfl dX12_ringBut_113 ?_
                  refine r_if_lt 123 dX12_ringBut_114 (by decide) (fun h_114 => ?_) (fun h_114 => absurd (by decide) h_114)
                  refine a_iload rfl dX12_ringBut_123 ?_
                  refine a_istore_n (by decide) rfl dX12_ringBut_125 ?_
                  refine a_iload rfl dX12_ringBut_126 ?_
                  refine a_istore (by decide) rfl dX12_ringBut_128 ?_
                  refine n_iinc (c := 1) rfl rfl (by decide) rfl dX12_ringBut_130 ?_
                  refine a_goto 22 dX12_ringBut_133 (by decide) ?_
                  rw [mb_0 ho h_106] at ih_22
                  exact a_bk ih_22 ⟨rfl, rfl, rfl, rfl, rfl, rfl, trivial⟩
                · show AW _ _ _ _ _ _ _
                  refine n_if_eq 126 (by decide) dX12_ringBut_110 (by decide) (fun _ => ?_) (fun h => absurd h (by decide))
                  refine a_iload rfl dX12_ringBut_126 ?_
                  refine a_istore (by decide) rfl dX12_ringBut_128 ?_
                  refine n_iinc (c := 1) rfl rfl (by decide) rfl dX12_ringBut_130 ?_
                  refine a_goto 22 dX12_ringBut_133 (by decide) ?_
                  rw [mb_f h_106, ho] at ih_22
                  exact a_bk ih_22 ⟨rfl, rfl, rfl, rfl, rfl, rfl, trivial⟩
              | some b =>
                show AW _ _ _ _ [(0, some (.ref 132)), (1, some (.int (nI but))), (2, some (.int (nI b))), (3, some (.int (nI k))), (4, some (.int (nI (rcN S but k n)))), (5, some (.int (nI (n + 1)))), (6, some (.int (nI (nxP S but (rcN S but k n) (S 0 3))))), (7, some (.int (nI (S 0 3))))] [] _
                have hbl := mb_le hF (show n ≤ S 0 2 by omega) ho
                refine a_iload rfl dX12_ringBut_104 ?_
                refine a_iload_n rfl dX12_ringBut_106 ?_
                refine n_callS (mi' := miX12_has) dX12_ringBut_107 lX12_108 mX12_has (c_X12_has (by omega) (by omega) (fun h_106 => ?_) (fun h_106 => ?_) d) rfl rfl (by omega) (by decide) (Nat.le_of_ble_eq_true rfl)
                · show AW _ _ _ _ _ _ _
                  refine n_if_eq 126 (by decide) dX12_ringBut_110 (by decide) (fun h => absurd h (by decide)) (fun _ => ?_)
                  refine a_iload_n rfl dX12_ringBut_113 ?_
                  refine n_if_lt (tgt := 123) (by omega) dX12_ringBut_114 (by decide) ?_
                  refine a_iload rfl dX12_ringBut_117 ?_
                  refine a_iload_n rfl dX12_ringBut_119 ?_
                  refine n_icmp_ge 126 (by omega) (by omega) dX12_ringBut_120 (by decide) (fun h_120 => ?_) (fun h_120 => ?_)
                  · refine a_iload rfl dX12_ringBut_126 ?_
                    refine a_istore (by decide) rfl dX12_ringBut_128 ?_
                    refine n_iinc (c := 1) rfl rfl (by decide) rfl dX12_ringBut_130 ?_
                    refine a_goto 22 dX12_ringBut_133 (by decide) ?_
                    rw [mb_2 ho h_106 (by omega)] at ih_22
                    exact a_bk ih_22 ⟨rfl, rfl, rfl, rfl, rfl, rfl, trivial⟩
                  · refine a_iload rfl dX12_ringBut_123 ?_
                    refine a_istore_n (by decide) rfl dX12_ringBut_125 ?_
                    refine a_iload rfl dX12_ringBut_126 ?_
                    refine a_istore (by decide) rfl dX12_ringBut_128 ?_
                    refine n_iinc (c := 1) rfl rfl (by decide) rfl dX12_ringBut_130 ?_
                    refine a_goto 22 dX12_ringBut_133 (by decide) ?_
                    rw [mb_1 ho h_106 (by omega)] at ih_22
                    exact a_bk ih_22 ⟨rfl, rfl, rfl, rfl, rfl, rfl, trivial⟩
                · show AW _ _ _ _ _ _ _
                  refine n_if_eq 126 (by decide) dX12_ringBut_110 (by decide) (fun _ => ?_) (fun h => absurd h (by decide))
                  refine a_iload rfl dX12_ringBut_126 ?_
                  refine a_istore (by decide) rfl dX12_ringBut_128 ?_
                  refine n_iinc (c := 1) rfl rfl (by decide) rfl dX12_ringBut_130 ?_
                  refine a_goto 22 dX12_ringBut_133 (by decide) ?_
                  rw [mb_f h_106, ho] at ih_22
                  exact a_bk ih_22 ⟨rfl, rfl, rfl, rfl, rfl, rfl, trivial⟩
            · have hhe := WF_held hF i hi_39
              have hby := WF_by hF i hi_39
              refine a_iload rfl dX12_ringBut_39 ?_
              refine a_aload_n rfl dX12_ringBut_41 ?_
              refine a_geta dX12_ringBut_42 fX12_35 (by decide) rfl rfl ?_
              refine n_iconst 1 rfl dX12_ringBut_45 ?_
              refine v_iald (by omega) (VM_s1 hM) (by decide) rfl (by decide) dX12_ringBut_46 ?_
              refine n_icmp_ge 104 (by omega) (by omega) dX12_ringBut_47 (by decide) (fun h_47 => absurd h_47 (by omega)) (fun h_47 => ?_)
              refine a_iload rfl dX12_ringBut_50 ?_
              refine a_iload_n rfl dX12_ringBut_52 ?_
              refine a_iload rfl dX12_ringBut_53 ?_
              refine n_callS (mi' := miX12_has) dX12_ringBut_55 lX12_108 mX12_has (c_X12_has (by omega) (by omega) (fun h_55 => ?_) (fun h_55 => ?_) d) rfl rfl (by omega) (by decide) (Nat.le_of_ble_eq_true rfl)
              · show AW _ _ _ _ _ _ _
                refine n_if_ne 94 (by decide) dX12_ringBut_58 (by decide) (fun _ => ?_) (fun h => absurd h (by decide))
                refine n_iconst 0 rfl dX12_ringBut_94 ?_
                refine n_ior dX12_ringBut_95 ?_
                refine a_istore (by decide) rfl dX12_ringBut_96 ?_
                refine n_iinc (c := 1) rfl rfl (by decide) rfl dX12_ringBut_98 ?_
                refine a_goto 39 dX12_ringBut_101 (by decide) ?_
                rw [show nxP S but (rcN S but k n) (i + 1) = (nxP S but (rcN S but k n) i) ||| 0 by simp [nxP, orN, h_55]] at ih_39
                exact a_bk ih_39 ⟨rfl, rfl, rfl, rfl, rfl, rfl, rfl, rfl, trivial⟩
              · show AW _ _ _ _ _ _ _
                refine n_if_ne 94 (by decide) dX12_ringBut_58 (by decide) (fun h => absurd h (by decide)) (fun _ => ?_)
                refine a_iload rfl dX12_ringBut_61 ?_
                refine a_aload_n rfl dX12_ringBut_63 ?_
                refine a_geta dX12_ringBut_64 fX12_35 (by decide) rfl rfl ?_
                refine n_bipush 18 rfl dX12_ringBut_67 ?_
                refine a_iload rfl dX12_ringBut_69 ?_
                refine n_iadd dX12_ringBut_71 ?_
                refine v_iald (by omega) (VM_a18 hM (j := i) (by omega)) (by decide) rfl (by decide) dX12_ringBut_72 ?_
                refine n_callS (mi' := miX12_has) dX12_ringBut_73 lX12_108 mX12_has (c_X12_has (by omega) (by omega) (fun h_73 => ?_) (fun h_73 => ?_) d) rfl rfl (by omega) (by decide) (Nat.le_of_ble_eq_true rfl)
                · show AW _ _ _ _ _ _ _
                  refine n_if_eq 94 (by decide) dX12_ringBut_76 (by decide) (fun h => absurd h (by decide)) (fun _ => ?_)
                  refine n_iconst 1 rfl dX12_ringBut_79 ?_
                  refine a_aload_n rfl dX12_ringBut_80 ?_
                  refine a_geta dX12_ringBut_81 fX12_35 (by decide) rfl rfl ?_
                  refine n_bipush 28 rfl dX12_ringBut_84 ?_
                  refine a_iload rfl dX12_ringBut_86 ?_
                  refine n_iadd dX12_ringBut_88 ?_
                  refine v_iald (by omega) (VM_a28 hM (j := i) (by omega)) (by decide) rfl (by decide) dX12_ringBut_89 ?_
                  refine n_bit (by omega) dX12_ringBut_90 ?_
                  refine a_goto 95 dX12_ringBut_91 (by decide) ?_
                  refine n_ior dX12_ringBut_95 ?_
                  refine a_istore (by decide) rfl dX12_ringBut_96 ?_
                  refine n_iinc (c := 1) rfl rfl (by decide) rfl dX12_ringBut_98 ?_
                  refine a_goto 39 dX12_ringBut_101 (by decide) ?_
                  rw [show nxP S but (rcN S but k n) (i + 1) = (nxP S but (rcN S but k n) i) ||| (2 ^ (S 4 i)) by simp [nxP, orN, h_55, h_73]] at ih_39
                  exact a_bk ih_39 ⟨rfl, rfl, rfl, rfl, rfl, rfl, rfl, rfl, trivial⟩
                · show AW _ _ _ _ _ _ _
                  refine n_if_eq 94 (by decide) dX12_ringBut_76 (by decide) (fun _ => ?_) (fun h => absurd h (by decide))
                  refine n_iconst 0 rfl dX12_ringBut_94 ?_
                  refine n_ior dX12_ringBut_95 ?_
                  refine a_istore (by decide) rfl dX12_ringBut_96 ?_
                  refine n_iinc (c := 1) rfl rfl (by decide) rfl dX12_ringBut_98 ?_
                  refine a_goto 39 dX12_ringBut_101 (by decide) ?_
                  rw [show nxP S but (rcN S but k n) (i + 1) = (nxP S but (rcN S but k n) i) ||| 0 by simp [nxP, orN, h_55, h_73]] at ih_39
                  exact a_bk ih_39 ⟨rfl, rfl, rfl, rfl, rfl, rfl, rfl, rfl, trivial⟩
          exact a_bk (loop_39 0 (by omega)) ⟨rfl, rfl, rfl, rfl, rfl, rfl, rfl, rfl, trivial⟩
      exact a_bk (loop_22 0 (by omega)) ⟨rfl, rfl, rfl, rfl, rfl, rfl, trivial⟩
  exact a_bk (loop_4 0 (by omega)) ⟨rfl, rfl, rfl, rfl, trivial⟩

set_option maxRecDepth 100000 in
set_option maxHeartbeats 800000 in
theorem c_X12_loosening {M : Mm} {S : ST} (hM : VM 0 M S) (hF : WF S) {Q : Option Value → Mm → Prop} (hQ : Q (some (.int (nI (loN S)))) M) (d : Nat) : AMt miX12_loosening (d + 2) [.ref 132] M Q := by
  refine AMt.of (by decide) (Nat.le_of_ble_eq_true rfl) ?_
  show AW miX12_loosening (d + 2) (mxA Q) 0 [(0, some (.ref 132))] [] M
  have hm := WF_m hF
  have hh := WF_h hF
  have hs := WF_s hF
  have hn := WF_n hF
  have hk3 := pow_le hm
  have hk0 := Nat.two_pow_pos (S 0 2)
  have hh3 := pow_le hh
  have hh0 := Nat.two_pow_pos (S 0 3)
  refine a_iconst (-1) rfl dX12_loosening_0 ?_
  refine a_istore_n (by decide) rfl dX12_loosening_1 ?_
  refine n_iconst 0 rfl dX12_loosening_2 ?_
  refine a_istore_n (by decide) rfl dX12_loosening_3 ?_
  have loop_4 : ∀ i, i ≤ 2 ^ S 0 3 → AW miX12_loosening (d + 2) (mxA Q) 4 [(0, some (.ref 132)), (1, some (.int ((optI (lsN (frB S) i))))), (2, some (.int (nI i)))] [] M := by
    refine up (2 ^ S 0 3) ?_ (fun i hi_4 ih_4 => ?_)
    · refine a_iload_n rfl dX12_loosening_4 ?_
      refine n_iconst 1 rfl dX12_loosening_5 ?_
      refine a_aload_n rfl dX12_loosening_6 ?_
      refine a_geta dX12_loosening_7 fX12_35 (by decide) rfl rfl ?_
      refine n_iconst 1 rfl dX12_loosening_10 ?_
      refine v_iald (by omega) (VM_s1 hM) (by decide) rfl (by decide) dX12_loosening_11 ?_
      refine n_bit (by omega) dX12_loosening_12 ?_
      refine n_icmp_ge 47 (by omega) (by omega) dX12_loosening_13 (by decide) (fun h_13 => ?_) (fun h_13 => absurd h_13 (by omega))
      rw [lo_some hF]
      show AW _ _ _ _ [(0, some (.ref 132)), (1, some (.int (nI (loN S)))), (2, some (.int (nI (2 ^ S 0 3))))] [] _
      refine a_iload_n rfl dX12_loosening_47 ?_
      refine a_iret dX12_loosening_48 rfl ?_
      exact hQ
    · refine a_iload_n rfl dX12_loosening_4 ?_
      refine n_iconst 1 rfl dX12_loosening_5 ?_
      refine a_aload_n rfl dX12_loosening_6 ?_
      refine a_geta dX12_loosening_7 fX12_35 (by decide) rfl rfl ?_
      refine n_iconst 1 rfl dX12_loosening_10 ?_
      refine v_iald (by omega) (VM_s1 hM) (by decide) rfl (by decide) dX12_loosening_11 ?_
      refine n_bit (by omega) dX12_loosening_12 ?_
      refine n_icmp_ge 47 (by omega) (by omega) dX12_loosening_13 (by decide) (fun h_13 => absurd h_13 (by omega)) (fun h_13 => ?_)
      cases ho : lsN (frB S) i with
      | none =>
        show AW _ _ _ _ [(0, some (.ref 132)), (1, some (.int (-1))), (2, some (.int (nI i)))] [] _
        refine a_iload_n rfl dX12_loosening_16 ?_
        refine r_if_lt 31 dX12_loosening_17 (by decide) (fun h_17 => ?_) (fun h_17 => absurd (by decide) h_17)
        refine a_aload_n rfl dX12_loosening_31 ?_
        refine a_iload_n rfl dX12_loosening_32 ?_
        refine n_callV (mi' := miX12_ringBut) dX12_loosening_33 lX12_440 mX12_ringBut (by decide) rfl rfl rfl (c_X12_ringBut hM hF (by omega) (fun v_33 hv_33 he_33 => ?_) (fun he_33 => ?_) d) rfl rfl (by omega) (by decide) (Nat.le_of_ble_eq_true rfl)
        · show AW _ _ _ _ _ _ _
          refine n_if_ge 41 (by omega) dX12_loosening_36 (by decide) ?_
          refine n_iinc (c := 1) rfl rfl (by decide) rfl dX12_loosening_41 ?_
          refine a_goto 4 dX12_loosening_44 (by decide) ?_
          rw [ls_n0 ho (by unfold frB; rw [he_33]; rfl)] at ih_4
          exact a_bk ih_4 ⟨rfl, rfl, rfl, trivial⟩
        · show AW _ _ _ _ _ _ _
          refine r_if_ge 41 dX12_loosening_36 (by decide) (fun h_36 => absurd h_36 (by decide)) (fun h_36 => ?_)
          refine a_iload_n rfl dX12_loosening_39 ?_
          refine a_istore_n (by decide) rfl dX12_loosening_40 ?_
          refine n_iinc (c := 1) rfl rfl (by decide) rfl dX12_loosening_41 ?_
          refine a_goto 4 dX12_loosening_44 (by decide) ?_
          rw [ls_n1 ho (by unfold frB; rw [he_33]; rfl)] at ih_4
          exact a_bk ih_4 ⟨rfl, rfl, rfl, trivial⟩
      | some b =>
        show AW _ _ _ _ [(0, some (.ref 132)), (1, some (.int (nI b))), (2, some (.int (nI i)))] [] _
        have hbl := ls_lt ho
        refine a_iload_n rfl dX12_loosening_16 ?_
        refine n_if_lt (tgt := 31) (by omega) dX12_loosening_17 (by decide) ?_
        refine a_iload_n rfl dX12_loosening_20 ?_
        refine n_callS (mi' := miX12_sizeOf) dX12_loosening_21 lX12_428 mX12_sizeOf (c_X12_sizeOf (by omega) ?_ d) rfl rfl (by omega) (by decide) (Nat.le_of_ble_eq_true rfl)
        show AW _ _ _ _ _ _ _
        have hz1 := szN_le i
        refine a_iload_n rfl dX12_loosening_24 ?_
        refine n_callS (mi' := miX12_sizeOf) dX12_loosening_25 lX12_428 mX12_sizeOf (c_X12_sizeOf (by omega) ?_ d) rfl rfl (by omega) (by decide) (Nat.le_of_ble_eq_true rfl)
        show AW _ _ _ _ _ _ _
        have hz2 := szN_le b
        refine n_icmp_ge 41 (by omega) (by omega) dX12_loosening_28 (by decide) (fun h_28 => ?_) (fun h_28 => ?_)
        · refine n_iinc (c := 1) rfl rfl (by decide) rfl dX12_loosening_41 ?_
          refine a_goto 4 dX12_loosening_44 (by decide) ?_
          rw [ls_s0 ho (by omega)] at ih_4
          exact a_bk ih_4 ⟨rfl, rfl, rfl, trivial⟩
        · refine a_aload_n rfl dX12_loosening_31 ?_
          refine a_iload_n rfl dX12_loosening_32 ?_
          refine n_callV (mi' := miX12_ringBut) dX12_loosening_33 lX12_440 mX12_ringBut (by decide) rfl rfl rfl (c_X12_ringBut hM hF (by omega) (fun v_33 hv_33 he_33 => ?_) (fun he_33 => ?_) d) rfl rfl (by omega) (by decide) (Nat.le_of_ble_eq_true rfl)
          · show AW _ _ _ _ _ _ _
            refine n_if_ge 41 (by omega) dX12_loosening_36 (by decide) ?_
            refine n_iinc (c := 1) rfl rfl (by decide) rfl dX12_loosening_41 ?_
            refine a_goto 4 dX12_loosening_44 (by decide) ?_
            rw [ls_sf ho (by unfold frB; rw [he_33]; rfl)] at ih_4
            exact a_bk ih_4 ⟨rfl, rfl, rfl, trivial⟩
          · show AW _ _ _ _ _ _ _
            refine r_if_ge 41 dX12_loosening_36 (by decide) (fun h_36 => absurd h_36 (by decide)) (fun h_36 => ?_)
            refine a_iload_n rfl dX12_loosening_39 ?_
            refine a_istore_n (by decide) rfl dX12_loosening_40 ?_
            refine n_iinc (c := 1) rfl rfl (by decide) rfl dX12_loosening_41 ?_
            refine a_goto 4 dX12_loosening_44 (by decide) ?_
            rw [ls_s1 ho (by omega) (by unfold frB; rw [he_33]; rfl)] at ih_4
            exact a_bk ih_4 ⟨rfl, rfl, rfl, trivial⟩
  exact a_bk (loop_4 0 (by omega)) ⟨rfl, rfl, rfl, trivial⟩

set_option maxRecDepth 100000 in
set_option maxHeartbeats 800000 in
theorem c_X12_ring {M : Mm} {T : TT} (hI : IM M T) (hG : TG T)  {Q : Option Value → Mm → Prop} (hQ : ∀ M', IM M' (sp_ring T).2 → keX M M' → Q (some (.int (sp_ring T).1)) M') (d : Nat) : AMt miX12_ring (d + 4) [.ref 132] M Q := by
  refine AMt.of (by decide) (Nat.le_of_ble_eq_true rfl) ?_
  show AW miX12_ring (d + 4) (mxA Q) 0 [(0, some (.ref 132))] [] M
  have hF : WF (tS T) := hG.1.1
  have hM : VM 0 M (tS T) := hI.1.1
  have hM1 := m0_VM hM hF
  have hm : tS T 0 2 ≤ 6 := WF_m hF
  have hh : tS T 0 3 ≤ 10 := WF_h hF
  have hs : tS T 0 4 ≤ 7 := WF_s hF
  have hn : tS T 0 5 ≤ 8 := WF_n hF
  have hd9 : tS T 0 1 ≤ 9999 := hG.1.2.2.2.2.1
  refine a_aload_n rfl dX12_ring_0 ?_
  refine n_iconst 0 rfl dX12_ring_1 ?_
  refine a_puti dX12_ring_2 pX12_69 (by decide) rfl rfl ?_
  refine a_aload_n rfl dX12_ring_5 ?_
  refine n_iconst 0 rfl dX12_ring_6 ?_
  refine a_puti dX12_ring_7 pX12_72 (by decide) rfl rfl ?_
  show AW miX12_ring (d + 4) (mxA Q) 10 [(0, some (.ref 132))] [] (m0 M)
  refine a_aload_n rfl dX12_ring_10 ?_
  refine a_aload_n rfl dX12_ring_11 ?_
  refine n_iconst 0 rfl dX12_ring_12 ?_
  refine n_callV (mi' := miX12_ringBut) dX12_ring_13 lX12_440 mX12_ringBut (by decide) rfl rfl rfl (c_X12_ringBut hM1 hF (by omega) (fun v_13 hv_13 he_13 => ?_) (fun he_13 => ?_) d) rfl rfl (by omega) (by decide) (Nat.le_of_ble_eq_true rfl)
  · show AW _ _ _ _ _ _ _
    refine n_callV (mi' := miX12_answer) dX12_ring_16 lX12_368 mX12_answer (by decide) rfl rfl rfl (c_X12_answer (fun _ => ?_) (fun e => absurd (by rw [nI_toInt (by omega)]; omega) e)  d) rfl rfl (by omega) (by decide) (Nat.le_of_ble_eq_true rfl)
    show AW _ _ _ _ _ _ _
    refine a_iret dX12_ring_19 rfl ?_
    exact fin_qM hQ hI hG (by unfold sp_ring; rw [he_13]) m0_s m0_fr
  · show AW _ _ _ _ _ _ _
    refine n_callV (mi' := miX12_answer) dX12_ring_16 lX12_368 mX12_answer (by decide) rfl rfl rfl (c_X12_answer (fun e => absurd e (by decide)) (fun _ => ?_)  d) rfl rfl (by omega) (by decide) (Nat.le_of_ble_eq_true rfl)
    show AW _ _ _ _ _ _ _
    refine a_iret dX12_ring_19 rfl ?_
    exact fin_qM hQ hI hG (by unfold sp_ring; rw [he_13]) siS (m0_fr.si (by unfold scM coM; omega))

set_option maxRecDepth 100000 in
set_option maxHeartbeats 800000 in
theorem c_X12_loosen {M : Mm} {T : TT} (hI : IM M T) (hG : TG T)  {Q : Option Value → Mm → Prop} (hQ : ∀ M', IM M' (sp_loosen T).2 → keX M M' → Q (some (.int (sp_loosen T).1)) M') (d : Nat) : AMt miX12_loosen (d + 5) [.ref 132] M Q := by
  refine AMt.of (by decide) (Nat.le_of_ble_eq_true rfl) ?_
  show AW miX12_loosen (d + 5) (mxA Q) 0 [(0, some (.ref 132))] [] M
  have hF : WF (tS T) := hG.1.1
  have hM : VM 0 M (tS T) := hI.1.1
  have hM1 := m0_VM hM hF
  have hm : tS T 0 2 ≤ 6 := WF_m hF
  have hh : tS T 0 3 ≤ 10 := WF_h hF
  have hs : tS T 0 4 ≤ 7 := WF_s hF
  have hn : tS T 0 5 ≤ 8 := WF_n hF
  have hd9 : tS T 0 1 ≤ 9999 := hG.1.2.2.2.2.1
  have hlo : loN (tS T) < 2 ^ tS T 0 3 := lc_lt (S := tS T) (Nat.le_refl _)
  have hl3 := pow_le hh
  refine a_aload_n rfl dX12_loosen_0 ?_
  refine n_iconst 0 rfl dX12_loosen_1 ?_
  refine a_puti dX12_loosen_2 pX12_69 (by decide) rfl rfl ?_
  refine a_aload_n rfl dX12_loosen_5 ?_
  refine n_iconst 0 rfl dX12_loosen_6 ?_
  refine a_puti dX12_loosen_7 pX12_72 (by decide) rfl rfl ?_
  show AW miX12_loosen (d + 5) (mxA Q) 10 [(0, some (.ref 132))] [] (m0 M)
  refine a_aload_n rfl dX12_loosen_10 ?_
  refine n_callV (mi' := miX12_loosening) dX12_loosen_11 lX12_443 mX12_loosening (by decide) rfl rfl rfl (c_X12_loosening hM1 hF ?_ d) rfl rfl (by omega) (by decide) (Nat.le_of_ble_eq_true rfl)
  show AW _ _ _ _ _ _ _
  refine n_callS (mi' := miX12_sizeOf) dX12_loosen_14 lX12_428 mX12_sizeOf (c_X12_sizeOf (by omega) ?_ d) rfl rfl (by omega) (by decide) (Nat.le_of_ble_eq_true rfl)
  show AW _ _ _ _ _ _ _
  refine a_iret dX12_loosen_17 rfl ?_
  exact fin_qM hQ hI hG (by rfl) m0_s m0_fr

set_option maxRecDepth 100000 in
set_option maxHeartbeats 800000 in
theorem c_X12_loosenSet {M : Mm} {T : TT} (hI : IM M T) (hG : TG T)  {Q : Option Value → Mm → Prop} (hQ : ∀ M', IM M' (sp_loosenSet T).2 → keX M M' → Q (some (.int (sp_loosenSet T).1)) M') (d : Nat) : AMt miX12_loosenSet (d + 5) [.ref 132] M Q := by
  refine AMt.of (by decide) (Nat.le_of_ble_eq_true rfl) ?_
  show AW miX12_loosenSet (d + 5) (mxA Q) 0 [(0, some (.ref 132))] [] M
  have hF : WF (tS T) := hG.1.1
  have hM : VM 0 M (tS T) := hI.1.1
  have hM1 := m0_VM hM hF
  have hm : tS T 0 2 ≤ 6 := WF_m hF
  have hh : tS T 0 3 ≤ 10 := WF_h hF
  have hs : tS T 0 4 ≤ 7 := WF_s hF
  have hn : tS T 0 5 ≤ 8 := WF_n hF
  have hd9 : tS T 0 1 ≤ 9999 := hG.1.2.2.2.2.1
  have hlo : loN (tS T) < 2 ^ tS T 0 3 := lc_lt (S := tS T) (Nat.le_refl _)
  have hl3 := pow_le hh
  refine a_aload_n rfl dX12_loosenSet_0 ?_
  refine n_iconst 0 rfl dX12_loosenSet_1 ?_
  refine a_puti dX12_loosenSet_2 pX12_69 (by decide) rfl rfl ?_
  refine a_aload_n rfl dX12_loosenSet_5 ?_
  refine n_iconst 0 rfl dX12_loosenSet_6 ?_
  refine a_puti dX12_loosenSet_7 pX12_72 (by decide) rfl rfl ?_
  show AW miX12_loosenSet (d + 5) (mxA Q) 10 [(0, some (.ref 132))] [] (m0 M)
  refine a_aload_n rfl dX12_loosenSet_10 ?_
  refine n_callV (mi' := miX12_loosening) dX12_loosenSet_11 lX12_443 mX12_loosening (by decide) rfl rfl rfl (c_X12_loosening hM1 hF ?_ d) rfl rfl (by omega) (by decide) (Nat.le_of_ble_eq_true rfl)
  show AW _ _ _ _ _ _ _
  refine a_iret dX12_loosenSet_14 rfl ?_
  exact fin_qM hQ hI hG (by rfl) m0_s m0_fr

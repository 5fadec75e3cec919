set_option maxRecDepth 100000 in
set_option maxHeartbeats 800000 in
theorem c_X12_isLaw {M : Mm} {a c : Nat} (ha : a ≤ 99) (hcc : c ≤ 20) {t : Nat} (ht : t < 4) {D : Nat → Int64} {n : Nat} (hn20 : n ≤ 20) (hD : ∀ i, i < 2 * n → M.2 135 (60 * t + i) = D i) (hT : TWO D n) {Q : Option Value → Mm → Prop} (h1 : lawB D n a c = true → Q (some (.int (nI 1))) M) (h0 : lawB D n a c = false → Q (some (.int (nI 0))) M) (d : Nat) : AMt miX12_isLaw (d + 1) [.ref 132, .int (nI t), .int (nI n), .int (nI a), .int (nI c)] M Q := by
  refine AMt.of (by decide) (Nat.le_of_ble_eq_true rfl) ?_
  show AW miX12_isLaw (d + 1) (mxA Q) 0 [(0, some (.ref 132)), (1, some (.int (nI t))), (2, some (.int (nI n))), (3, some (.int (nI a))), (4, some (.int (nI c)))] [] M
  refine n_iconst 0 rfl dX12_isLaw_0 ?_
  refine a_istore (by decide) rfl dX12_isLaw_1 ?_
  have loop_3 : ∀ i, i ≤ n → (alN (isLawB D a c) i = true) → AW miX12_isLaw (d + 1) (mxA Q) 3 [(0, some (.ref 132)), (1, some (.int (nI t))), (2, some (.int (nI n))), (3, some (.int (nI a))), (4, some (.int (nI c))), (5, some (.int (nI i)))] [] M := by
    refine up (W := fun i => (alN (isLawB D a c) i = true) → AW miX12_isLaw (d + 1) (mxA Q) 3 [(0, some (.ref 132)), (1, some (.int (nI t))), (2, some (.int (nI n))), (3, some (.int (nI a))), (4, some (.int (nI c))), (5, some (.int (nI i)))] [] M) n (fun hI_3 => ?_) (fun i hi_3 ih_3 hI_3 => ?_)
    · refine a_iload rfl dX12_isLaw_3 ?_
      refine a_iload_n rfl dX12_isLaw_5 ?_
      refine n_icmp_ge 55 (by omega) (by omega) dX12_isLaw_6 (by decide) (fun h_6 => ?_) (fun h_6 => absurd h_6 (by omega))
      refine n_iconst 1 rfl dX12_isLaw_55 ?_
      refine a_zret dX12_isLaw_56 rfl (Or.inr rfl) ?_
      exact h1 hI_3
    · have hd40 := TWO_d hT hi_3
      refine a_iload rfl dX12_isLaw_3 ?_
      refine a_iload_n rfl dX12_isLaw_5 ?_
      refine n_icmp_ge 55 (by omega) (by omega) dX12_isLaw_6 (by decide) (fun h_6 => absurd h_6 (by omega)) (fun h_6 => ?_)
      refine a_iload_n rfl dX12_isLaw_9 ?_
      refine n_bipush 100 rfl dX12_isLaw_10 ?_
      refine a_iload rfl dX12_isLaw_12 ?_
      refine a_aload_n rfl dX12_isLaw_14 ?_
      refine a_iload_n rfl dX12_isLaw_15 ?_
      refine n_iconst 2 rfl dX12_isLaw_16 ?_
      refine a_iload rfl dX12_isLaw_17 ?_
      refine n_imul dX12_isLaw_19 ?_
      refine n_callV (mi' := miX12_numberOf) dX12_isLaw_20 lX12_471 mX12_numberOf (by decide) rfl rfl rfl (c_X12_numberOf (by omega) ?_ d) rfl rfl (by omega) (by decide) (Nat.le_of_ble_eq_true rfl)
      show AW _ _ _ _ _ _ _
      refine a_l2i dX12_isLaw_23 ?_
      refine a_eqi (y := nI (dN D (2 * i))) (by rw [hD _ (by omega)]; exact l2i_n (hT i hi_3).1 (by have := (hT i hi_3).2.1; omega)) ?_
      refine n_imul dX12_isLaw_24 ?_
      have hmc : c * dN D (2 * i) ≤ 20 * 40 := Nat.mul_le_mul hcc hd40.1
      refine n_min (by omega) (by omega) dX12_isLaw_25 lX12_386 (Nat.le_of_ble_eq_true rfl) ?_
      refine n_callS (mi' := miX12_heightBy) dX12_isLaw_28 lX12_337 mX12_heightBy (c_X12_heightBy (by omega) (Nat.min_le_left _ _) ?_ d) rfl rfl (by omega) (by decide) (Nat.le_of_ble_eq_true rfl)
      show AW _ _ _ _ _ _ _
      have hh1 := hgt_le a (min 100 (c * dN D (2 * i)))
      refine a_i2l dX12_isLaw_31 ?_
      refine a_aload_n rfl dX12_isLaw_32 ?_
      refine a_iload_n rfl dX12_isLaw_33 ?_
      refine n_iconst 2 rfl dX12_isLaw_34 ?_
      refine a_iload rfl dX12_isLaw_35 ?_
      refine n_imul dX12_isLaw_37 ?_
      refine n_iconst 1 rfl dX12_isLaw_38 ?_
      refine n_iadd dX12_isLaw_39 ?_
      refine n_callV (mi' := miX12_numberOf) dX12_isLaw_40 lX12_471 mX12_numberOf (by decide) rfl rfl rfl (c_X12_numberOf (by omega) ?_ d) rfl rfl (by omega) (by decide) (Nat.le_of_ble_eq_true rfl)
      show AW _ _ _ _ _ _ _
      refine a_lcmp dX12_isLaw_43 ?_
      refine l_if_eq 49 dX12_isLaw_44 (by decide) (fun h_44 => ?_) (fun h_44 => ?_)
      · rw [hD (2 * i + 1) (by omega), i64_nI (by omega) _ (hT i hi_3).2.2.1] at h_44
        refine n_iinc (c := 1) rfl rfl (by decide) rfl dX12_isLaw_49 ?_
        refine a_goto 3 dX12_isLaw_52 (by decide) ?_
        exact a_bk (ih_3 (al_step hI_3 (law_t h_44))) ⟨rfl, rfl, rfl, rfl, rfl, rfl, trivial⟩
      · rw [hD (2 * i + 1) (by omega), i64_nI (by omega) _ (hT i hi_3).2.2.1] at h_44
        refine n_iconst 0 rfl dX12_isLaw_47 ?_
        refine a_zret dX12_isLaw_48 rfl (Or.inl rfl) ?_
        exact h0 (al_no (law_f h_44) hi_3)
  exact a_bk (loop_3 0 (by omega) rfl) ⟨rfl, rfl, rfl, rfl, rfl, rfl, trivial⟩

set_option maxRecDepth 100000 in
set_option maxHeartbeats 800000 in
theorem c_X12_laws {M : Mm} {T : TT} (hI : IM M T) (hG : TG T) {x : Int32} {n : Int32} {Q : Option Value → Mm → Prop} (hQ : ∀ M', IM M' (sp_laws x n T).2 → keX M M' → Q (some (.int (sp_laws x n T).1)) M') (d : Nat) : AMt miX12_laws (d + 6) [.ref 132, .int x, .int n] M Q := by
  refine AMt.of (by decide) (Nat.le_of_ble_eq_true rfl) ?_
  show AW miX12_laws (d + 6) (mxA Q) 0 [(0, some (.ref 132)), (1, some (.int x)), (2, some (.int n))] [] M
  have hF : WF (tS T) := hG.1.1
  have hM : VM 0 M (tS T) := hI.1.1
  have hM1 := m0_VM hM hF
  have hm : tS T 0 2 ≤ 6 := WF_m hF
  have hh : tS T 0 3 ≤ 10 := WF_h hF
  have hs : tS T 0 4 ≤ 7 := WF_s hF
  have hn : tS T 0 5 ≤ 8 := WF_n hF
  have hd9 : tS T 0 1 ≤ 9999 := hG.1.2.2.2.2.1
  have hwl := whyL_le T x n
  refine a_aload_n rfl dX12_laws_0 ?_
  refine n_iconst 0 rfl dX12_laws_1 ?_
  refine a_puti dX12_laws_2 pX12_69 (by decide) rfl rfl ?_
  have hMt : VM 0 (siM M 132 1 (nI 0)) (tS T) := VM_e hM (fun j _ => siN rfl (by omega)) hF
  have hRt : RM (siM M 132 1 (nI 0)) (tR T) := RM_fr hI.2.1 (P := fun k j => k = 132) (fr.r.si rfl) (fun k j a b => by omega)
  refine a_aload_n rfl dX12_laws_5 ?_
  refine a_aload_n rfl dX12_laws_6 ?_
  refine a_iload_n rfl dX12_laws_7 ?_
  refine a_iload_n rfl dX12_laws_8 ?_
  refine n_callV (mi' := miX12_whyNoLaw) dX12_laws_9 lX12_493 mX12_whyNoLaw (by decide) rfl rfl rfl (c_X12_whyNoLaw hRt hG ?_ d) rfl rfl (by omega) (by decide) (Nat.le_of_ble_eq_true rfl)
  show AW _ _ _ _ _ _ _
  refine a_puti dX12_laws_12 pX12_72 (by decide) rfl rfl ?_
  refine a_aload_n rfl dX12_laws_15 ?_
  refine g_i siS (by decide) rfl fX12_72 rfl dX12_laws_16 ?_
  refine n_if_le 24 (by omega) dX12_laws_19 (by decide) (fun h_19 => ?_) (fun h_19 => ?_)
  · have h0_ := h_19
    rw [h_19]
    show AW _ _ _ _ _ _ (m0 M)
    obtain ⟨hx0, ht0⟩ := whyL_0 h_19
    obtain ⟨hn0, hl0, hd0⟩ := twosN_0 ht0
    have hl60 := lenI_le hG.2.1 (t := idx x) (by unfold idx; omega)
    obtain ⟨t, ht, rfl⟩ := inR_of (x := x) (m := 4) (by omega) (by omega) (by omega)
    have t_t : (nI t).toInt = (t : Int) := nI_toInt (by omega)
    have i_t : idx (nI t) = t := idx_nI (by omega)
    obtain ⟨q, hq, rfl⟩ := inR_of (x := n) (m := 21) (by omega) (by omega) (by omega)
    have t_q : (nI q).toInt = (q : Int) := nI_toInt (by omega)
    have i_q : idx (nI q) = q := idx_nI (by omega)
    rw [i_t] at hl0 hl60 hd0
    rw [i_q] at hd0
    have hD : ∀ i, i < 2 * q → (m0 M).2 135 (60 * t + i) = (tR T).2.2 t i := fun i hi => RM_dat hI.2.1 (by omega) (by omega)
    have hT := TWO_of hd0
    refine n_iconst 0 rfl dX12_laws_24 ?_
    refine a_istore_n (by decide) rfl dX12_laws_25 ?_
    refine n_iconst 1 rfl dX12_laws_26 ?_
    refine a_istore (by decide) rfl dX12_laws_27 ?_
    have loop_29 : ∀ w, w ≤ 99 → AW miX12_laws (d + 6) (mxA Q) 29 [(0, some (.ref 132)), (1, some (.int (nI t))), (2, some (.int (nI q))), (3, some (.int (nI (lwO ((tR T).2.2 t) q w)))), (4, some (.int (nI (w + 1))))] [] ((m0 M)) := by
      refine up 99 ?_ (fun w hi_29 ih_29 => ?_)
      · refine a_iload rfl dX12_laws_29 ?_
        refine n_bipush 99 rfl dX12_laws_31 ?_
        refine n_icmp_gt 79 (by omega) (by omega) dX12_laws_33 (by decide) (fun h_33 => ?_) (fun h_33 => absurd h_33 (by omega))
        refine a_iload_n rfl dX12_laws_79 ?_
        refine a_iret dX12_laws_80 rfl ?_
        exact fin_qM hQ hI hG (by unfold sp_laws; rw [if_pos h0_, i_t, i_q]; rfl) m0_s m0_fr
      · have hlo := lwO_le ((tR T).2.2 t) q w
        refine a_iload rfl dX12_laws_29 ?_
        refine n_bipush 99 rfl dX12_laws_31 ?_
        refine n_icmp_gt 79 (by omega) (by omega) dX12_laws_33 (by decide) (fun h_33 => absurd h_33 (by omega)) (fun h_33 => ?_)
        refine n_iconst 0 rfl dX12_laws_36 ?_
        refine a_istore (by decide) rfl dX12_laws_37 ?_
        have loop_39 : ∀ c, c ≤ 21 → AW miX12_laws (d + 6) (mxA Q) 39 [(0, some (.ref 132)), (1, some (.int (nI t))), (2, some (.int (nI q))), (3, some (.int (nI (lwO ((tR T).2.2 t) q w + lwI ((tR T).2.2 t) q w c)))), (4, some (.int (nI (w + 1)))), (5, some (.int (nI c)))] [] ((m0 M)) := by
          refine up 21 ?_ (fun c hi_39 ih_39 => ?_)
          · refine a_iload rfl dX12_laws_39 ?_
            refine n_bipush 20 rfl dX12_laws_41 ?_
            refine n_icmp_gt 73 (by omega) (by omega) dX12_laws_43 (by decide) (fun h_43 => ?_) (fun h_43 => absurd h_43 (by omega))
            refine n_iinc (c := 1) rfl rfl (by decide) rfl dX12_laws_73 ?_
            refine a_goto 29 dX12_laws_76 (by decide) ?_
            exact a_bk ih_29 ⟨rfl, rfl, rfl, rfl, rfl, trivial⟩
          · have hli := lwI_le ((tR T).2.2 t) q w c
            refine a_iload rfl dX12_laws_39 ?_
            refine n_bipush 20 rfl dX12_laws_41 ?_
            refine n_icmp_gt 73 (by omega) (by omega) dX12_laws_43 (by decide) (fun h_43 => absurd h_43 (by omega)) (fun h_43 => ?_)
            refine a_iload_n rfl dX12_laws_46 ?_
            refine a_aload_n rfl dX12_laws_47 ?_
            refine a_iload_n rfl dX12_laws_48 ?_
            refine a_iload_n rfl dX12_laws_49 ?_
            refine a_iload rfl dX12_laws_50 ?_
            refine a_iload rfl dX12_laws_52 ?_
            refine n_callV (mi' := miX12_isLaw) dX12_laws_54 lX12_496 mX12_isLaw (by decide) rfl rfl rfl (c_X12_isLaw (by omega) (by omega) (t := t) (by omega) (D := (tR T).2.2 t) (n := q) (by omega) hD hT (fun hz_54 => ?_) (fun hz_54 => ?_) d) rfl rfl (by omega) (by decide) (Nat.le_of_ble_eq_true rfl)
            · show AW _ _ _ _ _ _ _
              refine n_if_eq 64 (by decide) dX12_laws_57 (by decide) (fun h => absurd h (by decide)) (fun _ => ?_)
              refine n_iconst 1 rfl dX12_laws_60 ?_
              refine a_goto 65 dX12_laws_61 (by decide) ?_
              refine n_iadd dX12_laws_65 ?_
              refine a_istore_n (by decide) rfl dX12_laws_66 ?_
              refine n_iinc (c := 1) rfl rfl (by decide) rfl dX12_laws_67 ?_
              refine a_goto 39 dX12_laws_70 (by decide) ?_
              rw [lwI_t hz_54, ← Nat.add_assoc] at ih_39
              exact a_bk ih_39 ⟨rfl, rfl, rfl, rfl, rfl, rfl, trivial⟩
            · show AW _ _ _ _ _ _ _
              refine n_if_eq 64 (by decide) dX12_laws_57 (by decide) (fun _ => ?_) (fun h => absurd h (by decide))
              refine n_iconst 0 rfl dX12_laws_64 ?_
              refine n_iadd dX12_laws_65 ?_
              refine a_istore_n (by decide) rfl dX12_laws_66 ?_
              refine n_iinc (c := 1) rfl rfl (by decide) rfl dX12_laws_67 ?_
              refine a_goto 39 dX12_laws_70 (by decide) ?_
              rw [lwI_f hz_54] at ih_39
              exact a_bk ih_39 ⟨rfl, rfl, rfl, rfl, rfl, rfl, trivial⟩
        exact a_bk (loop_39 0 (by omega)) ⟨rfl, rfl, rfl, rfl, rfl, rfl, trivial⟩
    exact a_bk (loop_29 0 (by omega)) ⟨rfl, rfl, rfl, rfl, rfl, trivial⟩
  · refine a_iconst (-1) rfl dX12_laws_22 ?_
    refine a_iret dX12_laws_23 rfl ?_
    exact fin_qM hQ hI hG (by unfold sp_laws; rw [if_neg h_19]) siS ((fr.r.si (by unfold scM coM; omega)).si (by unfold scM coM; omega))

set_option maxRecDepth 100000 in
set_option maxHeartbeats 800000 in
theorem c_X12_lawOf {M : Mm} {T : TT} (hI : IM M T) (hG : TG T) {x : Int32} {n : Int32} {z : Int32} {Q : Option Value → Mm → Prop} (hQ : ∀ M', IM M' (sp_lawOf x n z T).2 → keX M M' → Q (some (.int (sp_lawOf x n z T).1)) M') (d : Nat) : AMt miX12_lawOf (d + 6) [.ref 132, .int x, .int n, .int z] M Q := by
  refine AMt.of (by decide) (Nat.le_of_ble_eq_true rfl) ?_
  show AW miX12_lawOf (d + 6) (mxA Q) 0 [(0, some (.ref 132)), (1, some (.int x)), (2, some (.int n)), (3, some (.int z))] [] M
  have hF : WF (tS T) := hG.1.1
  have hM : VM 0 M (tS T) := hI.1.1
  have hM1 := m0_VM hM hF
  have hm : tS T 0 2 ≤ 6 := WF_m hF
  have hh : tS T 0 3 ≤ 10 := WF_h hF
  have hs : tS T 0 4 ≤ 7 := WF_s hF
  have hn : tS T 0 5 ≤ 8 := WF_n hF
  have hd9 : tS T 0 1 ≤ 9999 := hG.1.2.2.2.2.1
  have hwl := whyL_le T x n
  refine a_aload_n rfl dX12_lawOf_0 ?_
  refine n_iconst 0 rfl dX12_lawOf_1 ?_
  refine a_puti dX12_lawOf_2 pX12_69 (by decide) rfl rfl ?_
  have hMt : VM 0 (siM M 132 1 (nI 0)) (tS T) := VM_e hM (fun j _ => siN rfl (by omega)) hF
  have hRt : RM (siM M 132 1 (nI 0)) (tR T) := RM_fr hI.2.1 (P := fun k j => k = 132) (fr.r.si rfl) (fun k j a b => by omega)
  refine a_aload_n rfl dX12_lawOf_5 ?_
  refine a_aload_n rfl dX12_lawOf_6 ?_
  refine a_iload_n rfl dX12_lawOf_7 ?_
  refine a_iload_n rfl dX12_lawOf_8 ?_
  refine n_callV (mi' := miX12_whyNoLaw) dX12_lawOf_9 lX12_493 mX12_whyNoLaw (by decide) rfl rfl rfl (c_X12_whyNoLaw hRt hG ?_ d) rfl rfl (by omega) (by decide) (Nat.le_of_ble_eq_true rfl)
  show AW _ _ _ _ _ _ _
  refine a_puti dX12_lawOf_12 pX12_72 (by decide) rfl rfl ?_
  refine a_aload_n rfl dX12_lawOf_15 ?_
  refine g_i siS (by decide) rfl fX12_72 rfl dX12_lawOf_16 ?_
  refine n_if_ne 37 (by omega) dX12_lawOf_19 (by decide) (fun h_19 => ?_) (fun h_19 => ?_)
  · refine a_aload_n rfl dX12_lawOf_37 ?_
    refine g_i siS (by decide) rfl fX12_72 rfl dX12_lawOf_38 ?_
    refine n_if_le 46 (by omega) dX12_lawOf_41 (by decide) (fun h_41 => absurd h_41 h_19) (fun h_41 => ?_)
    refine a_iconst (-1) rfl dX12_lawOf_44 ?_
    refine a_iret dX12_lawOf_45 rfl ?_
    exact fin_qM hQ hI hG (by unfold sp_lawOf; rw [if_neg h_19]) siS ((fr.r.si (by unfold scM coM; omega)).si (by unfold scM coM; omega))
  · refine a_iload_n rfl dX12_lawOf_22 ?_
    refine a_i2l dX12_lawOf_23 ?_
    refine a_lconst 0 rfl dX12_lawOf_24 ?_
    refine a_lconst 1 rfl dX12_lawOf_25 ?_
    refine n_callS (mi' := miX12_isIn) dX12_lawOf_26 lX12_104 mX12_isIn (c_X12_isIn (fun h_26 => ?_) (fun h_26 => ?_) d) rfl rfl (by omega) (by decide) (Nat.le_of_ble_eq_true rfl)
    · show AW _ _ _ _ _ _ _
      have h_26 := isIn4 (x := z) (a := 0) (b := 1) (by decide) (by decide) h_26
      refine n_if_ne 37 (by decide) dX12_lawOf_29 (by decide) (fun _ => ?_) (fun h => absurd h (by decide))
      refine a_aload_n rfl dX12_lawOf_37 ?_
      refine g_i siS (by decide) rfl fX12_72 rfl dX12_lawOf_38 ?_
      refine n_if_le 46 (by omega) dX12_lawOf_41 (by decide) (fun h_41 => ?_) (fun h_41 => absurd h_19 h_41)
      have h0_ := h_19
      rw [h_19]
      show AW _ _ _ _ _ _ (m0 M)
      obtain ⟨hx0, ht0⟩ := whyL_0 h_19
      obtain ⟨hn0, hl0, hd0⟩ := twosN_0 ht0
      have hl60 := lenI_le hG.2.1 (t := idx x) (by unfold idx; omega)
      obtain ⟨t, ht, rfl⟩ := inR_of (x := x) (m := 4) (by omega) (by omega) (by omega)
      have t_t : (nI t).toInt = (t : Int) := nI_toInt (by omega)
      have i_t : idx (nI t) = t := idx_nI (by omega)
      obtain ⟨q, hq, rfl⟩ := inR_of (x := n) (m := 21) (by omega) (by omega) (by omega)
      have t_q : (nI q).toInt = (q : Int) := nI_toInt (by omega)
      have i_q : idx (nI q) = q := idx_nI (by omega)
      rw [i_t] at hl0 hl60 hd0
      rw [i_q] at hd0
      have hD : ∀ i, i < 2 * q → (m0 M).2 135 (60 * t + i) = (tR T).2.2 t i := fun i hi => RM_dat hI.2.1 (by omega) (by omega)
      have hT := TWO_of hd0
      refine n_iconst 1 rfl dX12_lawOf_46 ?_
      refine a_istore (by decide) rfl dX12_lawOf_47 ?_
      have loop_49 : ∀ w, w ≤ 99 → (∀ a, a < w → ∀ b, b < 21 → lawB ((tR T).2.2 t) q (a + 1) b = false) → AW miX12_lawOf (d + 6) (mxA Q) 49 [(0, some (.ref 132)), (1, some (.int (nI t))), (2, some (.int (nI q))), (3, some (.int z)), (4, some (.int (nI (w + 1))))] [] ((m0 M)) := by
        refine up (W := fun w => (∀ a, a < w → ∀ b, b < 21 → lawB ((tR T).2.2 t) q (a + 1) b = false) → AW miX12_lawOf (d + 6) (mxA Q) 49 [(0, some (.ref 132)), (1, some (.int (nI t))), (2, some (.int (nI q))), (3, some (.int z)), (4, some (.int (nI (w + 1))))] [] ((m0 M))) 99 (fun hI_49 => ?_) (fun w hi_49 ih_49 hI_49 => ?_)
        · refine a_iload rfl dX12_lawOf_49 ?_
          refine n_bipush 99 rfl dX12_lawOf_51 ?_
          refine n_icmp_gt 103 (by omega) (by omega) dX12_lawOf_53 (by decide) (fun h_53 => ?_) (fun h_53 => absurd h_53 (by omega))
          refine a_aload_n rfl dX12_lawOf_103 ?_
          refine n_bipush 8 rfl dX12_lawOf_104 ?_
          refine n_callV (mi' := miX12_refuse) dX12_lawOf_106 lX12_345 mX12_refuse (by decide) rfl rfl rfl (c_X12_refuse ?_ d) rfl rfl (by omega) (by decide) (Nat.le_of_ble_eq_true rfl)
          show AW _ _ _ _ _ _ _
          refine a_iret dX12_lawOf_109 rfl ?_
          exact fin_qM hQ hI hG (by unfold sp_lawOf; rw [if_pos h0_, i_t, i_q, if_pos (by omega), show lawfN ((tR T).2.2 t) q = none from fiN_no (lawf_no (t := 99) (c := 0) hI_49 (fun b hb => absurd hb (by omega)) (by omega))]) siS (m0_fr.si (by unfold scM coM; omega))
        · refine a_iload rfl dX12_lawOf_49 ?_
          refine n_bipush 99 rfl dX12_lawOf_51 ?_
          refine n_icmp_gt 103 (by omega) (by omega) dX12_lawOf_53 (by decide) (fun h_53 => absurd h_53 (by omega)) (fun h_53 => ?_)
          refine n_iconst 0 rfl dX12_lawOf_56 ?_
          refine a_istore (by decide) rfl dX12_lawOf_57 ?_
          have loop_59 : ∀ c, c ≤ 21 → (∀ b, b < c → lawB ((tR T).2.2 t) q (w + 1) b = false) → AW miX12_lawOf (d + 6) (mxA Q) 59 [(0, some (.ref 132)), (1, some (.int (nI t))), (2, some (.int (nI q))), (3, some (.int z)), (4, some (.int (nI (w + 1)))), (5, some (.int (nI c)))] [] ((m0 M)) := by
            refine up (W := fun c => (∀ b, b < c → lawB ((tR T).2.2 t) q (w + 1) b = false) → AW miX12_lawOf (d + 6) (mxA Q) 59 [(0, some (.ref 132)), (1, some (.int (nI t))), (2, some (.int (nI q))), (3, some (.int z)), (4, some (.int (nI (w + 1)))), (5, some (.int (nI c)))] [] ((m0 M))) 21 (fun hI_59 => ?_) (fun c hi_59 ih_59 hI_59 => ?_)
            · refine a_iload rfl dX12_lawOf_59 ?_
              refine n_bipush 20 rfl dX12_lawOf_61 ?_
              refine n_icmp_gt 97 (by omega) (by omega) dX12_lawOf_63 (by decide) (fun h_63 => ?_) (fun h_63 => absurd h_63 (by omega))
              refine n_iinc (c := 1) rfl rfl (by decide) rfl dX12_lawOf_97 ?_
              refine a_goto 49 dX12_lawOf_100 (by decide) ?_
              exact a_bk (ih_49 (fun a ha => by
          rcases (show a < w ∨ a = w by omega) with h | h
          · exact hI_49 a h
          · subst h; exact hI_59)) ⟨rfl, rfl, rfl, rfl, rfl, trivial⟩
            · refine a_iload rfl dX12_lawOf_59 ?_
              refine n_bipush 20 rfl dX12_lawOf_61 ?_
              refine n_icmp_gt 97 (by omega) (by omega) dX12_lawOf_63 (by decide) (fun h_63 => absurd h_63 (by omega)) (fun h_63 => ?_)
              refine a_aload_n rfl dX12_lawOf_66 ?_
              refine a_iload_n rfl dX12_lawOf_67 ?_
              refine a_iload_n rfl dX12_lawOf_68 ?_
              refine a_iload rfl dX12_lawOf_69 ?_
              refine a_iload rfl dX12_lawOf_71 ?_
              refine n_callV (mi' := miX12_isLaw) dX12_lawOf_73 lX12_496 mX12_isLaw (by decide) rfl rfl rfl (c_X12_isLaw (by omega) (by omega) (t := t) (by omega) (D := (tR T).2.2 t) (n := q) (by omega) hD hT (fun hz_73 => ?_) (fun hz_73 => ?_) d) rfl rfl (by omega) (by decide) (Nat.le_of_ble_eq_true rfl)
              · show AW _ _ _ _ _ _ _
                refine n_if_eq 91 (by decide) dX12_lawOf_76 (by decide) (fun h => absurd h (by decide)) (fun _ => ?_)
                refine a_iload_n rfl dX12_lawOf_79 ?_
                refine r_if_ne 88 dX12_lawOf_80 (by decide) (fun h_80 => ?_) (fun h_80 => ?_)
                · refine a_iload rfl dX12_lawOf_88 ?_
                  refine a_iret dX12_lawOf_90 rfl ?_
                  exact fin_qM hQ hI hG (by unfold sp_lawOf; rw [if_pos h0_, i_t, i_q, if_pos (by omega), show lawfN ((tR T).2.2 t) q = some (w * 21 + c) from fiN_at (lawf_no hI_49 hI_59 (by omega)) (by show lawB ((tR T).2.2 t) q ((w * 21 + c) / 21 + 1) ((w * 21 + c) % 21) = true; rw [show (w * 21 + c) / 21 = w by omega, show (w * 21 + c) % 21 = c by omega]; exact hz_73) (by omega)]; dsimp only; rw [if_neg (by unfold idx; omega), show (w * 21 + c) % 21 = c by omega]) m0_s m0_fr
                · refine a_iload rfl dX12_lawOf_83 ?_
                  refine a_goto 90 dX12_lawOf_85 (by decide) ?_
                  refine a_iret dX12_lawOf_90 rfl ?_
                  exact fin_qM hQ hI hG (by unfold sp_lawOf; rw [if_pos h0_, i_t, i_q, if_pos (by omega), show lawfN ((tR T).2.2 t) q = some (w * 21 + c) from fiN_at (lawf_no hI_49 hI_59 (by omega)) (by show lawB ((tR T).2.2 t) q ((w * 21 + c) / 21 + 1) ((w * 21 + c) % 21) = true; rw [show (w * 21 + c) / 21 = w by omega, show (w * 21 + c) % 21 = c by omega]; exact hz_73) (by omega)]; dsimp only; rw [if_pos (by unfold idx; omega), show (w * 21 + c) / 21 = w by omega]) m0_s m0_fr
              · show AW _ _ _ _ _ _ _
                refine n_if_eq 91 (by decide) dX12_lawOf_76 (by decide) (fun _ => ?_) (fun h => absurd h (by decide))
                refine n_iinc (c := 1) rfl rfl (by decide) rfl dX12_lawOf_91 ?_
                refine a_goto 59 dX12_lawOf_94 (by decide) ?_
                exact a_bk (ih_59 (fun b hb => by
            rcases (show b < c ∨ b = c by omega) with h | h
            · exact hI_59 b h
            · subst h; exact hz_73)) ⟨rfl, rfl, rfl, rfl, rfl, rfl, trivial⟩
          exact a_bk (loop_59 0 (by omega) (fun b hb => absurd hb (by omega))) ⟨rfl, rfl, rfl, rfl, rfl, rfl, trivial⟩
      exact a_bk (loop_49 0 (by omega) (fun a ha => absurd ha (by omega))) ⟨rfl, rfl, rfl, rfl, rfl, trivial⟩
    · show AW _ _ _ _ _ _ _
      have h_26 := isIn4n (x := z) (a := 0) (b := 1) (by decide) (by decide) h_26
      refine n_if_ne 37 (by decide) dX12_lawOf_29 (by decide) (fun h => absurd h (by decide)) (fun _ => ?_)
      refine a_aload_n rfl dX12_lawOf_32 ?_
      refine n_iconst 5 rfl dX12_lawOf_33 ?_
      refine a_puti dX12_lawOf_34 pX12_72 (by decide) rfl rfl ?_
      refine a_aload_n rfl dX12_lawOf_37 ?_
      refine g_i siS (by decide) rfl fX12_72 rfl dX12_lawOf_38 ?_
      refine n_if_le 46 (by decide) dX12_lawOf_41 (by decide) (fun h => absurd h (by decide)) (fun _ => ?_)
      refine a_iconst (-1) rfl dX12_lawOf_44 ?_
      refine a_iret dX12_lawOf_45 rfl ?_
      exact fin_qM hQ hI hG (by unfold sp_lawOf; rw [if_pos h_19, if_neg (by omega)]) siS (((fr.r.si (by unfold scM coM; omega)).si (by unfold scM coM; omega)).si (by unfold scM coM; omega))

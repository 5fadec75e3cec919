theorem oa_some {S : ST} (h : oaN S = true) {k : Nat} (hk : k < S 0 2) (e : loadN S k = none) : False := by
  have := alN_bit.mp h k hk
  rw [e] at this; exact absurd this (by decide)
theorem he_ho (S : ST) (k : Nat) : orN (fun q => S 3 q == k) (S 4) (S 0 3) = hoN S 0 k := orN_congr (fun j _ => by simp)
theorem mst_le {S : ST} (hF : WF S) {n set k : Nat} (hk : k ≤ S 0 2) (h : mnN (stW S n set) k < FAR) : mnN (stW S n set) k ≤ (n + 1) * 75600 := by
  obtain ⟨j, hj, e⟩ := mn_at h
  rw [← e] at h ⊢
  unfold stW stN at *
  by_cases c : alwB S set j = true
  · rw [if_pos c] at h ⊢
    have h1 := (cs_le hF (show j < S 0 2 by omega) (alw_b c)).2
    have h2 := wF_le hF (n := n) (set := set ||| 2 ^ j) (by unfold FAR at *; omega)
    rw [Nat.add_mul]; unfold FAR at *; omega
  · rw [if_neg c] at h; exact absurd h (Nat.lt_irrefl _)
theorem nbb {S : ST} (hF : WF S) {n set k w many : Nat} {wl : Option Nat} (hk : k ≤ S 0 2) (hmn : many + (n + 1) = S 0 2) (hw : w ≤ many * 75600) (hb : ∀ c, wl = some c → c ≤ 1000000) : ∀ c, nbO wl w (mnN (stW S n set) k) = some c → c ≤ 1000000 := by
  intro c h
  have hm := WF_m hF
  rcases nb_some h with ⟨q, rfl⟩ | ⟨_, q⟩
  · have := mst_le hF hk q.1
    have h2 : (many + (n + 1)) * 75600 ≤ 6 * 75600 := Nat.mul_le_mul_right _ (by omega)
    rw [Nat.add_mul] at h2
    omega
  · exact hb c q

set_option maxRecDepth 100000 in
set_option maxHeartbeats 800000 in
theorem c_dec0 {M : Mm} {S : ST} (hM : VM 0 M S) (hF : WF S) (hoa : oaN S = true) {many set w : Nat} {wl : Option Nat} (hset : set < 2 ^ S 0 2) (hw : w ≤ many * 75600) (hwl : M.1 132 27 = optI wl) (hwb : ∀ c, wl = some c → c ≤ 1000000) (hmany : many = S 0 2) {Q : Option Value → Mm → Prop} (hQ : ∀ M', dcP S 0 many set w wl M M' → Q none M') (d : Nat) : AMt miX12_decides (d + 3) [.ref 132, .int (nI many), .int (nI set), .int (nI ((tmN S set))), .int (nI w)] M Q := by
  refine AMt.of (by decide) (Nat.le_of_ble_eq_true rfl) ?_
  show AW miX12_decides (d + 3) (mxA Q) 0 [(0, some (.ref 132)), (1, some (.int (nI many))), (2, some (.int (nI set))), (3, some (.int (nI ((tmN S set))))), (4, some (.int (nI w)))] [] M
  have hm := WF_m hF
  have hh := WF_h hF
  have hs := WF_s hF
  have hn := WF_n hF
  have hk3 := pow_le hm
  have hk0 := Nat.two_pow_pos (S 0 2)
  have hwm : many * 75600 ≤ 6 * 75600 := Nat.mul_le_mul_right _ (by omega)
  refine a_iload_n rfl dX12_decides_0 ?_
  refine a_aload_n rfl dX12_decides_1 ?_
  refine a_geta dX12_decides_2 fX12_35 (by decide) rfl rfl ?_
  refine n_iconst 0 rfl dX12_decides_5 ?_
  refine v_iald (by omega) (VM_s0 hM) (by decide) rfl (by decide) dX12_decides_6 ?_
  refine n_icmp_ne 63 (by omega) (by omega) dX12_decides_7 (by decide) (fun h_7 => absurd h_7 (by omega)) (fun h_7 => ?_)
  cases wl with
  | none =>
    refine a_aload_n rfl dX12_decides_10 ?_
    refine a_geti dX12_decides_11 fX12_446 (by decide) rfl rfl ?_
    refine a_eqi (y := -1) (by rw [hwl]; rfl) ?_
    refine r_if_lt 27 dX12_decides_14 (by decide) (fun h_14 => ?_) (fun h_14 => absurd (by decide) h_14)
    refine a_aload_n rfl dX12_decides_27 ?_
    refine a_iload rfl dX12_decides_28 ?_
    refine a_puti dX12_decides_30 pX12_446 (by decide) rfl rfl ?_
    refine n_iconst 0 rfl dX12_decides_33 ?_
    refine a_istore (by decide) rfl dX12_decides_34 ?_
    have loop_36 : ∀ i, i ≤ many → ∀ M1, ((∀ j, j < i → (M1).1 141 j = M.1 142 j) ∧ frM (fun k _ => k = 141) (siM M 132 27 (nI w)) M1) → AW miX12_decides (d + 3) (mxA Q) 36 [(0, some (.ref 132)), (1, some (.int (nI many))), (2, some (.int (nI set))), (3, some (.int (nI ((tmN S set))))), (4, some (.int (nI w))), (5, some (.int (nI i)))] [] M1 := by
      refine up (W := fun i => ∀ M1, ((∀ j, j < i → (M1).1 141 j = M.1 142 j) ∧ frM (fun k _ => k = 141) (siM M 132 27 (nI w)) M1) → AW miX12_decides (d + 3) (mxA Q) 36 [(0, some (.ref 132)), (1, some (.int (nI many))), (2, some (.int (nI set))), (3, some (.int (nI ((tmN S set))))), (4, some (.int (nI w))), (5, some (.int (nI i)))] [] M1) many (fun M1 hI_36 => ?_) (fun i hi_36 ih_36 M1 hI_36 => ?_)
      · refine a_iload rfl dX12_decides_36 ?_
        refine a_iload_n rfl dX12_decides_38 ?_
        refine n_icmp_ge 62 (by omega) (by omega) dX12_decides_39 (by decide) (fun h_39 => ?_) (fun h_39 => absurd h_39 (by omega))
        refine a_vret dX12_decides_62 rfl ?_
        have hc : chG none w (wF S 0 set) := ⟨by show (0 : Nat) < 1000000; decide, fun c z => by cases z⟩
        exact hQ _ ⟨by rw [nb_t hc]; exact (hI_36.2.i siS (by omega)).trans (congrArg nI (by show w = w + 0; omega)), (frM.r.si (by omega)).t (hI_36.2.mo (fun k j h => by omega)), fun _ => ⟨fun j hj => hI_36.1 j hj, fun j hj => absurd hj (by omega)⟩, fun z => absurd hc z⟩
      · refine a_iload rfl dX12_decides_36 ?_
        refine a_iload_n rfl dX12_decides_38 ?_
        refine n_icmp_ge 62 (by omega) (by omega) dX12_decides_39 (by decide) (fun h_39 => absurd h_39 (by omega)) (fun h_39 => ?_)
        refine a_aload_n rfl dX12_decides_42 ?_
        refine a_geta dX12_decides_43 fX12_47 (by decide) rfl rfl ?_
        refine a_iload rfl dX12_decides_46 ?_
        refine a_aload_n rfl dX12_decides_48 ?_
        refine a_geta dX12_decides_49 fX12_50 (by decide) rfl rfl ?_
        refine a_iload rfl dX12_decides_52 ?_
        refine n_iald (by omega) (by decide) rfl (by decide) dX12_decides_54 ?_
        refine n_iast (by omega) (by decide) rfl (by decide) dX12_decides_55 ?_
        refine n_iinc (c := 1) rfl rfl (by decide) rfl dX12_decides_56 ?_
        refine a_goto 36 dX12_decides_59 (by decide) ?_
        exact a_bk (ih_36 _ ⟨fun j hj => by
            by_cases e : j = i
            · subst e; rw [siS]; exact hI_36.2.i (siN rfl (by omega)) (by omega)
            · exact siN (hI_36.1 j (by omega)) (by omega), hI_36.2.si rfl⟩) ⟨rfl, rfl, rfl, rfl, rfl, rfl, trivial⟩
    exact a_bk (loop_36 0 (by omega) _ ⟨fun j hj => absurd hj (by omega), frM.r⟩) ⟨rfl, rfl, rfl, rfl, rfl, rfl, trivial⟩
  | some c =>
    have hcb := hwb c rfl
    refine a_aload_n rfl dX12_decides_10 ?_
    refine a_geti dX12_decides_11 fX12_446 (by decide) rfl rfl ?_
    refine a_eqi (y := nI c) (by rw [hwl]; rfl) ?_
    refine n_if_lt (tgt := 27) (by omega) dX12_decides_14 (by decide) ?_
    refine a_iload rfl dX12_decides_17 ?_
    refine a_aload_n rfl dX12_decides_19 ?_
    refine a_geti dX12_decides_20 fX12_446 (by decide) rfl rfl ?_
    refine a_eqi (y := nI c) (by rw [hwl]; rfl) ?_
    refine n_icmp_lt 27 (by omega) (by omega) dX12_decides_23 (by decide) (fun h_23 => ?_) (fun h_23 => ?_)
    · refine a_aload_n rfl dX12_decides_27 ?_
      refine a_iload rfl dX12_decides_28 ?_
      refine a_puti dX12_decides_30 pX12_446 (by decide) rfl rfl ?_
      refine n_iconst 0 rfl dX12_decides_33 ?_
      refine a_istore (by decide) rfl dX12_decides_34 ?_
      have loop_36 : ∀ i, i ≤ many → ∀ M1, ((∀ j, j < i → (M1).1 141 j = M.1 142 j) ∧ frM (fun k _ => k = 141) (siM M 132 27 (nI w)) M1) → AW miX12_decides (d + 3) (mxA Q) 36 [(0, some (.ref 132)), (1, some (.int (nI many))), (2, some (.int (nI set))), (3, some (.int (nI ((tmN S set))))), (4, some (.int (nI w))), (5, some (.int (nI i)))] [] M1 := by
        refine up (W := fun i => ∀ M1, ((∀ j, j < i → (M1).1 141 j = M.1 142 j) ∧ frM (fun k _ => k = 141) (siM M 132 27 (nI w)) M1) → AW miX12_decides (d + 3) (mxA Q) 36 [(0, some (.ref 132)), (1, some (.int (nI many))), (2, some (.int (nI set))), (3, some (.int (nI ((tmN S set))))), (4, some (.int (nI w))), (5, some (.int (nI i)))] [] M1) many (fun M1 hI_36 => ?_) (fun i hi_36 ih_36 M1 hI_36 => ?_)
        · refine a_iload rfl dX12_decides_36 ?_
          refine a_iload_n rfl dX12_decides_38 ?_
          refine n_icmp_ge 62 (by omega) (by omega) dX12_decides_39 (by decide) (fun h_39 => ?_) (fun h_39 => absurd h_39 (by omega))
          refine a_vret dX12_decides_62 rfl ?_
          have hc : chG (some c) w (wF S 0 set) := ⟨by show (0 : Nat) < 1000000; decide, fun c2 z => by cases z; have e : wF S 0 set = 0 := rfl; omega⟩
          exact hQ _ ⟨by rw [nb_t hc]; exact (hI_36.2.i siS (by omega)).trans (congrArg nI (by show w = w + 0; omega)), (frM.r.si (by omega)).t (hI_36.2.mo (fun k j h => by omega)), fun _ => ⟨fun j hj => hI_36.1 j hj, fun j hj => absurd hj (by omega)⟩, fun z => absurd hc z⟩
        · refine a_iload rfl dX12_decides_36 ?_
          refine a_iload_n rfl dX12_decides_38 ?_
          refine n_icmp_ge 62 (by omega) (by omega) dX12_decides_39 (by decide) (fun h_39 => absurd h_39 (by omega)) (fun h_39 => ?_)
          refine a_aload_n rfl dX12_decides_42 ?_
          refine a_geta dX12_decides_43 fX12_47 (by decide) rfl rfl ?_
          refine a_iload rfl dX12_decides_46 ?_
          refine a_aload_n rfl dX12_decides_48 ?_
          refine a_geta dX12_decides_49 fX12_50 (by decide) rfl rfl ?_
          refine a_iload rfl dX12_decides_52 ?_
          refine n_iald (by omega) (by decide) rfl (by decide) dX12_decides_54 ?_
          refine n_iast (by omega) (by decide) rfl (by decide) dX12_decides_55 ?_
          refine n_iinc (c := 1) rfl rfl (by decide) rfl dX12_decides_56 ?_
          refine a_goto 36 dX12_decides_59 (by decide) ?_
          exact a_bk (ih_36 _ ⟨fun j hj => by
            by_cases e : j = i
            · subst e; rw [siS]; exact hI_36.2.i (siN rfl (by omega)) (by omega)
            · exact siN (hI_36.1 j (by omega)) (by omega), hI_36.2.si rfl⟩) ⟨rfl, rfl, rfl, rfl, rfl, rfl, trivial⟩
      exact a_bk (loop_36 0 (by omega) _ ⟨fun j hj => absurd hj (by omega), frM.r⟩) ⟨rfl, rfl, rfl, rfl, rfl, rfl, trivial⟩
    · refine a_vret dX12_decides_26 rfl ?_
      have hn : ¬ chG (some c) w (wF S 0 set) := fun z => by have := z.2 c rfl; have e : wF S 0 set = 0 := rfl; omega
      exact hQ _ ⟨by rw [nb_f hn]; exact hwl, frM.r, fun z => absurd z hn, fun _ _ => rfl⟩

set_option maxRecDepth 100000 in
set_option maxHeartbeats 800000 in
theorem c_decS {M : Mm} {S : ST} (hM : VM 0 M S) (hF : WF S) (hoa : oaN S = true) {n many set w : Nat} {wl : Option Nat} (hset : set < 2 ^ S 0 2) (hw : w ≤ many * 75600) (hwl : M.1 132 27 = optI wl) (hwb : ∀ c, wl = some c → c ≤ 1000000) (hmany : many + (n + 1) = S 0 2) (ih : ∀ {M : Mm} {many set w : Nat} {wl : Option Nat}, VM 0 M S → set < 2 ^ S 0 2 → w ≤ many * 75600 → M.1 132 27 = optI wl → (∀ c, wl = some c → c ≤ 1000000) → many + n = S 0 2 → ∀ {Q : Option Value → Mm → Prop}, (∀ M', dcP S n many set w wl M M' → Q none M') → ∀ d, AMt miX12_decides (d + 3 + n) [.ref 132, .int (nI many), .int (nI set), .int (nI (tmN S set)), .int (nI w)] M Q) {Q : Option Value → Mm → Prop} (hQ : ∀ M', dcP S (n + 1) many set w wl M M' → Q none M') (d : Nat) : AMt miX12_decides (d + 3 + (n + 1)) [.ref 132, .int (nI many), .int (nI set), .int (nI ((tmN S set))), .int (nI w)] M Q := by
  refine AMt.of (by decide) (Nat.le_of_ble_eq_true rfl) ?_
  show AW miX12_decides (d + 3 + (n + 1)) (mxA Q) 0 [(0, some (.ref 132)), (1, some (.int (nI many))), (2, some (.int (nI set))), (3, some (.int (nI ((tmN S set))))), (4, some (.int (nI w)))] [] M
  have hm := WF_m hF
  have hh := WF_h hF
  have hs := WF_s hF
  have hn := WF_n hF
  have hk3 := pow_le hm
  have hk0 := Nat.two_pow_pos (S 0 2)
  have hwm : many * 75600 ≤ 6 * 75600 := Nat.mul_le_mul_right _ (by omega)
  refine a_iload_n rfl dX12_decides_0 ?_
  refine a_aload_n rfl dX12_decides_1 ?_
  refine a_geta dX12_decides_2 fX12_35 (by decide) rfl rfl ?_
  refine n_iconst 0 rfl dX12_decides_5 ?_
  refine v_iald (by omega) (VM_s0 hM) (by decide) rfl (by decide) dX12_decides_6 ?_
  refine n_icmp_ne 63 (by omega) (by omega) dX12_decides_7 (by decide) (fun h_7 => ?_) (fun h_7 => absurd h_7 (by omega))
  refine n_iconst 0 rfl dX12_decides_63 ?_
  refine a_istore (by decide) rfl dX12_decides_64 ?_
  have loop_66 : ∀ k, k ≤ S 0 2 → ∀ M1, (lpP S n many set w wl M k M1) → AW miX12_decides (d + 3 + (n + 1)) (mxA Q) 66 [(0, some (.ref 132)), (1, some (.int (nI many))), (2, some (.int (nI set))), (3, some (.int (nI ((tmN S set))))), (4, some (.int (nI w))), (5, some (.int (nI k)))] [] M1 := by
    refine up (W := fun k => ∀ M1, (lpP S n many set w wl M k M1) → AW miX12_decides (d + 3 + (n + 1)) (mxA Q) 66 [(0, some (.ref 132)), (1, some (.int (nI many))), (2, some (.int (nI set))), (3, some (.int (nI ((tmN S set))))), (4, some (.int (nI w))), (5, some (.int (nI k)))] [] M1) (S 0 2) (fun M1 hI_66 => ?_) (fun k hi_66 ih_66 M1 hI_66 => ?_)
    · have hMi : VM 0 M1 S := VM_frM hM hF hI_66.2.1 (fun j _ => by omega)
      refine a_iload rfl dX12_decides_66 ?_
      refine a_aload_n rfl dX12_decides_68 ?_
      refine a_geta dX12_decides_69 fX12_35 (by decide) rfl rfl ?_
      refine n_iconst 0 rfl dX12_decides_72 ?_
      refine v_iald (by omega) (VM_s0 hMi) (by decide) rfl (by decide) dX12_decides_73 ?_
      refine n_icmp_ge 153 (by omega) (by omega) dX12_decides_74 (by decide) (fun h_74 => ?_) (fun h_74 => absurd h_74 (by omega))
      refine a_vret dX12_decides_153 rfl ?_
      exact hQ _ (lp_end hI_66)
    · have hMi : VM 0 M1 S := VM_frM hM hF hI_66.2.1 (fun j _ => by omega)
      refine a_iload rfl dX12_decides_66 ?_
      refine a_aload_n rfl dX12_decides_68 ?_
      refine a_geta dX12_decides_69 fX12_35 (by decide) rfl rfl ?_
      refine n_iconst 0 rfl dX12_decides_72 ?_
      refine v_iald (by omega) (VM_s0 hMi) (by decide) rfl (by decide) dX12_decides_73 ?_
      refine n_icmp_ge 153 (by omega) (by omega) dX12_decides_74 (by decide) (fun h_74 => absurd h_74 (by omega)) (fun h_74 => ?_)
      refine a_iload_n rfl dX12_decides_77 ?_
      refine a_iload rfl dX12_decides_78 ?_
      refine n_callS (mi' := miX12_has) dX12_decides_80 lX12_108 mX12_has (c_X12_has (by omega) (by omega) (fun h_80 => ?_) (fun h_80 => ?_) d) rfl rfl (by omega) (by decide) (Nat.le_of_ble_eq_true rfl)
      · show AW _ _ _ _ _ _ _
        refine n_if_ne 147 (by decide) dX12_decides_83 (by decide) (fun _ => ?_) (fun h => absurd h (by decide))
        refine n_iinc (c := 1) rfl rfl (by decide) rfl dX12_decides_147 ?_
        refine a_goto 66 dX12_decides_150 (by decide) ?_
        exact a_bk (ih_66 _ (lp_no hI_66 (by unfold stW stN; rw [if_neg (fun q => by have := alw_b q; rw [h_80] at this; exact absurd this (by decide))]; exact Nat.le_refl _))) ⟨rfl, rfl, rfl, rfl, rfl, rfl, trivial⟩
      · show AW _ _ _ _ _ _ _
        refine n_if_ne 147 (by decide) dX12_decides_83 (by decide) (fun h => absurd h (by decide)) (fun _ => ?_)
        refine a_aload_n rfl dX12_decides_86 ?_
        refine a_iload rfl dX12_decides_87 ?_
        refine n_callV (mi' := miX12_heldBy) dX12_decides_89 lX12_334 mX12_heldBy (by decide) rfl rfl rfl (c_X12_heldBy hMi hF (by omega) ?_ d) rfl rfl (by omega) (by decide) (Nat.le_of_ble_eq_true rfl)
        show AW _ _ _ _ _ _ _
        refine a_eqi (y := nI (hoN S 0 k)) (by rw [he_ho]) ?_
        have hhl := ho_lt hF 0 k
        refine a_iload_n rfl dX12_decides_92 ?_
        refine a_iconst (-1) rfl dX12_decides_93 ?_
        refine a_ixor dX12_decides_94 ?_
        refine n_andc dX12_decides_95 ?_
        have hxl : hoN S 0 k ^^^ (hoN S 0 k &&& set) < 2 ^ S 0 2 := Nat.xor_lt_two_pow hhl (Nat.lt_of_le_of_lt Nat.and_le_left hhl)
        refine n_if_eq 102 (by omega) dX12_decides_96 (by decide) (fun h_96 => ?_) (fun h_96 => ?_)
        · have hal : alwB S set k = true := by unfold alwB; rw [h_80, decide_eq_true h_96]; rfl
          have hcs := cs_le hF hi_66 h_80
          refine a_iload_n rfl dX12_decides_102 ?_
          refine a_aload_n rfl dX12_decides_103 ?_
          refine a_iload rfl dX12_decides_104 ?_
          refine n_callV (mi' := miX12_loadOf) dX12_decides_106 lX12_365 mX12_loadOf (by decide) rfl rfl rfl (c_X12_loadOf hMi hF (by omega) (fun v_106 hl_106 => ?_) (fun e => (oa_some hoa hi_66 e).elim)  d) rfl rfl (by omega) (by decide) (Nat.le_of_ble_eq_true rfl)
          show AW _ _ _ _ _ _ _
          refine a_eqi (y := nI (ldN S k)) (by rw [ld_some hl_106]) ?_
          refine n_iadd dX12_decides_109 ?_
          refine a_eqi (y := nI (tmN S (set ||| 2 ^ k))) (by rw [tm_add hi_66 h_80]) ?_
          refine a_istore (by decide) rfl dX12_decides_110 ?_
          refine a_aload_n rfl dX12_decides_112 ?_
          refine a_geta dX12_decides_113 fX12_50 (by decide) rfl rfl ?_
          refine a_iload_n rfl dX12_decides_116 ?_
          refine a_iload rfl dX12_decides_117 ?_
          refine n_iast (by omega) (by decide) rfl (by decide) dX12_decides_119 ?_
          refine a_aload_n rfl dX12_decides_120 ?_
          refine a_iload_n rfl dX12_decides_121 ?_
          refine n_iconst 1 rfl dX12_decides_122 ?_
          refine n_iadd dX12_decides_123 ?_
          refine a_iload_n rfl dX12_decides_124 ?_
          refine n_iconst 1 rfl dX12_decides_125 ?_
          refine a_iload rfl dX12_decides_126 ?_
          refine n_bit (by omega) dX12_decides_128 ?_
          refine n_ior dX12_decides_129 ?_
          refine a_iload rfl dX12_decides_130 ?_
          refine a_iload rfl dX12_decides_132 ?_
          refine a_iload rfl dX12_decides_134 ?_
          refine a_aload_n rfl dX12_decides_136 ?_
          refine a_iload rfl dX12_decides_137 ?_
          refine n_callV (mi' := miX12_weightsFor) dX12_decides_139 lX12_449 mX12_weightsFor (by decide) rfl rfl rfl (c_X12_weightsFor (VM_frM hMi hF ((frM.r (M := M1)).si (k := 142) (j := many) (x := nI k) rfl : frM (fun a _ => a = 142) M1 _) (fun j _ => by omega)) hF (by omega) ?_ d) rfl rfl (by omega) (by decide) (Nat.le_of_ble_eq_true rfl)
          show AW _ _ _ _ _ _ _
          refine n_imul dX12_decides_142 ?_
          refine n_iadd dX12_decides_143 ?_
          refine a_eqi (y := nI (w + csN S set k)) (by rw [tm_add hi_66 h_80]; rfl) ?_
          refine n_callV (mi' := miX12_decides) dX12_decides_144 lX12_452 mX12_decides (by decide) rfl rfl rfl (ih (wl := nbO wl w (mnN (stW S n set) k)) (many := many + 1) (VM_frM hMi hF ((frM.r (M := M1)).si (k := 142) (j := many) (x := nI k) rfl : frM (fun a _ => a = 142) M1 _) (fun j _ => by omega)) (or_lt2 hset hi_66) (by rw [Nat.add_mul]; omega) (siN hI_66.1 (by omega)) (nbb hF (by omega) hmany hw hwb) (by omega) (fun M_144 hd_144 => ?_) d) rfl rfl (by omega) (by decide) (Nat.le_of_ble_eq_true rfl)
          show AW _ _ _ _ _ _ _
          refine n_iinc (c := 1) rfl rfl (by decide) rfl dX12_decides_147 ?_
          refine a_goto 66 dX12_decides_150 (by decide) ?_
          exact a_bk (ih_66 _ (lp_st hF hi_66 hal (by omega) hI_66 hd_144)) ⟨rfl, rfl, rfl, rfl, rfl, rfl, trivial⟩
        · refine a_goto 147 dX12_decides_99 (by decide) ?_
          refine n_iinc (c := 1) rfl rfl (by decide) rfl dX12_decides_147 ?_
          refine a_goto 66 dX12_decides_150 (by decide) ?_
          exact a_bk (ih_66 _ (lp_no hI_66 (by unfold stW stN; rw [if_neg (fun q => by unfold alwB at q; rw [decide_eq_false h_96] at q; simp at q)]; exact Nat.le_refl _))) ⟨rfl, rfl, rfl, rfl, rfl, rfl, trivial⟩
  exact a_bk (loop_66 0 (by omega) _ (lp_0 hwl)) ⟨rfl, rfl, rfl, rfl, rfl, rfl, trivial⟩

theorem c_decN {S : ST} (hF : WF S) (hoa : oaN S = true) : ∀ (n : Nat) {M : Mm} {many set w : Nat} {wl : Option Nat}, VM 0 M S → set < 2 ^ S 0 2 → w ≤ many * 75600 → M.1 132 27 = optI wl → (∀ c, wl = some c → c ≤ 1000000) → many + n = S 0 2 → ∀ {Q : Option Value → Mm → Prop}, (∀ M', dcP S n many set w wl M M' → Q none M') → ∀ d, AMt miX12_decides (d + 3 + n) [.ref 132, .int (nI many), .int (nI set), .int (nI (tmN S set)), .int (nI w)] M Q
  | 0, M, many, set, w, wl, hM, hs, hw, hwl, hwb, hmn, Q, hQ, d => c_dec0 hM hF hoa hs hw hwl hwb (by omega) hQ d
  | n + 1, M, many, set, w, wl, hM, hs, hw, hwl, hwb, hmn, Q, hQ, d => c_decS hM hF hoa hs hw hwl hwb hmn (fun {_ _ _ _ _} a b c e f g {_} h d => c_decN hF hoa n a b c e f g h d) hQ d
theorem ch_0 {S : ST} (h : wF S (S 0 2) 0 < FAR) : chG none 0 (wF S (S 0 2) 0) := ⟨h, fun c z => by cases z⟩
theorem ch_n {S : ST} (h : ¬ wF S (S 0 2) 0 < FAR) : ¬ chG none 0 (wF S (S 0 2) 0) := fun z => h z.1
theorem tm_0 (S : ST) : tmN S 0 = 0 := by
  unfold tmN
  have := sumN_le (f := fun k => if (0 : Nat).testBit k = true then ldN S k else 0) (b := 0) (n := S 0 2) (fun j _ => by simp)
  omega

theorem c_dec8 {S : ST} (hF : WF S) (hoa : oaN S = true) {M : Mm} (hM : VM 0 (siM M 132 27 (-1)) S) (hk0 : 0 < 2 ^ S 0 2) {Q : Option Value → Mm → Prop} (hQ : ∀ M', dcP S (S 0 2) 0 0 0 none (siM M 132 27 (-1)) M' → Q none M') (d : Nat) : AMt miX12_decides (d + 3 + S 0 2) [.ref 132, .int (nI 0), .int (nI 0), .int (nI 0), .int (nI 0)] (siM M 132 27 (-1)) Q := by
  have := c_decN hF hoa (S 0 2) (M := siM M 132 27 (-1)) (many := 0) (set := 0) (w := 0) (wl := none) hM hk0 (by omega) siS (fun c z => by cases z) (by omega) hQ d
  rw [tm_0] at this
  exact this

set_option maxRecDepth 100000 in
set_option maxHeartbeats 800000 in
theorem c_X12_isOrdered {M : Mm} {S : ST} (hM : VM 0 M S) (hF : WF S) {Q : Option Value → Mm → Prop} (h1 : ∀ M', owN S = some (wF S (S 0 2) 0) → wF S (S 0 2) 0 < FAR → M'.1 132 27 = nI (wF S (S 0 2) 0) → (∀ j, j < S 0 2 → M'.1 141 j = nI (ogN S (S 0 2) 0 j)) → frM (fun k j => (k = 132 ∧ j = 27) ∨ k = 141 ∨ k = 142) M M' → Q (some (.int (nI 1))) M') (h0 : owN S = none → ∀ M', frM (fun k j => (k = 132 ∧ j = 27) ∨ k = 141 ∨ k = 142) M M' → Q (some (.int (nI 0))) M') (d : Nat) : AMt miX12_isOrdered (d + 10) [.ref 132] M Q := by
  refine AMt.of (by decide) (Nat.le_of_ble_eq_true rfl) ?_
  show AW miX12_isOrdered (d + 10) (mxA Q) 0 [(0, some (.ref 132))] [] M
  have hm := WF_m hF
  have hh := WF_h hF
  have hs := WF_s hF
  have hn := WF_n hF
  have hk3 := pow_le hm
  have hk0 := Nat.two_pow_pos (S 0 2)
  refine n_iconst 0 rfl dX12_isOrdered_0 ?_
  refine a_istore_n (by decide) rfl dX12_isOrdered_1 ?_
  have loop_2 : ∀ i, i ≤ S 0 2 → (∀ j, j < i → (loadN S j).isSome = true) → AW miX12_isOrdered (d + 10) (mxA Q) 2 [(0, some (.ref 132)), (1, some (.int (nI i)))] [] M := by
    refine up (W := fun i => (∀ j, j < i → (loadN S j).isSome = true) → AW miX12_isOrdered (d + 10) (mxA Q) 2 [(0, some (.ref 132)), (1, some (.int (nI i)))] [] M) (S 0 2) (fun hI_2 => ?_) (fun i hi_2 ih_2 hI_2 => ?_)
    · refine a_iload_n rfl dX12_isOrdered_2 ?_
      refine a_aload_n rfl dX12_isOrdered_3 ?_
      refine a_geta dX12_isOrdered_4 fX12_35 (by decide) rfl rfl ?_
      refine n_iconst 0 rfl dX12_isOrdered_7 ?_
      refine v_iald (by omega) (VM_s0 hM) (by decide) rfl (by decide) dX12_isOrdered_8 ?_
      refine n_icmp_ge 28 (by omega) (by omega) dX12_isOrdered_9 (by decide) (fun h_9 => ?_) (fun h_9 => absurd h_9 (by omega))
      have hoa : oaN S = true := alN_bit.mpr hI_2
      refine a_aload_n rfl dX12_isOrdered_28 ?_
      refine a_iconst (-1) rfl dX12_isOrdered_29 ?_
      refine a_puti dX12_isOrdered_30 pX12_446 (by decide) rfl rfl ?_
      refine a_aload_n rfl dX12_isOrdered_33 ?_
      refine n_iconst 0 rfl dX12_isOrdered_34 ?_
      refine n_iconst 0 rfl dX12_isOrdered_35 ?_
      refine n_iconst 0 rfl dX12_isOrdered_36 ?_
      refine n_iconst 0 rfl dX12_isOrdered_37 ?_
      have hM0 : VM 0 (siM M 132 27 (-1)) S := VM_frM hM hF ((frM.r (M := M)).si (k := 132) (j := 27) (x := -1) ⟨rfl, rfl⟩ : frM (fun a b => a = 132 ∧ b = 27) M _) (fun j _ => by omega)
      refine n_callV (mi' := miX12_decides) dX12_isOrdered_38 lX12_452 mX12_decides (by decide) rfl rfl rfl (c_dec8 hF hoa hM0 hk0 (fun M_38 hd_38 => ?_) d) rfl rfl (by omega) (by decide) (Nat.le_of_ble_eq_true rfl)
      show AW _ _ _ _ _ _ _
      have hfd : frM (fun k j => (k = 132 ∧ j = 27) ∨ k = 141 ∨ k = 142) M M_38 := ((frM.r (M := M)).si (k := 132) (j := 27) (x := -1) (by omega)).t (hd_38.2.1.mo (fun k j h => by omega))
      refine a_aload_n rfl dX12_isOrdered_41 ?_
      refine a_geti dX12_isOrdered_42 fX12_446 (by decide) rfl rfl ?_
      by_cases hw9 : wF S (S 0 2) 0 < FAR
      · have hw10 : wF S (S 0 2) 0 < 1000000 := hw9
        refine a_eqi (y := nI (wF S (S 0 2) 0)) (by rw [hd_38.1, nb_t (ch_0 hw9), Nat.zero_add]; rfl) ?_
        refine n_if_lt (tgt := 52) (by omega) dX12_isOrdered_45 (by decide) ?_
        refine n_iconst 1 rfl dX12_isOrdered_48 ?_
        refine a_goto 53 dX12_isOrdered_49 (by decide) ?_
        refine a_zret dX12_isOrdered_53 rfl (Or.inr rfl) ?_
        exact h1 _ (by unfold owN; rw [if_pos ⟨hoa, hw9⟩]) hw9 (by rw [hd_38.1, nb_t (ch_0 hw9), Nat.zero_add]; rfl) (fun j hj => by have := (hd_38.2.2.1 (ch_0 hw9)).2 j hj; rw [Nat.zero_add] at this; exact this) hfd
      · refine a_eqi (y := -1) (by rw [hd_38.1, nb_f (ch_n hw9)]; rfl) ?_
        refine r_if_lt 52 dX12_isOrdered_45 (by decide) (fun h_45 => ?_) (fun h_45 => absurd (by decide) h_45)
        refine n_iconst 0 rfl dX12_isOrdered_52 ?_
        refine a_zret dX12_isOrdered_53 rfl (Or.inl rfl) ?_
        exact h0 (by unfold owN; rw [if_neg (fun q => hw9 q.2)]) _ hfd
    · refine a_iload_n rfl dX12_isOrdered_2 ?_
      refine a_aload_n rfl dX12_isOrdered_3 ?_
      refine a_geta dX12_isOrdered_4 fX12_35 (by decide) rfl rfl ?_
      refine n_iconst 0 rfl dX12_isOrdered_7 ?_
      refine v_iald (by omega) (VM_s0 hM) (by decide) rfl (by decide) dX12_isOrdered_8 ?_
      refine n_icmp_ge 28 (by omega) (by omega) dX12_isOrdered_9 (by decide) (fun h_9 => absurd h_9 (by omega)) (fun h_9 => ?_)
      refine a_aload_n rfl dX12_isOrdered_12 ?_
      refine a_iload_n rfl dX12_isOrdered_13 ?_
      refine n_callV (mi' := miX12_loadOf) dX12_isOrdered_14 lX12_365 mX12_loadOf (by decide) rfl rfl rfl (c_X12_loadOf hM hF (by omega) (fun v_14 hl_14 => ?_) (fun hl_14 => ?_) d) rfl rfl (by omega) (by decide) (Nat.le_of_ble_eq_true rfl)
      · show AW _ _ _ _ _ _ _
        have hv_14 : v_14 ≤ 200 := loadN_le (WF_clear hF i hi_2) (WF_pace hF i hi_2) hl_14
        refine n_if_ge 22 (by omega) dX12_isOrdered_17 (by decide) ?_
        refine n_iinc (c := 1) rfl rfl (by decide) rfl dX12_isOrdered_22 ?_
        refine a_goto 2 dX12_isOrdered_25 (by decide) ?_
        exact a_bk (ih_2 (fun j hj => by
            rcases (show j < i ∨ j = i by omega) with h | h
            · exact hI_2 j h
            · subst h; rw [hl_14]; rfl)) ⟨rfl, rfl, trivial⟩
      · show AW _ _ _ _ _ _ _
        refine r_if_ge 22 dX12_isOrdered_17 (by decide) (fun h_17 => absurd h_17 (by decide)) (fun h_17 => ?_)
        refine n_iconst 0 rfl dX12_isOrdered_20 ?_
        refine a_zret dX12_isOrdered_21 rfl (Or.inl rfl) ?_
        exact h0 (or_no hi_2 hl_14) _ frM.r
  exact a_bk (loop_2 0 (by omega) (fun j hj => absurd hj (by omega))) ⟨rfl, rfl, trivial⟩

set_option maxRecDepth 100000 in
set_option maxHeartbeats 800000 in
theorem c_X12_waiting {M : Mm} {T : TT} (hI : IM M T) (hG : TG T)  {Q : Option Value → Mm → Prop} (hQ : ∀ M', IM M' (sp_waiting T).2 → keX M M' → Q (some (.int (sp_waiting T).1)) M') (d : Nat) : AMt miX12_waiting (d + 11) [.ref 132] M Q := by
  refine AMt.of (by decide) (Nat.le_of_ble_eq_true rfl) ?_
  show AW miX12_waiting (d + 11) (mxA Q) 0 [(0, some (.ref 132))] [] M
  have hF : WF (tS T) := hG.1.1
  have hM : VM 0 M (tS T) := hI.1.1
  have hM1 := m0_VM hM hF
  have hm : tS T 0 2 ≤ 6 := WF_m hF
  have hh : tS T 0 3 ≤ 10 := WF_h hF
  have hs : tS T 0 4 ≤ 7 := WF_s hF
  have hn : tS T 0 5 ≤ 8 := WF_n hF
  have hd9 : tS T 0 1 ≤ 9999 := hG.1.2.2.2.2.1
  refine a_aload_n rfl dX12_waiting_0 ?_
  refine n_iconst 0 rfl dX12_waiting_1 ?_
  refine a_puti dX12_waiting_2 pX12_69 (by decide) rfl rfl ?_
  refine a_aload_n rfl dX12_waiting_5 ?_
  refine n_iconst 0 rfl dX12_waiting_6 ?_
  refine a_puti dX12_waiting_7 pX12_72 (by decide) rfl rfl ?_
  show AW miX12_waiting (d + 11) (mxA Q) 10 [(0, some (.ref 132))] [] (m0 M)
  refine a_aload_n rfl dX12_waiting_10 ?_
  refine n_callV (mi' := miX12_isOrdered) dX12_waiting_11 lX12_456 mX12_isOrdered (by decide) rfl rfl rfl (c_X12_isOrdered hM1 hF (fun M_11 he_11 hw_11 ha_11 hb_11 hf_11 => ?_) (fun he_11 M_11 hf_11 => ?_) d) rfl rfl (by omega) (by decide) (Nat.le_of_ble_eq_true rfl)
  · show AW _ _ _ _ _ _ _
    have hM_11 : VM 0 M_11 (tS T) := VM_frM hM1 hF hf_11 (fun j _ => by omega)
    have hw9 : wF (tS T) (tS T 0 2) 0 < 1000000 := hw_11
    refine n_if_eq 24 (by decide) dX12_waiting_14 (by decide) (fun h => absurd h (by decide)) (fun _ => ?_)
    refine a_aload_n rfl dX12_waiting_17 ?_
    refine g_i ha_11 (by decide) rfl fX12_446 rfl dX12_waiting_18 ?_
    refine a_goto 30 dX12_waiting_21 (by decide) ?_
    refine a_iret dX12_waiting_30 rfl ?_
    exact fin_qM hQ hI hG (by unfold sp_waiting; rw [he_11]) (hf_11.f.i m0_s (by omega)) (m0_fr.t (hf_11.f.mo (fun k j h => by unfold scM coM; omega)))
  · show AW _ _ _ _ _ _ _
    have hM_11 : VM 0 M_11 (tS T) := VM_frM hM1 hF hf_11 (fun j _ => by omega)
    refine n_if_eq 24 (by decide) dX12_waiting_14 (by decide) (fun _ => ?_) (fun h => absurd h (by decide))
    refine a_aload_n rfl dX12_waiting_24 ?_
    refine n_bipush 8 rfl dX12_waiting_25 ?_
    refine n_callV (mi' := miX12_refuse) dX12_waiting_27 lX12_345 mX12_refuse (by decide) rfl rfl rfl (c_X12_refuse ?_ d) rfl rfl (by omega) (by decide) (Nat.le_of_ble_eq_true rfl)
    show AW _ _ _ _ _ _ _
    refine a_iret dX12_waiting_30 rfl ?_
    exact fin_qM hQ hI hG (by unfold sp_waiting; rw [he_11]) siS ((m0_fr.t (hf_11.f.mo (fun k j h => by unfold scM coM; omega))).si (by unfold scM coM; omega))

set_option maxRecDepth 100000 in
set_option maxHeartbeats 800000 in
theorem c_X12_orderAt {M : Mm} {T : TT} (hI : IM M T) (hG : TG T) {k : Int32} {Q : Option Value → Mm → Prop} (hQ : ∀ M', IM M' (sp_orderAt k T).2 → keX M M' → Q (some (.int (sp_orderAt k T).1)) M') (d : Nat) : AMt miX12_orderAt (d + 11) [.ref 132, .int k] M Q := by
  refine AMt.of (by decide) (Nat.le_of_ble_eq_true rfl) ?_
  show AW miX12_orderAt (d + 11) (mxA Q) 0 [(0, some (.ref 132)), (1, some (.int k))] [] M
  have hF : WF (tS T) := hG.1.1
  have hM : VM 0 M (tS T) := hI.1.1
  have hM1 := m0_VM hM hF
  have hm : tS T 0 2 ≤ 6 := WF_m hF
  have hh : tS T 0 3 ≤ 10 := WF_h hF
  have hs : tS T 0 4 ≤ 7 := WF_s hF
  have hn : tS T 0 5 ≤ 8 := WF_n hF
  have hd9 : tS T 0 1 ≤ 9999 := hG.1.2.2.2.2.1
  refine a_aload_n rfl dX12_orderAt_0 ?_
  refine n_iconst 0 rfl dX12_orderAt_1 ?_
  refine a_puti dX12_orderAt_2 pX12_69 (by decide) rfl rfl ?_
  refine a_aload_n rfl dX12_orderAt_5 ?_
  refine n_iconst 0 rfl dX12_orderAt_6 ?_
  refine a_puti dX12_orderAt_7 pX12_72 (by decide) rfl rfl ?_
  show AW miX12_orderAt (d + 11) (mxA Q) 10 [(0, some (.ref 132)), (1, some (.int k))] [] (m0 M)
  refine a_aload_n rfl dX12_orderAt_10 ?_
  refine n_callV (mi' := miX12_isOrdered) dX12_orderAt_11 lX12_456 mX12_isOrdered (by decide) rfl rfl rfl (c_X12_isOrdered hM1 hF (fun M_11 he_11 hw_11 ha_11 hb_11 hf_11 => ?_) (fun he_11 M_11 hf_11 => ?_) d) rfl rfl (by omega) (by decide) (Nat.le_of_ble_eq_true rfl)
  · show AW _ _ _ _ _ _ _
    have hM_11 : VM 0 M_11 (tS T) := VM_frM hM1 hF hf_11 (fun j _ => by omega)
    have hw9 : wF (tS T) (tS T 0 2) 0 < 1000000 := hw_11
    refine n_if_eq 44 (by decide) dX12_orderAt_14 (by decide) (fun h => absurd h (by decide)) (fun _ => ?_)
    refine a_iload_n rfl dX12_orderAt_17 ?_
    refine a_i2l dX12_orderAt_18 ?_
    refine a_lconst 0 rfl dX12_orderAt_19 ?_
    refine a_aload_n rfl dX12_orderAt_20 ?_
    refine a_geta dX12_orderAt_21 fX12_35 (by decide) rfl rfl ?_
    refine n_iconst 0 rfl dX12_orderAt_24 ?_
    refine v_iald (by omega) (VM_s0 hM_11) (by decide) rfl (by decide) dX12_orderAt_25 ?_
    refine n_iconst 1 rfl dX12_orderAt_26 ?_
    refine a_isub dX12_orderAt_27 ?_
    refine a_i2l dX12_orderAt_28 ?_
    refine n_callS (mi' := miX12_isIn) dX12_orderAt_29 lX12_104 mX12_isIn (c_X12_isIn (fun h_29 => ?_) (fun h_29 => ?_) d) rfl rfl (by omega) (by decide) (Nat.le_of_ble_eq_true rfl)
    · show AW _ _ _ _ _ _ _
      have h_29 := isIn4 (x := k) (a := 0) (b := ((((tS T) 0 2) : Nat) : Int) - 1) (by decide) (hi_sub (by omega)) h_29
      refine n_if_eq 44 (by decide) dX12_orderAt_32 (by decide) (fun h => absurd h (by decide)) (fun _ => ?_)
      obtain ⟨q, hq, rfl⟩ := inR_of (x := k) (m := tS T 0 2) (by omega) (by omega) (by omega)
      have t_q : (nI q).toInt = (q : Int) := nI_toInt (by omega)
      have i_q : idx (nI q) = q := idx_nI (by omega)
      refine a_aload_n rfl dX12_orderAt_35 ?_
      refine a_geta dX12_orderAt_36 fX12_47 (by decide) rfl rfl ?_
      refine a_iload_n rfl dX12_orderAt_39 ?_
      refine v_iald (by omega) (hb_11 _ (by omega)) (by decide) rfl (by decide) dX12_orderAt_40 ?_
      refine a_goto 50 dX12_orderAt_41 (by decide) ?_
      refine a_iret dX12_orderAt_50 rfl ?_
      exact fin_qM hQ hI hG (by unfold sp_orderAt; rw [if_pos ⟨by rw [he_11]; rfl, by omega⟩, i_q]) (hf_11.f.i m0_s (by omega)) (m0_fr.t (hf_11.f.mo (fun k j h => by unfold scM coM; omega)))
    · show AW _ _ _ _ _ _ _
      have h_29 := isIn4n (x := k) (a := 0) (b := ((((tS T) 0 2) : Nat) : Int) - 1) (by decide) (hi_sub (by omega)) h_29
      refine n_if_eq 44 (by decide) dX12_orderAt_32 (by decide) (fun _ => ?_) (fun h => absurd h (by decide))
      refine a_aload_n rfl dX12_orderAt_44 ?_
      refine n_bipush 8 rfl dX12_orderAt_45 ?_
      refine n_callV (mi' := miX12_refuse) dX12_orderAt_47 lX12_345 mX12_refuse (by decide) rfl rfl rfl (c_X12_refuse ?_ d) rfl rfl (by omega) (by decide) (Nat.le_of_ble_eq_true rfl)
      show AW _ _ _ _ _ _ _
      refine a_iret dX12_orderAt_50 rfl ?_
      exact fin_qM hQ hI hG (by unfold sp_orderAt; rw [if_neg (fun q => by have := q.2; omega)]) siS ((m0_fr.t (hf_11.f.mo (fun k j h => by unfold scM coM; omega))).si (by unfold scM coM; omega))
  · show AW _ _ _ _ _ _ _
    have hM_11 : VM 0 M_11 (tS T) := VM_frM hM1 hF hf_11 (fun j _ => by omega)
    refine n_if_eq 44 (by decide) dX12_orderAt_14 (by decide) (fun _ => ?_) (fun h => absurd h (by decide))
    refine a_aload_n rfl dX12_orderAt_44 ?_
    refine n_bipush 8 rfl dX12_orderAt_45 ?_
    refine n_callV (mi' := miX12_refuse) dX12_orderAt_47 lX12_345 mX12_refuse (by decide) rfl rfl rfl (c_X12_refuse ?_ d) rfl rfl (by omega) (by decide) (Nat.le_of_ble_eq_true rfl)
    show AW _ _ _ _ _ _ _
    refine a_iret dX12_orderAt_50 rfl ?_
    exact fin_qM hQ hI hG (by unfold sp_orderAt; rw [if_neg (fun q => by have := q.1; rw [he_11] at this; exact absurd this (by decide))]) siS ((m0_fr.t (hf_11.f.mo (fun k j h => by unfold scM coM; omega))).si (by unfold scM coM; omega))

theorem VM4_addM {M : Mm} {S : ST} (hM : VM 1448 M S) (hF : WF S) {p c : Nat} (hx : S 0 2 < 6) : VM 1448 (siM (siM (siM M 137 (1460 + S 0 2) (nI p)) 137 (1454 + S 0 2) (nI c)) 137 1448 (nI (S 0 2 + 1))) (addMN S p c) := by
  obtain ⟨h0, h1, h2, h3, h4, h5, b2, b1, b3, b4, b5, b6, b7, b8, b9, b10, b11⟩ := hM
  have hm := WF_m hF
  have hh := WF_h hF
  have hs := WF_s hF
  have hn := WF_n hF
  exact ⟨(by exact siS),
    (by exact (siN (siN (siN h1 (by omega)) (by omega)) (by omega))),
    (by exact (siN (siN (siN h2 (by omega)) (by omega)) (by omega))),
    (by exact (siN (siN (siN h3 (by omega)) (by omega)) (by omega))),
    (by exact (siN (siN (siN h4 (by omega)) (by omega)) (by omega))),
    (by exact (siN (siN (siN h5 (by omega)) (by omega)) (by omega))),
    (fun j hj => by
    have hj : j < S 0 2 + 1 := hj
    by_cases e : j = S 0 2
    · rw [e]; exact ((siN siS (by omega))).trans (congrArg nI (by simp [addMN]))
    · exact ((siN (siN (siN (b2 j (by omega)) (by omega)) (by omega)) (by omega))).trans (congrArg nI (by simp [addMN, e]))),
    (fun j hj => by
    have hj : j < S 0 2 + 1 := hj
    by_cases e : j = S 0 2
    · rw [e]; exact ((siN (siN siS (by omega)) (by omega))).trans (congrArg nI (by simp [addMN]))
    · exact ((siN (siN (siN (b1 j (by omega)) (by omega)) (by omega)) (by omega))).trans (congrArg nI (by simp [addMN, e]))),
    (fun j hj => by
    have hj : j < S 0 3 := hj
    exact (siN (siN (siN (b3 j hj) (by omega)) (by omega)) (by omega))),
    (fun j hj => by
    have hj : j < S 0 3 := hj
    exact (siN (siN (siN (b4 j hj) (by omega)) (by omega)) (by omega))),
    (fun j hj => by
    have hj : j < S 0 4 := hj
    exact (siN (siN (siN (b5 j hj) (by omega)) (by omega)) (by omega))),
    (fun j hj => by
    have hj : j < S 0 4 := hj
    exact (siN (siN (siN (b6 j hj) (by omega)) (by omega)) (by omega))),
    (fun j hj => by
    have hj : j < S 0 4 := hj
    exact (siN (siN (siN (b7 j hj) (by omega)) (by omega)) (by omega))),
    (fun j hj => by
    have hj : j < S 0 4 := hj
    exact (siN (siN (siN (b8 j hj) (by omega)) (by omega)) (by omega))),
    (fun j hj => by
    have hj : j < S 0 5 := hj
    exact (siN (siN (siN (b9 j hj) (by omega)) (by omega)) (by omega))),
    (fun j hj => by
    have hj : j < S 0 5 := hj
    exact (siN (siN (siN (b10 j hj) (by omega)) (by omega)) (by omega))),
    (fun j hj => by
    have hj : j < S 0 5 := hj
    exact (siN (siN (siN (b11 j hj) (by omega)) (by omega)) (by omega)))⟩

theorem VM4_odd {M : Mm} {S : ST} (hM : VM 1448 M S) (hF : WF S) {x : Nat} : VM 1448 (siM M 137 1452 (nI x)) (upS2 S 0 0 x) := by
  obtain ⟨h0, h1, h2, h3, h4, h5, b2, b1, b3, b4, b5, b6, b7, b8, b9, b10, b11⟩ := hM
  have hm := WF_m hF
  have hh := WF_h hF
  have hs := WF_s hF
  have hn := WF_n hF
  exact ⟨(by exact (siN h0 (by omega))),
    (by exact (siN h1 (by omega))),
    (by exact (siN h2 (by omega))),
    (by exact (siN h3 (by omega))),
    (by exact siS),
    (by exact (siN h5 (by omega))),
    (fun j hj => by
    have hj : j < S 0 2 := hj
    exact (siN (b2 j hj) (by omega))),
    (fun j hj => by
    have hj : j < S 0 2 := hj
    exact (siN (b1 j hj) (by omega))),
    (fun j hj => by
    have hj : j < S 0 3 := hj
    exact (siN (b3 j hj) (by omega))),
    (fun j hj => by
    have hj : j < S 0 3 := hj
    exact (siN (b4 j hj) (by omega))),
    (fun j hj => by
    have hj : j < S 0 4 := hj
    exact (siN (b5 j hj) (by omega))),
    (fun j hj => by
    have hj : j < S 0 4 := hj
    exact (siN (b6 j hj) (by omega))),
    (fun j hj => by
    have hj : j < S 0 4 := hj
    exact (siN (b7 j hj) (by omega))),
    (fun j hj => by
    have hj : j < S 0 4 := hj
    exact (siN (b8 j hj) (by omega))),
    (fun j hj => by
    have hj : j < S 0 5 := hj
    exact (siN (b9 j hj) (by omega))),
    (fun j hj => by
    have hj : j < S 0 5 := hj
    exact (siN (b10 j hj) (by omega))),
    (fun j hj => by
    have hj : j < S 0 5 := hj
    exact (siN (b11 j hj) (by omega)))⟩

def mrP (k j : Nat) : Prop := muP k j ∨ (k = 137 ∧ 1448 ≤ j ∧ j < 1538) ∨ (k = 139 ∧ 52 ≤ j ∧ j < 65)
theorem mu_mr {k j : Nat} (h : muP k j) : mrP k j := Or.inl h
theorem VM_fr4 {M M' : Mm} {S : ST} {o : Nat} {P : Nat → Nat → Prop} (h : VM o M S) (hf : fr P M M') (hp : ∀ j, ¬ P 137 j) : VM o M' S := by
  have e : M'.1 137 = M.1 137 := funext fun j => (hf 137 j (hp j)).1
  unfold VM at h ⊢
  rw [e]; exact h
theorem VNM_adm {M M' : Mm} {S : ST} {N : NM} {p c : Nat} {x : Int64} (h : VNM 4 M S N) (he : ∀ j, j ≠ 52 + S 0 2 → M'.2 139 j = M.2 139 j) (hx : M'.2 139 (52 + S 0 2) = x) (hm : S 0 2 < 6) : VNM 4 M' (addMN S p c) (upN N 0 (S 0 2) x) := by
  refine ⟨fun j hj => ?_, fun j hj => ?_⟩
  · have hj : j < S 0 2 + 1 := hj
    show M'.2 139 (52 + j) = _
    unfold upN
    by_cases e : j = S 0 2
    · rw [if_pos ⟨rfl, e⟩, e]; exact hx
    · rw [if_neg (fun q => e q.2), he _ (by omega)]; exact h.1 j (by omega)
  · have hj : j < S 0 4 := hj
    unfold upN
    rw [if_neg (fun q => absurd q.1 (by decide)), he _ (by omega)]; exact h.2 j hj
theorem VNM_ads {M M' : Mm} {S : ST} {N : NM} {a b k t : Nat} {x : Int64} (h : VNM 4 M S N) (he : ∀ j, j ≠ 58 + S 0 4 → M'.2 139 j = M.2 139 j) (hx : M'.2 139 (58 + S 0 4) = x) (hm : S 0 2 ≤ 6) : VNM 4 M' (addSN S a b k t) (upN N 1 (S 0 4) x) := by
  refine ⟨fun j hj => ?_, fun j hj => ?_⟩
  · have hj : j < S 0 2 := hj
    unfold upN
    rw [if_neg (fun q => absurd q.1 (by decide)), he _ (by omega)]; exact h.1 j hj
  · have hj : j < S 0 4 + 1 := hj
    show M'.2 139 (58 + j) = _
    unfold upN
    by_cases e : j = S 0 4
    · rw [if_pos ⟨rfl, e⟩, e]; exact hx
    · rw [if_neg (fun q => e q.2), he _ (by omega)]; exact h.2 j (by omega)
theorem VNM_fr {M M' : Mm} {S : ST} {N : NM} (h : VNM 4 M S N) (he : ∀ j, (∀ i, i < S 0 2 → j ≠ 52 + i) ∨ True → (j < 52 + S 0 2 ∨ (58 ≤ j ∧ j < 58 + S 0 4)) → M'.2 139 j = M.2 139 j) : VNM 4 M' S N := ⟨fun j hj => (he (52 + j) (Or.inr trivial) (by omega)).trans (h.1 j hj), fun j hj => (he (58 + j) (Or.inr trivial) (by omega)).trans (h.2 j hj)⟩

def m4P (k j : Nat) : Prop := muP k j ∨ (k = 137 ∧ 1448 ≤ j ∧ j < 1538) ∨ (k = 139 ∧ 52 ≤ j ∧ j < 65) ∨ (k = 132 ∧ j = 24)
theorem mu_m4 {k j : Nat} (h : muP k j) : m4P k j := Or.inl h
theorem mr_m4 {k j : Nat} (h : mrP k j) : m4P k j := h.elim Or.inl (fun z => z.elim (fun z => Or.inr (Or.inl z)) (fun z => Or.inr (Or.inr (Or.inl z))))

set_option maxRecDepth 100000 in
set_option maxHeartbeats 800000 in
theorem c_X12_readOdds {M : Mm} {D : Nat → Nat} {n : Nat} (hDl : ∀ j, D j < 256) (hn : n ≤ 900) {c : CC} (hU : MU M D n c) {S : ST} {N : NM} (hM : VM (362 * 4) M S) (hF : WF S) (hN : VNM 4 M S N) (h0 : c.2.1 = 0) (hk1 : kd (tkN D n) c = 1) {t : Nat} (ht : M.1 132 24 = nI t) (ht1 : t ≤ 1) {Q : Option Value → Mm → Prop} (hQ : ∀ M', MU M' D n (ptO (tkN D n) t S N c).1 → ((ptO (tkN D n) t S N c).1.2.1 = 0 → VM (362 * 4) M' (ptO (tkN D n) t S N c).2.1 ∧ VNM 4 M' (ptO (tkN D n) t S N c).2.1 (ptO (tkN D n) t S N c).2.2) → M'.1 132 24 = nI 1 → fr m4P M M' → Q none M') (d : Nat) : AMt miX12_readOdds (d + 6) [.ref 132] M Q := by
  refine AMt.of (by decide) (Nat.le_of_ble_eq_true rfl) ?_
  show AW miX12_readOdds (d + 6) (mxA Q) 0 [(0, some (.ref 132))] [] M
  have hf7 := hU.2.2.2.2
  have hKG := tkN_G (D := D) hn c.1
  have hkd : kd (tkN D n) c ≤ 6 := hKG.1
  have hst := hKG.2.1
  obtain ⟨mk0, mk1, mk2, mk3, mk4, mk5⟩ := mkd_i hkd
  have hm := WF_m hF
  have hh := WF_h hF
  have hs := WF_s hF
  have hn8 := WF_n hF
  refine a_aload_n rfl dX12_readOdds_0 ?_
  refine g_i ht (by decide) rfl fX12_253 rfl dX12_readOdds_1 ?_
  refine n_if_eq 16 (by omega) dX12_readOdds_4 (by decide) (fun h_4 => ?_) (fun h_4 => ?_)
  · refine a_aload_n rfl dX12_readOdds_16 ?_
    refine n_iconst 1 rfl dX12_readOdds_17 ?_
    refine a_putz dX12_readOdds_18 pX12_253 (by decide) rfl rfl (Or.inr rfl) ?_
    have hft : fr (fun k j => k = 132 ∧ j = 24) M (siM M 132 24 (nI 1)) := fr.r.si (by omega)
    have hUt := MU_fr hU hft (fun k j z => by omega)
    have hMt := VM_fr4 hM hft (fun j => by omega)
    have hNt := VNM_fr hN (fun j _ _ => (hft 139 j (by omega)).2)
    refine a_aload_n rfl dX12_readOdds_21 ?_
    refine n_iconst 1 rfl dX12_readOdds_22 ?_
    refine n_callV (mi' := miX12_must) dX12_readOdds_23 lX12_228 mX12_must (by decide) rfl rfl rfl (c_X12_must (c := c) (b := true) hDl hn hUt (x := 1) rfl (fun M_23 hc_23 hf_23 => ?_) d) rfl rfl (by omega) (by decide) (Nat.le_of_ble_eq_true rfl)
    show AW _ _ _ _ _ _ _
    rw [if_pos rfl] at hc_23
    have hq_23 : spC (tkN D n) (c) = odA (tkN D n) t c := congrArg (spC (tkN D n)) (if_neg (fun q => absurd (of_decide_eq_true q) (by omega))).symm
    rw [hq_23] at hc_23
    have hM_23 := VM_mu hMt hf_23
    have hN_23 := VNM_mu hNt hf_23
    have h7_23 : (odA (tkN D n) t c).2.1 ≤ 7 := hc_23.2.2.2.2
    have h9_23 : (tkN D n (odA (tkN D n) t c).1).2.1 ≤ 900 := (tkN_G (D := D) hn (odA (tkN D n) t c).1).2.1
    refine a_aload_n rfl dX12_readOdds_26 ?_
    refine n_iconst 0 rfl dX12_readOdds_27 ?_
    refine n_bipush 16 rfl dX12_readOdds_28 ?_
    refine n_callV (mi' := miX12_count) dX12_readOdds_30 lX12_232 mX12_count (by decide) rfl rfl rfl (c_X12_count (c := odA (tkN D n) t c) (lo := 0) (hi := 16) hDl hn hc_23 (by decide) (by decide) (fun M_30 v_30 hc_30 hv_30 hf_30 => ?_) d) rfl rfl (by omega) (by decide) (Nat.le_of_ble_eq_true rfl)
    show AW _ _ _ _ _ _ _
    have hM_30 := VM_mu hM_23 hf_30
    have hN_30 := VNM_mu hN_23 hf_30
    have h7_30 : (numC (tkN D n) 0 16 (odA (tkN D n) t c)).2.1 ≤ 7 := hc_30.2.2.2.2
    have h9_30 : (tkN D n (numC (tkN D n) 0 16 (odA (tkN D n) t c)).1).2.1 ≤ 900 := (tkN_G (D := D) hn (numC (tkN D n) 0 16 (odA (tkN D n) t c)).1).2.1
    refine a_istore_n (by decide) rfl dX12_readOdds_33 ?_
    refine a_aload_n rfl dX12_readOdds_34 ?_
    refine g_i (show M_30.1 132 12 = nI (numC (tkN D n) 0 16 (odA (tkN D n) t c)).2.1 from hc_30.2.2.1) (by decide) rfl fX12_212 rfl dX12_readOdds_35 ?_
    refine n_if_ne 50 (by omega) dX12_readOdds_38 (by decide) (fun h_38 => ?_) (fun h_38 => ?_)
    · refine a_vret dX12_readOdds_50 rfl ?_
      exact hQ _ hc_30 (fun z => absurd (show (numC (tkN D n) 0 16 (odA (tkN D n) t c)).2.1 = 0 from z) h_38) (hf_30.i (hf_23.i siS (by unfold muP; omega)) (by unfold muP; omega)) (((hft.mo (fun k j h => Or.inr (Or.inr (Or.inr h)))).t (hf_23.mo (fun _ _ h => mu_m4 h))).t (hf_30.mo (fun _ _ h => mu_m4 h)))
    · have e30 := hv_30 h_38
      subst e30
      refine a_aload_n rfl dX12_readOdds_41 ?_
      refine a_geta dX12_readOdds_42 fX12_35 (by decide) rfl rfl ?_
      refine n_sipush 1452 rfl dX12_readOdds_45 ?_
      refine a_iload_n rfl dX12_readOdds_48 ?_
      refine n_iast (by omega) (by decide) rfl (by decide) dX12_readOdds_49 ?_
      refine a_vret dX12_readOdds_50 rfl ?_
      have hfo : fr (fun k j => k = 137 ∧ j = 1452) M_30 (siM M_30 137 1452 (nI (cd (tkN D n) (odA (tkN D n) t c)))) := fr.r.si (by omega)
      exact hQ _ (MU_fr hc_30 hfo (fun k j z => by omega)) (fun _ => ⟨VM4_odd hM_30 hF, VNM_fr hN_30 (fun j _ _ => (hfo 139 j (by omega)).2)⟩) (siN (hf_30.i (hf_23.i siS (by unfold muP; omega)) (by unfold muP; omega)) (by omega)) ((((hft.mo (fun k j h => Or.inr (Or.inr (Or.inr h)))).t (hf_23.mo (fun _ _ h => mu_m4 h))).t (hf_30.mo (fun _ _ h => mu_m4 h))).t (hfo.mo (fun k j h => Or.inr (Or.inl (by omega)))))
  · refine a_aload_n rfl dX12_readOdds_7 ?_
    refine n_iconst 5 rfl dX12_readOdds_8 ?_
    refine a_aload_n rfl dX12_readOdds_9 ?_
    refine g_i hU.2.1.2.1 (by decide) rfl fX12_118 rfl dX12_readOdds_10 ?_
    refine n_callV (mi' := miX12_fail) dX12_readOdds_13 lX12_218 mX12_fail (by decide) rfl rfl rfl (c_X12_fail (c := c) hDl hn hU (by omega) (fun _ => by omega) rfl (fun M_13 hc_13 hf_13 => ?_) d) rfl rfl (by omega) (by decide) (Nat.le_of_ble_eq_true rfl)
    show AW _ _ _ _ _ _ _
    have hM_13 := VM_mu hM hf_13
    have hN_13 := VNM_mu hN hf_13
    have h7_13 : (flC (tkN D n) 5 c).2.1 ≤ 7 := hc_13.2.2.2.2
    have h9_13 : (tkN D n (flC (tkN D n) 5 c).1).2.1 ≤ 900 := (tkN_G (D := D) hn (flC (tkN D n) 5 c).1).2.1
    refine a_aload_n rfl dX12_readOdds_16 ?_
    refine n_iconst 1 rfl dX12_readOdds_17 ?_
    refine a_putz dX12_readOdds_18 pX12_253 (by decide) rfl rfl (Or.inr rfl) ?_
    have hft : fr (fun k j => k = 132 ∧ j = 24) M_13 (siM M_13 132 24 (nI 1)) := fr.r.si (by omega)
    have hUt := MU_fr hc_13 hft (fun k j z => by omega)
    have hMt := VM_fr4 hM_13 hft (fun j => by omega)
    have hNt := VNM_fr hN_13 (fun j _ _ => (hft 139 j (by omega)).2)
    refine a_aload_n rfl dX12_readOdds_21 ?_
    refine n_iconst 1 rfl dX12_readOdds_22 ?_
    refine n_callV (mi' := miX12_must) dX12_readOdds_23 lX12_228 mX12_must (by decide) rfl rfl rfl (c_X12_must (c := flC (tkN D n) 5 c) (b := true) hDl hn hUt (x := 1) rfl (fun M_23 hc_23 hf_23 => ?_) d) rfl rfl (by omega) (by decide) (Nat.le_of_ble_eq_true rfl)
    show AW _ _ _ _ _ _ _
    rw [if_pos rfl] at hc_23
    have hq_23 : spC (tkN D n) (flC (tkN D n) 5 c) = odA (tkN D n) t c := congrArg (spC (tkN D n)) (if_pos (decide_eq_true (by omega))).symm
    rw [hq_23] at hc_23
    have hM_23 := VM_mu hMt hf_23
    have hN_23 := VNM_mu hNt hf_23
    have h7_23 : (odA (tkN D n) t c).2.1 ≤ 7 := hc_23.2.2.2.2
    have h9_23 : (tkN D n (odA (tkN D n) t c).1).2.1 ≤ 900 := (tkN_G (D := D) hn (odA (tkN D n) t c).1).2.1
    refine a_aload_n rfl dX12_readOdds_26 ?_
    refine n_iconst 0 rfl dX12_readOdds_27 ?_
    refine n_bipush 16 rfl dX12_readOdds_28 ?_
    refine n_callV (mi' := miX12_count) dX12_readOdds_30 lX12_232 mX12_count (by decide) rfl rfl rfl (c_X12_count (c := odA (tkN D n) t c) (lo := 0) (hi := 16) hDl hn hc_23 (by decide) (by decide) (fun M_30 v_30 hc_30 hv_30 hf_30 => ?_) d) rfl rfl (by omega) (by decide) (Nat.le_of_ble_eq_true rfl)
    show AW _ _ _ _ _ _ _
    have hM_30 := VM_mu hM_23 hf_30
    have hN_30 := VNM_mu hN_23 hf_30
    have h7_30 : (numC (tkN D n) 0 16 (odA (tkN D n) t c)).2.1 ≤ 7 := hc_30.2.2.2.2
    have h9_30 : (tkN D n (numC (tkN D n) 0 16 (odA (tkN D n) t c)).1).2.1 ≤ 900 := (tkN_G (D := D) hn (numC (tkN D n) 0 16 (odA (tkN D n) t c)).1).2.1
    refine a_istore_n (by decide) rfl dX12_readOdds_33 ?_
    refine a_aload_n rfl dX12_readOdds_34 ?_
    refine g_i (show M_30.1 132 12 = nI (numC (tkN D n) 0 16 (odA (tkN D n) t c)).2.1 from hc_30.2.2.1) (by decide) rfl fX12_212 rfl dX12_readOdds_35 ?_
    refine n_if_ne 50 (by omega) dX12_readOdds_38 (by decide) (fun h_38 => ?_) (fun h_38 => ?_)
    · refine a_vret dX12_readOdds_50 rfl ?_
      exact hQ _ hc_30 (fun z => absurd (show (numC (tkN D n) 0 16 (odA (tkN D n) t c)).2.1 = 0 from z) h_38) (hf_30.i (hf_23.i siS (by unfold muP; omega)) (by unfold muP; omega)) ((((hf_13.mo (fun _ _ h => mu_m4 h)).t (hft.mo (fun k j h => Or.inr (Or.inr (Or.inr h))))).t (hf_23.mo (fun _ _ h => mu_m4 h))).t (hf_30.mo (fun _ _ h => mu_m4 h)))
    · have e30 := hv_30 h_38
      subst e30
      refine a_aload_n rfl dX12_readOdds_41 ?_
      refine a_geta dX12_readOdds_42 fX12_35 (by decide) rfl rfl ?_
      refine n_sipush 1452 rfl dX12_readOdds_45 ?_
      refine a_iload_n rfl dX12_readOdds_48 ?_
      refine n_iast (by omega) (by decide) rfl (by decide) dX12_readOdds_49 ?_
      refine a_vret dX12_readOdds_50 rfl ?_
      have hfo : fr (fun k j => k = 137 ∧ j = 1452) M_30 (siM M_30 137 1452 (nI (cd (tkN D n) (odA (tkN D n) t c)))) := fr.r.si (by omega)
      exact hQ _ (MU_fr hc_30 hfo (fun k j z => by omega)) (fun _ => ⟨VM4_odd hM_30 hF, VNM_fr hN_30 (fun j _ _ => (hfo 139 j (by omega)).2)⟩) (siN (hf_30.i (hf_23.i siS (by unfold muP; omega)) (by unfold muP; omega)) (by omega)) (((((hf_13.mo (fun _ _ h => mu_m4 h)).t (hft.mo (fun k j h => Or.inr (Or.inr (Or.inr h))))).t (hf_23.mo (fun _ _ h => mu_m4 h))).t (hf_30.mo (fun _ _ h => mu_m4 h))).t (hfo.mo (fun k j h => Or.inr (Or.inl (by omega)))))

set_option maxRecDepth 100000 in
set_option maxHeartbeats 800000 in
theorem c_X12_readMatter {M : Mm} {D : Nat → Nat} {n : Nat} (hDl : ∀ j, D j < 256) (hn : n ≤ 900) {c : CC} (hU : MU M D n c) {S : ST} {N : NM} (hM : VM (362 * 4) M S) (hF : WF S) (hN : VNM 4 M S N) (h0 : c.2.1 = 0) (hk1 : kd (tkN D n) c = 1) {Q : Option Value → Mm → Prop} (hQ : ∀ M', MU M' D n (ptM (tkN D n) S N c).1 → ((ptM (tkN D n) S N c).1.2.1 = 0 → VM (362 * 4) M' (ptM (tkN D n) S N c).2.1 ∧ VNM 4 M' (ptM (tkN D n) S N c).2.1 (ptM (tkN D n) S N c).2.2) → fr mrP M M' → Q none M') (d : Nat) : AMt miX12_readMatter (d + 8) [.ref 132] M Q := by
  refine AMt.of (by decide) (Nat.le_of_ble_eq_true rfl) ?_
  show AW miX12_readMatter (d + 8) (mxA Q) 0 [(0, some (.ref 132))] [] M
  have hf7 := hU.2.2.2.2
  have hKG := tkN_G (D := D) hn c.1
  have hkd : kd (tkN D n) c ≤ 6 := hKG.1
  have hst := hKG.2.1
  obtain ⟨mk0, mk1, mk2, mk3, mk4, mk5⟩ := mkd_i hkd
  have hm := WF_m hF
  have hh := WF_h hF
  have hs := WF_s hF
  have hn8 := WF_n hF
  refine a_aload_n rfl dX12_readMatter_0 ?_
  refine n_iconst 0 rfl dX12_readMatter_1 ?_
  refine n_bipush 6 rfl dX12_readMatter_2 ?_
  refine n_callV (mi' := miX12_readNew) dX12_readMatter_4 lX12_257 mX12_readNew (by decide) rfl rfl rfl (c_readNew0 (c := c) hDl hn hU hM hF hN h0 hk1 (fun M_4 hc_4 hv_4 hf_4 => ?_) d) rfl rfl (by omega) (by decide) (Nat.le_of_ble_eq_true rfl)
  show AW _ _ _ _ _ _ _
  have hM_4 := VM_fr4 hM hf_4 (fun j => by unfold muP; omega)
  have hN_4 := VNM_fr hN (fun j _ hj => (hf_4 139 j (by unfold muP; omega)).2)
  have h7_4 : ((maB (tkN D n) S N c)).2.1 ≤ 7 := hc_4.2.2.2.2
  have h9_4 : (tkN D n ((maB (tkN D n) S N c)).1).2.1 ≤ 900 := (tkN_G (D := D) hn ((maB (tkN D n) S N c)).1).2.1
  refine a_istore_n (by decide) rfl dX12_readMatter_7 ?_
  refine a_aload_n rfl dX12_readMatter_8 ?_
  refine a_aload_n rfl dX12_readMatter_9 ?_
  refine n_callV (mi' := miX12_isPace) dX12_readMatter_10 lX12_166 mX12_isPace (by decide) rfl rfl rfl (v_isPace (c := (maB (tkN D n) S N c)) hDl hn hc_4 (fun x_10 hx_10 => ?_) d) rfl rfl (by omega) (by decide) (Nat.le_of_ble_eq_true rfl)
  show AW _ _ _ _ _ _ _
  refine n_iconst 0 rfl dX12_readMatter_13 ?_
  refine n_bipush 20 rfl dX12_readMatter_14 ?_
  refine n_callV (mi' := miX12_behindWord) dX12_readMatter_16 lX12_260 mX12_behindWord (by decide) rfl rfl rfl (c_X12_behindWord (c := (maB (tkN D n) S N c)) (b := isK (tkN D n) ((maB (tkN D n) S N c)) 2) (x := x_10) (lo := 0) (hi := 20) hDl hn hc_4 hx_10 (by decide) (by decide) (fun M_16 v_16 hc_16 hv_16 hf_16 => ?_) d) rfl rfl (by omega) (by decide) (Nat.le_of_ble_eq_true rfl)
  show AW _ _ _ _ _ _ _
  rw [← kwd_b] at hc_16 hv_16
  have hM_16 := VM_mu hM_4 hf_16
  have hN_16 := VNM_mu hN_4 hf_16
  have h7_16 : ((maD (tkN D n) S N c)).2.1 ≤ 7 := hc_16.2.2.2.2
  have h9_16 : (tkN D n ((maD (tkN D n) S N c)).1).2.1 ≤ 900 := (tkN_G (D := D) hn ((maD (tkN D n) S N c)).1).2.1
  refine a_istore_n (by decide) rfl dX12_readMatter_19 ?_
  refine a_aload_n rfl dX12_readMatter_20 ?_
  refine a_aload_n rfl dX12_readMatter_21 ?_
  refine n_callV (mi' := miX12_isClearWord) dX12_readMatter_22 lX12_169 mX12_isClearWord (by decide) rfl rfl rfl (v_isClearWord (c := (maD (tkN D n) S N c)) hDl hn hc_16 (fun x_22 hx_22 => ?_) d) rfl rfl (by omega) (by decide) (Nat.le_of_ble_eq_true rfl)
  show AW _ _ _ _ _ _ _
  refine n_callV (mi' := miX12_perhaps) dX12_readMatter_25 lX12_264 mX12_perhaps (by decide) rfl rfl rfl (c_X12_perhaps (c := (maD (tkN D n) S N c)) (b := isK (tkN D n) ((maD (tkN D n) S N c)) 3) (x := x_22) hDl hn hc_16 hx_22 (fun hp0_25 hpk_25 M_25 hc_25 hf_25 => ?_) (fun hp_25 => ?_) d) rfl rfl (by omega) (by decide) (Nat.le_of_ble_eq_true rfl)
  · show AW _ _ _ _ _ _ _
    have hM_25 := VM_mu hM_16 hf_25
    have hN_25 := VNM_mu hN_16 hf_25
    have h7_25 : (spC (tkN D n) ((maD (tkN D n) S N c))).2.1 ≤ 7 := hc_25.2.2.2.2
    have h9_25 : (tkN D n (spC (tkN D n) ((maD (tkN D n) S N c))).1).2.1 ≤ 900 := (tkN_G (D := D) hn (spC (tkN D n) ((maD (tkN D n) S N c))).1).2.1
    refine n_if_eq 41 (by decide) dX12_readMatter_28 (by decide) (fun h => absurd h (by decide)) (fun _ => ?_)
    refine a_aload_n rfl dX12_readMatter_31 ?_
    refine n_iconst 0 rfl dX12_readMatter_32 ?_
    refine n_bipush 100 rfl dX12_readMatter_33 ?_
    refine n_callV (mi' := miX12_count) dX12_readMatter_35 lX12_232 mX12_count (by decide) rfl rfl rfl (c_X12_count (c := spC (tkN D n) ((maD (tkN D n) S N c))) (lo := 0) (hi := 100) hDl hn hc_25 (by decide) (by decide) (fun M_35 v_35 hc_35 hv_35 hf_35 => ?_) d) rfl rfl (by omega) (by decide) (Nat.le_of_ble_eq_true rfl)
    show AW _ _ _ _ _ _ _
    have hM_35 := VM_mu hM_25 hf_35
    have hN_35 := VNM_mu hN_25 hf_35
    have h7_35 : (numC (tkN D n) 0 100 (spC (tkN D n) (maD (tkN D n) S N c))).2.1 ≤ 7 := hc_35.2.2.2.2
    have h9_35 : (tkN D n (numC (tkN D n) 0 100 (spC (tkN D n) (maD (tkN D n) S N c))).1).2.1 ≤ 900 := (tkN_G (D := D) hn (numC (tkN D n) 0 100 (spC (tkN D n) (maD (tkN D n) S N c))).1).2.1
    refine a_goto 42 dX12_readMatter_38 (by decide) ?_
    refine a_istore_n (by decide) rfl dX12_readMatter_42 ?_
    have e1 : opN (tkN D n) 3 0 100 (maD (tkN D n) S N c) = numC (tkN D n) 0 100 (spC (tkN D n) (maD (tkN D n) S N c)) := if_pos hpk_25
    have e2 : opV (tkN D n) 3 0 (maD (tkN D n) S N c) = cd (tkN D n) (spC (tkN D n) (maD (tkN D n) S N c)) := if_pos hpk_25
    refine a_aload_n rfl dX12_readMatter_43 ?_
    refine g_i (show M_35.1 132 12 = nI (numC (tkN D n) 0 100 (spC (tkN D n) (maD (tkN D n) S N c))).2.1 from hc_35.2.2.1) (by decide) rfl fX12_212 rfl dX12_readMatter_44 ?_
    refine n_if_le 51 (by omega) dX12_readMatter_47 (by decide) (fun h_47 => ?_) (fun h_47 => ?_)
    · have hz : (numC (tkN D n) 0 100 (spC (tkN D n) (maD (tkN D n) S N c))).2.1 = 0 := by omega
      have z4 : (maD (tkN D n) S N c).2.1 = 0 := sp_0 (num_0 hz).1
      have z3 := num_0 (show (numC (tkN D n) 0 20 (maC (tkN D n) S N c)).2.1 = 0 from z4)
      have z2 := kwd_0 (show (kwdC (tkN D n) 2 (maB (tkN D n) S N c)).2.1 = 0 from z3.1)
      have z1 := new_0 (show (newC (tkN D n) S N (maA (tkN D n) S c)).2.1 = 0 from z2.1)
      have z0 := bg_0 (by decide) (show (bgC (tkN D n) (decide (6 ≤ S 0 2)) 6 c).2.1 = 0 from z1.1)
      have hm6 : S 0 2 < 6 := Nat.not_le.mp (of_decide_eq_false z0.2.1)
      have hw4 := hv_4 z2.1
      have e16 := hv_16 z4
      subst e16
      have e35 := hv_35 hz
      subst e35
      refine a_aload_n rfl dX12_readMatter_51 ?_
      refine a_geta dX12_readMatter_52 fX12_35 (by decide) rfl rfl ?_
      refine n_sipush 1460 rfl dX12_readMatter_55 ?_
      refine a_iload_n rfl dX12_readMatter_58 ?_
      refine n_iadd dX12_readMatter_59 ?_
      refine a_iload_n rfl dX12_readMatter_60 ?_
      refine n_iast (by omega) (by decide) rfl (by decide) dX12_readMatter_61 ?_
      refine a_aload_n rfl dX12_readMatter_62 ?_
      refine a_geta dX12_readMatter_63 fX12_35 (by decide) rfl rfl ?_
      refine n_sipush 1454 rfl dX12_readMatter_66 ?_
      refine a_iload_n rfl dX12_readMatter_69 ?_
      refine n_iadd dX12_readMatter_70 ?_
      refine a_iload_n rfl dX12_readMatter_71 ?_
      refine n_iast (by omega) (by decide) rfl (by decide) dX12_readMatter_72 ?_
      refine a_aload_n rfl dX12_readMatter_73 ?_
      refine a_geta dX12_readMatter_74 fX12_35 (by decide) rfl rfl ?_
      refine n_sipush 1448 rfl dX12_readMatter_77 ?_
      refine a_dup2i rfl rfl dX12_readMatter_80 ?_
      refine v_iald (by omega) (siN (siN hM_35.1 (by omega)) (by omega)) (by decide) rfl (by decide) dX12_readMatter_81 ?_
      refine n_iconst 1 rfl dX12_readMatter_82 ?_
      refine n_iadd dX12_readMatter_83 ?_
      refine n_iast (by omega) (by decide) rfl (by decide) dX12_readMatter_84 ?_
      refine a_vret dX12_readMatter_85 rfl ?_
      have hfo : fr (fun k j => k = 137 ∧ 1448 ≤ j ∧ j < 1538) M_35 (siM (siM (siM M_35 137 (1460 + S 0 2) (nI (cd (tkN D n) (maC (tkN D n) S N c)))) 137 (1454 + S 0 2) (nI (cd (tkN D n) (spC (tkN D n) (maD (tkN D n) S N c))))) 137 1448 (nI (S 0 2 + 1))) := ((fr.r.si (by omega)).si (by omega)).si (by omega)
      refine hQ _ (by show MU _ D n (opN (tkN D n) 3 0 100 (maD (tkN D n) S N c)); rw [e1]; exact MU_fr hc_35 hfo (fun k j z => by omega)) (fun z => ?_) (((((hf_4.mo (fun k j h => h.elim mu_mr (fun z => Or.inr (Or.inr (by omega))))).t (hf_16.mo (fun _ _ h => mu_mr h))).t (hf_25.mo (fun _ _ h => mu_mr h))).t (hf_35.mo (fun _ _ h => mu_mr h))).t (hfo.mo (fun k j h => Or.inr (Or.inl h))))
      show VM 1448 _ (addMN S (cd (tkN D n) (maC (tkN D n) S N c)) (opV (tkN D n) 3 0 (maD (tkN D n) S N c))) ∧ VNM 4 _ (addMN S (cd (tkN D n) (maC (tkN D n) S N c)) (opV (tkN D n) 3 0 (maD (tkN D n) S N c))) (upN N 0 (S 0 2) (lN (cd (tkN D n) (maA (tkN D n) S c))))
      rw [e2]
      have hfw := ((hf_16.t hf_25).t hf_35)
      refine ⟨VM4_addM hM_35 hF hm6, VNM_adm hN (fun j hj => (hfw 139 j (by unfold muP; omega)).2.trans (hf_4 139 j (by unfold muP; omega)).2) ((hfw 139 _ (by unfold muP; omega)).2.trans hw4) hm6⟩
    · refine a_vret dX12_readMatter_50 rfl ?_
      exact hQ _ (by show MU _ D n (opN (tkN D n) 3 0 100 (maD (tkN D n) S N c)); rw [e1]; exact hc_35) (fun z => absurd (show (opN (tkN D n) 3 0 100 (maD (tkN D n) S N c)).2.1 = 0 from z) (by rw [e1]; omega)) ((((hf_4.mo (fun k j h => h.elim mu_mr (fun z => Or.inr (Or.inr (by omega))))).t (hf_16.mo (fun _ _ h => mu_mr h))).t (hf_25.mo (fun _ _ h => mu_mr h))).t (hf_35.mo (fun _ _ h => mu_mr h)))
  · show AW _ _ _ _ _ _ _
    refine n_if_eq 41 (by decide) dX12_readMatter_28 (by decide) (fun _ => ?_) (fun h => absurd h (by decide))
    refine n_iconst 0 rfl dX12_readMatter_41 ?_
    refine a_istore_n (by decide) rfl dX12_readMatter_42 ?_
    refine a_aload_n rfl dX12_readMatter_43 ?_
    refine g_i (show M_16.1 132 12 = nI ((maD (tkN D n) S N c)).2.1 from hc_16.2.2.1) (by decide) rfl fX12_212 rfl dX12_readMatter_44 ?_
    refine n_if_le 51 (by omega) dX12_readMatter_47 (by decide) (fun h_47 => ?_) (fun h_47 => ?_)
    · have hz : ((maD (tkN D n) S N c)).2.1 = 0 := by omega
      have z4 : (maD (tkN D n) S N c).2.1 = 0 := hz
      have hnk : ¬ isK (tkN D n) (maD (tkN D n) S N c) 3 = true := fun q => hp_25 ⟨z4, q⟩
      have e1 : opN (tkN D n) 3 0 100 (maD (tkN D n) S N c) = (maD (tkN D n) S N c) := if_neg hnk
      have e2 : opV (tkN D n) 3 0 (maD (tkN D n) S N c) = 0 := if_neg hnk
      have z3 := num_0 (show (numC (tkN D n) 0 20 (maC (tkN D n) S N c)).2.1 = 0 from z4)
      have z2 := kwd_0 (show (kwdC (tkN D n) 2 (maB (tkN D n) S N c)).2.1 = 0 from z3.1)
      have z1 := new_0 (show (newC (tkN D n) S N (maA (tkN D n) S c)).2.1 = 0 from z2.1)
      have z0 := bg_0 (by decide) (show (bgC (tkN D n) (decide (6 ≤ S 0 2)) 6 c).2.1 = 0 from z1.1)
      have hm6 : S 0 2 < 6 := Nat.not_le.mp (of_decide_eq_false z0.2.1)
      have hw4 := hv_4 z2.1
      have e16 := hv_16 z4
      subst e16
      refine a_aload_n rfl dX12_readMatter_51 ?_
      refine a_geta dX12_readMatter_52 fX12_35 (by decide) rfl rfl ?_
      refine n_sipush 1460 rfl dX12_readMatter_55 ?_
      refine a_iload_n rfl dX12_readMatter_58 ?_
      refine n_iadd dX12_readMatter_59 ?_
      refine a_iload_n rfl dX12_readMatter_60 ?_
      refine n_iast (by omega) (by decide) rfl (by decide) dX12_readMatter_61 ?_
      refine a_aload_n rfl dX12_readMatter_62 ?_
      refine a_geta dX12_readMatter_63 fX12_35 (by decide) rfl rfl ?_
      refine n_sipush 1454 rfl dX12_readMatter_66 ?_
      refine a_iload_n rfl dX12_readMatter_69 ?_
      refine n_iadd dX12_readMatter_70 ?_
      refine a_iload_n rfl dX12_readMatter_71 ?_
      refine n_iast (by omega) (by decide) rfl (by decide) dX12_readMatter_72 ?_
      refine a_aload_n rfl dX12_readMatter_73 ?_
      refine a_geta dX12_readMatter_74 fX12_35 (by decide) rfl rfl ?_
      refine n_sipush 1448 rfl dX12_readMatter_77 ?_
      refine a_dup2i rfl rfl dX12_readMatter_80 ?_
      refine v_iald (by omega) (siN (siN hM_16.1 (by omega)) (by omega)) (by decide) rfl (by decide) dX12_readMatter_81 ?_
      refine n_iconst 1 rfl dX12_readMatter_82 ?_
      refine n_iadd dX12_readMatter_83 ?_
      refine n_iast (by omega) (by decide) rfl (by decide) dX12_readMatter_84 ?_
      refine a_vret dX12_readMatter_85 rfl ?_
      have hfo : fr (fun k j => k = 137 ∧ 1448 ≤ j ∧ j < 1538) M_16 (siM (siM (siM M_16 137 (1460 + S 0 2) (nI (cd (tkN D n) (maC (tkN D n) S N c)))) 137 (1454 + S 0 2) (nI (0))) 137 1448 (nI (S 0 2 + 1))) := ((fr.r.si (by omega)).si (by omega)).si (by omega)
      refine hQ _ (by show MU _ D n (opN (tkN D n) 3 0 100 (maD (tkN D n) S N c)); rw [e1]; exact MU_fr hc_16 hfo (fun k j z => by omega)) (fun z => ?_) (((hf_4.mo (fun k j h => h.elim mu_mr (fun z => Or.inr (Or.inr (by omega))))).t (hf_16.mo (fun _ _ h => mu_mr h))).t (hfo.mo (fun k j h => Or.inr (Or.inl h))))
      show VM 1448 _ (addMN S (cd (tkN D n) (maC (tkN D n) S N c)) (opV (tkN D n) 3 0 (maD (tkN D n) S N c))) ∧ VNM 4 _ (addMN S (cd (tkN D n) (maC (tkN D n) S N c)) (opV (tkN D n) 3 0 (maD (tkN D n) S N c))) (upN N 0 (S 0 2) (lN (cd (tkN D n) (maA (tkN D n) S c))))
      rw [e2]
      have hfw := hf_16
      refine ⟨VM4_addM hM_16 hF hm6, VNM_adm hN (fun j hj => (hfw 139 j (by unfold muP; omega)).2.trans (hf_4 139 j (by unfold muP; omega)).2) ((hfw 139 _ (by unfold muP; omega)).2.trans hw4) hm6⟩
    · refine a_vret dX12_readMatter_50 rfl ?_
      have e1 : opN (tkN D n) 3 0 100 (maD (tkN D n) S N c) = (maD (tkN D n) S N c) := by
        unfold opN
        split
        · rw [sp_n (show ¬ (maD (tkN D n) S N c).2.1 = 0 by omega), num_n (show ¬ (maD (tkN D n) S N c).2.1 = 0 by omega)]
        · rfl
      exact hQ _ (by show MU _ D n (opN (tkN D n) 3 0 100 (maD (tkN D n) S N c)); rw [e1]; exact hc_16) (fun z => absurd (show (opN (tkN D n) 3 0 100 (maD (tkN D n) S N c)).2.1 = 0 from z) (by rw [e1]; omega)) ((hf_4.mo (fun k j h => h.elim mu_mr (fun z => Or.inr (Or.inr (by omega))))).t (hf_16.mo (fun _ _ h => mu_mr h)))

set_option maxRecDepth 100000 in
set_option maxHeartbeats 800000 in
theorem c_X12_readHold {M : Mm} {D : Nat → Nat} {n : Nat} (hDl : ∀ j, D j < 256) (hn : n ≤ 900) {c : CC} (hU : MU M D n c) {S : ST} {N : NM} (hM : VM (362 * 4) M S) (hF : WF S) (hN : VNM 4 M S N) (h0 : c.2.1 = 0) (hk1 : kd (tkN D n) c = 1) {Q : Option Value → Mm → Prop} (hQ : ∀ M', MU M' D n (ptH (tkN D n) S N c).1 → ((ptH (tkN D n) S N c).1.2.1 = 0 → VM (362 * 4) M' (ptH (tkN D n) S N c).2.1 ∧ VNM 4 M' (ptH (tkN D n) S N c).2.1 (ptH (tkN D n) S N c).2.2) → fr mrP M M' → Q none M') (d : Nat) : AMt miX12_readHold (d + 7) [.ref 132] M Q := by
  refine AMt.of (by decide) (Nat.le_of_ble_eq_true rfl) ?_
  show AW miX12_readHold (d + 7) (mxA Q) 0 [(0, some (.ref 132))] [] M
  have hf7 := hU.2.2.2.2
  have hKG := tkN_G (D := D) hn c.1
  have hkd : kd (tkN D n) c ≤ 6 := hKG.1
  have hst := hKG.2.1
  obtain ⟨mk0, mk1, mk2, mk3, mk4, mk5⟩ := mkd_i hkd
  have hm := WF_m hF
  have hh := WF_h hF
  have hs := WF_s hF
  have hn8 := WF_n hF
  refine a_aload_n rfl dX12_readHold_0 ?_
  refine a_geta dX12_readHold_1 fX12_35 (by decide) rfl rfl ?_
  refine n_sipush 1449 rfl dX12_readHold_4 ?_
  refine v_iald (by omega) (hM.2.1) (by decide) rfl (by decide) dX12_readHold_7 ?_
  refine n_bipush 10 rfl dX12_readHold_8 ?_
  refine n_icmp_ne 23 (by omega) (by omega) dX12_readHold_10 (by decide) (fun h_10 => ?_) (fun h_10 => ?_)
  · refine a_aload_n rfl dX12_readHold_23 ?_
    refine n_iconst 1 rfl dX12_readHold_24 ?_
    refine n_callV (mi' := miX12_must) dX12_readHold_25 lX12_228 mX12_must (by decide) rfl rfl rfl (c_X12_must (c := c) (b := true) hDl hn hU (x := 1) rfl (fun M_25 hc_25 hf_25 => ?_) d) rfl rfl (by omega) (by decide) (Nat.le_of_ble_eq_true rfl)
    show AW _ _ _ _ _ _ _
    rw [if_pos rfl] at hc_25
    have hq_25 : spC (tkN D n) (c) = (hoA (tkN D n) S c) := congrArg (spC (tkN D n)) (if_neg (fun q => absurd (of_decide_eq_true q) (by omega))).symm
    rw [hq_25] at hc_25
    have hM_25 := VM_mu hM hf_25
    have hN_25 := VNM_mu hN hf_25
    have h7_25 : ((hoA (tkN D n) S c)).2.1 ≤ 7 := hc_25.2.2.2.2
    have h9_25 : (tkN D n ((hoA (tkN D n) S c)).1).2.1 ≤ 900 := (tkN_G (D := D) hn ((hoA (tkN D n) S c)).1).2.1
    refine a_aload_n rfl dX12_readHold_28 ?_
    refine n_iconst 4 rfl dX12_readHold_29 ?_
    refine n_iconst 0 rfl dX12_readHold_30 ?_
    refine n_callV (mi' := miX12_readTold) dX12_readHold_31 lX12_268 mX12_readTold (by decide) rfl rfl rfl (c_readTold0 (c := (hoA (tkN D n) S c)) hDl hn hc_25 (b := 4) (by omega) hM_25 hF hN_25 (fun M_31 v_31 hc_31 hv_31 hf_31 => ?_) d) rfl rfl (by omega) (by decide) (Nat.le_of_ble_eq_true rfl)
    show AW _ _ _ _ _ _ _
    have hM_31 := VM_mu hM_25 hf_31
    have hN_31 := VNM_mu hN_25 hf_31
    have h7_31 : ((hoB (tkN D n) S N c)).2.1 ≤ 7 := hc_31.2.2.2.2
    have h9_31 : (tkN D n ((hoB (tkN D n) S N c)).1).2.1 ≤ 900 := (tkN_G (D := D) hn ((hoB (tkN D n) S N c)).1).2.1
    refine a_istore_n (by decide) rfl dX12_readHold_34 ?_
    refine a_aload_n rfl dX12_readHold_35 ?_
    refine a_aload_n rfl dX12_readHold_36 ?_
    refine n_callV (mi' := miX12_isBy) dX12_readHold_37 lX12_175 mX12_isBy (by decide) rfl rfl rfl (v_isBy (c := (hoB (tkN D n) S N c)) hDl hn hc_31 (fun x_37 hx_37 => ?_) d) rfl rfl (by omega) (by decide) (Nat.le_of_ble_eq_true rfl)
    show AW _ _ _ _ _ _ _
    refine n_callV (mi' := miX12_must) dX12_readHold_40 lX12_228 mX12_must (by decide) rfl rfl rfl (c_X12_must (c := (hoB (tkN D n) S N c)) (b := isK (tkN D n) ((hoB (tkN D n) S N c)) 5) hDl hn hc_31 (x := x_37) hx_37 (fun M_40 hc_40 hf_40 => ?_) d) rfl rfl (by omega) (by decide) (Nat.le_of_ble_eq_true rfl)
    show AW _ _ _ _ _ _ _
    rw [← kwd_b] at hc_40
    have hM_40 := VM_mu hM_31 hf_40
    have hN_40 := VNM_mu hN_31 hf_40
    have h7_40 : ((hoC (tkN D n) S N c)).2.1 ≤ 7 := hc_40.2.2.2.2
    have h9_40 : (tkN D n ((hoC (tkN D n) S N c)).1).2.1 ≤ 900 := (tkN_G (D := D) hn ((hoC (tkN D n) S N c)).1).2.1
    refine a_aload_n rfl dX12_readHold_43 ?_
    refine n_iconst 4 rfl dX12_readHold_44 ?_
    refine n_iconst 0 rfl dX12_readHold_45 ?_
    refine n_callV (mi' := miX12_told) dX12_readHold_46 lX12_250 mX12_told (by decide) rfl rfl rfl (c_told0 (c := (hoC (tkN D n) S N c)) hDl hn hc_40 (b := 4) (by omega) hM_40 hF hN_40 (fun M_46 v_46 hc_46 hv_46 hf_46 => ?_) d) rfl rfl (by omega) (by decide) (Nat.le_of_ble_eq_true rfl)
    show AW _ _ _ _ _ _ _
    have hM_46 := VM_mu hM_40 hf_46
    have hN_46 := VNM_mu hN_40 hf_46
    have h7_46 : ((hoD (tkN D n) S N c)).2.1 ≤ 7 := hc_46.2.2.2.2
    have h9_46 : (tkN D n ((hoD (tkN D n) S N c)).1).2.1 ≤ 900 := (tkN_G (D := D) hn ((hoD (tkN D n) S N c)).1).2.1
    refine a_istore_n (by decide) rfl dX12_readHold_49 ?_
    refine a_aload_n rfl dX12_readHold_50 ?_
    refine g_i (show M_46.1 132 12 = nI ((hoD (tkN D n) S N c)).2.1 from hc_46.2.2.1) (by decide) rfl fX12_212 rfl dX12_readHold_51 ?_
    refine n_if_ne 81 (by omega) dX12_readHold_54 (by decide) (fun h_54 => ?_) (fun h_54 => ?_)
    · refine a_aload_n rfl dX12_readHold_81 ?_
      refine n_iconst 1 rfl dX12_readHold_82 ?_
      refine n_callV (mi' := miX12_must) dX12_readHold_83 lX12_228 mX12_must (by decide) rfl rfl rfl (c_X12_must (c := (hoD (tkN D n) S N c)) (b := true) hDl hn hc_46 (x := 1) rfl (fun M_83 hc_83 hf_83 => ?_) d) rfl rfl (by omega) (by decide) (Nat.le_of_ble_eq_true rfl)
      show AW _ _ _ _ _ _ _
      rw [if_pos rfl] at hc_83
      have hq_83 : spC (tkN D n) ((hoD (tkN D n) S N c)) = (hoE (tkN D n) S N c) := by unfold hoE; split; (rw [fl_n h_54]); rfl
      rw [hq_83] at hc_83
      have hM_83 := VM_mu hM_46 hf_83
      have hN_83 := VNM_mu hN_46 hf_83
      have h7_83 : ((hoE (tkN D n) S N c)).2.1 ≤ 7 := hc_83.2.2.2.2
      have h9_83 : (tkN D n ((hoE (tkN D n) S N c)).1).2.1 ≤ 900 := (tkN_G (D := D) hn ((hoE (tkN D n) S N c)).1).2.1
      have hzE : (hoE (tkN D n) S N c).2.1 ≠ 0 := by rw [← hq_83, sp_f]; exact h_54
      refine a_aload_n rfl dX12_readHold_86 ?_
      refine g_i (show M_83.1 132 12 = nI ((hoE (tkN D n) S N c)).2.1 from hc_83.2.2.1) (by decide) rfl fX12_212 rfl dX12_readHold_87 ?_
      refine n_if_ne 100 (by omega) dX12_readHold_90 (by decide) (fun h_90 => ?_) (fun h_90 => absurd h_90 (by omega))
      refine a_vret dX12_readHold_100 rfl ?_
      have hzz : (hoE (tkN D n) S N c).2.1 ≠ 0 := by rw [← hq_83, sp_f]; exact h_54
      exact hQ _ hc_83 (fun z => absurd (show (hoE (tkN D n) S N c).2.1 = 0 from z) hzz) (((((hf_25.mo (fun _ _ h => mu_mr h)).t (hf_31.mo (fun _ _ h => mu_mr h))).t (hf_40.mo (fun _ _ h => mu_mr h))).t (hf_46.mo (fun _ _ h => mu_mr h))).t (hf_83.mo (fun _ _ h => mu_mr h)))
    · have zD : (hoD (tkN D n) S N c).2.1 = 0 := h_54
      have z3 := ref_0 (show (refC (tkN D n) (nmM (tkN D n) S N (hoC (tkN D n) S N c)) (hoC (tkN D n) S N c)).2.1 = 0 from zD)
      have z2 := kwd_0 (show (kwdC (tkN D n) 5 (hoB (tkN D n) S N c)).2.1 = 0 from z3.1)
      have z1 := ref_0 (sp_0 (show (spC (tkN D n) (refC (tkN D n) (nmM (tkN D n) S N (hoA (tkN D n) S c)) (hoA (tkN D n) S c))).2.1 = 0 from z2.1))
      have z0 := bg_0 (by decide) (show (bgC (tkN D n) (decide (10 ≤ S 0 3)) 6 c).2.1 = 0 from z1.1)
      have hm6 : S 0 3 < 10 := Nat.not_le.mp (of_decide_eq_false z0.2.1)
      obtain ⟨a1, ha1, ea1⟩ := hv_31 z2.1
      obtain ⟨b1, hb1, eb1⟩ := hv_46 zD
      have hX : hoX (tkN D n) S N c = a1 := nmM_some ha1
      have hY : hoY (tkN D n) S N c = b1 := nmM_some hb1
      have la := (nmI_lt ha1).1
      have lb := (nmI_lt hb1).1
      have hkD : kd (tkN D n) (hoD (tkN D n) S N c) = 2 := by rw [show (hoD (tkN D n) S N c) = (hoC (tkN D n) S N c) from z3.2.2.2]; exact z3.2.1
      subst ea1
      subst eb1
      refine a_iload_n rfl dX12_readHold_57 ?_
      refine a_iload_n rfl dX12_readHold_58 ?_
      refine n_icmp_eq 72 (by omega) (by omega) dX12_readHold_59 (by decide) (fun h_59 => ?_) (fun h_59 => ?_)
      · refine a_aload_n rfl dX12_readHold_72 ?_
        refine n_iconst 5 rfl dX12_readHold_73 ?_
        refine a_aload_n rfl dX12_readHold_74 ?_
        refine g_i (show M_46.1 132 15 = nI (tkN D n ((hoD (tkN D n) S N c)).1).2.1 from hc_46.2.1.2.1) (by decide) rfl fX12_118 rfl dX12_readHold_75 ?_
        refine n_callV (mi' := miX12_fail) dX12_readHold_78 lX12_218 mX12_fail (by decide) rfl rfl rfl (c_X12_fail (c := (hoD (tkN D n) S N c)) hDl hn hc_46 (by omega) (fun _ => by omega) rfl (fun M_78 hc_78 hf_78 => ?_) d) rfl rfl (by omega) (by decide) (Nat.le_of_ble_eq_true rfl)
        show AW _ _ _ _ _ _ _
        have hM_78 := VM_mu hM_46 hf_78
        have hN_78 := VNM_mu hN_46 hf_78
        have h7_78 : (flC (tkN D n) 5 (hoD (tkN D n) S N c)).2.1 ≤ 7 := hc_78.2.2.2.2
        have h9_78 : (tkN D n (flC (tkN D n) 5 (hoD (tkN D n) S N c)).1).2.1 ≤ 900 := (tkN_G (D := D) hn (flC (tkN D n) 5 (hoD (tkN D n) S N c)).1).2.1
        refine a_aload_n rfl dX12_readHold_81 ?_
        refine n_iconst 1 rfl dX12_readHold_82 ?_
        refine n_callV (mi' := miX12_must) dX12_readHold_83 lX12_228 mX12_must (by decide) rfl rfl rfl (c_X12_must (c := flC (tkN D n) 5 (hoD (tkN D n) S N c)) (b := true) hDl hn hc_78 (x := 1) rfl (fun M_83 hc_83 hf_83 => ?_) d) rfl rfl (by omega) (by decide) (Nat.le_of_ble_eq_true rfl)
        show AW _ _ _ _ _ _ _
        rw [if_pos rfl] at hc_83
        have hq_83 : spC (tkN D n) (flC (tkN D n) 5 (hoD (tkN D n) S N c)) = (hoE (tkN D n) S N c) := by unfold hoE; rw [hX, hY, if_pos (Or.inl h_59)]
        rw [hq_83] at hc_83
        have hM_83 := VM_mu hM_78 hf_83
        have hN_83 := VNM_mu hN_78 hf_83
        have h7_83 : ((hoE (tkN D n) S N c)).2.1 ≤ 7 := hc_83.2.2.2.2
        have h9_83 : (tkN D n ((hoE (tkN D n) S N c)).1).2.1 ≤ 900 := (tkN_G (D := D) hn ((hoE (tkN D n) S N c)).1).2.1
        have hzE : (hoE (tkN D n) S N c).2.1 ≠ 0 := by rw [← hq_83, sp_f]; exact fl_z (by decide)
        refine a_aload_n rfl dX12_readHold_86 ?_
        refine g_i (show M_83.1 132 12 = nI ((hoE (tkN D n) S N c)).2.1 from hc_83.2.2.1) (by decide) rfl fX12_212 rfl dX12_readHold_87 ?_
        refine n_if_ne 100 (by omega) dX12_readHold_90 (by decide) (fun h_90 => ?_) (fun h_90 => absurd h_90 (by omega))
        refine a_vret dX12_readHold_100 rfl ?_
        have hzz : (hoE (tkN D n) S N c).2.1 ≠ 0 := by rw [← hq_83, sp_f]; exact fl_z (by decide)
        exact hQ _ hc_83 (fun z => absurd (show (hoE (tkN D n) S N c).2.1 = 0 from z) hzz) ((((((hf_25.mo (fun _ _ h => mu_mr h)).t (hf_31.mo (fun _ _ h => mu_mr h))).t (hf_40.mo (fun _ _ h => mu_mr h))).t (hf_46.mo (fun _ _ h => mu_mr h))).t (hf_78.mo (fun _ _ h => mu_mr h))).t (hf_83.mo (fun _ _ h => mu_mr h)))
      · refine a_aload_n rfl dX12_readHold_62 ?_
        refine n_iconst 4 rfl dX12_readHold_63 ?_
        refine a_iload_n rfl dX12_readHold_64 ?_
        refine a_iload_n rfl dX12_readHold_65 ?_
        refine n_callV (mi' := miX12_isBound) dX12_readHold_66 lX12_271 mX12_isBound (by decide) rfl rfl rfl (c_X12_isBound (b := 4) (by omega) hM_46 hF (by omega) (by omega) (fun hbd_66 => ?_) (fun hbd_66 => ?_) d) rfl rfl (by omega) (by decide) (Nat.le_of_ble_eq_true rfl)
        · show AW _ _ _ _ _ _ _
          refine n_if_eq 81 (by decide) dX12_readHold_69 (by decide) (fun h => absurd h (by decide)) (fun _ => ?_)
          refine a_aload_n rfl dX12_readHold_72 ?_
          refine n_iconst 5 rfl dX12_readHold_73 ?_
          refine a_aload_n rfl dX12_readHold_74 ?_
          refine g_i (show M_46.1 132 15 = nI (tkN D n ((hoD (tkN D n) S N c)).1).2.1 from hc_46.2.1.2.1) (by decide) rfl fX12_118 rfl dX12_readHold_75 ?_
          refine n_callV (mi' := miX12_fail) dX12_readHold_78 lX12_218 mX12_fail (by decide) rfl rfl rfl (c_X12_fail (c := (hoD (tkN D n) S N c)) hDl hn hc_46 (by omega) (fun _ => by omega) rfl (fun M_78 hc_78 hf_78 => ?_) d) rfl rfl (by omega) (by decide) (Nat.le_of_ble_eq_true rfl)
          show AW _ _ _ _ _ _ _
          have hM_78 := VM_mu hM_46 hf_78
          have hN_78 := VNM_mu hN_46 hf_78
          have h7_78 : (flC (tkN D n) 5 (hoD (tkN D n) S N c)).2.1 ≤ 7 := hc_78.2.2.2.2
          have h9_78 : (tkN D n (flC (tkN D n) 5 (hoD (tkN D n) S N c)).1).2.1 ≤ 900 := (tkN_G (D := D) hn (flC (tkN D n) 5 (hoD (tkN D n) S N c)).1).2.1
          refine a_aload_n rfl dX12_readHold_81 ?_
          refine n_iconst 1 rfl dX12_readHold_82 ?_
          refine n_callV (mi' := miX12_must) dX12_readHold_83 lX12_228 mX12_must (by decide) rfl rfl rfl (c_X12_must (c := flC (tkN D n) 5 (hoD (tkN D n) S N c)) (b := true) hDl hn hc_78 (x := 1) rfl (fun M_83 hc_83 hf_83 => ?_) d) rfl rfl (by omega) (by decide) (Nat.le_of_ble_eq_true rfl)
          show AW _ _ _ _ _ _ _
          rw [if_pos rfl] at hc_83
          have hq_83 : spC (tkN D n) (flC (tkN D n) 5 (hoD (tkN D n) S N c)) = (hoE (tkN D n) S N c) := by unfold hoE; rw [hX, hY, if_pos (Or.inr (boundN_t hbd_66))]
          rw [hq_83] at hc_83
          have hM_83 := VM_mu hM_78 hf_83
          have hN_83 := VNM_mu hN_78 hf_83
          have h7_83 : ((hoE (tkN D n) S N c)).2.1 ≤ 7 := hc_83.2.2.2.2
          have h9_83 : (tkN D n ((hoE (tkN D n) S N c)).1).2.1 ≤ 900 := (tkN_G (D := D) hn ((hoE (tkN D n) S N c)).1).2.1
          have hzE : (hoE (tkN D n) S N c).2.1 ≠ 0 := by rw [← hq_83, sp_f]; exact fl_z (by decide)
          refine a_aload_n rfl dX12_readHold_86 ?_
          refine g_i (show M_83.1 132 12 = nI ((hoE (tkN D n) S N c)).2.1 from hc_83.2.2.1) (by decide) rfl fX12_212 rfl dX12_readHold_87 ?_
          refine n_if_ne 100 (by omega) dX12_readHold_90 (by decide) (fun h_90 => ?_) (fun h_90 => absurd h_90 (by omega))
          refine a_vret dX12_readHold_100 rfl ?_
          have hzz : (hoE (tkN D n) S N c).2.1 ≠ 0 := by rw [← hq_83, sp_f]; exact fl_z (by decide)
          exact hQ _ hc_83 (fun z => absurd (show (hoE (tkN D n) S N c).2.1 = 0 from z) hzz) ((((((hf_25.mo (fun _ _ h => mu_mr h)).t (hf_31.mo (fun _ _ h => mu_mr h))).t (hf_40.mo (fun _ _ h => mu_mr h))).t (hf_46.mo (fun _ _ h => mu_mr h))).t (hf_78.mo (fun _ _ h => mu_mr h))).t (hf_83.mo (fun _ _ h => mu_mr h)))
        · show AW _ _ _ _ _ _ _
          refine n_if_eq 81 (by decide) dX12_readHold_69 (by decide) (fun _ => ?_) (fun h => absurd h (by decide))
          refine a_aload_n rfl dX12_readHold_81 ?_
          refine n_iconst 1 rfl dX12_readHold_82 ?_
          refine n_callV (mi' := miX12_must) dX12_readHold_83 lX12_228 mX12_must (by decide) rfl rfl rfl (c_X12_must (c := (hoD (tkN D n) S N c)) (b := true) hDl hn hc_46 (x := 1) rfl (fun M_83 hc_83 hf_83 => ?_) d) rfl rfl (by omega) (by decide) (Nat.le_of_ble_eq_true rfl)
          show AW _ _ _ _ _ _ _
          rw [if_pos rfl] at hc_83
          have hq_83 : spC (tkN D n) ((hoD (tkN D n) S N c)) = (hoE (tkN D n) S N c) := by unfold hoE; rw [hX, hY, if_neg (fun q => q.elim h_59 (fun q => by rw [boundN_f hbd_66] at q; cases q))]
          rw [hq_83] at hc_83
          have hM_83 := VM_mu hM_46 hf_83
          have hN_83 := VNM_mu hN_46 hf_83
          have h7_83 : ((hoE (tkN D n) S N c)).2.1 ≤ 7 := hc_83.2.2.2.2
          have h9_83 : (tkN D n ((hoE (tkN D n) S N c)).1).2.1 ≤ 900 := (tkN_G (D := D) hn ((hoE (tkN D n) S N c)).1).2.1
          have hzE : (hoE (tkN D n) S N c).2.1 = 0 := by rw [← hq_83, sp_f]; exact h_54
          refine a_aload_n rfl dX12_readHold_86 ?_
          refine g_i (show M_83.1 132 12 = nI ((hoE (tkN D n) S N c)).2.1 from hc_83.2.2.1) (by decide) rfl fX12_212 rfl dX12_readHold_87 ?_
          refine n_if_ne 100 (by omega) dX12_readHold_90 (by decide) (fun h_90 => absurd h_90 (by omega)) (fun h_90 => ?_)
          refine a_aload_n rfl dX12_readHold_93 ?_
          refine n_iconst 4 rfl dX12_readHold_94 ?_
          refine a_iload_n rfl dX12_readHold_95 ?_
          refine a_iload_n rfl dX12_readHold_96 ?_
          refine n_callV (mi' := miX12_binds) dX12_readHold_97 lX12_275 mX12_binds (by decide) rfl rfl rfl (c_X12_binds (b := 4) (by omega) hM_83 hF hm6 (fun hVb_97 => ?_) d) rfl rfl (by omega) (by decide) (Nat.le_of_ble_eq_true rfl)
          show AW _ _ _ _ _ _ _
          refine a_vret dX12_readHold_100 rfl ?_
          have hfo : fr (fun k j => k = 137 ∧ 1448 ≤ j ∧ j < 1538) M_83 (siM (siM (siM M_83 137 (362 * 4 + 18 + S 0 3) (nI a1)) 137 (362 * 4 + 28 + S 0 3) (nI b1)) 137 (362 * 4 + 1) (nI (S 0 3 + 1))) := ((fr.r.si (by omega)).si (by omega)).si (by omega)
          refine hQ _ (MU_fr hc_83 hfo (fun k j z => by omega)) (fun z => ?_) ((((((hf_25.mo (fun _ _ h => mu_mr h)).t (hf_31.mo (fun _ _ h => mu_mr h))).t (hf_40.mo (fun _ _ h => mu_mr h))).t (hf_46.mo (fun _ _ h => mu_mr h))).t (hf_83.mo (fun _ _ h => mu_mr h))).t (hfo.mo (fun k j h => Or.inr (Or.inl h))))
          show VM (362 * 4) _ (addHN S (hoX (tkN D n) S N c) (hoY (tkN D n) S N c)) ∧ VNM 4 _ (addHN S (hoX (tkN D n) S N c) (hoY (tkN D n) S N c)) N
          rw [hX, hY]
          exact ⟨hVb_97, VNM_fr hN_83 (fun j _ _ => (hfo 139 j (by omega)).2)⟩
  · refine a_aload_n rfl dX12_readHold_13 ?_
    refine n_bipush 6 rfl dX12_readHold_14 ?_
    refine a_aload_n rfl dX12_readHold_16 ?_
    refine g_i hU.2.1.2.1 (by decide) rfl fX12_118 rfl dX12_readHold_17 ?_
    refine n_callV (mi' := miX12_fail) dX12_readHold_20 lX12_218 mX12_fail (by decide) rfl rfl rfl (c_X12_fail (c := c) hDl hn hU (by omega) (fun _ => by omega) rfl (fun M_20 hc_20 hf_20 => ?_) d) rfl rfl (by omega) (by decide) (Nat.le_of_ble_eq_true rfl)
    show AW _ _ _ _ _ _ _
    have hM_20 := VM_mu hM hf_20
    have hN_20 := VNM_mu hN hf_20
    have h7_20 : (flC (tkN D n) 6 c).2.1 ≤ 7 := hc_20.2.2.2.2
    have h9_20 : (tkN D n (flC (tkN D n) 6 c).1).2.1 ≤ 900 := (tkN_G (D := D) hn (flC (tkN D n) 6 c).1).2.1
    refine a_aload_n rfl dX12_readHold_23 ?_
    refine n_iconst 1 rfl dX12_readHold_24 ?_
    refine n_callV (mi' := miX12_must) dX12_readHold_25 lX12_228 mX12_must (by decide) rfl rfl rfl (c_X12_must (c := flC (tkN D n) 6 c) (b := true) hDl hn hc_20 (x := 1) rfl (fun M_25 hc_25 hf_25 => ?_) d) rfl rfl (by omega) (by decide) (Nat.le_of_ble_eq_true rfl)
    show AW _ _ _ _ _ _ _
    rw [if_pos rfl] at hc_25
    have hq_25 : spC (tkN D n) (flC (tkN D n) 6 c) = (hoA (tkN D n) S c) := congrArg (spC (tkN D n)) (if_pos (decide_eq_true (by omega))).symm
    rw [hq_25] at hc_25
    have hM_25 := VM_mu hM_20 hf_25
    have hN_25 := VNM_mu hN_20 hf_25
    have h7_25 : ((hoA (tkN D n) S c)).2.1 ≤ 7 := hc_25.2.2.2.2
    have h9_25 : (tkN D n ((hoA (tkN D n) S c)).1).2.1 ≤ 900 := (tkN_G (D := D) hn ((hoA (tkN D n) S c)).1).2.1
    refine a_aload_n rfl dX12_readHold_28 ?_
    refine n_iconst 4 rfl dX12_readHold_29 ?_
    refine n_iconst 0 rfl dX12_readHold_30 ?_
    refine n_callV (mi' := miX12_readTold) dX12_readHold_31 lX12_268 mX12_readTold (by decide) rfl rfl rfl (c_readTold0 (c := (hoA (tkN D n) S c)) hDl hn hc_25 (b := 4) (by omega) hM_25 hF hN_25 (fun M_31 v_31 hc_31 hv_31 hf_31 => ?_) d) rfl rfl (by omega) (by decide) (Nat.le_of_ble_eq_true rfl)
    show AW _ _ _ _ _ _ _
    have hM_31 := VM_mu hM_25 hf_31
    have hN_31 := VNM_mu hN_25 hf_31
    have h7_31 : ((hoB (tkN D n) S N c)).2.1 ≤ 7 := hc_31.2.2.2.2
    have h9_31 : (tkN D n ((hoB (tkN D n) S N c)).1).2.1 ≤ 900 := (tkN_G (D := D) hn ((hoB (tkN D n) S N c)).1).2.1
    refine a_istore_n (by decide) rfl dX12_readHold_34 ?_
    refine a_aload_n rfl dX12_readHold_35 ?_
    refine a_aload_n rfl dX12_readHold_36 ?_
    refine n_callV (mi' := miX12_isBy) dX12_readHold_37 lX12_175 mX12_isBy (by decide) rfl rfl rfl (v_isBy (c := (hoB (tkN D n) S N c)) hDl hn hc_31 (fun x_37 hx_37 => ?_) d) rfl rfl (by omega) (by decide) (Nat.le_of_ble_eq_true rfl)
    show AW _ _ _ _ _ _ _
    refine n_callV (mi' := miX12_must) dX12_readHold_40 lX12_228 mX12_must (by decide) rfl rfl rfl (c_X12_must (c := (hoB (tkN D n) S N c)) (b := isK (tkN D n) ((hoB (tkN D n) S N c)) 5) hDl hn hc_31 (x := x_37) hx_37 (fun M_40 hc_40 hf_40 => ?_) d) rfl rfl (by omega) (by decide) (Nat.le_of_ble_eq_true rfl)
    show AW _ _ _ _ _ _ _
    rw [← kwd_b] at hc_40
    have hM_40 := VM_mu hM_31 hf_40
    have hN_40 := VNM_mu hN_31 hf_40
    have h7_40 : ((hoC (tkN D n) S N c)).2.1 ≤ 7 := hc_40.2.2.2.2
    have h9_40 : (tkN D n ((hoC (tkN D n) S N c)).1).2.1 ≤ 900 := (tkN_G (D := D) hn ((hoC (tkN D n) S N c)).1).2.1
    refine a_aload_n rfl dX12_readHold_43 ?_
    refine n_iconst 4 rfl dX12_readHold_44 ?_
    refine n_iconst 0 rfl dX12_readHold_45 ?_
    refine n_callV (mi' := miX12_told) dX12_readHold_46 lX12_250 mX12_told (by decide) rfl rfl rfl (c_told0 (c := (hoC (tkN D n) S N c)) hDl hn hc_40 (b := 4) (by omega) hM_40 hF hN_40 (fun M_46 v_46 hc_46 hv_46 hf_46 => ?_) d) rfl rfl (by omega) (by decide) (Nat.le_of_ble_eq_true rfl)
    show AW _ _ _ _ _ _ _
    have hM_46 := VM_mu hM_40 hf_46
    have hN_46 := VNM_mu hN_40 hf_46
    have h7_46 : ((hoD (tkN D n) S N c)).2.1 ≤ 7 := hc_46.2.2.2.2
    have h9_46 : (tkN D n ((hoD (tkN D n) S N c)).1).2.1 ≤ 900 := (tkN_G (D := D) hn ((hoD (tkN D n) S N c)).1).2.1
    refine a_istore_n (by decide) rfl dX12_readHold_49 ?_
    refine a_aload_n rfl dX12_readHold_50 ?_
    refine g_i (show M_46.1 132 12 = nI ((hoD (tkN D n) S N c)).2.1 from hc_46.2.2.1) (by decide) rfl fX12_212 rfl dX12_readHold_51 ?_
    refine n_if_ne 81 (by omega) dX12_readHold_54 (by decide) (fun h_54 => ?_) (fun h_54 => ?_)
    · refine a_aload_n rfl dX12_readHold_81 ?_
      refine n_iconst 1 rfl dX12_readHold_82 ?_
      refine n_callV (mi' := miX12_must) dX12_readHold_83 lX12_228 mX12_must (by decide) rfl rfl rfl (c_X12_must (c := (hoD (tkN D n) S N c)) (b := true) hDl hn hc_46 (x := 1) rfl (fun M_83 hc_83 hf_83 => ?_) d) rfl rfl (by omega) (by decide) (Nat.le_of_ble_eq_true rfl)
      show AW _ _ _ _ _ _ _
      rw [if_pos rfl] at hc_83
      have hq_83 : spC (tkN D n) ((hoD (tkN D n) S N c)) = (hoE (tkN D n) S N c) := by unfold hoE; split; (rw [fl_n h_54]); rfl
      rw [hq_83] at hc_83
      have hM_83 := VM_mu hM_46 hf_83
      have hN_83 := VNM_mu hN_46 hf_83
      have h7_83 : ((hoE (tkN D n) S N c)).2.1 ≤ 7 := hc_83.2.2.2.2
      have h9_83 : (tkN D n ((hoE (tkN D n) S N c)).1).2.1 ≤ 900 := (tkN_G (D := D) hn ((hoE (tkN D n) S N c)).1).2.1
      have hzE : (hoE (tkN D n) S N c).2.1 ≠ 0 := by rw [← hq_83, sp_f]; exact h_54
      refine a_aload_n rfl dX12_readHold_86 ?_
      refine g_i (show M_83.1 132 12 = nI ((hoE (tkN D n) S N c)).2.1 from hc_83.2.2.1) (by decide) rfl fX12_212 rfl dX12_readHold_87 ?_
      refine n_if_ne 100 (by omega) dX12_readHold_90 (by decide) (fun h_90 => ?_) (fun h_90 => absurd h_90 (by omega))
      refine a_vret dX12_readHold_100 rfl ?_
      have hzz : (hoE (tkN D n) S N c).2.1 ≠ 0 := by rw [← hq_83, sp_f]; exact h_54
      exact hQ _ hc_83 (fun z => absurd (show (hoE (tkN D n) S N c).2.1 = 0 from z) hzz) ((((((hf_20.mo (fun _ _ h => mu_mr h)).t (hf_25.mo (fun _ _ h => mu_mr h))).t (hf_31.mo (fun _ _ h => mu_mr h))).t (hf_40.mo (fun _ _ h => mu_mr h))).t (hf_46.mo (fun _ _ h => mu_mr h))).t (hf_83.mo (fun _ _ h => mu_mr h)))
    · have zD : (hoD (tkN D n) S N c).2.1 = 0 := h_54
      have z3 := ref_0 (show (refC (tkN D n) (nmM (tkN D n) S N (hoC (tkN D n) S N c)) (hoC (tkN D n) S N c)).2.1 = 0 from zD)
      have z2 := kwd_0 (show (kwdC (tkN D n) 5 (hoB (tkN D n) S N c)).2.1 = 0 from z3.1)
      have z1 := ref_0 (sp_0 (show (spC (tkN D n) (refC (tkN D n) (nmM (tkN D n) S N (hoA (tkN D n) S c)) (hoA (tkN D n) S c))).2.1 = 0 from z2.1))
      have z0 := bg_0 (by decide) (show (bgC (tkN D n) (decide (10 ≤ S 0 3)) 6 c).2.1 = 0 from z1.1)
      have hm6 : S 0 3 < 10 := Nat.not_le.mp (of_decide_eq_false z0.2.1)
      obtain ⟨a1, ha1, ea1⟩ := hv_31 z2.1
      obtain ⟨b1, hb1, eb1⟩ := hv_46 zD
      have hX : hoX (tkN D n) S N c = a1 := nmM_some ha1
      have hY : hoY (tkN D n) S N c = b1 := nmM_some hb1
      have la := (nmI_lt ha1).1
      have lb := (nmI_lt hb1).1
      have hkD : kd (tkN D n) (hoD (tkN D n) S N c) = 2 := by rw [show (hoD (tkN D n) S N c) = (hoC (tkN D n) S N c) from z3.2.2.2]; exact z3.2.1
      subst ea1
      subst eb1
      refine a_iload_n rfl dX12_readHold_57 ?_
      refine a_iload_n rfl dX12_readHold_58 ?_
      refine n_icmp_eq 72 (by omega) (by omega) dX12_readHold_59 (by decide) (fun h_59 => ?_) (fun h_59 => ?_)
      · refine a_aload_n rfl dX12_readHold_72 ?_
        refine n_iconst 5 rfl dX12_readHold_73 ?_
        refine a_aload_n rfl dX12_readHold_74 ?_
        refine g_i (show M_46.1 132 15 = nI (tkN D n ((hoD (tkN D n) S N c)).1).2.1 from hc_46.2.1.2.1) (by decide) rfl fX12_118 rfl dX12_readHold_75 ?_
        refine n_callV (mi' := miX12_fail) dX12_readHold_78 lX12_218 mX12_fail (by decide) rfl rfl rfl (c_X12_fail (c := (hoD (tkN D n) S N c)) hDl hn hc_46 (by omega) (fun _ => by omega) rfl (fun M_78 hc_78 hf_78 => ?_) d) rfl rfl (by omega) (by decide) (Nat.le_of_ble_eq_true rfl)
        show AW _ _ _ _ _ _ _
        have hM_78 := VM_mu hM_46 hf_78
        have hN_78 := VNM_mu hN_46 hf_78
        have h7_78 : (flC (tkN D n) 5 (hoD (tkN D n) S N c)).2.1 ≤ 7 := hc_78.2.2.2.2
        have h9_78 : (tkN D n (flC (tkN D n) 5 (hoD (tkN D n) S N c)).1).2.1 ≤ 900 := (tkN_G (D := D) hn (flC (tkN D n) 5 (hoD (tkN D n) S N c)).1).2.1
        refine a_aload_n rfl dX12_readHold_81 ?_
        refine n_iconst 1 rfl dX12_readHold_82 ?_
        refine n_callV (mi' := miX12_must) dX12_readHold_83 lX12_228 mX12_must (by decide) rfl rfl rfl (c_X12_must (c := flC (tkN D n) 5 (hoD (tkN D n) S N c)) (b := true) hDl hn hc_78 (x := 1) rfl (fun M_83 hc_83 hf_83 => ?_) d) rfl rfl (by omega) (by decide) (Nat.le_of_ble_eq_true rfl)
        show AW _ _ _ _ _ _ _
        rw [if_pos rfl] at hc_83
        have hq_83 : spC (tkN D n) (flC (tkN D n) 5 (hoD (tkN D n) S N c)) = (hoE (tkN D n) S N c) := by unfold hoE; rw [hX, hY, if_pos (Or.inl h_59)]
        rw [hq_83] at hc_83
        have hM_83 := VM_mu hM_78 hf_83
        have hN_83 := VNM_mu hN_78 hf_83
        have h7_83 : ((hoE (tkN D n) S N c)).2.1 ≤ 7 := hc_83.2.2.2.2
        have h9_83 : (tkN D n ((hoE (tkN D n) S N c)).1).2.1 ≤ 900 := (tkN_G (D := D) hn ((hoE (tkN D n) S N c)).1).2.1
        have hzE : (hoE (tkN D n) S N c).2.1 ≠ 0 := by rw [← hq_83, sp_f]; exact fl_z (by decide)
        refine a_aload_n rfl dX12_readHold_86 ?_
        refine g_i (show M_83.1 132 12 = nI ((hoE (tkN D n) S N c)).2.1 from hc_83.2.2.1) (by decide) rfl fX12_212 rfl dX12_readHold_87 ?_
        refine n_if_ne 100 (by omega) dX12_readHold_90 (by decide) (fun h_90 => ?_) (fun h_90 => absurd h_90 (by omega))
        refine a_vret dX12_readHold_100 rfl ?_
        have hzz : (hoE (tkN D n) S N c).2.1 ≠ 0 := by rw [← hq_83, sp_f]; exact fl_z (by decide)
        exact hQ _ hc_83 (fun z => absurd (show (hoE (tkN D n) S N c).2.1 = 0 from z) hzz) (((((((hf_20.mo (fun _ _ h => mu_mr h)).t (hf_25.mo (fun _ _ h => mu_mr h))).t (hf_31.mo (fun _ _ h => mu_mr h))).t (hf_40.mo (fun _ _ h => mu_mr h))).t (hf_46.mo (fun _ _ h => mu_mr h))).t (hf_78.mo (fun _ _ h => mu_mr h))).t (hf_83.mo (fun _ _ h => mu_mr h)))
      · refine a_aload_n rfl dX12_readHold_62 ?_
        refine n_iconst 4 rfl dX12_readHold_63 ?_
        refine a_iload_n rfl dX12_readHold_64 ?_
        refine a_iload_n rfl dX12_readHold_65 ?_
        refine n_callV (mi' := miX12_isBound) dX12_readHold_66 lX12_271 mX12_isBound (by decide) rfl rfl rfl (c_X12_isBound (b := 4) (by omega) hM_46 hF (by omega) (by omega) (fun hbd_66 => ?_) (fun hbd_66 => ?_) d) rfl rfl (by omega) (by decide) (Nat.le_of_ble_eq_true rfl)
        · show AW _ _ _ _ _ _ _
          refine n_if_eq 81 (by decide) dX12_readHold_69 (by decide) (fun h => absurd h (by decide)) (fun _ => ?_)
          refine a_aload_n rfl dX12_readHold_72 ?_
          refine n_iconst 5 rfl dX12_readHold_73 ?_
          refine a_aload_n rfl dX12_readHold_74 ?_
          refine g_i (show M_46.1 132 15 = nI (tkN D n ((hoD (tkN D n) S N c)).1).2.1 from hc_46.2.1.2.1) (by decide) rfl fX12_118 rfl dX12_readHold_75 ?_
          refine n_callV (mi' := miX12_fail) dX12_readHold_78 lX12_218 mX12_fail (by decide) rfl rfl rfl (c_X12_fail (c := (hoD (tkN D n) S N c)) hDl hn hc_46 (by omega) (fun _ => by omega) rfl (fun M_78 hc_78 hf_78 => ?_) d) rfl rfl (by omega) (by decide) (Nat.le_of_ble_eq_true rfl)
          show AW _ _ _ _ _ _ _
          have hM_78 := VM_mu hM_46 hf_78
          have hN_78 := VNM_mu hN_46 hf_78
          have h7_78 : (flC (tkN D n) 5 (hoD (tkN D n) S N c)).2.1 ≤ 7 := hc_78.2.2.2.2
          have h9_78 : (tkN D n (flC (tkN D n) 5 (hoD (tkN D n) S N c)).1).2.1 ≤ 900 := (tkN_G (D := D) hn (flC (tkN D n) 5 (hoD (tkN D n) S N c)).1).2.1
          refine a_aload_n rfl dX12_readHold_81 ?_
          refine n_iconst 1 rfl dX12_readHold_82 ?_
          refine n_callV (mi' := miX12_must) dX12_readHold_83 lX12_228 mX12_must (by decide) rfl rfl rfl (c_X12_must (c := flC (tkN D n) 5 (hoD (tkN D n) S N c)) (b := true) hDl hn hc_78 (x := 1) rfl (fun M_83 hc_83 hf_83 => ?_) d) rfl rfl (by omega) (by decide) (Nat.le_of_ble_eq_true rfl)
          show AW _ _ _ _ _ _ _
          rw [if_pos rfl] at hc_83
          have hq_83 : spC (tkN D n) (flC (tkN D n) 5 (hoD (tkN D n) S N c)) = (hoE (tkN D n) S N c) := by unfold hoE; rw [hX, hY, if_pos (Or.inr (boundN_t hbd_66))]
          rw [hq_83] at hc_83
          have hM_83 := VM_mu hM_78 hf_83
          have hN_83 := VNM_mu hN_78 hf_83
          have h7_83 : ((hoE (tkN D n) S N c)).2.1 ≤ 7 := hc_83.2.2.2.2
          have h9_83 : (tkN D n ((hoE (tkN D n) S N c)).1).2.1 ≤ 900 := (tkN_G (D := D) hn ((hoE (tkN D n) S N c)).1).2.1
          have hzE : (hoE (tkN D n) S N c).2.1 ≠ 0 := by rw [← hq_83, sp_f]; exact fl_z (by decide)
          refine a_aload_n rfl dX12_readHold_86 ?_
          refine g_i (show M_83.1 132 12 = nI ((hoE (tkN D n) S N c)).2.1 from hc_83.2.2.1) (by decide) rfl fX12_212 rfl dX12_readHold_87 ?_
          refine n_if_ne 100 (by omega) dX12_readHold_90 (by decide) (fun h_90 => ?_) (fun h_90 => absurd h_90 (by omega))
          refine a_vret dX12_readHold_100 rfl ?_
          have hzz : (hoE (tkN D n) S N c).2.1 ≠ 0 := by rw [← hq_83, sp_f]; exact fl_z (by decide)
          exact hQ _ hc_83 (fun z => absurd (show (hoE (tkN D n) S N c).2.1 = 0 from z) hzz) (((((((hf_20.mo (fun _ _ h => mu_mr h)).t (hf_25.mo (fun _ _ h => mu_mr h))).t (hf_31.mo (fun _ _ h => mu_mr h))).t (hf_40.mo (fun _ _ h => mu_mr h))).t (hf_46.mo (fun _ _ h => mu_mr h))).t (hf_78.mo (fun _ _ h => mu_mr h))).t (hf_83.mo (fun _ _ h => mu_mr h)))
        · show AW _ _ _ _ _ _ _
          refine n_if_eq 81 (by decide) dX12_readHold_69 (by decide) (fun _ => ?_) (fun h => absurd h (by decide))
          refine a_aload_n rfl dX12_readHold_81 ?_
          refine n_iconst 1 rfl dX12_readHold_82 ?_
          refine n_callV (mi' := miX12_must) dX12_readHold_83 lX12_228 mX12_must (by decide) rfl rfl rfl (c_X12_must (c := (hoD (tkN D n) S N c)) (b := true) hDl hn hc_46 (x := 1) rfl (fun M_83 hc_83 hf_83 => ?_) d) rfl rfl (by omega) (by decide) (Nat.le_of_ble_eq_true rfl)
          show AW _ _ _ _ _ _ _
          rw [if_pos rfl] at hc_83
          have hq_83 : spC (tkN D n) ((hoD (tkN D n) S N c)) = (hoE (tkN D n) S N c) := by unfold hoE; rw [hX, hY, if_neg (fun q => q.elim h_59 (fun q => by rw [boundN_f hbd_66] at q; cases q))]
          rw [hq_83] at hc_83
          have hM_83 := VM_mu hM_46 hf_83
          have hN_83 := VNM_mu hN_46 hf_83
          have h7_83 : ((hoE (tkN D n) S N c)).2.1 ≤ 7 := hc_83.2.2.2.2
          have h9_83 : (tkN D n ((hoE (tkN D n) S N c)).1).2.1 ≤ 900 := (tkN_G (D := D) hn ((hoE (tkN D n) S N c)).1).2.1
          have hzE : (hoE (tkN D n) S N c).2.1 = 0 := by rw [← hq_83, sp_f]; exact h_54
          refine a_aload_n rfl dX12_readHold_86 ?_
          refine g_i (show M_83.1 132 12 = nI ((hoE (tkN D n) S N c)).2.1 from hc_83.2.2.1) (by decide) rfl fX12_212 rfl dX12_readHold_87 ?_
          refine n_if_ne 100 (by omega) dX12_readHold_90 (by decide) (fun h_90 => absurd h_90 (by omega)) (fun h_90 => ?_)
          refine a_aload_n rfl dX12_readHold_93 ?_
          refine n_iconst 4 rfl dX12_readHold_94 ?_
          refine a_iload_n rfl dX12_readHold_95 ?_
          refine a_iload_n rfl dX12_readHold_96 ?_
          refine n_callV (mi' := miX12_binds) dX12_readHold_97 lX12_275 mX12_binds (by decide) rfl rfl rfl (c_X12_binds (b := 4) (by omega) hM_83 hF hm6 (fun hVb_97 => ?_) d) rfl rfl (by omega) (by decide) (Nat.le_of_ble_eq_true rfl)
          show AW _ _ _ _ _ _ _
          refine a_vret dX12_readHold_100 rfl ?_
          have hfo : fr (fun k j => k = 137 ∧ 1448 ≤ j ∧ j < 1538) M_83 (siM (siM (siM M_83 137 (362 * 4 + 18 + S 0 3) (nI a1)) 137 (362 * 4 + 28 + S 0 3) (nI b1)) 137 (362 * 4 + 1) (nI (S 0 3 + 1))) := ((fr.r.si (by omega)).si (by omega)).si (by omega)
          refine hQ _ (MU_fr hc_83 hfo (fun k j z => by omega)) (fun z => ?_) (((((((hf_20.mo (fun _ _ h => mu_mr h)).t (hf_25.mo (fun _ _ h => mu_mr h))).t (hf_31.mo (fun _ _ h => mu_mr h))).t (hf_40.mo (fun _ _ h => mu_mr h))).t (hf_46.mo (fun _ _ h => mu_mr h))).t (hf_83.mo (fun _ _ h => mu_mr h))).t (hfo.mo (fun k j h => Or.inr (Or.inl h))))
          show VM (362 * 4) _ (addHN S (hoX (tkN D n) S N c) (hoY (tkN D n) S N c)) ∧ VNM 4 _ (addHN S (hoX (tkN D n) S N c) (hoY (tkN D n) S N c)) N
          rw [hX, hY]
          exact ⟨hVb_97, VNM_fr hN_83 (fun j _ _ => (hfo 139 j (by omega)).2)⟩

set_option maxRecDepth 100000 in
set_option maxHeartbeats 800000 in
theorem c_X12_readSitter {M : Mm} {D : Nat → Nat} {n : Nat} (hDl : ∀ j, D j < 256) (hn : n ≤ 900) {c : CC} (hU : MU M D n c) {S : ST} {N : NM} (hM : VM (362 * 4) M S) (hF : WF S) (hN : VNM 4 M S N) (h0 : c.2.1 = 0) (hk1 : kd (tkN D n) c = 1) {Q : Option Value → Mm → Prop} (hQ : ∀ M', MU M' D n (ptS (tkN D n) S N c).1 → ((ptS (tkN D n) S N c).1.2.1 = 0 → VM (362 * 4) M' (ptS (tkN D n) S N c).2.1 ∧ VNM 4 M' (ptS (tkN D n) S N c).2.1 (ptS (tkN D n) S N c).2.2) → fr mrP M M' → Q none M') (d : Nat) : AMt miX12_readSitter (d + 8) [.ref 132] M Q := by
  refine AMt.of (by decide) (Nat.le_of_ble_eq_true rfl) ?_
  show AW miX12_readSitter (d + 8) (mxA Q) 0 [(0, some (.ref 132))] [] M
  have hf7 := hU.2.2.2.2
  have hKG := tkN_G (D := D) hn c.1
  have hkd : kd (tkN D n) c ≤ 6 := hKG.1
  have hst := hKG.2.1
  obtain ⟨mk0, mk1, mk2, mk3, mk4, mk5⟩ := mkd_i hkd
  have hm := WF_m hF
  have hh := WF_h hF
  have hs := WF_s hF
  have hn8 := WF_n hF
  refine a_aload_n rfl dX12_readSitter_0 ?_
  refine n_iconst 1 rfl dX12_readSitter_1 ?_
  refine n_bipush 7 rfl dX12_readSitter_2 ?_
  refine n_callV (mi' := miX12_readNew) dX12_readSitter_4 lX12_257 mX12_readNew (by decide) rfl rfl rfl (c_readNew1 (c := c) hDl hn hU hM hF hN h0 hk1 (fun M_4 hc_4 hv_4 hf_4 => ?_) d) rfl rfl (by omega) (by decide) (Nat.le_of_ble_eq_true rfl)
  show AW _ _ _ _ _ _ _
  have hM_4 := VM_fr4 hM hf_4 (fun j => by unfold muP; omega)
  have hN_4 := VNM_fr hN (fun j _ hj => (hf_4 139 j (by unfold muP; omega)).2)
  have h7_4 : ((siB (tkN D n) S N c)).2.1 ≤ 7 := hc_4.2.2.2.2
  have h9_4 : (tkN D n ((siB (tkN D n) S N c)).1).2.1 ≤ 900 := (tkN_G (D := D) hn ((siB (tkN D n) S N c)).1).2.1
  refine a_pop rfl dX12_readSitter_7 ?_
  refine a_aload_n rfl dX12_readSitter_8 ?_
  refine a_aload_n rfl dX12_readSitter_9 ?_
  refine n_callV (mi' := miX12_isMile) dX12_readSitter_10 lX12_181 mX12_isMile (by decide) rfl rfl rfl (v_isMile (c := (siB (tkN D n) S N c)) hDl hn hc_4 (fun x_10 hx_10 => ?_) d) rfl rfl (by omega) (by decide) (Nat.le_of_ble_eq_true rfl)
  show AW _ _ _ _ _ _ _
  refine n_iconst 0 rfl dX12_readSitter_13 ?_
  refine n_bipush 59 rfl dX12_readSitter_14 ?_
  refine n_callV (mi' := miX12_behindWord) dX12_readSitter_16 lX12_260 mX12_behindWord (by decide) rfl rfl rfl (c_X12_behindWord (c := (siB (tkN D n) S N c)) (b := isK (tkN D n) ((siB (tkN D n) S N c)) 7) (x := x_10) (lo := 0) (hi := 59) hDl hn hc_4 hx_10 (by decide) (by decide) (fun M_16 v_16 hc_16 hv_16 hf_16 => ?_) d) rfl rfl (by omega) (by decide) (Nat.le_of_ble_eq_true rfl)
  show AW _ _ _ _ _ _ _
  rw [← kwd_b] at hc_16 hv_16
  have hM_16 := VM_mu hM_4 hf_16
  have hN_16 := VNM_mu hN_4 hf_16
  have h7_16 : ((siD (tkN D n) S N c)).2.1 ≤ 7 := hc_16.2.2.2.2
  have h9_16 : (tkN D n ((siD (tkN D n) S N c)).1).2.1 ≤ 900 := (tkN_G (D := D) hn ((siD (tkN D n) S N c)).1).2.1
  refine a_istore_n (by decide) rfl dX12_readSitter_19 ?_
  refine a_aload_n rfl dX12_readSitter_20 ?_
  refine a_aload_n rfl dX12_readSitter_21 ?_
  refine n_callV (mi' := miX12_isTall) dX12_readSitter_22 lX12_184 mX12_isTall (by decide) rfl rfl rfl (v_isTall (c := (siD (tkN D n) S N c)) hDl hn hc_16 (fun x_22 hx_22 => ?_) d) rfl rfl (by omega) (by decide) (Nat.le_of_ble_eq_true rfl)
  show AW _ _ _ _ _ _ _
  refine n_iconst 1 rfl dX12_readSitter_25 ?_
  refine n_bipush 99 rfl dX12_readSitter_26 ?_
  refine n_callV (mi' := miX12_behindWord) dX12_readSitter_28 lX12_260 mX12_behindWord (by decide) rfl rfl rfl (c_X12_behindWord (c := (siD (tkN D n) S N c)) (b := isK (tkN D n) ((siD (tkN D n) S N c)) 8) (x := x_22) (lo := 1) (hi := 99) hDl hn hc_16 hx_22 (by decide) (by decide) (fun M_28 v_28 hc_28 hv_28 hf_28 => ?_) d) rfl rfl (by omega) (by decide) (Nat.le_of_ble_eq_true rfl)
  show AW _ _ _ _ _ _ _
  rw [← kwd_b] at hc_28 hv_28
  have hM_28 := VM_mu hM_16 hf_28
  have hN_28 := VNM_mu hN_16 hf_28
  have h7_28 : ((siF (tkN D n) S N c)).2.1 ≤ 7 := hc_28.2.2.2.2
  have h9_28 : (tkN D n ((siF (tkN D n) S N c)).1).2.1 ≤ 900 := (tkN_G (D := D) hn ((siF (tkN D n) S N c)).1).2.1
  refine a_istore_n (by decide) rfl dX12_readSitter_31 ?_
  refine a_aload_n rfl dX12_readSitter_32 ?_
  refine a_aload_n rfl dX12_readSitter_33 ?_
  refine n_callV (mi' := miX12_isFor) dX12_readSitter_34 lX12_187 mX12_isFor (by decide) rfl rfl rfl (v_isFor (c := (siF (tkN D n) S N c)) hDl hn hc_28 (fun x_34 hx_34 => ?_) d) rfl rfl (by omega) (by decide) (Nat.le_of_ble_eq_true rfl)
  show AW _ _ _ _ _ _ _
  refine n_callV (mi' := miX12_must) dX12_readSitter_37 lX12_228 mX12_must (by decide) rfl rfl rfl (c_X12_must (c := (siF (tkN D n) S N c)) (b := isK (tkN D n) ((siF (tkN D n) S N c)) 9) hDl hn hc_28 (x := x_34) hx_34 (fun M_37 hc_37 hf_37 => ?_) d) rfl rfl (by omega) (by decide) (Nat.le_of_ble_eq_true rfl)
  show AW _ _ _ _ _ _ _
  rw [← kwd_b] at hc_37
  have hM_37 := VM_mu hM_28 hf_37
  have hN_37 := VNM_mu hN_28 hf_37
  have h7_37 : ((siG (tkN D n) S N c)).2.1 ≤ 7 := hc_37.2.2.2.2
  have h9_37 : (tkN D n ((siG (tkN D n) S N c)).1).2.1 ≤ 900 := (tkN_G (D := D) hn ((siG (tkN D n) S N c)).1).2.1
  refine a_aload_n rfl dX12_readSitter_40 ?_
  refine n_iconst 4 rfl dX12_readSitter_41 ?_
  refine n_iconst 0 rfl dX12_readSitter_42 ?_
  refine n_callV (mi' := miX12_readTold) dX12_readSitter_43 lX12_268 mX12_readTold (by decide) rfl rfl rfl (c_readTold0 (c := (siG (tkN D n) S N c)) hDl hn hc_37 (b := 4) (by omega) hM_37 hF hN_37 (fun M_43 v_43 hc_43 hv_43 hf_43 => ?_) d) rfl rfl (by omega) (by decide) (Nat.le_of_ble_eq_true rfl)
  show AW _ _ _ _ _ _ _
  have hM_43 := VM_mu hM_37 hf_43
  have hN_43 := VNM_mu hN_37 hf_43
  have h7_43 : ((siH (tkN D n) S N c)).2.1 ≤ 7 := hc_43.2.2.2.2
  have h9_43 : (tkN D n ((siH (tkN D n) S N c)).1).2.1 ≤ 900 := (tkN_G (D := D) hn ((siH (tkN D n) S N c)).1).2.1
  refine a_istore_n (by decide) rfl dX12_readSitter_46 ?_
  refine a_aload_n rfl dX12_readSitter_47 ?_
  refine a_aload_n rfl dX12_readSitter_48 ?_
  refine n_callV (mi' := miX12_isWeight) dX12_readSitter_49 lX12_190 mX12_isWeight (by decide) rfl rfl rfl (v_isWeight (c := (siH (tkN D n) S N c)) hDl hn hc_43 (fun x_49 hx_49 => ?_) d) rfl rfl (by omega) (by decide) (Nat.le_of_ble_eq_true rfl)
  show AW _ _ _ _ _ _ _
  refine n_callV (mi' := miX12_perhaps) dX12_readSitter_52 lX12_264 mX12_perhaps (by decide) rfl rfl rfl (c_X12_perhaps (c := (siH (tkN D n) S N c)) (b := isK (tkN D n) ((siH (tkN D n) S N c)) 10) (x := x_49) hDl hn hc_43 hx_49 (fun hp0_52 hpk_52 M_52 hc_52 hf_52 => ?_) (fun hp_52 => ?_) d) rfl rfl (by omega) (by decide) (Nat.le_of_ble_eq_true rfl)
  · show AW _ _ _ _ _ _ _
    have hM_52 := VM_mu hM_43 hf_52
    have hN_52 := VNM_mu hN_43 hf_52
    have h7_52 : (spC (tkN D n) ((siH (tkN D n) S N c))).2.1 ≤ 7 := hc_52.2.2.2.2
    have h9_52 : (tkN D n (spC (tkN D n) ((siH (tkN D n) S N c))).1).2.1 ≤ 900 := (tkN_G (D := D) hn (spC (tkN D n) ((siH (tkN D n) S N c))).1).2.1
    refine n_if_eq 68 (by decide) dX12_readSitter_55 (by decide) (fun h => absurd h (by decide)) (fun _ => ?_)
    refine a_aload_n rfl dX12_readSitter_58 ?_
    refine n_iconst 1 rfl dX12_readSitter_59 ?_
    refine n_bipush 9 rfl dX12_readSitter_60 ?_
    refine n_callV (mi' := miX12_count) dX12_readSitter_62 lX12_232 mX12_count (by decide) rfl rfl rfl (c_X12_count (c := spC (tkN D n) ((siH (tkN D n) S N c))) (lo := 1) (hi := 9) hDl hn hc_52 (by decide) (by decide) (fun M_62 v_62 hc_62 hv_62 hf_62 => ?_) d) rfl rfl (by omega) (by decide) (Nat.le_of_ble_eq_true rfl)
    show AW _ _ _ _ _ _ _
    have hM_62 := VM_mu hM_52 hf_62
    have hN_62 := VNM_mu hN_52 hf_62
    have h7_62 : (numC (tkN D n) 1 9 (spC (tkN D n) (siH (tkN D n) S N c))).2.1 ≤ 7 := hc_62.2.2.2.2
    have h9_62 : (tkN D n (numC (tkN D n) 1 9 (spC (tkN D n) (siH (tkN D n) S N c))).1).2.1 ≤ 900 := (tkN_G (D := D) hn (numC (tkN D n) 1 9 (spC (tkN D n) (siH (tkN D n) S N c))).1).2.1
    refine a_goto 69 dX12_readSitter_65 (by decide) ?_
    refine a_istore (by decide) rfl dX12_readSitter_69 ?_
    have e1 : opN (tkN D n) 10 1 9 (siH (tkN D n) S N c) = numC (tkN D n) 1 9 (spC (tkN D n) (siH (tkN D n) S N c)) := if_pos hpk_52
    have e2 : opV (tkN D n) 10 1 (siH (tkN D n) S N c) = cd (tkN D n) (spC (tkN D n) (siH (tkN D n) S N c)) := if_pos hpk_52
    refine a_aload_n rfl dX12_readSitter_71 ?_
    refine g_i (show M_62.1 132 12 = nI (numC (tkN D n) 1 9 (spC (tkN D n) (siH (tkN D n) S N c))).2.1 from hc_62.2.2.1) (by decide) rfl fX12_212 rfl dX12_readSitter_72 ?_
    refine n_if_ne 88 (by omega) dX12_readSitter_75 (by decide) (fun h_75 => ?_) (fun h_75 => ?_)
    · refine a_vret dX12_readSitter_88 rfl ?_
      exact hQ _ (by show MU _ D n (opN (tkN D n) 10 1 9 (siH (tkN D n) S N c)); rw [e1]; exact hc_62) (fun z => absurd (show (opN (tkN D n) 10 1 9 (siH (tkN D n) S N c)).2.1 = 0 from z) (by rw [e1]; exact h_75)) (((((((hf_4.mo (fun k j h => h.elim mu_mr (fun z => Or.inr (Or.inr (by omega))))).t (hf_16.mo (fun _ _ h => mu_mr h))).t (hf_28.mo (fun _ _ h => mu_mr h))).t (hf_37.mo (fun _ _ h => mu_mr h))).t (hf_43.mo (fun _ _ h => mu_mr h))).t (hf_52.mo (fun _ _ h => mu_mr h))).t (hf_62.mo (fun _ _ h => mu_mr h)))
    · have zH : (siH (tkN D n) S N c).2.1 = 0 := sp_0 (num_0 h_75).1
      have z7 := ref_0 (sp_0 (show (spC (tkN D n) (refC (tkN D n) (nmM (tkN D n) S N (siG (tkN D n) S N c)) (siG (tkN D n) S N c))).2.1 = 0 from zH))
      have z6 := kwd_0 (show (kwdC (tkN D n) 9 (siF (tkN D n) S N c)).2.1 = 0 from z7.1)
      have z5 := num_0 (show (numC (tkN D n) 1 99 (siE (tkN D n) S N c)).2.1 = 0 from z6.1)
      have z4 := kwd_0 (show (kwdC (tkN D n) 8 (siD (tkN D n) S N c)).2.1 = 0 from z5.1)
      have z3 := num_0 (show (numC (tkN D n) 0 59 (siC (tkN D n) S N c)).2.1 = 0 from z4.1)
      have z2 := kwd_0 (show (kwdC (tkN D n) 7 (siB (tkN D n) S N c)).2.1 = 0 from z3.1)
      have z1 := new_0 (show (newC (tkN D n) S N (siA (tkN D n) S c)).2.1 = 0 from z2.1)
      have z0 := bg_0 (by decide) (show (bgC (tkN D n) (decide (7 ≤ S 0 4)) 6 c).2.1 = 0 from z1.1)
      have hm6 : S 0 4 < 7 := Nat.not_le.mp (of_decide_eq_false z0.2.1)
      have hw4 := hv_4 z2.1
      have e16 := hv_16 z4.1
      have e28 := hv_28 z6.1
      obtain ⟨k1, hk1, ek1⟩ := hv_43 zH
      have hX : (nmM (tkN D n) S N (siG (tkN D n) S N c)).getD 0 = k1 := nmM_some hk1
      subst e16
      subst e28
      subst ek1
      have e62 := hv_62 h_75
      subst e62
      refine a_aload_n rfl dX12_readSitter_78 ?_
      refine n_iconst 4 rfl dX12_readSitter_79 ?_
      refine a_iload_n rfl dX12_readSitter_80 ?_
      refine a_iload_n rfl dX12_readSitter_81 ?_
      refine a_iload_n rfl dX12_readSitter_82 ?_
      refine a_iload rfl dX12_readSitter_83 ?_
      refine n_callV (mi' := miX12_sits) dX12_readSitter_85 lX12_279 mX12_sits (by decide) rfl rfl rfl (c_X12_sits (b := 4) (by omega) hM_62 hF hm6 (fun hVb_85 => ?_) d) rfl rfl (by omega) (by decide) (Nat.le_of_ble_eq_true rfl)
      show AW _ _ _ _ _ _ _
      refine a_vret dX12_readSitter_88 rfl ?_
      have hfo : fr (fun k j => k = 137 ∧ 1448 ≤ j ∧ j < 1538) M_62 (siM (siM (siM (siM (siM M_62 137 (362 * 4 + 38 + S 0 4) (nI (cd (tkN D n) (siC (tkN D n) S N c)))) 137 (362 * 4 + 45 + S 0 4) (nI (cd (tkN D n) (siE (tkN D n) S N c)))) 137 (362 * 4 + 52 + S 0 4) (nI k1)) 137 (362 * 4 + 59 + S 0 4) (nI (cd (tkN D n) (spC (tkN D n) (siH (tkN D n) S N c))))) 137 (362 * 4 + 2) (nI (S 0 4 + 1))) := ((((fr.r.si (by omega)).si (by omega)).si (by omega)).si (by omega)).si (by omega)
      refine hQ _ (by show MU _ D n (opN (tkN D n) 10 1 9 (siH (tkN D n) S N c)); rw [e1]; exact MU_fr hc_62 hfo (fun k j z => by omega)) (fun z => ?_) ((((((((hf_4.mo (fun k j h => h.elim mu_mr (fun z => Or.inr (Or.inr (by omega))))).t (hf_16.mo (fun _ _ h => mu_mr h))).t (hf_28.mo (fun _ _ h => mu_mr h))).t (hf_37.mo (fun _ _ h => mu_mr h))).t (hf_43.mo (fun _ _ h => mu_mr h))).t (hf_52.mo (fun _ _ h => mu_mr h))).t (hf_62.mo (fun _ _ h => mu_mr h))).t (hfo.mo (fun k j h => Or.inr (Or.inl h))))
      show VM (362 * 4) _ (addSN S (cd (tkN D n) (siC (tkN D n) S N c)) (cd (tkN D n) (siE (tkN D n) S N c)) ((nmM (tkN D n) S N (siG (tkN D n) S N c)).getD 0) (opV (tkN D n) 10 1 (siH (tkN D n) S N c))) ∧ VNM 4 _ (addSN S (cd (tkN D n) (siC (tkN D n) S N c)) (cd (tkN D n) (siE (tkN D n) S N c)) ((nmM (tkN D n) S N (siG (tkN D n) S N c)).getD 0) (opV (tkN D n) 10 1 (siH (tkN D n) S N c))) (upN N 1 (S 0 4) (lN (cd (tkN D n) (siA (tkN D n) S c))))
      rw [e2, hX]
      have hfw := (((((hf_16.t hf_28).t hf_37).t hf_43).t hf_52).t hf_62)
      refine ⟨hVb_85, VNM_ads hN (fun j hj => (hfw 139 j (by unfold muP; omega)).2.trans (hf_4 139 j (by unfold muP; omega)).2) ((hfw 139 _ (by unfold muP; omega)).2.trans hw4) hm⟩
  · show AW _ _ _ _ _ _ _
    refine n_if_eq 68 (by decide) dX12_readSitter_55 (by decide) (fun _ => ?_) (fun h => absurd h (by decide))
    refine n_iconst 1 rfl dX12_readSitter_68 ?_
    refine a_istore (by decide) rfl dX12_readSitter_69 ?_
    refine a_aload_n rfl dX12_readSitter_71 ?_
    refine g_i (show M_43.1 132 12 = nI ((siH (tkN D n) S N c)).2.1 from hc_43.2.2.1) (by decide) rfl fX12_212 rfl dX12_readSitter_72 ?_
    refine n_if_ne 88 (by omega) dX12_readSitter_75 (by decide) (fun h_75 => ?_) (fun h_75 => ?_)
    · refine a_vret dX12_readSitter_88 rfl ?_
      have e1 : opN (tkN D n) 10 1 9 (siH (tkN D n) S N c) = (siH (tkN D n) S N c) := by
        unfold opN
        split
        · rw [sp_n h_75, num_n h_75]
        · rfl
      exact hQ _ (by show MU _ D n (opN (tkN D n) 10 1 9 (siH (tkN D n) S N c)); rw [e1]; exact hc_43) (fun z => absurd (show (opN (tkN D n) 10 1 9 (siH (tkN D n) S N c)).2.1 = 0 from z) (by rw [e1]; exact h_75)) (((((hf_4.mo (fun k j h => h.elim mu_mr (fun z => Or.inr (Or.inr (by omega))))).t (hf_16.mo (fun _ _ h => mu_mr h))).t (hf_28.mo (fun _ _ h => mu_mr h))).t (hf_37.mo (fun _ _ h => mu_mr h))).t (hf_43.mo (fun _ _ h => mu_mr h)))
    · have zH : (siH (tkN D n) S N c).2.1 = 0 := h_75
      have hnk : ¬ isK (tkN D n) (siH (tkN D n) S N c) 10 = true := fun q => hp_52 ⟨zH, q⟩
      have e1 : opN (tkN D n) 10 1 9 (siH (tkN D n) S N c) = (siH (tkN D n) S N c) := if_neg hnk
      have e2 : opV (tkN D n) 10 1 (siH (tkN D n) S N c) = 1 := if_neg hnk
      have z7 := ref_0 (sp_0 (show (spC (tkN D n) (refC (tkN D n) (nmM (tkN D n) S N (siG (tkN D n) S N c)) (siG (tkN D n) S N c))).2.1 = 0 from zH))
      have z6 := kwd_0 (show (kwdC (tkN D n) 9 (siF (tkN D n) S N c)).2.1 = 0 from z7.1)
      have z5 := num_0 (show (numC (tkN D n) 1 99 (siE (tkN D n) S N c)).2.1 = 0 from z6.1)
      have z4 := kwd_0 (show (kwdC (tkN D n) 8 (siD (tkN D n) S N c)).2.1 = 0 from z5.1)
      have z3 := num_0 (show (numC (tkN D n) 0 59 (siC (tkN D n) S N c)).2.1 = 0 from z4.1)
      have z2 := kwd_0 (show (kwdC (tkN D n) 7 (siB (tkN D n) S N c)).2.1 = 0 from z3.1)
      have z1 := new_0 (show (newC (tkN D n) S N (siA (tkN D n) S c)).2.1 = 0 from z2.1)
      have z0 := bg_0 (by decide) (show (bgC (tkN D n) (decide (7 ≤ S 0 4)) 6 c).2.1 = 0 from z1.1)
      have hm6 : S 0 4 < 7 := Nat.not_le.mp (of_decide_eq_false z0.2.1)
      have hw4 := hv_4 z2.1
      have e16 := hv_16 z4.1
      have e28 := hv_28 z6.1
      obtain ⟨k1, hk1, ek1⟩ := hv_43 zH
      have hX : (nmM (tkN D n) S N (siG (tkN D n) S N c)).getD 0 = k1 := nmM_some hk1
      subst e16
      subst e28
      subst ek1
      refine a_aload_n rfl dX12_readSitter_78 ?_
      refine n_iconst 4 rfl dX12_readSitter_79 ?_
      refine a_iload_n rfl dX12_readSitter_80 ?_
      refine a_iload_n rfl dX12_readSitter_81 ?_
      refine a_iload_n rfl dX12_readSitter_82 ?_
      refine a_iload rfl dX12_readSitter_83 ?_
      refine n_callV (mi' := miX12_sits) dX12_readSitter_85 lX12_279 mX12_sits (by decide) rfl rfl rfl (c_X12_sits (b := 4) (by omega) hM_43 hF hm6 (fun hVb_85 => ?_) d) rfl rfl (by omega) (by decide) (Nat.le_of_ble_eq_true rfl)
      show AW _ _ _ _ _ _ _
      refine a_vret dX12_readSitter_88 rfl ?_
      have hfo : fr (fun k j => k = 137 ∧ 1448 ≤ j ∧ j < 1538) M_43 (siM (siM (siM (siM (siM M_43 137 (362 * 4 + 38 + S 0 4) (nI (cd (tkN D n) (siC (tkN D n) S N c)))) 137 (362 * 4 + 45 + S 0 4) (nI (cd (tkN D n) (siE (tkN D n) S N c)))) 137 (362 * 4 + 52 + S 0 4) (nI k1)) 137 (362 * 4 + 59 + S 0 4) (nI (1))) 137 (362 * 4 + 2) (nI (S 0 4 + 1))) := ((((fr.r.si (by omega)).si (by omega)).si (by omega)).si (by omega)).si (by omega)
      refine hQ _ (by show MU _ D n (opN (tkN D n) 10 1 9 (siH (tkN D n) S N c)); rw [e1]; exact MU_fr hc_43 hfo (fun k j z => by omega)) (fun z => ?_) ((((((hf_4.mo (fun k j h => h.elim mu_mr (fun z => Or.inr (Or.inr (by omega))))).t (hf_16.mo (fun _ _ h => mu_mr h))).t (hf_28.mo (fun _ _ h => mu_mr h))).t (hf_37.mo (fun _ _ h => mu_mr h))).t (hf_43.mo (fun _ _ h => mu_mr h))).t (hfo.mo (fun k j h => Or.inr (Or.inl h))))
      show VM (362 * 4) _ (addSN S (cd (tkN D n) (siC (tkN D n) S N c)) (cd (tkN D n) (siE (tkN D n) S N c)) ((nmM (tkN D n) S N (siG (tkN D n) S N c)).getD 0) (opV (tkN D n) 10 1 (siH (tkN D n) S N c))) ∧ VNM 4 _ (addSN S (cd (tkN D n) (siC (tkN D n) S N c)) (cd (tkN D n) (siE (tkN D n) S N c)) ((nmM (tkN D n) S N (siG (tkN D n) S N c)).getD 0) (opV (tkN D n) 10 1 (siH (tkN D n) S N c))) (upN N 1 (S 0 4) (lN (cd (tkN D n) (siA (tkN D n) S c))))
      rw [e2, hX]
      have hfw := (((hf_16.t hf_28).t hf_37).t hf_43)
      refine ⟨hVb_85, VNM_ads hN (fun j hj => (hfw 139 j (by unfold muP; omega)).2.trans (hf_4 139 j (by unfold muP; omega)).2) ((hfw 139 _ (by unfold muP; omega)).2.trans hw4) hm⟩

set_option maxRecDepth 100000 in
set_option maxHeartbeats 800000 in
theorem c_X12_readNews {M : Mm} {D : Nat → Nat} {n : Nat} (hDl : ∀ j, D j < 256) (hn : n ≤ 900) {c : CC} (hU : MU M D n c) {S : ST} {N : NM} (hM : VM (362 * 4) M S) (hF : WF S) (hN : VNM 4 M S N) (h0 : c.2.1 = 0) (hk1 : kd (tkN D n) c = 1) {Q : Option Value → Mm → Prop} (hQ : ∀ M', MU M' D n (ptN (tkN D n) S N c).1 → ((ptN (tkN D n) S N c).1.2.1 = 0 → VM (362 * 4) M' (ptN (tkN D n) S N c).2.1 ∧ VNM 4 M' (ptN (tkN D n) S N c).2.1 (ptN (tkN D n) S N c).2.2) → fr mrP M M' → Q none M') (d : Nat) : AMt miX12_readNews (d + 7) [.ref 132] M Q := by
  refine AMt.of (by decide) (Nat.le_of_ble_eq_true rfl) ?_
  show AW miX12_readNews (d + 7) (mxA Q) 0 [(0, some (.ref 132))] [] M
  have hf7 := hU.2.2.2.2
  have hKG := tkN_G (D := D) hn c.1
  have hkd : kd (tkN D n) c ≤ 6 := hKG.1
  have hst := hKG.2.1
  obtain ⟨mk0, mk1, mk2, mk3, mk4, mk5⟩ := mkd_i hkd
  have hm := WF_m hF
  have hh := WF_h hF
  have hs := WF_s hF
  have hn8 := WF_n hF
  refine a_aload_n rfl dX12_readNews_0 ?_
  refine a_geta dX12_readNews_1 fX12_35 (by decide) rfl rfl ?_
  refine n_sipush 1451 rfl dX12_readNews_4 ?_
  refine v_iald (by omega) (hM.2.2.2.1) (by decide) rfl (by decide) dX12_readNews_7 ?_
  refine n_bipush 8 rfl dX12_readNews_8 ?_
  refine n_icmp_ne 23 (by omega) (by omega) dX12_readNews_10 (by decide) (fun h_10 => ?_) (fun h_10 => ?_)
  · refine a_aload_n rfl dX12_readNews_23 ?_
    refine n_iconst 1 rfl dX12_readNews_24 ?_
    refine n_callV (mi' := miX12_must) dX12_readNews_25 lX12_228 mX12_must (by decide) rfl rfl rfl (c_X12_must (c := c) (b := true) hDl hn hU (x := 1) rfl (fun M_25 hc_25 hf_25 => ?_) d) rfl rfl (by omega) (by decide) (Nat.le_of_ble_eq_true rfl)
    show AW _ _ _ _ _ _ _
    rw [if_pos rfl] at hc_25
    have hq_25 : spC (tkN D n) (c) = (neA (tkN D n) S c) := congrArg (spC (tkN D n)) (if_neg (fun q => absurd (of_decide_eq_true q) (by omega))).symm
    rw [hq_25] at hc_25
    have hM_25 := VM_mu hM hf_25
    have hN_25 := VNM_mu hN hf_25
    have h7_25 : ((neA (tkN D n) S c)).2.1 ≤ 7 := hc_25.2.2.2.2
    have h9_25 : (tkN D n ((neA (tkN D n) S c)).1).2.1 ≤ 900 := (tkN_G (D := D) hn ((neA (tkN D n) S c)).1).2.1
    refine a_aload_n rfl dX12_readNews_28 ?_
    refine n_iconst 4 rfl dX12_readNews_29 ?_
    refine n_iconst 0 rfl dX12_readNews_30 ?_
    refine n_callV (mi' := miX12_readTold) dX12_readNews_31 lX12_268 mX12_readTold (by decide) rfl rfl rfl (c_readTold0 (c := (neA (tkN D n) S c)) hDl hn hc_25 (b := 4) (by omega) hM_25 hF hN_25 (fun M_31 v_31 hc_31 hv_31 hf_31 => ?_) d) rfl rfl (by omega) (by decide) (Nat.le_of_ble_eq_true rfl)
    show AW _ _ _ _ _ _ _
    have hM_31 := VM_mu hM_25 hf_31
    have hN_31 := VNM_mu hN_25 hf_31
    have h7_31 : ((neB (tkN D n) S N c)).2.1 ≤ 7 := hc_31.2.2.2.2
    have h9_31 : (tkN D n ((neB (tkN D n) S N c)).1).2.1 ≤ 900 := (tkN_G (D := D) hn ((neB (tkN D n) S N c)).1).2.1
    refine a_istore_n (by decide) rfl dX12_readNews_34 ?_
    refine a_aload_n rfl dX12_readNews_35 ?_
    refine a_aload_n rfl dX12_readNews_36 ?_
    refine n_callV (mi' := miX12_isSize) dX12_readNews_37 lX12_196 mX12_isSize (by decide) rfl rfl rfl (v_isSize (c := (neB (tkN D n) S N c)) hDl hn hc_31 (fun x_37 hx_37 => ?_) d) rfl rfl (by omega) (by decide) (Nat.le_of_ble_eq_true rfl)
    show AW _ _ _ _ _ _ _
    refine n_iconst 1 rfl dX12_readNews_40 ?_
    refine n_bipush 100 rfl dX12_readNews_41 ?_
    refine n_callV (mi' := miX12_behindWord) dX12_readNews_43 lX12_260 mX12_behindWord (by decide) rfl rfl rfl (c_X12_behindWord (c := (neB (tkN D n) S N c)) (b := isK (tkN D n) ((neB (tkN D n) S N c)) 12) (x := x_37) (lo := 1) (hi := 100) hDl hn hc_31 hx_37 (by decide) (by decide) (fun M_43 v_43 hc_43 hv_43 hf_43 => ?_) d) rfl rfl (by omega) (by decide) (Nat.le_of_ble_eq_true rfl)
    show AW _ _ _ _ _ _ _
    rw [← kwd_b] at hc_43 hv_43
    have hM_43 := VM_mu hM_31 hf_43
    have hN_43 := VNM_mu hN_31 hf_43
    have h7_43 : (numC (tkN D n) 1 100 (neC (tkN D n) S N c)).2.1 ≤ 7 := hc_43.2.2.2.2
    have h9_43 : (tkN D n (numC (tkN D n) 1 100 (neC (tkN D n) S N c)).1).2.1 ≤ 900 := (tkN_G (D := D) hn (numC (tkN D n) 1 100 (neC (tkN D n) S N c)).1).2.1
    refine a_istore_n (by decide) rfl dX12_readNews_46 ?_
    refine a_aload_n rfl dX12_readNews_47 ?_
    refine g_i (show M_43.1 132 12 = nI (numC (tkN D n) 1 100 (neC (tkN D n) S N c)).2.1 from hc_43.2.2.1) (by decide) rfl fX12_212 rfl dX12_readNews_48 ?_
    refine n_if_ne 61 (by omega) dX12_readNews_51 (by decide) (fun h_51 => ?_) (fun h_51 => ?_)
    · refine a_vret dX12_readNews_61 rfl ?_
      exact hQ _ hc_43 (fun z => absurd (show (numC (tkN D n) 1 100 (neC (tkN D n) S N c)).2.1 = 0 from z) h_51) (((hf_25.mo (fun _ _ h => mu_mr h)).t (hf_31.mo (fun _ _ h => mu_mr h))).t (hf_43.mo (fun _ _ h => mu_mr h)))
    · have z3 := num_0 h_51
      have z2 := kwd_0 (show (kwdC (tkN D n) 12 (neB (tkN D n) S N c)).2.1 = 0 from z3.1)
      have z1 := ref_0 (sp_0 (show (spC (tkN D n) (refC (tkN D n) (nmM (tkN D n) S N (neA (tkN D n) S c)) (neA (tkN D n) S c))).2.1 = 0 from z2.1))
      have z0 := bg_0 (by decide) (show (bgC (tkN D n) (decide (8 ≤ S 0 5)) 6 c).2.1 = 0 from z1.1)
      have hm6 : S 0 5 < 8 := Nat.not_le.mp (of_decide_eq_false z0.2.1)
      have e43 := hv_43 h_51
      obtain ⟨k1, hk1, ek1⟩ := hv_31 z2.1
      have hX : (nmM (tkN D n) S N (neA (tkN D n) S c)).getD 0 = k1 := nmM_some hk1
      subst e43
      subst ek1
      refine a_aload_n rfl dX12_readNews_54 ?_
      refine n_iconst 4 rfl dX12_readNews_55 ?_
      refine a_iload_n rfl dX12_readNews_56 ?_
      refine a_iload_n rfl dX12_readNews_57 ?_
      refine n_callV (mi' := miX12_hears) dX12_readNews_58 lX12_283 mX12_hears (by decide) rfl rfl rfl (c_X12_hears (b := 4) (by omega) hM_43 hF hm6 (fun hVb_58 => ?_) d) rfl rfl (by omega) (by decide) (Nat.le_of_ble_eq_true rfl)
      show AW _ _ _ _ _ _ _
      refine a_vret dX12_readNews_61 rfl ?_
      have hfo : fr (fun k j => k = 137 ∧ 1448 ≤ j ∧ j < 1538) M_43 (siM (siM (siM (siM M_43 137 (362 * 4 + 66 + S 0 5) (nI k1)) 137 (362 * 4 + 74 + S 0 5) (nI (cd (tkN D n) (neC (tkN D n) S N c)))) 137 (362 * 4 + 82 + S 0 5) (nI 0)) 137 (362 * 4 + 3) (nI (S 0 5 + 1))) := (((fr.r.si (by omega)).si (by omega)).si (by omega)).si (by omega)
      refine hQ _ (MU_fr hc_43 hfo (fun k j z => by omega)) (fun z => ?_) ((((hf_25.mo (fun _ _ h => mu_mr h)).t (hf_31.mo (fun _ _ h => mu_mr h))).t (hf_43.mo (fun _ _ h => mu_mr h))).t (hfo.mo (fun k j h => Or.inr (Or.inl h))))
      show VM (362 * 4) _ (addNN S ((nmM (tkN D n) S N (neA (tkN D n) S c)).getD 0) (cd (tkN D n) (neC (tkN D n) S N c))) ∧ VNM 4 _ (addNN S ((nmM (tkN D n) S N (neA (tkN D n) S c)).getD 0) (cd (tkN D n) (neC (tkN D n) S N c))) N
      rw [hX]
      exact ⟨hVb_58, VNM_fr hN_43 (fun j _ _ => (hfo 139 j (by omega)).2)⟩
  · refine a_aload_n rfl dX12_readNews_13 ?_
    refine n_bipush 6 rfl dX12_readNews_14 ?_
    refine a_aload_n rfl dX12_readNews_16 ?_
    refine g_i hU.2.1.2.1 (by decide) rfl fX12_118 rfl dX12_readNews_17 ?_
    refine n_callV (mi' := miX12_fail) dX12_readNews_20 lX12_218 mX12_fail (by decide) rfl rfl rfl (c_X12_fail (c := c) hDl hn hU (by omega) (fun _ => by omega) rfl (fun M_20 hc_20 hf_20 => ?_) d) rfl rfl (by omega) (by decide) (Nat.le_of_ble_eq_true rfl)
    show AW _ _ _ _ _ _ _
    have hM_20 := VM_mu hM hf_20
    have hN_20 := VNM_mu hN hf_20
    have h7_20 : (flC (tkN D n) 6 c).2.1 ≤ 7 := hc_20.2.2.2.2
    have h9_20 : (tkN D n (flC (tkN D n) 6 c).1).2.1 ≤ 900 := (tkN_G (D := D) hn (flC (tkN D n) 6 c).1).2.1
    refine a_aload_n rfl dX12_readNews_23 ?_
    refine n_iconst 1 rfl dX12_readNews_24 ?_
    refine n_callV (mi' := miX12_must) dX12_readNews_25 lX12_228 mX12_must (by decide) rfl rfl rfl (c_X12_must (c := flC (tkN D n) 6 c) (b := true) hDl hn hc_20 (x := 1) rfl (fun M_25 hc_25 hf_25 => ?_) d) rfl rfl (by omega) (by decide) (Nat.le_of_ble_eq_true rfl)
    show AW _ _ _ _ _ _ _
    rw [if_pos rfl] at hc_25
    have hq_25 : spC (tkN D n) (flC (tkN D n) 6 c) = (neA (tkN D n) S c) := congrArg (spC (tkN D n)) (if_pos (decide_eq_true (by omega))).symm
    rw [hq_25] at hc_25
    have hM_25 := VM_mu hM_20 hf_25
    have hN_25 := VNM_mu hN_20 hf_25
    have h7_25 : ((neA (tkN D n) S c)).2.1 ≤ 7 := hc_25.2.2.2.2
    have h9_25 : (tkN D n ((neA (tkN D n) S c)).1).2.1 ≤ 900 := (tkN_G (D := D) hn ((neA (tkN D n) S c)).1).2.1
    refine a_aload_n rfl dX12_readNews_28 ?_
    refine n_iconst 4 rfl dX12_readNews_29 ?_
    refine n_iconst 0 rfl dX12_readNews_30 ?_
    refine n_callV (mi' := miX12_readTold) dX12_readNews_31 lX12_268 mX12_readTold (by decide) rfl rfl rfl (c_readTold0 (c := (neA (tkN D n) S c)) hDl hn hc_25 (b := 4) (by omega) hM_25 hF hN_25 (fun M_31 v_31 hc_31 hv_31 hf_31 => ?_) d) rfl rfl (by omega) (by decide) (Nat.le_of_ble_eq_true rfl)
    show AW _ _ _ _ _ _ _
    have hM_31 := VM_mu hM_25 hf_31
    have hN_31 := VNM_mu hN_25 hf_31
    have h7_31 : ((neB (tkN D n) S N c)).2.1 ≤ 7 := hc_31.2.2.2.2
    have h9_31 : (tkN D n ((neB (tkN D n) S N c)).1).2.1 ≤ 900 := (tkN_G (D := D) hn ((neB (tkN D n) S N c)).1).2.1
    refine a_istore_n (by decide) rfl dX12_readNews_34 ?_
    refine a_aload_n rfl dX12_readNews_35 ?_
    refine a_aload_n rfl dX12_readNews_36 ?_
    refine n_callV (mi' := miX12_isSize) dX12_readNews_37 lX12_196 mX12_isSize (by decide) rfl rfl rfl (v_isSize (c := (neB (tkN D n) S N c)) hDl hn hc_31 (fun x_37 hx_37 => ?_) d) rfl rfl (by omega) (by decide) (Nat.le_of_ble_eq_true rfl)
    show AW _ _ _ _ _ _ _
    refine n_iconst 1 rfl dX12_readNews_40 ?_
    refine n_bipush 100 rfl dX12_readNews_41 ?_
    refine n_callV (mi' := miX12_behindWord) dX12_readNews_43 lX12_260 mX12_behindWord (by decide) rfl rfl rfl (c_X12_behindWord (c := (neB (tkN D n) S N c)) (b := isK (tkN D n) ((neB (tkN D n) S N c)) 12) (x := x_37) (lo := 1) (hi := 100) hDl hn hc_31 hx_37 (by decide) (by decide) (fun M_43 v_43 hc_43 hv_43 hf_43 => ?_) d) rfl rfl (by omega) (by decide) (Nat.le_of_ble_eq_true rfl)
    show AW _ _ _ _ _ _ _
    rw [← kwd_b] at hc_43 hv_43
    have hM_43 := VM_mu hM_31 hf_43
    have hN_43 := VNM_mu hN_31 hf_43
    have h7_43 : (numC (tkN D n) 1 100 (neC (tkN D n) S N c)).2.1 ≤ 7 := hc_43.2.2.2.2
    have h9_43 : (tkN D n (numC (tkN D n) 1 100 (neC (tkN D n) S N c)).1).2.1 ≤ 900 := (tkN_G (D := D) hn (numC (tkN D n) 1 100 (neC (tkN D n) S N c)).1).2.1
    refine a_istore_n (by decide) rfl dX12_readNews_46 ?_
    refine a_aload_n rfl dX12_readNews_47 ?_
    refine g_i (show M_43.1 132 12 = nI (numC (tkN D n) 1 100 (neC (tkN D n) S N c)).2.1 from hc_43.2.2.1) (by decide) rfl fX12_212 rfl dX12_readNews_48 ?_
    refine n_if_ne 61 (by omega) dX12_readNews_51 (by decide) (fun h_51 => ?_) (fun h_51 => ?_)
    · refine a_vret dX12_readNews_61 rfl ?_
      exact hQ _ hc_43 (fun z => absurd (show (numC (tkN D n) 1 100 (neC (tkN D n) S N c)).2.1 = 0 from z) h_51) ((((hf_20.mo (fun _ _ h => mu_mr h)).t (hf_25.mo (fun _ _ h => mu_mr h))).t (hf_31.mo (fun _ _ h => mu_mr h))).t (hf_43.mo (fun _ _ h => mu_mr h)))
    · have z3 := num_0 h_51
      have z2 := kwd_0 (show (kwdC (tkN D n) 12 (neB (tkN D n) S N c)).2.1 = 0 from z3.1)
      have z1 := ref_0 (sp_0 (show (spC (tkN D n) (refC (tkN D n) (nmM (tkN D n) S N (neA (tkN D n) S c)) (neA (tkN D n) S c))).2.1 = 0 from z2.1))
      have z0 := bg_0 (by decide) (show (bgC (tkN D n) (decide (8 ≤ S 0 5)) 6 c).2.1 = 0 from z1.1)
      have hm6 : S 0 5 < 8 := Nat.not_le.mp (of_decide_eq_false z0.2.1)
      have e43 := hv_43 h_51
      obtain ⟨k1, hk1, ek1⟩ := hv_31 z2.1
      have hX : (nmM (tkN D n) S N (neA (tkN D n) S c)).getD 0 = k1 := nmM_some hk1
      subst e43
      subst ek1
      refine a_aload_n rfl dX12_readNews_54 ?_
      refine n_iconst 4 rfl dX12_readNews_55 ?_
      refine a_iload_n rfl dX12_readNews_56 ?_
      refine a_iload_n rfl dX12_readNews_57 ?_
      refine n_callV (mi' := miX12_hears) dX12_readNews_58 lX12_283 mX12_hears (by decide) rfl rfl rfl (c_X12_hears (b := 4) (by omega) hM_43 hF hm6 (fun hVb_58 => ?_) d) rfl rfl (by omega) (by decide) (Nat.le_of_ble_eq_true rfl)
      show AW _ _ _ _ _ _ _
      refine a_vret dX12_readNews_61 rfl ?_
      have hfo : fr (fun k j => k = 137 ∧ 1448 ≤ j ∧ j < 1538) M_43 (siM (siM (siM (siM M_43 137 (362 * 4 + 66 + S 0 5) (nI k1)) 137 (362 * 4 + 74 + S 0 5) (nI (cd (tkN D n) (neC (tkN D n) S N c)))) 137 (362 * 4 + 82 + S 0 5) (nI 0)) 137 (362 * 4 + 3) (nI (S 0 5 + 1))) := (((fr.r.si (by omega)).si (by omega)).si (by omega)).si (by omega)
      refine hQ _ (MU_fr hc_43 hfo (fun k j z => by omega)) (fun z => ?_) (((((hf_20.mo (fun _ _ h => mu_mr h)).t (hf_25.mo (fun _ _ h => mu_mr h))).t (hf_31.mo (fun _ _ h => mu_mr h))).t (hf_43.mo (fun _ _ h => mu_mr h))).t (hfo.mo (fun k j h => Or.inr (Or.inl h))))
      show VM (362 * 4) _ (addNN S ((nmM (tkN D n) S N (neA (tkN D n) S c)).getD 0) (cd (tkN D n) (neC (tkN D n) S N c))) ∧ VNM 4 _ (addNN S ((nmM (tkN D n) S N (neA (tkN D n) S c)).getD 0) (cd (tkN D n) (neC (tkN D n) S N c))) N
      rw [hX]
      exact ⟨hVb_58, VNM_fr hN_43 (fun j _ _ => (hfo 139 j (by omega)).2)⟩

theorem si_all0 {M : Mm} {k i : Nat} {v : Int32} (h : ∀ j, j < i → M.1 k j = v) : ∀ j, j < i + 1 → (siM M k i v).1 k j = v := by
  intro j hj
  by_cases e : j = i
  · subst e; exact siS
  · exact siN (h j (by omega)) (by omega)
/-- as hoN, of the first i HOLDS -/
def hoP (S : ST) (but k i : Nat) : Nat := orN (fun q => !but.testBit q && S 3 q == k) (S 4) i
theorem hoP_t {S : ST} {but k i : Nat} (h : but.testBit i = false) (hk : k = S 3 i) : hoP S but k (i + 1) = hoP S but k i ||| 2 ^ S 4 i := by
  unfold hoP; subst hk; simp [orN, h]
theorem hoP_f {S : ST} {but k i : Nat} (h : ¬ (but.testBit i = false ∧ k = S 3 i)) : hoP S but k (i + 1) = hoP S but k i := by
  unfold hoP
  have : (!but.testBit i && S 3 i == k) = false := by
    cases e : but.testBit i with
    | true => rfl
    | false => simp; intro z; exact h ⟨e, z.symm⟩
  simp only [orN, this]; rfl
theorem hoP_lt {S : ST} (hF : WF S) (but k : Nat) {i : Nat} (hi : i ≤ S 0 3) : hoP S but k i < 2 ^ S 0 2 := orN_lt (fun j hj => WF_by hF j (by omega))
theorem ho_step {S : ST} {but i : Nat} {M : Mm} (h : ∀ k, k < 6 → M.1 125 k = nI (hoP S but k i)) (hb : but.testBit i = false) : ∀ k, k < 6 → (siM M 125 (S 3 i) (nI (hoP S but (S 3 i) i ||| 2 ^ S 4 i))).1 125 k = nI (hoP S but k (i + 1)) := by
  intro k hk
  by_cases e : k = S 3 i
  · subst e; rw [siS, hoP_t hb rfl]
  · rw [siN (h k hk) (by omega), hoP_f (fun z => e z.2)]
theorem ho_skip {S : ST} {but i : Nat} {M : Mm} (h : ∀ k, k < 6 → M.1 125 k = nI (hoP S but k i)) (hb : but.testBit i = true) : ∀ k, k < 6 → M.1 125 k = nI (hoP S but k (i + 1)) := by
  intro k hk
  rw [h k hk, hoP_f (fun z => by rw [hb] at z; exact absurd z.1 (by decide))]

set_option maxRecDepth 100000 in
set_option maxHeartbeats 800000 in
theorem c_fill6 {M : Mm} {k : Nat} (hk : k < nC) (hc : layC k = .inr (0, 6, fun _ => 0)) {v : Int32} {Q : Option Value → Mm → Prop} (hQ : ∀ M', (∀ j, j < 6 → M'.1 k j = v) → fr (fun q _ => q = k) M M' → Q none M') (d : Nat) : AMt miJ7_fill_53178 (d) [.ref k, .int v] M Q := by
  refine AMt.of (by decide) (Nat.le_of_ble_eq_true rfl) ?_
  show AW miJ7_fill_53178 (d) (mxA Q) 0 [(0, some (.ref k)), (1, some (.int v))] [] M
  refine n_iconst 0 rfl dJ7_fill_53178_0 ?_
  refine a_istore_n (by decide) rfl dJ7_fill_53178_1 ?_
  refine a_aload_n rfl dJ7_fill_53178_2 ?_
  refine a_alen dJ7_fill_53178_3 hk hc (by decide) ?_
  refine a_istore_n (by decide) rfl dJ7_fill_53178_4 ?_
  have loop_5 : ∀ i, i ≤ 6 → ∀ M1, ((∀ j, j < i → (M1).1 k j = v) ∧ fr (fun q _ => q = k) M M1) → AW miJ7_fill_53178 (d) (mxA Q) 5 [(0, some (.ref k)), (1, some (.int v)), (2, some (.int (nI i))), (3, some (.int (nI 6)))] [] M1 := by
    refine up (W := fun i => ∀ M1, ((∀ j, j < i → (M1).1 k j = v) ∧ fr (fun q _ => q = k) M M1) → AW miJ7_fill_53178 (d) (mxA Q) 5 [(0, some (.ref k)), (1, some (.int v)), (2, some (.int (nI i))), (3, some (.int (nI 6)))] [] M1) 6 (fun M1 hI_5 => ?_) (fun i hi_5 ih_5 M1 hI_5 => ?_)
    · refine a_iload_n rfl dJ7_fill_53178_5 ?_
      refine a_iload_n rfl dJ7_fill_53178_6 ?_
      refine n_icmp_ge 20 (by omega) (by omega) dJ7_fill_53178_7 (by decide) (fun h_7 => ?_) (fun h_7 => absurd h_7 (by omega))
      refine a_vret dJ7_fill_53178_20 rfl ?_
      exact hQ _ hI_5.1 hI_5.2
    · refine a_iload_n rfl dJ7_fill_53178_5 ?_
      refine a_iload_n rfl dJ7_fill_53178_6 ?_
      refine n_icmp_ge 20 (by omega) (by omega) dJ7_fill_53178_7 (by decide) (fun h_7 => absurd h_7 (by omega)) (fun h_7 => ?_)
      refine a_aload_n rfl dJ7_fill_53178_10 ?_
      refine a_iload_n rfl dJ7_fill_53178_11 ?_
      refine a_iload_n rfl dJ7_fill_53178_12 ?_
      refine n_iast (by omega) hk hc (by decide) dJ7_fill_53178_13 ?_
      refine n_iinc (c := 1) rfl rfl (by decide) rfl dJ7_fill_53178_14 ?_
      refine a_goto 5 dJ7_fill_53178_17 (by decide) ?_
      exact a_bk (ih_5 _ ⟨si_all0 hI_5.1, hI_5.2.si rfl⟩) ⟨rfl, rfl, rfl, rfl, trivial⟩
  exact a_bk (loop_5 0 (by omega) _ ⟨fun j hj => absurd hj (by omega), fr.r⟩) ⟨rfl, rfl, rfl, rfl, trivial⟩

set_option maxRecDepth 100000 in
set_option maxHeartbeats 800000 in
theorem c_fill896 {M : Mm} {k : Nat} (hk : k < nC) (hc : layC k = .inr (0, 896, fun _ => 0)) {v : Int32} {Q : Option Value → Mm → Prop} (hQ : ∀ M', (∀ j, j < 896 → M'.1 k j = v) → fr (fun q _ => q = k) M M' → Q none M') (d : Nat) : AMt miJ7_fill_53178 (d) [.ref k, .int v] M Q := by
  refine AMt.of (by decide) (Nat.le_of_ble_eq_true rfl) ?_
  show AW miJ7_fill_53178 (d) (mxA Q) 0 [(0, some (.ref k)), (1, some (.int v))] [] M
  refine n_iconst 0 rfl dJ7_fill_53178_0 ?_
  refine a_istore_n (by decide) rfl dJ7_fill_53178_1 ?_
  refine a_aload_n rfl dJ7_fill_53178_2 ?_
  refine a_alen dJ7_fill_53178_3 hk hc (by decide) ?_
  refine a_istore_n (by decide) rfl dJ7_fill_53178_4 ?_
  have loop_5 : ∀ i, i ≤ 896 → ∀ M1, ((∀ j, j < i → (M1).1 k j = v) ∧ fr (fun q _ => q = k) M M1) → AW miJ7_fill_53178 (d) (mxA Q) 5 [(0, some (.ref k)), (1, some (.int v)), (2, some (.int (nI i))), (3, some (.int (nI 896)))] [] M1 := by
    refine up (W := fun i => ∀ M1, ((∀ j, j < i → (M1).1 k j = v) ∧ fr (fun q _ => q = k) M M1) → AW miJ7_fill_53178 (d) (mxA Q) 5 [(0, some (.ref k)), (1, some (.int v)), (2, some (.int (nI i))), (3, some (.int (nI 896)))] [] M1) 896 (fun M1 hI_5 => ?_) (fun i hi_5 ih_5 M1 hI_5 => ?_)
    · refine a_iload_n rfl dJ7_fill_53178_5 ?_
      refine a_iload_n rfl dJ7_fill_53178_6 ?_
      refine n_icmp_ge 20 (by omega) (by omega) dJ7_fill_53178_7 (by decide) (fun h_7 => ?_) (fun h_7 => absurd h_7 (by omega))
      refine a_vret dJ7_fill_53178_20 rfl ?_
      exact hQ _ hI_5.1 hI_5.2
    · refine a_iload_n rfl dJ7_fill_53178_5 ?_
      refine a_iload_n rfl dJ7_fill_53178_6 ?_
      refine n_icmp_ge 20 (by omega) (by omega) dJ7_fill_53178_7 (by decide) (fun h_7 => absurd h_7 (by omega)) (fun h_7 => ?_)
      refine a_aload_n rfl dJ7_fill_53178_10 ?_
      refine a_iload_n rfl dJ7_fill_53178_11 ?_
      refine a_iload_n rfl dJ7_fill_53178_12 ?_
      refine n_iast (by omega) hk hc (by decide) dJ7_fill_53178_13 ?_
      refine n_iinc (c := 1) rfl rfl (by decide) rfl dJ7_fill_53178_14 ?_
      refine a_goto 5 dJ7_fill_53178_17 (by decide) ?_
      exact a_bk (ih_5 _ ⟨si_all0 hI_5.1, hI_5.2.si rfl⟩) ⟨rfl, rfl, rfl, rfl, trivial⟩
  exact a_bk (loop_5 0 (by omega) _ ⟨fun j hj => absurd hj (by omega), fr.r⟩) ⟨rfl, rfl, rfl, rfl, trivial⟩

set_option maxRecDepth 100000 in
set_option maxHeartbeats 800000 in
theorem c_X3_findHolders {M : Mm} {S : ST} (hV : VX 17 M S) (hF : WF S) {but : Nat} (hbut : but < 1024) {Q : Option Value → Mm → Prop} (hQ : ∀ M', (∀ k, k < 6 → M'.1 125 k = nI (hoN S but k)) → fr (fun k _ => k = 125) M M' → Q none M') (d : Nat) : AMt miX3_findHolders (d + 1) [.ref 123, .ref 17, .int (nI but)] M Q := by
  refine AMt.of (by decide) (Nat.le_of_ble_eq_true rfl) ?_
  show AW miX3_findHolders (d + 1) (mxA Q) 0 [(0, some (.ref 123)), (1, some (.ref 17)), (2, some (.int (nI but)))] [] M
  have hm := WF_m hF
  have hh := WF_h hF
  have hs := WF_s hF
  have hn := WF_n hF
  have hk3 := pow_le hm
  have hk0 := Nat.two_pow_pos (S 0 2)
  refine a_aload_n rfl dX3_findHolders_0 ?_
  refine a_geta dX3_findHolders_1 fX3_15 (by decide) rfl rfl ?_
  refine n_iconst 0 rfl dX3_findHolders_4 ?_
  refine n_callS (mi' := miJ7_fill_53178) dX3_findHolders_5 lX3_83 mJ7_fill_53178 (c_fill6 (by decide) rfl (fun M_5 hz_5 hf_5 => ?_) d) rfl rfl (by omega) (by decide) (Nat.le_of_ble_eq_true rfl)
  show AW _ _ _ _ _ _ _
  refine n_iconst 0 rfl dX3_findHolders_8 ?_
  refine a_istore_n (by decide) rfl dX3_findHolders_9 ?_
  have loop_10 : ∀ i, i ≤ S 0 3 → ∀ M1, ((∀ k, k < 6 → (M1).1 125 k = nI (hoP S but k i)) ∧ fr (fun k _ => k = 125) M M1) → AW miX3_findHolders (d + 1) (mxA Q) 10 [(0, some (.ref 123)), (1, some (.ref 17)), (2, some (.int (nI but))), (3, some (.int (nI i)))] [] M1 := by
    refine up (W := fun i => ∀ M1, ((∀ k, k < 6 → (M1).1 125 k = nI (hoP S but k i)) ∧ fr (fun k _ => k = 125) M M1) → AW miX3_findHolders (d + 1) (mxA Q) 10 [(0, some (.ref 123)), (1, some (.ref 17)), (2, some (.int (nI but))), (3, some (.int (nI i)))] [] M1) (S 0 3) (fun M1 hI_10 => ?_) (fun i hi_10 ih_10 M1 hI_10 => ?_)
    · have hV_10 : VX 17 M1 S := VX_fr hV (fun k j a b => (hI_10.2 k j (by omega)).1)
      refine a_iload_n rfl dX3_findHolders_10 ?_
      refine a_aload_n rfl dX3_findHolders_11 ?_
      refine g_i (VX_3 hV_10) (by decide) rfl fX3_89 rfl dX3_findHolders_12 ?_
      refine n_icmp_ge 54 (by omega) (by omega) dX3_findHolders_15 (by decide) (fun h_15 => ?_) (fun h_15 => absurd h_15 (by omega))
      refine a_vret dX3_findHolders_54 rfl ?_
      exact hQ _ hI_10.1 hI_10.2
    · have hV_10 : VX 17 M1 S := VX_fr hV (fun k j a b => (hI_10.2 k j (by omega)).1)
      refine a_iload_n rfl dX3_findHolders_10 ?_
      refine a_aload_n rfl dX3_findHolders_11 ?_
      refine g_i (VX_3 hV_10) (by decide) rfl fX3_89 rfl dX3_findHolders_12 ?_
      refine n_icmp_ge 54 (by omega) (by omega) dX3_findHolders_15 (by decide) (fun h_15 => absurd h_15 (by omega)) (fun h_15 => ?_)
      refine a_iload_n rfl dX3_findHolders_18 ?_
      refine a_iload_n rfl dX3_findHolders_19 ?_
      refine n_callS (mi' := miX3_isIn) dX3_findHolders_20 lX3_50 mX3_isIn (c_X3_isIn (by omega) (by omega) (fun h_20 => ?_) (fun h_20 => ?_) d) rfl rfl (by omega) (by decide) (Nat.le_of_ble_eq_true rfl)
      · show AW _ _ _ _ _ _ _
        refine n_if_ne 48 (by decide) dX3_findHolders_23 (by decide) (fun _ => ?_) (fun h => absurd h (by decide))
        refine n_iinc (c := 1) rfl rfl (by decide) rfl dX3_findHolders_48 ?_
        refine a_goto 10 dX3_findHolders_51 (by decide) ?_
        exact a_bk (ih_10 _ ⟨ho_skip hI_10.1 h_20, hI_10.2⟩) ⟨rfl, rfl, rfl, rfl, trivial⟩
      · show AW _ _ _ _ _ _ _
        refine n_if_ne 48 (by decide) dX3_findHolders_23 (by decide) (fun h => absurd h (by decide)) (fun _ => ?_)
        have hhe := WF_held hF i hi_10
        have hby := WF_by hF i hi_10
        have hol := hoP_lt hF but (S 3 i) (show i ≤ S 0 3 by omega)
        refine a_aload_n rfl dX3_findHolders_26 ?_
        refine a_geta dX3_findHolders_27 fX3_15 (by decide) rfl rfl ?_
        refine a_aload_n rfl dX3_findHolders_30 ?_
        refine a_geta dX3_findHolders_31 fX3_92 (by decide) rfl rfl ?_
        refine a_iload_n rfl dX3_findHolders_34 ?_
        refine v_iald (by omega) (VX_a4 hV_10 (by omega)) (by decide) rfl (by decide) dX3_findHolders_35 ?_
        refine a_dup2i rfl rfl dX3_findHolders_36 ?_
        refine v_iald (by omega) (hI_10.1 _ (by omega)) (by decide) rfl (by decide) dX3_findHolders_37 ?_
        refine n_iconst 1 rfl dX3_findHolders_38 ?_
        refine a_aload_n rfl dX3_findHolders_39 ?_
        refine a_geta dX3_findHolders_40 fX3_95 (by decide) rfl rfl ?_
        refine a_iload_n rfl dX3_findHolders_43 ?_
        refine v_iald (by omega) (VX_a5 hV_10 (by omega)) (by decide) rfl (by decide) dX3_findHolders_44 ?_
        refine n_bit (by omega) dX3_findHolders_45 ?_
        refine n_ior dX3_findHolders_46 ?_
        refine n_iast (by omega) (by decide) rfl (by decide) dX3_findHolders_47 ?_
        refine n_iinc (c := 1) rfl rfl (by decide) rfl dX3_findHolders_48 ?_
        refine a_goto 10 dX3_findHolders_51 (by decide) ?_
        exact a_bk (ih_10 _ ⟨ho_step hI_10.1 h_20, hI_10.2.si rfl⟩) ⟨rfl, rfl, rfl, rfl, trivial⟩
  exact a_bk (loop_10 0 (by omega) _ ⟨fun k hk => hz_5 k hk, hf_5⟩) ⟨rfl, rfl, rfl, rfl, trivial⟩

set_option maxRecDepth 100000 in
set_option maxHeartbeats 800000 in
theorem c_X3_holdersOfAll {M : Mm} {S : ST} (hV : VX 17 M S) (hF : WF S) {but : Nat} (hol : ∀ k, k < 6 → M.1 125 k = nI (hoN S but k)) {set : Nat} (hset : set < 64) {Q : Option Value → Mm → Prop} (hQ : Q (some (.int (nI (nxM S but set)))) M) (d : Nat) : AMt miX3_holdersOfAll (d + 1) [.ref 123, .ref 17, .int (nI set)] M Q := by
  refine AMt.of (by decide) (Nat.le_of_ble_eq_true rfl) ?_
  show AW miX3_holdersOfAll (d + 1) (mxA Q) 0 [(0, some (.ref 123)), (1, some (.ref 17)), (2, some (.int (nI set)))] [] M
  have hm := WF_m hF
  have hh := WF_h hF
  have hs := WF_s hF
  have hn := WF_n hF
  have hk3 := pow_le hm
  have hk0 := Nat.two_pow_pos (S 0 2)
  refine n_iconst 0 rfl dX3_holdersOfAll_0 ?_
  refine a_istore_n (by decide) rfl dX3_holdersOfAll_1 ?_
  refine n_iconst 0 rfl dX3_holdersOfAll_2 ?_
  refine a_istore (by decide) rfl dX3_holdersOfAll_3 ?_
  have loop_5 : ∀ i, i ≤ S 0 2 → AW miX3_holdersOfAll (d + 1) (mxA Q) 5 [(0, some (.ref 123)), (1, some (.ref 17)), (2, some (.int (nI set))), (3, some (.int (nI (unN (hoN S but) set i)))), (4, some (.int (nI i)))] [] M := by
    refine up (S 0 2) ?_ (fun i hi_5 ih_5 => ?_)
    · refine a_iload rfl dX3_holdersOfAll_5 ?_
      refine a_aload_n rfl dX3_holdersOfAll_7 ?_
      refine g_i (VX_2 hV) (by decide) rfl fX3_98 rfl dX3_holdersOfAll_8 ?_
      refine n_icmp_ge 39 (by omega) (by omega) dX3_holdersOfAll_11 (by decide) (fun h_11 => ?_) (fun h_11 => absurd h_11 (by omega))
      refine a_iload_n rfl dX3_holdersOfAll_39 ?_
      refine a_iret dX3_holdersOfAll_40 rfl ?_
      rw [un_nx hF]
      exact hQ
    · refine a_iload rfl dX3_holdersOfAll_5 ?_
      refine a_aload_n rfl dX3_holdersOfAll_7 ?_
      refine g_i (VX_2 hV) (by decide) rfl fX3_98 rfl dX3_holdersOfAll_8 ?_
      refine n_icmp_ge 39 (by omega) (by omega) dX3_holdersOfAll_11 (by decide) (fun h_11 => absurd h_11 (by omega)) (fun h_11 => ?_)
      refine a_iload_n rfl dX3_holdersOfAll_14 ?_
      refine a_iload rfl dX3_holdersOfAll_15 ?_
      refine n_callS (mi' := miX3_isIn) dX3_holdersOfAll_17 lX3_50 mX3_isIn (c_X3_isIn (by omega) (by omega) (fun h_17 => ?_) (fun h_17 => ?_) d) rfl rfl (by omega) (by decide) (Nat.le_of_ble_eq_true rfl)
      · show AW _ _ _ _ _ _ _
        refine n_if_eq 33 (by decide) dX3_holdersOfAll_20 (by decide) (fun h => absurd h (by decide)) (fun _ => ?_)
        refine a_iload_n rfl dX3_holdersOfAll_23 ?_
        refine a_aload_n rfl dX3_holdersOfAll_24 ?_
        refine a_geta dX3_holdersOfAll_25 fX3_15 (by decide) rfl rfl ?_
        refine a_iload rfl dX3_holdersOfAll_28 ?_
        refine v_iald (by omega) (hol _ (by omega)) (by decide) rfl (by decide) dX3_holdersOfAll_30 ?_
        refine n_ior dX3_holdersOfAll_31 ?_
        refine a_istore_n (by decide) rfl dX3_holdersOfAll_32 ?_
        refine n_iinc (c := 1) rfl rfl (by decide) rfl dX3_holdersOfAll_33 ?_
        refine a_goto 5 dX3_holdersOfAll_36 (by decide) ?_
        rw [show unN (hoN S but) set (i + 1) = (unN (hoN S but) set i) ||| (hoN S but i) by rw [unN, if_pos h_17]] at ih_5
        exact a_bk ih_5 ⟨rfl, rfl, rfl, rfl, rfl, trivial⟩
      · show AW _ _ _ _ _ _ _
        refine n_if_eq 33 (by decide) dX3_holdersOfAll_20 (by decide) (fun _ => ?_) (fun h => absurd h (by decide))
        refine n_iinc (c := 1) rfl rfl (by decide) rfl dX3_holdersOfAll_33 ?_
        refine a_goto 5 dX3_holdersOfAll_36 (by decide) ?_
        rw [show unN (hoN S but) set (i + 1) = unN (hoN S but) set i by rw [unN, if_neg (by rw [h_17]; exact Bool.false_ne_true)]] at ih_5
        exact a_bk ih_5 ⟨rfl, rfl, rfl, rfl, rfl, trivial⟩
  exact a_bk (loop_5 0 (by omega)) ⟨rfl, rfl, rfl, rfl, rfl, trivial⟩

set_option maxRecDepth 100000 in
set_option maxHeartbeats 800000 in
theorem c_X3_ringFrom {M : Mm} {S : ST} (hV : VX 17 M S) (hF : WF S) {but : Nat} (hol : ∀ k, k < 6 → M.1 125 k = nI (hoN S but k)) {k : Nat} (hk : k < S 0 2) {Q : Option Value → Mm → Prop} (h1 : ∀ v, v < 6 → rfN S but k (S 0 2) = some v → Q (some (.int (nI (v + 1)))) M) (h0 : rfN S but k (S 0 2) = none → Q (some (.int (-1))) M) (d : Nat) : AMt miX3_ringFrom (d + 2) [.ref 123, .ref 17, .int (nI k)] M Q := by
  refine AMt.of (by decide) (Nat.le_of_ble_eq_true rfl) ?_
  show AW miX3_ringFrom (d + 2) (mxA Q) 0 [(0, some (.ref 123)), (1, some (.ref 17)), (2, some (.int (nI k)))] [] M
  have hm := WF_m hF
  have hh := WF_h hF
  have hs := WF_s hF
  have hn := WF_n hF
  have hk3 := pow_le hm
  have hk0 := Nat.two_pow_pos (S 0 2)
  refine n_iconst 1 rfl dX3_ringFrom_0 ?_
  refine a_iload_n rfl dX3_ringFrom_1 ?_
  refine n_bit (by omega) dX3_ringFrom_2 ?_
  refine a_istore_n (by decide) rfl dX3_ringFrom_3 ?_
  refine n_iconst 1 rfl dX3_ringFrom_4 ?_
  refine a_istore (by decide) rfl dX3_ringFrom_5 ?_
  have loop_7 : ∀ i, i ≤ S 0 2 → (∀ j, j < i → (rcN S but k (j + 1)).testBit k = false) → AW miX3_ringFrom (d + 2) (mxA Q) 7 [(0, some (.ref 123)), (1, some (.ref 17)), (2, some (.int (nI k))), (3, some (.int (nI (rcN S but k i)))), (4, some (.int (nI (i + 1))))] [] M := by
    refine up (W := fun i => (∀ j, j < i → (rcN S but k (j + 1)).testBit k = false) → AW miX3_ringFrom (d + 2) (mxA Q) 7 [(0, some (.ref 123)), (1, some (.ref 17)), (2, some (.int (nI k))), (3, some (.int (nI (rcN S but k i)))), (4, some (.int (nI (i + 1))))] [] M) (S 0 2) (fun hI_7 => ?_) (fun i hi_7 ih_7 hI_7 => ?_)
    · refine a_iload rfl dX3_ringFrom_7 ?_
      refine a_aload_n rfl dX3_ringFrom_9 ?_
      refine g_i (VX_2 hV) (by decide) rfl fX3_98 rfl dX3_ringFrom_10 ?_
      refine n_icmp_gt 40 (by omega) (by omega) dX3_ringFrom_13 (by decide) (fun h_13 => ?_) (fun h_13 => absurd h_13 (by omega))
      refine a_iconst (-1) rfl dX3_ringFrom_40 ?_
      refine a_iret dX3_ringFrom_41 rfl ?_
      exact h0 (fiN_no hI_7)
    · have hrc := rc_lt hF (but := but) hk i
      have hrd : nxM S but (rcN S but k i) < 2 ^ S 0 2 := rc_lt hF (but := but) hk (i + 1)
      refine a_iload rfl dX3_ringFrom_7 ?_
      refine a_aload_n rfl dX3_ringFrom_9 ?_
      refine g_i (VX_2 hV) (by decide) rfl fX3_98 rfl dX3_ringFrom_10 ?_
      refine n_icmp_gt 40 (by omega) (by omega) dX3_ringFrom_13 (by decide) (fun h_13 => absurd h_13 (by omega)) (fun h_13 => ?_)
      refine a_aload_n rfl dX3_ringFrom_16 ?_
      refine a_aload_n rfl dX3_ringFrom_17 ?_
      refine a_iload_n rfl dX3_ringFrom_18 ?_
      refine n_callV (mi' := miX3_holdersOfAll) dX3_ringFrom_19 lX3_108 mX3_holdersOfAll (by decide) rfl rfl rfl (c_X3_holdersOfAll hV hF hol (by omega) ?_ d) rfl rfl (by omega) (by decide) (Nat.le_of_ble_eq_true rfl)
      show AW _ _ _ _ _ _ _
      refine a_istore_n (by decide) rfl dX3_ringFrom_22 ?_
      refine a_iload_n rfl dX3_ringFrom_23 ?_
      refine a_iload_n rfl dX3_ringFrom_24 ?_
      refine n_callS (mi' := miX3_isIn) dX3_ringFrom_25 lX3_50 mX3_isIn (c_X3_isIn (by omega) (by omega) (fun h_25 => ?_) (fun h_25 => ?_) d) rfl rfl (by omega) (by decide) (Nat.le_of_ble_eq_true rfl)
      · show AW _ _ _ _ _ _ _
        refine n_if_eq 34 (by decide) dX3_ringFrom_28 (by decide) (fun h => absurd h (by decide)) (fun _ => ?_)
        refine a_iload rfl dX3_ringFrom_31 ?_
        refine a_iret dX3_ringFrom_33 rfl ?_
        exact h1 i (by omega) (fiN_at hI_7 h_25 hi_7)
      · show AW _ _ _ _ _ _ _
        refine n_if_eq 34 (by decide) dX3_ringFrom_28 (by decide) (fun _ => ?_) (fun h => absurd h (by decide))
        refine n_iinc (c := 1) rfl rfl (by decide) rfl dX3_ringFrom_34 ?_
        refine a_goto 7 dX3_ringFrom_37 (by decide) ?_
        exact a_bk (ih_7 (fun j hj => by
          rcases (show j < i ∨ j = i by omega) with h | h
          · exact hI_7 j h
          · subst h; exact h_25)) ⟨rfl, rfl, rfl, rfl, rfl, trivial⟩
  exact a_bk (loop_7 0 (by omega) (fun j hj => absurd hj (by omega))) ⟨rfl, rfl, rfl, rfl, rfl, trivial⟩

theorem rg_le {S : ST} (hF : WF S) {but v : Nat} : ∀ {k : Nat}, rgO S but k = some v → v ≤ 6
  | 0, h => by cases h
  | k + 1, h => by
    have hm := WF_m hF
    have h : minO (rgO S but k) (upO (rfN S but k (S 0 2))) = some v := h
    unfold minO upO at h
    cases e2 : rfN S but k (S 0 2) with
    | none => rw [e2] at h; exact rg_le hF (k := k) h
    | some l =>
      have := fiN_lt e2
      rw [e2] at h
      cases e1 : rgO S but k with
      | none => rw [e1] at h; simp at h; omega
      | some c =>
        have := rg_le hF e1
        rw [e1] at h
        simp at h
        split at h <;> simp at h <;> omega
theorem rg_n {S : ST} {but k : Nat} (h2 : rfN S but k (S 0 2) = none) : rgO S but (k + 1) = rgO S but k := by
  show minO _ _ = _
  rw [h2]; rfl
theorem rg_s0 {S : ST} {but k l : Nat} (h : rgO S but k = none) (h2 : rfN S but k (S 0 2) = some l) : rgO S but (k + 1) = some (l + 1) := by
  show minO _ _ = _
  rw [h2, h]; rfl
theorem rg_s1 {S : ST} {but k l c : Nat} (h : rgO S but k = some c) (h2 : rfN S but k (S 0 2) = some l) (h3 : l + 1 < c) : rgO S but (k + 1) = some (l + 1) := by
  show minO _ _ = _
  rw [h2, h]
  show (if l + 1 < c then some (l + 1) else some c) = _
  rw [if_pos h3]
theorem rg_s2 {S : ST} {but k l c : Nat} (h : rgO S but k = some c) (h2 : rfN S but k (S 0 2) = some l) (h3 : ¬ l + 1 < c) : rgO S but (k + 1) = some c := by
  show minO _ _ = _
  rw [h2, h]
  show (if l + 1 < c then some (l + 1) else some c) = _
  rw [if_neg h3]

set_option maxRecDepth 100000 in
set_option maxHeartbeats 800000 in
theorem c_X3_shortestRing {M : Mm} {S : ST} (hV : VX 17 M S) (hF : WF S) {Q : Option Value → Mm → Prop} (h1 : ∀ v, v ≤ 6 → rgN S 0 = some v → ∀ M', fr (fun k _ => k = 125) M M' → Q (some (.int (nI v))) M') (h0 : rgN S 0 = none → ∀ M', fr (fun k _ => k = 125) M M' → Q (some (.int (-1))) M') (d : Nat) : AMt miX3_shortestRing (d + 3) [.ref 123, .ref 17] M Q := by
  refine AMt.of (by decide) (Nat.le_of_ble_eq_true rfl) ?_
  show AW miX3_shortestRing (d + 3) (mxA Q) 0 [(0, some (.ref 123)), (1, some (.ref 17))] [] M
  have hm := WF_m hF
  have hh := WF_h hF
  have hs := WF_s hF
  have hn := WF_n hF
  have hk3 := pow_le hm
  have hk0 := Nat.two_pow_pos (S 0 2)
  refine a_iconst (-1) rfl dX3_shortestRing_0 ?_
  refine a_istore_n (by decide) rfl dX3_shortestRing_1 ?_
  refine a_aload_n rfl dX3_shortestRing_2 ?_
  refine a_aload_n rfl dX3_shortestRing_3 ?_
  refine n_iconst 0 rfl dX3_shortestRing_4 ?_
  refine n_callV (mi' := miX3_findHolders) dX3_shortestRing_5 lX3_101 mX3_findHolders (by decide) rfl rfl rfl (c_X3_findHolders hV hF (by omega) (fun M_5 hol hf_5 => ?_) d) rfl rfl (by omega) (by decide) (Nat.le_of_ble_eq_true rfl)
  show AW _ _ _ _ _ _ _
  have hV_5 : VX 17 M_5 S := VX_fr hV (fun k j a b => (hf_5 k j (by omega)).1)
  refine n_iconst 0 rfl dX3_shortestRing_8 ?_
  refine a_istore_n (by decide) rfl dX3_shortestRing_9 ?_
  have loop_10 : ∀ i, i ≤ S 0 2 → AW miX3_shortestRing (d + 3) (mxA Q) 10 [(0, some (.ref 123)), (1, some (.ref 17)), (2, some (.int ((optI (rgO S 0 i))))), (3, some (.int (nI i)))] [] M_5 := by
    refine up (S 0 2) ?_ (fun i hi_10 ih_10 => ?_)
    · refine a_iload_n rfl dX3_shortestRing_10 ?_
      refine a_aload_n rfl dX3_shortestRing_11 ?_
      refine g_i (VX_2 hV_5) (by decide) rfl fX3_98 rfl dX3_shortestRing_12 ?_
      refine n_icmp_ge 52 (by omega) (by omega) dX3_shortestRing_15 (by decide) (fun h_15 => ?_) (fun h_15 => absurd h_15 (by omega))
      cases ho : rgO S 0 (S 0 2) with
      | none =>
        show AW _ _ _ _ [(0, some (.ref 123)), (1, some (.ref 17)), (2, some (.int (-1))), (3, some (.int (nI (S 0 2))))] [] _
        refine a_iload_n rfl dX3_shortestRing_52 ?_
        refine a_iret dX3_shortestRing_53 rfl ?_
        exact h0 ho _ hf_5
      | some b =>
        show AW _ _ _ _ [(0, some (.ref 123)), (1, some (.ref 17)), (2, some (.int (nI b))), (3, some (.int (nI (S 0 2))))] [] _
        refine a_iload_n rfl dX3_shortestRing_52 ?_
        refine a_iret dX3_shortestRing_53 rfl ?_
        exact h1 b (rg_le hF ho) ho _ hf_5
    · refine a_iload_n rfl dX3_shortestRing_10 ?_
      refine a_aload_n rfl dX3_shortestRing_11 ?_
      refine g_i (VX_2 hV_5) (by decide) rfl fX3_98 rfl dX3_shortestRing_12 ?_
      refine n_icmp_ge 52 (by omega) (by omega) dX3_shortestRing_15 (by decide) (fun h_15 => absurd h_15 (by omega)) (fun h_15 => ?_)
      cases ho : rgO S 0 i with
      | none =>
        show AW _ _ _ _ [(0, some (.ref 123)), (1, some (.ref 17)), (2, some (.int (-1))), (3, some (.int (nI i)))] [] _
        refine a_aload_n rfl dX3_shortestRing_18 ?_
        refine a_aload_n rfl dX3_shortestRing_19 ?_
        refine a_iload_n rfl dX3_shortestRing_20 ?_
        refine n_callV (mi' := miX3_ringFrom) dX3_shortestRing_21 lX3_105 mX3_ringFrom (by decide) rfl rfl rfl (c_X3_ringFrom hV_5 hF hol (by omega) (fun v_21 hv_21 hr_21 => ?_) (fun hr_21 => ?_) d) rfl rfl (by omega) (by decide) (Nat.le_of_ble_eq_true rfl)
        · show AW _ _ _ _ _ _ _
          refine a_istore (by decide) rfl dX3_shortestRing_24 ?_
          refine a_iload rfl dX3_shortestRing_26 ?_
          refine a_iconst (-1) rfl dX3_shortestRing_28 ?_
          refine s_icmp_eq 46 (by omega) dX3_shortestRing_29 (by decide) (fun h_29 => absurd h_29 (by rw [show (-1 : Int32).toInt = -1 by decide]; omega)) (fun h_29 => ?_)
          refine a_iload_n rfl dX3_shortestRing_32 ?_
          refine a_iconst (-1) rfl dX3_shortestRing_33 ?_
          refine u_icmp_eq 43 dX3_shortestRing_34 (by decide) (fun h_34 => ?_) (fun h_34 => absurd rfl h_34)
          refine a_iload rfl dX3_shortestRing_43 ?_
          refine a_istore_n (by decide) rfl dX3_shortestRing_45 ?_
          refine n_iinc (c := 1) rfl rfl (by decide) rfl dX3_shortestRing_46 ?_
          refine a_goto 10 dX3_shortestRing_49 (by decide) ?_
          rw [rg_s0 ho hr_21] at ih_10
          exact a_bk ih_10 ⟨rfl, rfl, rfl, rfl, trivial⟩
        · show AW _ _ _ _ _ _ _
          refine a_istore (by decide) rfl dX3_shortestRing_24 ?_
          refine a_iload rfl dX3_shortestRing_26 ?_
          refine a_iconst (-1) rfl dX3_shortestRing_28 ?_
          refine u_icmp_eq 46 dX3_shortestRing_29 (by decide) (fun h_29 => ?_) (fun h_29 => absurd rfl h_29)
          refine n_iinc (c := 1) rfl rfl (by decide) rfl dX3_shortestRing_46 ?_
          refine a_goto 10 dX3_shortestRing_49 (by decide) ?_
          rw [rg_n hr_21, ho] at ih_10
          exact a_bk ih_10 ⟨rfl, rfl, rfl, rfl, trivial⟩
      | some b =>
        show AW _ _ _ _ [(0, some (.ref 123)), (1, some (.ref 17)), (2, some (.int (nI b))), (3, some (.int (nI i)))] [] _
        have hbl := rg_le hF ho
        refine a_aload_n rfl dX3_shortestRing_18 ?_
        refine a_aload_n rfl dX3_shortestRing_19 ?_
        refine a_iload_n rfl dX3_shortestRing_20 ?_
        refine n_callV (mi' := miX3_ringFrom) dX3_shortestRing_21 lX3_105 mX3_ringFrom (by decide) rfl rfl rfl (c_X3_ringFrom hV_5 hF hol (by omega) (fun v_21 hv_21 hr_21 => ?_) (fun hr_21 => ?_) d) rfl rfl (by omega) (by decide) (Nat.le_of_ble_eq_true rfl)
        · show AW _ _ _ _ _ _ _
          refine a_istore (by decide) rfl dX3_shortestRing_24 ?_
          refine a_iload rfl dX3_shortestRing_26 ?_
          refine a_iconst (-1) rfl dX3_shortestRing_28 ?_
          refine s_icmp_eq 46 (by omega) dX3_shortestRing_29 (by decide) (fun h_29 => absurd h_29 (by rw [show (-1 : Int32).toInt = -1 by decide]; omega)) (fun h_29 => ?_)
          refine a_iload_n rfl dX3_shortestRing_32 ?_
          refine a_iconst (-1) rfl dX3_shortestRing_33 ?_
          refine s_icmp_eq 43 (by omega) dX3_shortestRing_34 (by decide) (fun h_34 => absurd h_34 (by rw [show (-1 : Int32).toInt = -1 by decide]; omega)) (fun h_34 => ?_)
          refine a_iload rfl dX3_shortestRing_37 ?_
          refine a_iload_n rfl dX3_shortestRing_39 ?_
          refine n_icmp_ge 46 (by omega) (by omega) dX3_shortestRing_40 (by decide) (fun h_40 => ?_) (fun h_40 => ?_)
          · refine n_iinc (c := 1) rfl rfl (by decide) rfl dX3_shortestRing_46 ?_
            refine a_goto 10 dX3_shortestRing_49 (by decide) ?_
            rw [rg_s2 ho hr_21 (by omega)] at ih_10
            exact a_bk ih_10 ⟨rfl, rfl, rfl, rfl, trivial⟩
          · refine a_iload rfl dX3_shortestRing_43 ?_
            refine a_istore_n (by decide) rfl dX3_shortestRing_45 ?_
            refine n_iinc (c := 1) rfl rfl (by decide) rfl dX3_shortestRing_46 ?_
            refine a_goto 10 dX3_shortestRing_49 (by decide) ?_
            rw [rg_s1 ho hr_21 (by omega)] at ih_10
            exact a_bk ih_10 ⟨rfl, rfl, rfl, rfl, trivial⟩
        · show AW _ _ _ _ _ _ _
          refine a_istore (by decide) rfl dX3_shortestRing_24 ?_
          refine a_iload rfl dX3_shortestRing_26 ?_
          refine a_iconst (-1) rfl dX3_shortestRing_28 ?_
          refine u_icmp_eq 46 dX3_shortestRing_29 (by decide) (fun h_29 => ?_) (fun h_29 => absurd rfl h_29)
          refine n_iinc (c := 1) rfl rfl (by decide) rfl dX3_shortestRing_46 ?_
          refine a_goto 10 dX3_shortestRing_49 (by decide) ?_
          rw [rg_n hr_21, ho] at ih_10
          exact a_bk ih_10 ⟨rfl, rfl, rfl, rfl, trivial⟩
  exact a_bk (loop_10 0 (by omega)) ⟨rfl, rfl, rfl, rfl, trivial⟩

theorem lf_lt (S : ST) (but i : Nat) : lfN S but i < 2 ^ S 0 2 := by
  cases i with
  | zero => have := Nat.two_pow_pos (S 0 2); show 2 ^ S 0 2 - 1 < _; omega
  | succ i => exact bsN_lt _ _
def lfP (S : ST) (but i j : Nat) : Nat := bsN (fun k => (lfN S but i).testBit k && decide (hoN S but k &&& lfN S but i ≠ 0)) j
theorem lfP_lt (S : ST) (but i j : Nat) : lfP S but i j < 2 ^ j := bsN_lt _ _
theorem lfP_t {S : ST} {but i j : Nat} (h1 : (lfN S but i).testBit j = true) (h2 : ¬ hoN S but j &&& lfN S but i = 0) : lfP S but i (j + 1) = lfP S but i j ||| 2 ^ j := by
  unfold lfP; simp [bsN, h1, h2]
theorem lfP_f {S : ST} {but i j : Nat} (h : (lfN S but i).testBit j = false ∨ hoN S but j &&& lfN S but i = 0) : lfP S but i (j + 1) = lfP S but i j := by
  unfold lfP
  rcases h with h | h <;> simp [bsN, h]

set_option maxRecDepth 100000 in
set_option maxHeartbeats 800000 in
theorem c_X3_isFreeWithout {M : Mm} {S : ST} (hV : VX 17 M S) (hF : WF S) {but : Nat} (hbut : but < 1024) {Q : Option Value → Mm → Prop} (h1 : frB S but = true → ∀ M', fr (fun k _ => k = 125) M M' → Q (some (.int (nI 1))) M') (h0 : frB S but = false → ∀ M', fr (fun k _ => k = 125) M M' → Q (some (.int (nI 0))) M') (d : Nat) : AMt miX3_isFreeWithout (d + 2) [.ref 123, .ref 17, .int (nI but)] M Q := by
  refine AMt.of (by decide) (Nat.le_of_ble_eq_true rfl) ?_
  show AW miX3_isFreeWithout (d + 2) (mxA Q) 0 [(0, some (.ref 123)), (1, some (.ref 17)), (2, some (.int (nI but)))] [] M
  have hm := WF_m hF
  have hh := WF_h hF
  have hs := WF_s hF
  have hn := WF_n hF
  have hk3 := pow_le hm
  have hk0 := Nat.two_pow_pos (S 0 2)
  refine a_aload_n rfl dX3_isFreeWithout_0 ?_
  refine a_aload_n rfl dX3_isFreeWithout_1 ?_
  refine a_iload_n rfl dX3_isFreeWithout_2 ?_
  refine n_callV (mi' := miX3_findHolders) dX3_isFreeWithout_3 lX3_101 mX3_findHolders (by decide) rfl rfl rfl (c_X3_findHolders hV hF hbut (fun M_3 hol hf_3 => ?_) d) rfl rfl (by omega) (by decide) (Nat.le_of_ble_eq_true rfl)
  show AW _ _ _ _ _ _ _
  have hV_3 : VX 17 M_3 S := VX_fr hV (fun k j a b => (hf_3 k j (by omega)).1)
  refine n_iconst 1 rfl dX3_isFreeWithout_6 ?_
  refine a_aload_n rfl dX3_isFreeWithout_7 ?_
  refine g_i (VX_2 hV_3) (by decide) rfl fX3_98 rfl dX3_isFreeWithout_8 ?_
  refine n_bit (by omega) dX3_isFreeWithout_11 ?_
  refine n_iconst 1 rfl dX3_isFreeWithout_12 ?_
  refine n_isub (by omega) dX3_isFreeWithout_13 ?_
  refine a_istore_n (by decide) rfl dX3_isFreeWithout_14 ?_
  refine n_iconst 0 rfl dX3_isFreeWithout_15 ?_
  refine a_istore (by decide) rfl dX3_isFreeWithout_16 ?_
  have loop_18 : ∀ i, i ≤ S 0 2 → AW miX3_isFreeWithout (d + 2) (mxA Q) 18 [(0, some (.ref 123)), (1, some (.ref 17)), (2, some (.int (nI but))), (3, some (.int (nI (lfN S but i)))), (4, some (.int (nI i)))] [] M_3 := by
    refine up (S 0 2) ?_ (fun i hi_18 ih_18 => ?_)
    · refine a_iload rfl dX3_isFreeWithout_18 ?_
      refine a_aload_n rfl dX3_isFreeWithout_20 ?_
      refine g_i (VX_2 hV_3) (by decide) rfl fX3_98 rfl dX3_isFreeWithout_21 ?_
      refine n_icmp_ge 87 (by omega) (by omega) dX3_isFreeWithout_24 (by decide) (fun h_24 => ?_) (fun h_24 => absurd h_24 (by omega))
      have hle := lf_lt S but (S 0 2)
      refine a_iload_n rfl dX3_isFreeWithout_87 ?_
      refine n_if_ne 95 (by omega) dX3_isFreeWithout_88 (by decide) (fun h_88 => ?_) (fun h_88 => ?_)
      · refine n_iconst 0 rfl dX3_isFreeWithout_95 ?_
        refine a_zret dX3_isFreeWithout_96 rfl (Or.inl rfl) ?_
        exact h0 (by cases e : frB S but with | false => rfl | true => exact absurd ((ring_free hF but).mp e) h_88) _ hf_3
      · refine n_iconst 1 rfl dX3_isFreeWithout_91 ?_
        refine a_goto 96 dX3_isFreeWithout_92 (by decide) ?_
        refine a_zret dX3_isFreeWithout_96 rfl (Or.inr rfl) ?_
        exact h1 ((ring_free hF but).mpr h_88) _ hf_3
    · have hll := lf_lt S but i
      refine a_iload rfl dX3_isFreeWithout_18 ?_
      refine a_aload_n rfl dX3_isFreeWithout_20 ?_
      refine g_i (VX_2 hV_3) (by decide) rfl fX3_98 rfl dX3_isFreeWithout_21 ?_
      refine n_icmp_ge 87 (by omega) (by omega) dX3_isFreeWithout_24 (by decide) (fun h_24 => absurd h_24 (by omega)) (fun h_24 => ?_)
      refine n_iconst 0 rfl dX3_isFreeWithout_27 ?_
      refine a_istore (by decide) rfl dX3_isFreeWithout_28 ?_
      refine n_iconst 0 rfl dX3_isFreeWithout_30 ?_
      refine a_istore (by decide) rfl dX3_isFreeWithout_31 ?_
      have loop_33 : ∀ j, j ≤ S 0 2 → AW miX3_isFreeWithout (d + 2) (mxA Q) 33 [(0, some (.ref 123)), (1, some (.ref 17)), (2, some (.int (nI but))), (3, some (.int (nI (lfN S but i)))), (4, some (.int (nI i))), (5, some (.int (nI (lfP S but i j)))), (6, some (.int (nI j)))] [] M_3 := by
        refine up (S 0 2) ?_ (fun j hi_33 ih_33 => ?_)
        · refine a_iload rfl dX3_isFreeWithout_33 ?_
          refine a_aload_n rfl dX3_isFreeWithout_35 ?_
          refine g_i (VX_2 hV_3) (by decide) rfl fX3_98 rfl dX3_isFreeWithout_36 ?_
          refine n_icmp_ge 78 (by omega) (by omega) dX3_isFreeWithout_39 (by decide) (fun h_39 => ?_) (fun h_39 => absurd h_39 (by omega))
          refine a_iload rfl dX3_isFreeWithout_78 ?_
          refine a_istore_n (by decide) rfl dX3_isFreeWithout_80 ?_
          refine n_iinc (c := 1) rfl rfl (by decide) rfl dX3_isFreeWithout_81 ?_
          refine a_goto 18 dX3_isFreeWithout_84 (by decide) ?_
          exact a_bk ih_18 ⟨rfl, rfl, rfl, rfl, rfl, trivial⟩
        · refine a_iload rfl dX3_isFreeWithout_33 ?_
          refine a_aload_n rfl dX3_isFreeWithout_35 ?_
          refine g_i (VX_2 hV_3) (by decide) rfl fX3_98 rfl dX3_isFreeWithout_36 ?_
          refine n_icmp_ge 78 (by omega) (by omega) dX3_isFreeWithout_39 (by decide) (fun h_39 => absurd h_39 (by omega)) (fun h_39 => ?_)
          refine a_iload_n rfl dX3_isFreeWithout_42 ?_
          refine a_iload rfl dX3_isFreeWithout_43 ?_
          refine n_callS (mi' := miX3_isIn) dX3_isFreeWithout_45 lX3_50 mX3_isIn (c_X3_isIn (by omega) (by omega) (fun h_45 => ?_) (fun h_45 => ?_) d) rfl rfl (by omega) (by decide) (Nat.le_of_ble_eq_true rfl)
          · show AW _ _ _ _ _ _ _
            refine n_if_eq 72 (by decide) dX3_isFreeWithout_48 (by decide) (fun h => absurd h (by decide)) (fun _ => ?_)
            refine a_aload_n rfl dX3_isFreeWithout_51 ?_
            refine a_geta dX3_isFreeWithout_52 fX3_15 (by decide) rfl rfl ?_
            refine a_iload rfl dX3_isFreeWithout_55 ?_
            refine v_iald (by omega) (hol _ (by omega)) (by decide) rfl (by decide) dX3_isFreeWithout_57 ?_
            refine a_iload_n rfl dX3_isFreeWithout_58 ?_
            have hhl := ho_lt hF but j
            have hal : hoN S but j &&& lfN S but i < 2 ^ S 0 2 := Nat.lt_of_le_of_lt Nat.and_le_left hhl
            refine n_iand dX3_isFreeWithout_59 ?_
            refine n_if_eq 72 (by omega) dX3_isFreeWithout_60 (by decide) (fun h_60 => ?_) (fun h_60 => ?_)
            · refine n_iinc (c := 1) rfl rfl (by decide) rfl dX3_isFreeWithout_72 ?_
              refine a_goto 33 dX3_isFreeWithout_75 (by decide) ?_
              rw [lfP_f (Or.inr h_60)] at ih_33
              exact a_bk ih_33 ⟨rfl, rfl, rfl, rfl, rfl, rfl, rfl, trivial⟩
            · refine a_iload rfl dX3_isFreeWithout_63 ?_
              refine n_iconst 1 rfl dX3_isFreeWithout_65 ?_
              refine a_iload rfl dX3_isFreeWithout_66 ?_
              refine n_bit (by omega) dX3_isFreeWithout_68 ?_
              refine n_ior dX3_isFreeWithout_69 ?_
              refine a_istore (by decide) rfl dX3_isFreeWithout_70 ?_
              refine n_iinc (c := 1) rfl rfl (by decide) rfl dX3_isFreeWithout_72 ?_
              refine a_goto 33 dX3_isFreeWithout_75 (by decide) ?_
              rw [lfP_t h_45 h_60] at ih_33
              exact a_bk ih_33 ⟨rfl, rfl, rfl, rfl, rfl, rfl, rfl, trivial⟩
          · show AW _ _ _ _ _ _ _
            refine n_if_eq 72 (by decide) dX3_isFreeWithout_48 (by decide) (fun _ => ?_) (fun h => absurd h (by decide))
            refine n_iinc (c := 1) rfl rfl (by decide) rfl dX3_isFreeWithout_72 ?_
            refine a_goto 33 dX3_isFreeWithout_75 (by decide) ?_
            rw [lfP_f (Or.inl h_45)] at ih_33
            exact a_bk ih_33 ⟨rfl, rfl, rfl, rfl, rfl, rfl, rfl, trivial⟩
      exact a_bk (loop_33 0 (by omega)) ⟨rfl, rfl, rfl, rfl, rfl, rfl, rfl, trivial⟩
  exact a_bk (loop_18 0 (by omega)) ⟨rfl, rfl, rfl, rfl, rfl, trivial⟩

set_option maxRecDepth 100000 in
set_option maxHeartbeats 800000 in
theorem c_X3_fewestHolds {M : Mm} {S : ST} (hV : VX 17 M S) (hF : WF S) {Q : Option Value → Mm → Prop} (hQ : ∀ M', fr (fun k _ => k = 125) M M' → Q (some (.int (nI (loN S)))) M') (d : Nat) : AMt miX3_fewestHolds (d + 3) [.ref 123, .ref 17] M Q := by
  refine AMt.of (by decide) (Nat.le_of_ble_eq_true rfl) ?_
  show AW miX3_fewestHolds (d + 3) (mxA Q) 0 [(0, some (.ref 123)), (1, some (.ref 17))] [] M
  have hm := WF_m hF
  have hh := WF_h hF
  have hs := WF_s hF
  have hn := WF_n hF
  have hk3 := pow_le hm
  have hk0 := Nat.two_pow_pos (S 0 2)
  have hh3 := pow_le hh
  have hh0 := Nat.two_pow_pos (S 0 3)
  refine n_iconst 1 rfl dX3_fewestHolds_0 ?_
  refine a_aload_n rfl dX3_fewestHolds_1 ?_
  refine g_i (VX_3 hV) (by decide) rfl fX3_89 rfl dX3_fewestHolds_2 ?_
  refine n_bit (by omega) dX3_fewestHolds_5 ?_
  refine n_iconst 1 rfl dX3_fewestHolds_6 ?_
  refine n_isub (by omega) dX3_fewestHolds_7 ?_
  refine a_istore_n (by decide) rfl dX3_fewestHolds_8 ?_
  refine n_iconst 0 rfl dX3_fewestHolds_9 ?_
  refine a_istore_n (by decide) rfl dX3_fewestHolds_10 ?_
  have loop_11 : ∀ i, i ≤ 2 ^ S 0 3 → ∀ M1, (fr (fun k _ => k = 125) M M1) → AW miX3_fewestHolds (d + 3) (mxA Q) 11 [(0, some (.ref 123)), (1, some (.ref 17)), (2, some (.int (nI (lcN S i)))), (3, some (.int (nI i)))] [] M1 := by
    refine up (W := fun i => ∀ M1, (fr (fun k _ => k = 125) M M1) → AW miX3_fewestHolds (d + 3) (mxA Q) 11 [(0, some (.ref 123)), (1, some (.ref 17)), (2, some (.int (nI (lcN S i)))), (3, some (.int (nI i)))] [] M1) (2 ^ S 0 3) (fun M1 hI_11 => ?_) (fun i hi_11 ih_11 M1 hI_11 => ?_)
    · have hV_11 : VX 17 M1 S := VX_fr hV (fun k j a b => (hI_11 k j (by omega)).1)
      refine a_iload_n rfl dX3_fewestHolds_11 ?_
      refine n_iconst 1 rfl dX3_fewestHolds_12 ?_
      refine a_aload_n rfl dX3_fewestHolds_13 ?_
      refine g_i (VX_3 hV_11) (by decide) rfl fX3_89 rfl dX3_fewestHolds_14 ?_
      refine n_bit (by omega) dX3_fewestHolds_17 ?_
      refine n_icmp_ge 49 (by omega) (by omega) dX3_fewestHolds_18 (by decide) (fun h_18 => ?_) (fun h_18 => absurd h_18 (by omega))
      refine a_iload_n rfl dX3_fewestHolds_49 ?_
      refine a_iret dX3_fewestHolds_50 rfl ?_
      exact hQ _ hI_11
    · have hV_11 : VX 17 M1 S := VX_fr hV (fun k j a b => (hI_11 k j (by omega)).1)
      have hlc := lc_lt (S := S) (show i ≤ 2 ^ S 0 3 by omega)
      refine a_iload_n rfl dX3_fewestHolds_11 ?_
      refine n_iconst 1 rfl dX3_fewestHolds_12 ?_
      refine a_aload_n rfl dX3_fewestHolds_13 ?_
      refine g_i (VX_3 hV_11) (by decide) rfl fX3_89 rfl dX3_fewestHolds_14 ?_
      refine n_bit (by omega) dX3_fewestHolds_17 ?_
      refine n_icmp_ge 49 (by omega) (by omega) dX3_fewestHolds_18 (by decide) (fun h_18 => absurd h_18 (by omega)) (fun h_18 => ?_)
      refine a_iload_n rfl dX3_fewestHolds_21 ?_
      refine n_callS (mi' := miJ6_bitCount_0f7a4) dX3_fewestHolds_22 lX3_36 mJ6_bitCount_0f7a4 (c_J6_bitCount_0f7a4 (by omega) ?_ d) rfl rfl (by omega) (by decide) (Nat.le_of_ble_eq_true rfl)
      show AW _ _ _ _ _ _ _
      have hz1 := szN_le i
      refine a_iload_n rfl dX3_fewestHolds_25 ?_
      refine n_callS (mi' := miJ6_bitCount_0f7a4) dX3_fewestHolds_26 lX3_36 mJ6_bitCount_0f7a4 (c_J6_bitCount_0f7a4 (by omega) ?_ d) rfl rfl (by omega) (by decide) (Nat.le_of_ble_eq_true rfl)
      show AW _ _ _ _ _ _ _
      have hz2 := szN_le (lcN S i)
      refine n_icmp_ge 43 (by omega) (by omega) dX3_fewestHolds_29 (by decide) (fun h_29 => ?_) (fun h_29 => ?_)
      · refine n_iinc (c := 1) rfl rfl (by decide) rfl dX3_fewestHolds_43 ?_
        refine a_goto 11 dX3_fewestHolds_46 (by decide) ?_
        rw [lc_f hF hi_11 (fun z => by omega)] at ih_11
        exact a_bk (ih_11 _ hI_11) ⟨rfl, rfl, rfl, rfl, trivial⟩
      · refine a_aload_n rfl dX3_fewestHolds_32 ?_
        refine a_aload_n rfl dX3_fewestHolds_33 ?_
        refine a_iload_n rfl dX3_fewestHolds_34 ?_
        refine n_callV (mi' := miX3_isFreeWithout) dX3_fewestHolds_35 lX3_111 mX3_isFreeWithout (by decide) rfl rfl rfl (c_X3_isFreeWithout hV_11 hF (by omega) (fun h_35 M_35 hf_35 => ?_) (fun h_35 M_35 hf_35 => ?_) d) rfl rfl (by omega) (by decide) (Nat.le_of_ble_eq_true rfl)
        · show AW _ _ _ _ _ _ _
          refine n_if_eq 43 (by decide) dX3_fewestHolds_38 (by decide) (fun h => absurd h (by decide)) (fun _ => ?_)
          refine a_iload_n rfl dX3_fewestHolds_41 ?_
          refine a_istore_n (by decide) rfl dX3_fewestHolds_42 ?_
          refine n_iinc (c := 1) rfl rfl (by decide) rfl dX3_fewestHolds_43 ?_
          refine a_goto 11 dX3_fewestHolds_46 (by decide) ?_
          rw [lc_t hF hi_11 (by omega) h_35] at ih_11
          exact a_bk (ih_11 _ (hI_11.t hf_35)) ⟨rfl, rfl, rfl, rfl, trivial⟩
        · show AW _ _ _ _ _ _ _
          refine n_if_eq 43 (by decide) dX3_fewestHolds_38 (by decide) (fun _ => ?_) (fun h => absurd h (by decide))
          refine n_iinc (c := 1) rfl rfl (by decide) rfl dX3_fewestHolds_43 ?_
          refine a_goto 11 dX3_fewestHolds_46 (by decide) ?_
          rw [lc_f hF hi_11 (fun z => by rw [h_35] at z; exact absurd z.2 (by decide))] at ih_11
          exact a_bk (ih_11 _ (hI_11.t hf_35)) ⟨rfl, rfl, rfl, rfl, trivial⟩
  exact a_bk (loop_11 0 (by omega) _ fr.r) ⟨rfl, rfl, rfl, rfl, trivial⟩

set_option maxRecDepth 100000 in
set_option maxHeartbeats 800000 in
theorem c_X11_ring {M : Mm} {T : TT} (hI : IX M T) (hG : TG T)  {Q : Option Value → Mm → Prop} (hQ : ∀ M', IX M' (sp_ring T).2 → keM M M' → Q (some (.int (sp_ring T).1)) M') (d : Nat) : AMt miX11_ring (d + 4) [.ref 0] M Q := by
  refine AMt.of (by decide) (Nat.le_of_ble_eq_true rfl) ?_
  show AW miX11_ring (d + 4) (mxA Q) 0 [(0, some (.ref 0))] [] M
  have hV : VX 17 M (tS T) := hI.1.1
  have hF : WF (tS T) := hG.1.1
  have hm : tS T 0 2 ≤ 6 := WF_m hF
  have hh : tS T 0 3 ≤ 10 := WF_h hF
  have hs : tS T 0 4 ≤ 7 := WF_s hF
  have hn : tS T 0 5 ≤ 8 := WF_n hF
  refine a_aload_n rfl dX11_ring_0 ?_
  refine a_aload_n rfl dX11_ring_1 ?_
  refine a_geta dX11_ring_2 fX11_97 (by decide) rfl rfl ?_
  refine a_aload_n rfl dX11_ring_5 ?_
  refine a_geta dX11_ring_6 fX11_58 (by decide) rfl rfl ?_
  refine n_callV (mi' := miX3_shortestRing) dX11_ring_9 lX11_345 mX3_shortestRing (by decide) rfl rfl rfl (c_X3_shortestRing hV hF (fun v_9 hv_9 he_9 M_9 hf_9 => ?_) (fun he_9 M_9 hf_9 => ?_) d) rfl rfl (by omega) (by decide) (Nat.le_of_ble_eq_true rfl)
  · show AW _ _ _ _ _ _ _
    refine n_callV (mi' := miX11_answerIfThere) dX11_ring_12 lX11_247 mX11_answerIfThere (by decide) rfl rfl rfl (c_X11_answerIfThere (fun _ => ?_) (fun e => absurd e (nI_ne_m1 (by omega)))  d) rfl rfl (by omega) (by decide) (Nat.le_of_ble_eq_true rfl)
    show AW _ _ _ _ _ _ _
    refine a_iret dX11_ring_15 rfl ?_
    exact fin_q hQ hI hG (by unfold sp_ring; rw [he_9]) (hf_9.mo (fun k j h => by unfold scX coX; omega))
  · show AW _ _ _ _ _ _ _
    refine n_callV (mi' := miX11_answerIfThere) dX11_ring_12 lX11_247 mX11_answerIfThere (by decide) rfl rfl rfl (c_X11_answerIfThere (fun e => absurd rfl e) (fun _ => ?_)  d) rfl rfl (by omega) (by decide) (Nat.le_of_ble_eq_true rfl)
    show AW _ _ _ _ _ _ _
    refine a_iret dX11_ring_15 rfl ?_
    exact fin_q hQ hI hG (by unfold sp_ring; rw [he_9]) (hf_9.mo (fun k j h => by unfold scX coX; omega))

set_option maxRecDepth 100000 in
set_option maxHeartbeats 800000 in
theorem c_X11_loosen {M : Mm} {T : TT} (hI : IX M T) (hG : TG T)  {Q : Option Value → Mm → Prop} (hQ : ∀ M', IX M' (sp_loosen T).2 → keM M M' → Q (some (.int (sp_loosen T).1)) M') (d : Nat) : AMt miX11_loosen (d + 4) [.ref 0] M Q := by
  refine AMt.of (by decide) (Nat.le_of_ble_eq_true rfl) ?_
  show AW miX11_loosen (d + 4) (mxA Q) 0 [(0, some (.ref 0))] [] M
  have hV : VX 17 M (tS T) := hI.1.1
  have hF : WF (tS T) := hG.1.1
  have hm : tS T 0 2 ≤ 6 := WF_m hF
  have hh : tS T 0 3 ≤ 10 := WF_h hF
  have hs : tS T 0 4 ≤ 7 := WF_s hF
  have hn : tS T 0 5 ≤ 8 := WF_n hF
  have hlo : loN (tS T) < 2 ^ tS T 0 3 := lc_lt (S := tS T) (Nat.le_refl _)
  have hl3 := pow_le hh
  refine a_aload_n rfl dX11_loosen_0 ?_
  refine a_aload_n rfl dX11_loosen_1 ?_
  refine a_geta dX11_loosen_2 fX11_97 (by decide) rfl rfl ?_
  refine a_aload_n rfl dX11_loosen_5 ?_
  refine a_geta dX11_loosen_6 fX11_58 (by decide) rfl rfl ?_
  refine n_callV (mi' := miX3_fewestHolds) dX11_loosen_9 lX11_349 mX3_fewestHolds (by decide) rfl rfl rfl (c_X3_fewestHolds hV hF (fun M_9 hf_9 => ?_) d) rfl rfl (by omega) (by decide) (Nat.le_of_ble_eq_true rfl)
  show AW _ _ _ _ _ _ _
  refine n_callS (mi' := miJ6_bitCount_0f7a4) dX11_loosen_12 lX11_340 mJ6_bitCount_0f7a4 (c_J6_bitCount_0f7a4 (by omega) ?_ d) rfl rfl (by omega) (by decide) (Nat.le_of_ble_eq_true rfl)
  show AW _ _ _ _ _ _ _
  refine n_callV (mi' := miX11_answer) dX11_loosen_15 lX11_177 mX11_answer (by decide) rfl rfl rfl (c_X11_answer ?_ d) rfl rfl (by omega) (by decide) (Nat.le_of_ble_eq_true rfl)
  show AW _ _ _ _ _ _ _
  refine a_iret dX11_loosen_18 rfl ?_
  exact fin_q hQ hI hG (by rfl) (hf_9.mo (fun k j h => by unfold scX coX; omega))

set_option maxRecDepth 100000 in
set_option maxHeartbeats 800000 in
theorem c_X11_loosenSet {M : Mm} {T : TT} (hI : IX M T) (hG : TG T)  {Q : Option Value → Mm → Prop} (hQ : ∀ M', IX M' (sp_loosenSet T).2 → keM M M' → Q (some (.int (sp_loosenSet T).1)) M') (d : Nat) : AMt miX11_loosenSet (d + 4) [.ref 0] M Q := by
  refine AMt.of (by decide) (Nat.le_of_ble_eq_true rfl) ?_
  show AW miX11_loosenSet (d + 4) (mxA Q) 0 [(0, some (.ref 0))] [] M
  have hV : VX 17 M (tS T) := hI.1.1
  have hF : WF (tS T) := hG.1.1
  have hm : tS T 0 2 ≤ 6 := WF_m hF
  have hh : tS T 0 3 ≤ 10 := WF_h hF
  have hs : tS T 0 4 ≤ 7 := WF_s hF
  have hn : tS T 0 5 ≤ 8 := WF_n hF
  have hlo : loN (tS T) < 2 ^ tS T 0 3 := lc_lt (S := tS T) (Nat.le_refl _)
  have hl3 := pow_le hh
  refine a_aload_n rfl dX11_loosenSet_0 ?_
  refine a_aload_n rfl dX11_loosenSet_1 ?_
  refine a_geta dX11_loosenSet_2 fX11_97 (by decide) rfl rfl ?_
  refine a_aload_n rfl dX11_loosenSet_5 ?_
  refine a_geta dX11_loosenSet_6 fX11_58 (by decide) rfl rfl ?_
  refine n_callV (mi' := miX3_fewestHolds) dX11_loosenSet_9 lX11_349 mX3_fewestHolds (by decide) rfl rfl rfl (c_X3_fewestHolds hV hF (fun M_9 hf_9 => ?_) d) rfl rfl (by omega) (by decide) (Nat.le_of_ble_eq_true rfl)
  show AW _ _ _ _ _ _ _
  refine n_callV (mi' := miX11_answer) dX11_loosenSet_12 lX11_177 mX11_answer (by decide) rfl rfl rfl (c_X11_answer ?_ d) rfl rfl (by omega) (by decide) (Nat.le_of_ble_eq_true rfl)
  show AW _ _ _ _ _ _ _
  refine a_iret dX11_loosenSet_15 rfl ?_
  exact fin_q hQ hI hG (by rfl) (hf_9.mo (fun k j h => by unfold scX coX; omega))

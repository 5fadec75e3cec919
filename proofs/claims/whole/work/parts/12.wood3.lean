def fr2 (Z1 Z2 : Nat → Nat → Prop) (M M' : Mm) : Prop := (∀ k j, ¬ Z1 k j → M'.1 k j = M.1 k j) ∧ (∀ k j, ¬ Z2 k j → M'.2 k j = M.2 k j)
/-- the names of a wood: of matters (0), of sitters (1) -/
def VN (w : Nat) (M : Mm) (S : ST) (N : Nat → Nat → Int64) : Prop := (∀ j, j < S 0 2 → M.2 (w + 1) j = N 0 j) ∧ ∀ j, j < S 0 4 → M.2 (w + 6) j = N 1 j
def upN (N : Nat → Nat → Int64) (c k : Nat) (x : Int64) : Nat → Nat → Int64 := fun a b => if a = c ∧ b = k then x else N a b
def hupd (S : ST) (k v : Nat) : ST := fun a b => if a = 2 ∧ b = k then v else S a b
theorem slI {M : Mm} {k j : Nat} {x : Int64} : (slM M k j x).1 = M.1 := rfl
theorem siL {M : Mm} {k j : Nat} {x : Int32} : (siM M k j x).2 = M.2 := rfl
theorem came_or (S : ST) {i : Nat} (hi : i < S 0 5) : bsN (fun j => comeN S i 11 j == 1) (S 0 5) = bsN (fun j => S 11 j == 1) (S 0 5) ||| 2 ^ i := by
  symm
  apply eq_bsN
  intro j
  rw [Nat.testBit_or, bsN_bit, Nat.testBit_two_pow]
  by_cases e : j = i
  · subst e; simp [comeN, hi]
  · have : ¬ i = j := fun q => e q.symm
    simp [comeN, e, this]

theorem VX_worsen {w : Nat} {M : Mm} {S : ST} (hV : VX w M S) {k v : Nat} (hk : k < S 0 2) : VX w (siM M (w + 3) k (nI v)) (hupd S k v) := by
  obtain ⟨h0, h1, h2, h3, h4, h5, h6, a2, a3, a4, a5, a7, a8, a9, a10, a11, a12⟩ := hV
  refine VX_intro ?_ ?_ ?_ ?_ ?_ ?_ ?_ ?_ ?_ ?_ ?_ ?_ ?_ ?_ ?_ ?_ ?_
  all_goals first
    | (simp [siM, slM, hupd, h0, h1, h2, h3, h4, h5, h6, nI_add]; done)
    | (intro j hj; by_cases e : j = k <;> simp [siM, slM, hupd, e] at hj ⊢ <;> first | exact a2 _ (by omega) | exact a3 _ (by omega) | exact a4 _ (by omega) | exact a5 _ (by omega) | exact a7 _ (by omega) | exact a8 _ (by omega) | exact a9 _ (by omega) | exact a10 _ (by omega) | exact a11 _ (by omega) | exact a12 _ (by omega) | (exfalso; omega))

set_option maxRecDepth 100000 in
set_option maxHeartbeats 800000 in
theorem c_X6_worsen {w : Nat} (hw : isW w) {M : Mm} {S : ST} (hV : VX w M S) (hF : WF S) {k n : Nat} (hk : k < S 0 2) (hn1 : n < 2 ^ 30) {Q : Option Value → Mm → Prop} (hQ : VX w (siM M (w + 3) k (nI (S 2 k - n))) (hupd S k (S 2 k - n)) → Q none (siM M (w + 3) k (nI (S 2 k - n)))) (d : Nat) : AMt miX6_worsen (d) [.ref w, .int (nI k), .int (nI n)] M Q := by
  refine AMt.of (by decide) (Nat.le_of_ble_eq_true rfl) ?_
  show AW miX6_worsen (d) (mxA Q) 0 [(0, some (.ref w)), (1, some (.int (nI k))), (2, some (.int (nI n)))] [] M
  have hm := WF_m hF
  have hh := WF_h hF
  have hs := WF_s hF
  have hn := WF_n hF
  have hc := WF_clear hF k hk
  refine a_aload_n rfl dX6_worsen_0 ?_
  refine a_geta dX6_worsen_1 fX6_23 (isW_lt hw (i := 0) (by decide)) (layW_0 hw) rfl ?_
  refine a_iload_n rfl dX6_worsen_4 ?_
  refine n_iconst 0 rfl dX6_worsen_5 ?_
  refine a_aload_n rfl dX6_worsen_6 ?_
  refine a_geta dX6_worsen_7 fX6_23 (isW_lt hw (i := 0) (by decide)) (layW_0 hw) rfl ?_
  refine a_iload_n rfl dX6_worsen_10 ?_
  refine v_iald (by omega) (VX_a3 hV (by omega)) (isW_lt hw (i := 3) (by decide)) (layW_3 hw) (by decide) dX6_worsen_11 ?_
  refine a_iload_n rfl dX6_worsen_12 ?_
  refine a_isub dX6_worsen_13 ?_
  refine n_max0 (by omega) (by omega) dX6_worsen_14 lX6_116 (Nat.le_of_ble_eq_true rfl) ?_
  refine n_iast (by omega) (isW_lt hw (i := 3) (by decide)) (layW_3 hw) (by decide) dX6_worsen_17 ?_
  refine a_vret dX6_worsen_18 rfl ?_
  exact hQ (VX_worsen hV hk)

theorem VX_come {w : Nat} {M : Mm} {S : ST} (hV : VX w M S) {i : Nat} (hi : i < S 0 5) (ha : S 9 i < S 0 2) : VX w (siM (siM M (w + 3) (S 9 i) (nI (min 100 (S 2 (S 9 i) + S 10 i)))) w 6 (nI (bsN (fun j => S 11 j == 1) (S 0 5) ||| 2 ^ i))) (comeN S i) := by
  have hco := came_or S hi
  obtain ⟨h0, h1, h2, h3, h4, h5, h6, a2, a3, a4, a5, a7, a8, a9, a10, a11, a12⟩ := hV
  refine VX_intro ?_ ?_ ?_ ?_ ?_ ?_ ?_ ?_ ?_ ?_ ?_ ?_ ?_ ?_ ?_ ?_ ?_
  case refine_7 => exact siS.trans (congrArg nI hco.symm)
  all_goals first
    | (simp [siM, slM, comeN, h0, h1, h2, h3, h4, h5, h6]; done)
    | (intro j hj; by_cases e : j = S 9 i <;> simp [siM, slM, comeN, e] at hj ⊢ <;> first | exact a2 _ (by omega) | exact a3 _ (by omega) | exact a4 _ (by omega) | exact a5 _ (by omega) | exact a7 _ (by omega) | exact a8 _ (by omega) | exact a9 _ (by omega) | exact a10 _ (by omega) | exact a11 _ (by omega) | exact a12 _ (by omega))

set_option maxRecDepth 100000 in
set_option maxHeartbeats 800000 in
theorem c_X6_come {w : Nat} (hw : isW w) {M : Mm} {S : ST} (hV : VX w M S) (hF : WF S) {i : Nat} (hi : i < S 0 5) {Q : Option Value → Mm → Prop} (hQ : VX w (siM (siM M (w + 3) (S 9 i) (nI (min 100 (S 2 (S 9 i) + S 10 i)))) w 6 (nI (bsN (fun j => S 11 j == 1) (S 0 5) ||| 2 ^ i))) (comeN S i) → Q none (siM (siM M (w + 3) (S 9 i) (nI (min 100 (S 2 (S 9 i) + S 10 i)))) w 6 (nI (bsN (fun j => S 11 j == 1) (S 0 5) ||| 2 ^ i)))) (d : Nat) : AMt miX6_come (d) [.ref w, .int (nI i)] M Q := by
  refine AMt.of (by decide) (Nat.le_of_ble_eq_true rfl) ?_
  show AW miX6_come (d) (mxA Q) 0 [(0, some (.ref w)), (1, some (.int (nI i)))] [] M
  have hm := WF_m hF
  have hh := WF_h hF
  have hs := WF_s hF
  have hn := WF_n hF
  have ha := WF_about hF i hi
  have hc := WF_clear hF _ ha
  have hz := WF_size hF i hi
  refine a_aload_n rfl dX6_come_0 ?_
  refine a_geta dX6_come_1 fX6_47 (isW_lt hw (i := 0) (by decide)) (layW_0 hw) rfl ?_
  refine a_iload_n rfl dX6_come_4 ?_
  refine v_iald (by omega) (VX_a11 hV (by omega)) (isW_lt hw (i := 11) (by decide)) (layW_11 hw) (by decide) dX6_come_5 ?_
  refine a_istore_n (by decide) rfl dX6_come_6 ?_
  refine a_aload_n rfl dX6_come_7 ?_
  refine a_geta dX6_come_8 fX6_23 (isW_lt hw (i := 0) (by decide)) (layW_0 hw) rfl ?_
  refine a_iload_n rfl dX6_come_11 ?_
  refine n_bipush 100 rfl dX6_come_12 ?_
  refine a_aload_n rfl dX6_come_14 ?_
  refine a_geta dX6_come_15 fX6_23 (isW_lt hw (i := 0) (by decide)) (layW_0 hw) rfl ?_
  refine a_iload_n rfl dX6_come_18 ?_
  refine v_iald (by omega) (VX_a3 hV (by omega)) (isW_lt hw (i := 3) (by decide)) (layW_3 hw) (by decide) dX6_come_19 ?_
  refine a_aload_n rfl dX6_come_20 ?_
  refine a_geta dX6_come_21 fX6_50 (isW_lt hw (i := 0) (by decide)) (layW_0 hw) rfl ?_
  refine a_iload_n rfl dX6_come_24 ?_
  refine v_iald (by omega) (VX_a12 hV (by omega)) (isW_lt hw (i := 12) (by decide)) (layW_12 hw) (by decide) dX6_come_25 ?_
  refine n_iadd dX6_come_26 ?_
  refine n_min (by omega) (by omega) dX6_come_27 lX6_107 (Nat.le_of_ble_eq_true rfl) ?_
  refine n_iast (by omega) (isW_lt hw (i := 3) (by decide)) (layW_3 hw) (by decide) dX6_come_30 ?_
  refine a_aload_n rfl dX6_come_31 ?_
  refine a_dup rfl dX6_come_32 ?_
  refine g_i (siN (VX_6 hV) (by omega)) (isW_lt hw (i := 0) (by decide)) (layW_0 hw) fX6_75 rfl dX6_come_33 ?_
  refine n_iconst 1 rfl dX6_come_36 ?_
  refine a_iload_n rfl dX6_come_37 ?_
  refine n_bit (by omega) dX6_come_38 ?_
  refine n_ior dX6_come_39 ?_
  refine a_puti dX6_come_40 pX6_75 (isW_lt hw (i := 0) (by decide)) (layW_0 hw) rfl ?_
  refine a_vret dX6_come_43 rfl ?_
  exact hQ (VX_come hV hi ha)

theorem VX_addM {w : Nat} {M : Mm} {S : ST} (hV : VX w M S) {p c : Nat} {x : Int64} : VX w (siM (siM (siM (slM M (w + 1) (S 0 2) x) (w + 2) (S 0 2) (nI p)) (w + 3) (S 0 2) (nI c)) w 2 (nI (S 0 2 + 1))) (addMN S p c) := by
  obtain ⟨h0, h1, h2, h3, h4, h5, h6, a2, a3, a4, a5, a7, a8, a9, a10, a11, a12⟩ := hV
  refine VX_intro ?_ ?_ ?_ ?_ ?_ ?_ ?_ ?_ ?_ ?_ ?_ ?_ ?_ ?_ ?_ ?_ ?_
  all_goals first
    | (simp [siM, slM, addMN, h0, h1, h2, h3, h4, h5, h6, nI_add]; done)
    | (intro j hj; by_cases e : j = S 0 2 <;> simp [siM, slM, addMN, e] at hj ⊢ <;> first | exact a2 _ (by omega) | exact a3 _ (by omega) | exact a4 _ (by omega) | exact a5 _ (by omega) | exact a7 _ (by omega) | exact a8 _ (by omega) | exact a9 _ (by omega) | exact a10 _ (by omega) | exact a11 _ (by omega) | exact a12 _ (by omega) | (exfalso; omega))

set_option maxRecDepth 100000 in
set_option maxHeartbeats 800000 in
theorem c_X6_addMatter {w : Nat} (hw : isW w) {M : Mm} {S : ST} (hV : VX w M S) (hF : WF S) {p c : Nat} {x : Int64} (hm6 : S 0 2 < 6) {Q : Option Value → Mm → Prop} (hQ : VX w (siM (siM (siM (slM M (w + 1) (S 0 2) x) (w + 2) (S 0 2) (nI p)) (w + 3) (S 0 2) (nI c)) w 2 (nI (S 0 2 + 1))) (addMN S p c) → Q none (siM (siM (siM (slM M (w + 1) (S 0 2) x) (w + 2) (S 0 2) (nI p)) (w + 3) (S 0 2) (nI c)) w 2 (nI (S 0 2 + 1)))) (d : Nat) : AMt miX6_addMatter (d) [.ref w, .long x, .int (nI p), .int (nI c)] M Q := by
  refine AMt.of (by decide) (Nat.le_of_ble_eq_true rfl) ?_
  show AW miX6_addMatter (d) (mxA Q) 0 [(0, some (.ref w)), (1, some (.long x)), (3, some (.int (nI p))), (4, some (.int (nI c)))] [] M
  have hm := WF_m hF
  have hh := WF_h hF
  have hs := WF_s hF
  have hn := WF_n hF
  refine a_aload_n rfl dX6_addMatter_0 ?_
  refine g_i (VX_2 hV) (isW_lt hw (i := 0) (by decide)) (layW_0 hw) fX6_63 rfl dX6_addMatter_1 ?_
  refine n_bipush 6 rfl dX6_addMatter_4 ?_
  refine n_icmp_ge 50 (by omega) (by omega) dX6_addMatter_6 (by decide) (fun h_6 => absurd h_6 (by omega)) (fun h_6 => ?_)
  refine a_aload_n rfl dX6_addMatter_9 ?_
  refine a_geta dX6_addMatter_10 fX6_15 (isW_lt hw (i := 0) (by decide)) (layW_0 hw) rfl ?_
  refine a_aload_n rfl dX6_addMatter_13 ?_
  refine g_i (VX_2 hV) (isW_lt hw (i := 0) (by decide)) (layW_0 hw) fX6_63 rfl dX6_addMatter_14 ?_
  refine a_lload_n rfl dX6_addMatter_17 ?_
  refine n_last (by omega) (isW_lt hw (i := 1) (by decide)) (layW_1 hw) (by decide) dX6_addMatter_18 ?_
  refine a_aload_n rfl dX6_addMatter_19 ?_
  refine a_geta dX6_addMatter_20 fX6_19 (isW_lt hw (i := 0) (by decide)) (layW_0 hw) rfl ?_
  refine a_aload_n rfl dX6_addMatter_23 ?_
  refine g_i (VX_2 hV) (isW_lt hw (i := 0) (by decide)) (layW_0 hw) fX6_63 rfl dX6_addMatter_24 ?_
  refine a_iload_n rfl dX6_addMatter_27 ?_
  refine n_iast (by omega) (isW_lt hw (i := 2) (by decide)) (layW_2 hw) (by decide) dX6_addMatter_28 ?_
  refine a_aload_n rfl dX6_addMatter_29 ?_
  refine a_geta dX6_addMatter_30 fX6_23 (isW_lt hw (i := 0) (by decide)) (layW_0 hw) rfl ?_
  refine a_aload_n rfl dX6_addMatter_33 ?_
  refine g_i (siN (VX_2 hV) (by omega)) (isW_lt hw (i := 0) (by decide)) (layW_0 hw) fX6_63 rfl dX6_addMatter_34 ?_
  refine a_iload rfl dX6_addMatter_37 ?_
  refine n_iast (by omega) (isW_lt hw (i := 3) (by decide)) (layW_3 hw) (by decide) dX6_addMatter_39 ?_
  refine a_aload_n rfl dX6_addMatter_40 ?_
  refine a_dup rfl dX6_addMatter_41 ?_
  refine g_i (siN (siN (VX_2 hV) (by omega)) (by omega)) (isW_lt hw (i := 0) (by decide)) (layW_0 hw) fX6_63 rfl dX6_addMatter_42 ?_
  refine n_iconst 1 rfl dX6_addMatter_45 ?_
  refine n_iadd dX6_addMatter_46 ?_
  refine a_puti dX6_addMatter_47 pX6_63 (isW_lt hw (i := 0) (by decide)) (layW_0 hw) rfl ?_
  refine a_vret dX6_addMatter_50 rfl ?_
  exact hQ (VX_addM hV)

theorem VX_addH {w : Nat} {M : Mm} {S : ST} (hV : VX w M S) {x y : Nat} : VX w (siM (siM (siM M (w + 4) (S 0 3) (nI x)) (w + 5) (S 0 3) (nI y)) w 3 (nI (S 0 3 + 1))) (addHN S x y) := by
  obtain ⟨h0, h1, h2, h3, h4, h5, h6, a2, a3, a4, a5, a7, a8, a9, a10, a11, a12⟩ := hV
  refine VX_intro ?_ ?_ ?_ ?_ ?_ ?_ ?_ ?_ ?_ ?_ ?_ ?_ ?_ ?_ ?_ ?_ ?_
  all_goals first
    | (simp [siM, slM, addHN, h0, h1, h2, h3, h4, h5, h6, nI_add]; done)
    | (intro j hj; by_cases e : j = S 0 3 <;> simp [siM, slM, addHN, e] at hj ⊢ <;> first | exact a2 _ (by omega) | exact a3 _ (by omega) | exact a4 _ (by omega) | exact a5 _ (by omega) | exact a7 _ (by omega) | exact a8 _ (by omega) | exact a9 _ (by omega) | exact a10 _ (by omega) | exact a11 _ (by omega) | exact a12 _ (by omega) | (exfalso; omega))

set_option maxRecDepth 100000 in
set_option maxHeartbeats 800000 in
theorem c_X6_addHold {w : Nat} (hw : isW w) {M : Mm} {S : ST} (hV : VX w M S) (hF : WF S) {x y : Nat} (hm6 : S 0 3 < 10) {Q : Option Value → Mm → Prop} (hQ : VX w (siM (siM (siM M (w + 4) (S 0 3) (nI x)) (w + 5) (S 0 3) (nI y)) w 3 (nI (S 0 3 + 1))) (addHN S x y) → Q none (siM (siM (siM M (w + 4) (S 0 3) (nI x)) (w + 5) (S 0 3) (nI y)) w 3 (nI (S 0 3 + 1)))) (d : Nat) : AMt miX6_addHold (d) [.ref w, .int (nI x), .int (nI y)] M Q := by
  refine AMt.of (by decide) (Nat.le_of_ble_eq_true rfl) ?_
  show AW miX6_addHold (d) (mxA Q) 0 [(0, some (.ref w)), (1, some (.int (nI x))), (2, some (.int (nI y)))] [] M
  have hm := WF_m hF
  have hh := WF_h hF
  have hs := WF_s hF
  have hn := WF_n hF
  refine a_aload_n rfl dX6_addHold_0 ?_
  refine g_i (VX_3 hV) (isW_lt hw (i := 0) (by decide)) (layW_0 hw) fX6_66 rfl dX6_addHold_1 ?_
  refine n_bipush 10 rfl dX6_addHold_4 ?_
  refine n_icmp_ge 39 (by omega) (by omega) dX6_addHold_6 (by decide) (fun h_6 => absurd h_6 (by omega)) (fun h_6 => ?_)
  refine a_aload_n rfl dX6_addHold_9 ?_
  refine a_geta dX6_addHold_10 fX6_26 (isW_lt hw (i := 0) (by decide)) (layW_0 hw) rfl ?_
  refine a_aload_n rfl dX6_addHold_13 ?_
  refine g_i (VX_3 hV) (isW_lt hw (i := 0) (by decide)) (layW_0 hw) fX6_66 rfl dX6_addHold_14 ?_
  refine a_iload_n rfl dX6_addHold_17 ?_
  refine n_iast (by omega) (isW_lt hw (i := 4) (by decide)) (layW_4 hw) (by decide) dX6_addHold_18 ?_
  refine a_aload_n rfl dX6_addHold_19 ?_
  refine a_geta dX6_addHold_20 fX6_29 (isW_lt hw (i := 0) (by decide)) (layW_0 hw) rfl ?_
  refine a_aload_n rfl dX6_addHold_23 ?_
  refine g_i (siN (VX_3 hV) (by omega)) (isW_lt hw (i := 0) (by decide)) (layW_0 hw) fX6_66 rfl dX6_addHold_24 ?_
  refine a_iload_n rfl dX6_addHold_27 ?_
  refine n_iast (by omega) (isW_lt hw (i := 5) (by decide)) (layW_5 hw) (by decide) dX6_addHold_28 ?_
  refine a_aload_n rfl dX6_addHold_29 ?_
  refine a_dup rfl dX6_addHold_30 ?_
  refine g_i (siN (siN (VX_3 hV) (by omega)) (by omega)) (isW_lt hw (i := 0) (by decide)) (layW_0 hw) fX6_66 rfl dX6_addHold_31 ?_
  refine n_iconst 1 rfl dX6_addHold_34 ?_
  refine n_iadd dX6_addHold_35 ?_
  refine a_puti dX6_addHold_36 pX6_66 (isW_lt hw (i := 0) (by decide)) (layW_0 hw) rfl ?_
  refine a_vret dX6_addHold_39 rfl ?_
  exact hQ (VX_addH hV)

theorem VX_addS {w : Nat} {M : Mm} {S : ST} (hV : VX w M S) {p q r t : Nat} {x : Int64} : VX w (siM (siM (siM (siM (siM (slM M (w + 6) (S 0 4) x) (w + 7) (S 0 4) (nI p)) (w + 8) (S 0 4) (nI q)) (w + 9) (S 0 4) (nI r)) (w + 10) (S 0 4) (nI t)) w 4 (nI (S 0 4 + 1))) (addSN S p q r t) := by
  obtain ⟨h0, h1, h2, h3, h4, h5, h6, a2, a3, a4, a5, a7, a8, a9, a10, a11, a12⟩ := hV
  refine VX_intro ?_ ?_ ?_ ?_ ?_ ?_ ?_ ?_ ?_ ?_ ?_ ?_ ?_ ?_ ?_ ?_ ?_
  all_goals first
    | (simp [siM, slM, addSN, h0, h1, h2, h3, h4, h5, h6, nI_add]; done)
    | (intro j hj; by_cases e : j = S 0 4 <;> simp [siM, slM, addSN, e] at hj ⊢ <;> first | exact a2 _ (by omega) | exact a3 _ (by omega) | exact a4 _ (by omega) | exact a5 _ (by omega) | exact a7 _ (by omega) | exact a8 _ (by omega) | exact a9 _ (by omega) | exact a10 _ (by omega) | exact a11 _ (by omega) | exact a12 _ (by omega) | (exfalso; omega))

set_option maxRecDepth 100000 in
set_option maxHeartbeats 800000 in
theorem c_X6_addSitter {w : Nat} (hw : isW w) {M : Mm} {S : ST} (hV : VX w M S) (hF : WF S) {p q r t : Nat} {x : Int64} (hm6 : S 0 4 < 7) {Q : Option Value → Mm → Prop} (hQ : VX w (siM (siM (siM (siM (siM (slM M (w + 6) (S 0 4) x) (w + 7) (S 0 4) (nI p)) (w + 8) (S 0 4) (nI q)) (w + 9) (S 0 4) (nI r)) (w + 10) (S 0 4) (nI t)) w 4 (nI (S 0 4 + 1))) (addSN S p q r t) → Q none (siM (siM (siM (siM (siM (slM M (w + 6) (S 0 4) x) (w + 7) (S 0 4) (nI p)) (w + 8) (S 0 4) (nI q)) (w + 9) (S 0 4) (nI r)) (w + 10) (S 0 4) (nI t)) w 4 (nI (S 0 4 + 1)))) (d : Nat) : AMt miX6_addSitter (d) [.ref w, .long x, .int (nI p), .int (nI q), .int (nI r), .int (nI t)] M Q := by
  refine AMt.of (by decide) (Nat.le_of_ble_eq_true rfl) ?_
  show AW miX6_addSitter (d) (mxA Q) 0 [(0, some (.ref w)), (1, some (.long x)), (3, some (.int (nI p))), (4, some (.int (nI q))), (5, some (.int (nI r))), (6, some (.int (nI t)))] [] M
  have hm := WF_m hF
  have hh := WF_h hF
  have hs := WF_s hF
  have hn := WF_n hF
  refine a_aload_n rfl dX6_addSitter_0 ?_
  refine g_i (VX_4 hV) (isW_lt hw (i := 0) (by decide)) (layW_0 hw) fX6_69 rfl dX6_addSitter_1 ?_
  refine n_bipush 7 rfl dX6_addSitter_4 ?_
  refine n_icmp_ge 72 (by omega) (by omega) dX6_addSitter_6 (by decide) (fun h_6 => absurd h_6 (by omega)) (fun h_6 => ?_)
  refine a_aload_n rfl dX6_addSitter_9 ?_
  refine a_geta dX6_addSitter_10 fX6_32 (isW_lt hw (i := 0) (by decide)) (layW_0 hw) rfl ?_
  refine a_aload_n rfl dX6_addSitter_13 ?_
  refine g_i (VX_4 hV) (isW_lt hw (i := 0) (by decide)) (layW_0 hw) fX6_69 rfl dX6_addSitter_14 ?_
  refine a_lload_n rfl dX6_addSitter_17 ?_
  refine n_last (by omega) (isW_lt hw (i := 6) (by decide)) (layW_6 hw) (by decide) dX6_addSitter_18 ?_
  refine a_aload_n rfl dX6_addSitter_19 ?_
  refine a_geta dX6_addSitter_20 fX6_35 (isW_lt hw (i := 0) (by decide)) (layW_0 hw) rfl ?_
  refine a_aload_n rfl dX6_addSitter_23 ?_
  refine g_i (VX_4 hV) (isW_lt hw (i := 0) (by decide)) (layW_0 hw) fX6_69 rfl dX6_addSitter_24 ?_
  refine a_iload_n rfl dX6_addSitter_27 ?_
  refine n_iast (by omega) (isW_lt hw (i := 7) (by decide)) (layW_7 hw) (by decide) dX6_addSitter_28 ?_
  refine a_aload_n rfl dX6_addSitter_29 ?_
  refine a_geta dX6_addSitter_30 fX6_38 (isW_lt hw (i := 0) (by decide)) (layW_0 hw) rfl ?_
  refine a_aload_n rfl dX6_addSitter_33 ?_
  refine g_i (siN (VX_4 hV) (by omega)) (isW_lt hw (i := 0) (by decide)) (layW_0 hw) fX6_69 rfl dX6_addSitter_34 ?_
  refine a_iload rfl dX6_addSitter_37 ?_
  refine n_iast (by omega) (isW_lt hw (i := 8) (by decide)) (layW_8 hw) (by decide) dX6_addSitter_39 ?_
  refine a_aload_n rfl dX6_addSitter_40 ?_
  refine a_geta dX6_addSitter_41 fX6_41 (isW_lt hw (i := 0) (by decide)) (layW_0 hw) rfl ?_
  refine a_aload_n rfl dX6_addSitter_44 ?_
  refine g_i (siN (siN (VX_4 hV) (by omega)) (by omega)) (isW_lt hw (i := 0) (by decide)) (layW_0 hw) fX6_69 rfl dX6_addSitter_45 ?_
  refine a_iload rfl dX6_addSitter_48 ?_
  refine n_iast (by omega) (isW_lt hw (i := 9) (by decide)) (layW_9 hw) (by decide) dX6_addSitter_50 ?_
  refine a_aload_n rfl dX6_addSitter_51 ?_
  refine a_geta dX6_addSitter_52 fX6_44 (isW_lt hw (i := 0) (by decide)) (layW_0 hw) rfl ?_
  refine a_aload_n rfl dX6_addSitter_55 ?_
  refine g_i (siN (siN (siN (VX_4 hV) (by omega)) (by omega)) (by omega)) (isW_lt hw (i := 0) (by decide)) (layW_0 hw) fX6_69 rfl dX6_addSitter_56 ?_
  refine a_iload rfl dX6_addSitter_59 ?_
  refine n_iast (by omega) (isW_lt hw (i := 10) (by decide)) (layW_10 hw) (by decide) dX6_addSitter_61 ?_
  refine a_aload_n rfl dX6_addSitter_62 ?_
  refine a_dup rfl dX6_addSitter_63 ?_
  refine g_i (siN (siN (siN (siN (VX_4 hV) (by omega)) (by omega)) (by omega)) (by omega)) (isW_lt hw (i := 0) (by decide)) (layW_0 hw) fX6_69 rfl dX6_addSitter_64 ?_
  refine n_iconst 1 rfl dX6_addSitter_67 ?_
  refine n_iadd dX6_addSitter_68 ?_
  refine a_puti dX6_addSitter_69 pX6_69 (isW_lt hw (i := 0) (by decide)) (layW_0 hw) rfl ?_
  refine a_vret dX6_addSitter_72 rfl ?_
  exact hQ (VX_addS hV)

theorem VX_addNw {w : Nat} {M : Mm} {S : ST} (hV : VX w M S) {x z : Nat} : VX w (siM (siM (siM M (w + 11) (S 0 5) (nI x)) (w + 12) (S 0 5) (nI z)) w 5 (nI (S 0 5 + 1))) (addNN S x z) := by
  obtain ⟨h0, h1, h2, h3, h4, h5, h6, a2, a3, a4, a5, a7, a8, a9, a10, a11, a12⟩ := hV
  have hco : bsN (fun j => (addNN S x z) 11 j == 1) (S 0 5 + 1) = bsN (fun j => S 11 j == 1) (S 0 5) := by
    apply Nat.eq_of_testBit_eq; intro j; rw [bsN_bit, bsN_bit]
    by_cases e : j = S 0 5
    · subst e; simp [addNN]
    · have : (j < S 0 5 + 1) = (j < S 0 5) := by apply propext; omega
      simp [addNN, e, this]
  refine VX_intro ?_ ?_ ?_ ?_ ?_ ?_ ?_ ?_ ?_ ?_ ?_ ?_ ?_ ?_ ?_ ?_ ?_
  case refine_7 => exact (siN (siN (siN h6 (by omega)) (by omega)) (by omega)).trans (congrArg nI hco.symm)
  all_goals first
    | (simp [siM, slM, addNN, h0, h1, h2, h3, h4, h5, h6, nI_add]; done)
    | (intro j hj; by_cases e : j = S 0 5 <;> simp [siM, slM, addNN, e] at hj ⊢ <;> first | exact a2 _ (by omega) | exact a3 _ (by omega) | exact a4 _ (by omega) | exact a5 _ (by omega) | exact a7 _ (by omega) | exact a8 _ (by omega) | exact a9 _ (by omega) | exact a10 _ (by omega) | exact a11 _ (by omega) | exact a12 _ (by omega) | (exfalso; omega))

set_option maxRecDepth 100000 in
set_option maxHeartbeats 800000 in
theorem c_X6_addNews {w : Nat} (hw : isW w) {M : Mm} {S : ST} (hV : VX w M S) (hF : WF S) {x z : Nat} (hm6 : S 0 5 < 8) {Q : Option Value → Mm → Prop} (hQ : VX w (siM (siM (siM M (w + 11) (S 0 5) (nI x)) (w + 12) (S 0 5) (nI z)) w 5 (nI (S 0 5 + 1))) (addNN S x z) → Q none (siM (siM (siM M (w + 11) (S 0 5) (nI x)) (w + 12) (S 0 5) (nI z)) w 5 (nI (S 0 5 + 1)))) (d : Nat) : AMt miX6_addNews (d) [.ref w, .int (nI x), .int (nI z)] M Q := by
  refine AMt.of (by decide) (Nat.le_of_ble_eq_true rfl) ?_
  show AW miX6_addNews (d) (mxA Q) 0 [(0, some (.ref w)), (1, some (.int (nI x))), (2, some (.int (nI z)))] [] M
  have hm := WF_m hF
  have hh := WF_h hF
  have hs := WF_s hF
  have hn := WF_n hF
  refine a_aload_n rfl dX6_addNews_0 ?_
  refine g_i (VX_5 hV) (isW_lt hw (i := 0) (by decide)) (layW_0 hw) fX6_72 rfl dX6_addNews_1 ?_
  refine n_bipush 8 rfl dX6_addNews_4 ?_
  refine n_icmp_ge 39 (by omega) (by omega) dX6_addNews_6 (by decide) (fun h_6 => absurd h_6 (by omega)) (fun h_6 => ?_)
  refine a_aload_n rfl dX6_addNews_9 ?_
  refine a_geta dX6_addNews_10 fX6_47 (isW_lt hw (i := 0) (by decide)) (layW_0 hw) rfl ?_
  refine a_aload_n rfl dX6_addNews_13 ?_
  refine g_i (VX_5 hV) (isW_lt hw (i := 0) (by decide)) (layW_0 hw) fX6_72 rfl dX6_addNews_14 ?_
  refine a_iload_n rfl dX6_addNews_17 ?_
  refine n_iast (by omega) (isW_lt hw (i := 11) (by decide)) (layW_11 hw) (by decide) dX6_addNews_18 ?_
  refine a_aload_n rfl dX6_addNews_19 ?_
  refine a_geta dX6_addNews_20 fX6_50 (isW_lt hw (i := 0) (by decide)) (layW_0 hw) rfl ?_
  refine a_aload_n rfl dX6_addNews_23 ?_
  refine g_i (siN (VX_5 hV) (by omega)) (isW_lt hw (i := 0) (by decide)) (layW_0 hw) fX6_72 rfl dX6_addNews_24 ?_
  refine a_iload_n rfl dX6_addNews_27 ?_
  refine n_iast (by omega) (isW_lt hw (i := 12) (by decide)) (layW_12 hw) (by decide) dX6_addNews_28 ?_
  refine a_aload_n rfl dX6_addNews_29 ?_
  refine a_dup rfl dX6_addNews_30 ?_
  refine g_i (siN (siN (VX_5 hV) (by omega)) (by omega)) (isW_lt hw (i := 0) (by decide)) (layW_0 hw) fX6_72 rfl dX6_addNews_31 ?_
  refine n_iconst 1 rfl dX6_addNews_34 ?_
  refine n_iadd dX6_addNews_35 ?_
  refine a_puti dX6_addNews_36 pX6_72 (isW_lt hw (i := 0) (by decide)) (layW_0 hw) rfl ?_
  refine a_vret dX6_addNews_39 rfl ?_
  exact hQ (VX_addNw hV)

set_option maxRecDepth 100000 in
set_option maxHeartbeats 800000 in
theorem c_X6_matterNamed {w : Nat} (hw : isW w) {M : Mm} {S : ST} (hV : VX w M S) (hF : WF S) {N : Nat → Nat → Int64} (hN : VN w M S N) {x : Int64} {Q : Option Value → Mm → Prop} (h1 : ∀ i, i < S 0 2 → N 0 i = x → (∀ j, j < i → N 0 j ≠ x) → Q (some (.int (nI i))) M) (h0 : (∀ j, j < S 0 2 → N 0 j ≠ x) → Q (some (.int (-1))) M) (d : Nat) : AMt miX6_matterNamed (d) [.ref w, .long x] M Q := by
  refine AMt.of (by decide) (Nat.le_of_ble_eq_true rfl) ?_
  show AW miX6_matterNamed (d) (mxA Q) 0 [(0, some (.ref w)), (1, some (.long x))] [] M
  have hm := WF_m hF
  have hh := WF_h hF
  have hs := WF_s hF
  have hn := WF_n hF
  refine n_iconst 0 rfl dX6_matterNamed_0 ?_
  refine a_istore_n (by decide) rfl dX6_matterNamed_1 ?_
  have loop_2 : ∀ i, i ≤ S 0 2 → (∀ j, j < i → N 0 j ≠ x) → AW miX6_matterNamed (d) (mxA Q) 2 [(0, some (.ref w)), (1, some (.long x)), (3, some (.int (nI i)))] [] M := by
    refine up (W := fun i => (∀ j, j < i → N 0 j ≠ x) → AW miX6_matterNamed (d) (mxA Q) 2 [(0, some (.ref w)), (1, some (.long x)), (3, some (.int (nI i)))] [] M) (S 0 2) (fun hI_2 => ?_) (fun i hi_2 ih_2 hI_2 => ?_)
    · refine a_iload_n rfl dX6_matterNamed_2 ?_
      refine a_aload_n rfl dX6_matterNamed_3 ?_
      refine g_i (VX_2 hV) (isW_lt hw (i := 0) (by decide)) (layW_0 hw) fX6_63 rfl dX6_matterNamed_4 ?_
      refine n_icmp_ge 29 (by omega) (by omega) dX6_matterNamed_7 (by decide) (fun h_7 => ?_) (fun h_7 => absurd h_7 (by omega))
      refine a_iconst (-1) rfl dX6_matterNamed_29 ?_
      refine a_iret dX6_matterNamed_30 rfl ?_
      exact h0 hI_2
    · refine a_iload_n rfl dX6_matterNamed_2 ?_
      refine a_aload_n rfl dX6_matterNamed_3 ?_
      refine g_i (VX_2 hV) (isW_lt hw (i := 0) (by decide)) (layW_0 hw) fX6_63 rfl dX6_matterNamed_4 ?_
      refine n_icmp_ge 29 (by omega) (by omega) dX6_matterNamed_7 (by decide) (fun h_7 => absurd h_7 (by omega)) (fun h_7 => ?_)
      refine a_aload_n rfl dX6_matterNamed_10 ?_
      refine a_geta dX6_matterNamed_11 fX6_15 (isW_lt hw (i := 0) (by decide)) (layW_0 hw) rfl ?_
      refine a_iload_n rfl dX6_matterNamed_14 ?_
      refine n_lald (by omega) (isW_lt hw (i := 1) (by decide)) (layW_1 hw) (by decide) dX6_matterNamed_15 ?_
      refine a_lload_n rfl dX6_matterNamed_16 ?_
      refine a_lcmp dX6_matterNamed_17 ?_
      refine l_if_ne 23 dX6_matterNamed_18 (by decide) (fun h_18 => ?_) (fun h_18 => ?_)
      · refine n_iinc (c := 1) rfl rfl (by decide) rfl dX6_matterNamed_23 ?_
        refine a_goto 2 dX6_matterNamed_26 (by decide) ?_
        exact a_bk (ih_2 (fun j hj => by rcases (show j < i ∨ j = i by omega) with h | h; exact hI_2 j h; subst h; rw [← hN.1 _ hi_2]; exact h_18)) ⟨rfl, rfl, rfl, trivial⟩
      · refine a_iload_n rfl dX6_matterNamed_21 ?_
        refine a_iret dX6_matterNamed_22 rfl ?_
        exact h1 i hi_2 (by rw [← hN.1 i hi_2]; exact h_18) hI_2
  exact a_bk (loop_2 0 (by omega) (fun j hj => absurd hj (by omega))) ⟨rfl, rfl, rfl, trivial⟩

set_option maxRecDepth 100000 in
set_option maxHeartbeats 800000 in
theorem c_X6_sitterNamed {w : Nat} (hw : isW w) {M : Mm} {S : ST} (hV : VX w M S) (hF : WF S) {N : Nat → Nat → Int64} (hN : VN w M S N) {x : Int64} {Q : Option Value → Mm → Prop} (h1 : ∀ i, i < S 0 4 → N 1 i = x → (∀ j, j < i → N 1 j ≠ x) → Q (some (.int (nI i))) M) (h0 : (∀ j, j < S 0 4 → N 1 j ≠ x) → Q (some (.int (-1))) M) (d : Nat) : AMt miX6_sitterNamed (d) [.ref w, .long x] M Q := by
  refine AMt.of (by decide) (Nat.le_of_ble_eq_true rfl) ?_
  show AW miX6_sitterNamed (d) (mxA Q) 0 [(0, some (.ref w)), (1, some (.long x))] [] M
  have hm := WF_m hF
  have hh := WF_h hF
  have hs := WF_s hF
  have hn := WF_n hF
  refine n_iconst 0 rfl dX6_sitterNamed_0 ?_
  refine a_istore_n (by decide) rfl dX6_sitterNamed_1 ?_
  have loop_2 : ∀ i, i ≤ S 0 4 → (∀ j, j < i → N 1 j ≠ x) → AW miX6_sitterNamed (d) (mxA Q) 2 [(0, some (.ref w)), (1, some (.long x)), (3, some (.int (nI i)))] [] M := by
    refine up (W := fun i => (∀ j, j < i → N 1 j ≠ x) → AW miX6_sitterNamed (d) (mxA Q) 2 [(0, some (.ref w)), (1, some (.long x)), (3, some (.int (nI i)))] [] M) (S 0 4) (fun hI_2 => ?_) (fun i hi_2 ih_2 hI_2 => ?_)
    · refine a_iload_n rfl dX6_sitterNamed_2 ?_
      refine a_aload_n rfl dX6_sitterNamed_3 ?_
      refine g_i (VX_4 hV) (isW_lt hw (i := 0) (by decide)) (layW_0 hw) fX6_69 rfl dX6_sitterNamed_4 ?_
      refine n_icmp_ge 29 (by omega) (by omega) dX6_sitterNamed_7 (by decide) (fun h_7 => ?_) (fun h_7 => absurd h_7 (by omega))
      refine a_iconst (-1) rfl dX6_sitterNamed_29 ?_
      refine a_iret dX6_sitterNamed_30 rfl ?_
      exact h0 hI_2
    · refine a_iload_n rfl dX6_sitterNamed_2 ?_
      refine a_aload_n rfl dX6_sitterNamed_3 ?_
      refine g_i (VX_4 hV) (isW_lt hw (i := 0) (by decide)) (layW_0 hw) fX6_69 rfl dX6_sitterNamed_4 ?_
      refine n_icmp_ge 29 (by omega) (by omega) dX6_sitterNamed_7 (by decide) (fun h_7 => absurd h_7 (by omega)) (fun h_7 => ?_)
      refine a_aload_n rfl dX6_sitterNamed_10 ?_
      refine a_geta dX6_sitterNamed_11 fX6_32 (isW_lt hw (i := 0) (by decide)) (layW_0 hw) rfl ?_
      refine a_iload_n rfl dX6_sitterNamed_14 ?_
      refine n_lald (by omega) (isW_lt hw (i := 6) (by decide)) (layW_6 hw) (by decide) dX6_sitterNamed_15 ?_
      refine a_lload_n rfl dX6_sitterNamed_16 ?_
      refine a_lcmp dX6_sitterNamed_17 ?_
      refine l_if_ne 23 dX6_sitterNamed_18 (by decide) (fun h_18 => ?_) (fun h_18 => ?_)
      · refine n_iinc (c := 1) rfl rfl (by decide) rfl dX6_sitterNamed_23 ?_
        refine a_goto 2 dX6_sitterNamed_26 (by decide) ?_
        exact a_bk (ih_2 (fun j hj => by rcases (show j < i ∨ j = i by omega) with h | h; exact hI_2 j h; subst h; rw [← hN.2 _ hi_2]; exact h_18)) ⟨rfl, rfl, rfl, trivial⟩
      · refine a_iload_n rfl dX6_sitterNamed_21 ?_
        refine a_iret dX6_sitterNamed_22 rfl ?_
        exact h1 i hi_2 (by rw [← hN.2 i hi_2]; exact h_18) hI_2
  exact a_bk (loop_2 0 (by omega) (fun j hj => absurd hj (by omega))) ⟨rfl, rfl, rfl, trivial⟩

/-- LOAD; none where it never is -/
def loadN (S : ST) (k : Nat) : Option Nat := if S 2 k = 100 then some 0 else if S 1 k = 0 then none else some ((100 - S 2 k + S 1 k - 1) / S 1 k)

set_option maxRecDepth 100000 in
set_option maxHeartbeats 800000 in
theorem c_X6_loadOf {w : Nat} (hw : isW w) {M : Mm} {S : ST} (hV : VX w M S) (hF : WF S) {k : Nat} (hk : k < S 0 2) {Q : Option Value → Mm → Prop} (hq1 : ∀ v, loadN S k = some v → Q (some (.int (nI v))) M) (hq0 : loadN S k = none → Q (some (.int (-1))) M) (d : Nat) : AMt miX6_loadOf (d) [.ref w, .int (nI k)] M Q := by
  refine AMt.of (by decide) (Nat.le_of_ble_eq_true rfl) ?_
  show AW miX6_loadOf (d) (mxA Q) 0 [(0, some (.ref w)), (1, some (.int (nI k)))] [] M
  have hm := WF_m hF
  have hh := WF_h hF
  have hs := WF_s hF
  have hn := WF_n hF
  have h1 := WF_clear hF k hk
  have h2 := WF_pace hF k hk
  refine n_bipush 100 rfl dX6_loadOf_0 ?_
  refine a_aload_n rfl dX6_loadOf_2 ?_
  refine a_geta dX6_loadOf_3 fX6_23 (isW_lt hw (i := 0) (by decide)) (layW_0 hw) rfl ?_
  refine a_iload_n rfl dX6_loadOf_6 ?_
  refine v_iald (by omega) (VX_a3 hV (by omega)) (isW_lt hw (i := 3) (by decide)) (layW_3 hw) (by decide) dX6_loadOf_7 ?_
  refine n_isub (by omega) dX6_loadOf_8 ?_
  refine a_istore_n (by decide) rfl dX6_loadOf_9 ?_
  refine a_iload_n rfl dX6_loadOf_10 ?_
  refine n_if_ne 16 (by omega) dX6_loadOf_11 (by decide) (fun h_11 => ?_) (fun h_11 => ?_)
  · refine a_aload_n rfl dX6_loadOf_16 ?_
    refine a_geta dX6_loadOf_17 fX6_19 (isW_lt hw (i := 0) (by decide)) (layW_0 hw) rfl ?_
    refine a_iload_n rfl dX6_loadOf_20 ?_
    refine v_iald (by omega) (VX_a2 hV (by omega)) (isW_lt hw (i := 2) (by decide)) (layW_2 hw) (by decide) dX6_loadOf_21 ?_
    refine a_istore_n (by decide) rfl dX6_loadOf_22 ?_
    refine a_iload_n rfl dX6_loadOf_23 ?_
    refine n_if_le 37 (by omega) dX6_loadOf_24 (by decide) (fun h_24 => ?_) (fun h_24 => ?_)
    · refine a_iconst (-1) rfl dX6_loadOf_37 ?_
      refine a_iret dX6_loadOf_38 rfl ?_
      exact hq0 (by unfold loadN; rw [if_neg (by omega), if_pos (by omega)])
    · refine a_iload_n rfl dX6_loadOf_27 ?_
      refine a_iload_n rfl dX6_loadOf_28 ?_
      refine n_iadd dX6_loadOf_29 ?_
      refine n_iconst 1 rfl dX6_loadOf_30 ?_
      refine n_isub (by omega) dX6_loadOf_31 ?_
      refine a_iload_n rfl dX6_loadOf_32 ?_
      refine n_idiv (by omega) (by omega) (by omega) dX6_loadOf_33 ?_
      refine a_goto 38 dX6_loadOf_34 (by decide) ?_
      refine a_iret dX6_loadOf_38 rfl ?_
      exact hq1 _ (by unfold loadN; rw [if_neg (by omega), if_neg (by omega)])
  · refine n_iconst 0 rfl dX6_loadOf_14 ?_
    refine a_iret dX6_loadOf_15 rfl ?_
    exact hq1 _ (by unfold loadN; rw [if_pos (by omega)])

theorem VX_set1 {w : Nat} {M : Mm} {S : ST} (hV : VX w M S) {k v : Nat} (hk : k < S 0 2) : VX w (siM M (w + 2) k (nI v)) (upS2 S 1 k v) := by
  obtain ⟨h0, h1, h2, h3, h4, h5, h6, a2, a3, a4, a5, a7, a8, a9, a10, a11, a12⟩ := hV
  refine VX_intro ?_ ?_ ?_ ?_ ?_ ?_ ?_ ?_ ?_ ?_ ?_ ?_ ?_ ?_ ?_ ?_ ?_
  all_goals first
    | (simp [siM, slM, upS2, h0, h1, h2, h3, h4, h5, h6, nI_add]; done)
    | (intro j hj; by_cases e : j = k <;> simp [siM, slM, upS2, e] at hj ⊢ <;> first | exact a2 _ (by omega) | exact a3 _ (by omega) | exact a4 _ (by omega) | exact a5 _ (by omega) | exact a7 _ (by omega) | exact a8 _ (by omega) | exact a9 _ (by omega) | exact a10 _ (by omega) | exact a11 _ (by omega) | exact a12 _ (by omega) | (exfalso; omega))

theorem VX_set7 {w : Nat} {M : Mm} {S : ST} (hV : VX w M S) {k v : Nat} (hk : k < S 0 4) : VX w (siM M (w + 9) k (nI v)) (upS2 S 7 k v) := by
  obtain ⟨h0, h1, h2, h3, h4, h5, h6, a2, a3, a4, a5, a7, a8, a9, a10, a11, a12⟩ := hV
  refine VX_intro ?_ ?_ ?_ ?_ ?_ ?_ ?_ ?_ ?_ ?_ ?_ ?_ ?_ ?_ ?_ ?_ ?_
  all_goals first
    | (simp [siM, slM, upS2, h0, h1, h2, h3, h4, h5, h6, nI_add]; done)
    | (intro j hj; by_cases e : j = k <;> simp [siM, slM, upS2, e] at hj ⊢ <;> first | exact a2 _ (by omega) | exact a3 _ (by omega) | exact a4 _ (by omega) | exact a5 _ (by omega) | exact a7 _ (by omega) | exact a8 _ (by omega) | exact a9 _ (by omega) | exact a10 _ (by omega) | exact a11 _ (by omega) | exact a12 _ (by omega) | (exfalso; omega))

theorem VX_set0 {w : Nat} {M : Mm} {S : ST} (hV : VX w M S) {v : Nat} : VX w (siM M w 0 (nI v)) (upS2 S 0 0 v) := by
  obtain ⟨h0, h1, h2, h3, h4, h5, h6, a2, a3, a4, a5, a7, a8, a9, a10, a11, a12⟩ := hV
  refine VX_intro ?_ ?_ ?_ ?_ ?_ ?_ ?_ ?_ ?_ ?_ ?_ ?_ ?_ ?_ ?_ ?_ ?_
  all_goals first
    | (simp [siM, slM, upS2, h0, h1, h2, h3, h4, h5, h6, nI_add]; done)
    | (intro j hj; by_cases e : j = 0 <;> simp [siM, slM, upS2, e] at hj ⊢ <;> first | exact a2 _ (by omega) | exact a3 _ (by omega) | exact a4 _ (by omega) | exact a5 _ (by omega) | exact a7 _ (by omega) | exact a8 _ (by omega) | exact a9 _ (by omega) | exact a10 _ (by omega) | exact a11 _ (by omega) | exact a12 _ (by omega) | (exfalso; omega))

def drM (M : Mm) (w : Nat) (S : ST) (k i : Nat) : Mm := srM (srM M (w + 4) (fun b => if k ≤ b ∧ b < i then nI (S 3 (b + 1)) else M.1 (w + 4) b)) (w + 5) (fun b => if k ≤ b ∧ b < i then nI (S 4 (b + 1)) else M.1 (w + 5) b)
theorem dr_o {M : Mm} {w k i a j : Nat} {S : ST} {v : Int32} (h : M.1 a j = v) (h4 : a ≠ w + 4) (h5 : a ≠ w + 5) : (drM M w S k i).1 a j = v := srN (srN h h4) h5
theorem dr_4 {M : Mm} {w k i j : Nat} {S : ST} {v : Int32} (h : M.1 (w + 4) j = v) (hj : i ≤ j) : (drM M w S k i).1 (w + 4) j = v := by
  refine srN ?_ (by omega)
  rw [srM_at, if_neg (by omega)]; exact h
theorem dr_5 {M : Mm} {w k i j : Nat} {S : ST} {v : Int32} (h : M.1 (w + 5) j = v) (hj : i ≤ j) : (drM M w S k i).1 (w + 5) j = v := by
  unfold drM
  rw [srM_at, if_neg (by omega)]; exact h
theorem dr_0 (M : Mm) (w : Nat) (S : ST) (k : Nat) : drM M w S k k = M := by
  unfold drM srM
  refine Prod.ext (funext fun a => funext fun b => ?_) rfl
  by_cases h5 : a = w + 5
  · subst h5; simp; omega
  · by_cases h4 : a = w + 4
    · subst h4; simp; omega
    · simp [h4, h5]
theorem dr_st (M : Mm) (w : Nat) (S : ST) (k i : Nat) (hk : k ≤ i) : siM (siM (drM M w S k i) (w + 4) i (nI (S 3 (i + 1)))) (w + 5) i (nI (S 4 (i + 1))) = drM M w S k (i + 1) := by
  unfold drM srM siM
  refine Prod.ext (funext fun a => funext fun b => ?_) rfl
  by_cases h5 : a = w + 5
  · subst h5
    by_cases hb : b = i
    · subst hb; simp [hk]
    · have : (b < i + 1) = (b < i) := by apply propext; omega
      simp [hb, this]
  · by_cases h4 : a = w + 4
    · subst h4
      by_cases hb : b = i
      · subst hb; simp [hk]
      · have : (b < i + 1) = (b < i) := by apply propext; omega
        simp [hb, this]
    · simp [h4, h5]
theorem VX_drop {w : Nat} {M : Mm} {S : ST} (hV : VX w M S) {k : Nat} (hk : k < S 0 3) : VX w (siM (drM M w S k (S 0 3 - 1)) w 3 (nI (S 0 3 - 1))) (dropN S k) := by
  obtain ⟨h0, h1, h2, h3, h4, h5, h6, a2, a3, a4, a5, a7, a8, a9, a10, a11, a12⟩ := hV
  refine VX_intro (siN (dr_o h0 (by omega) (by omega)) (by omega)) (siN (dr_o h1 (by omega) (by omega)) (by omega)) (siN (dr_o h2 (by omega) (by omega)) (by omega)) siS (siN (dr_o h4 (by omega) (by omega)) (by omega)) (siN (dr_o h5 (by omega) (by omega)) (by omega)) (siN (dr_o h6 (by omega) (by omega)) (by omega)) (fun j hj => siN (dr_o (a2 j hj) (by omega) (by omega)) (by omega)) (fun j hj => siN (dr_o (a3 j hj) (by omega) (by omega)) (by omega)) (fun j hj => ?_) (fun j hj => ?_) (fun j hj => siN (dr_o (a7 j hj) (by omega) (by omega)) (by omega)) (fun j hj => siN (dr_o (a8 j hj) (by omega) (by omega)) (by omega)) (fun j hj => siN (dr_o (a9 j hj) (by omega) (by omega)) (by omega)) (fun j hj => siN (dr_o (a10 j hj) (by omega) (by omega)) (by omega)) (fun j hj => siN (dr_o (a11 j hj) (by omega) (by omega)) (by omega)) (fun j hj => siN (dr_o (a12 j hj) (by omega) (by omega)) (by omega))
  · have hj : j < S 0 3 - 1 := hj
    refine siN ?_ (by omega)
    refine srN ?_ (by omega)
    rw [srM_at]
    by_cases e : k ≤ j
    · rw [if_pos ⟨e, hj⟩]; simp [dropN, e]
    · rw [if_neg (by omega), a4 j (by omega)]; simp [dropN, e]
  · have hj : j < S 0 3 - 1 := hj
    refine siN ?_ (by omega)
    unfold drM
    rw [srM_at]
    by_cases e : k ≤ j
    · rw [if_pos ⟨e, hj⟩]; simp [dropN, e]
    · rw [if_neg (by omega), a5 j (by omega)]; simp [dropN, e]

set_option maxRecDepth 100000 in
set_option maxHeartbeats 800000 in
theorem c_X6_dropHold {w : Nat} (hw : isW w) {M : Mm} {S : ST} (hV : VX w M S) (hF : WF S) {k : Nat} (hk : k < S 0 3) {Q : Option Value → Mm → Prop} (hQ : VX w (siM (drM M w S k (S 0 3 - 1)) w 3 (nI (S 0 3 - 1))) (dropN S k) → Q none (siM (drM M w S k (S 0 3 - 1)) w 3 (nI (S 0 3 - 1)))) (d : Nat) : AMt miX6_dropHold (d) [.ref w, .int (nI k)] M Q := by
  refine AMt.of (by decide) (Nat.le_of_ble_eq_true rfl) ?_
  show AW miX6_dropHold (d) (mxA Q) 0 [(0, some (.ref w)), (1, some (.int (nI k)))] [] M
  have hm := WF_m hF
  have hh := WF_h hF
  have hs := WF_s hF
  have hn := WF_n hF
  refine a_iload_n rfl dX6_dropHold_0 ?_
  refine a_istore_n (by decide) rfl dX6_dropHold_1 ?_
  have loop_2 : ∀ i, i ≤ S 0 3 - 1 → (k ≤ i) → AW miX6_dropHold (d) (mxA Q) 2 [(0, some (.ref w)), (1, some (.int (nI k))), (2, some (.int (nI i)))] [] (drM M w S k i) := by
    refine up (W := fun i => (k ≤ i) → AW miX6_dropHold (d) (mxA Q) 2 [(0, some (.ref w)), (1, some (.int (nI k))), (2, some (.int (nI i)))] [] (drM M w S k i)) (S 0 3 - 1) (fun hI_2 => ?_) (fun i hi_2 ih_2 hI_2 => ?_)
    · refine a_iload_n rfl dX6_dropHold_2 ?_
      refine a_aload_n rfl dX6_dropHold_3 ?_
      refine g_i (dr_o (VX_3 hV) (by omega) (by omega)) (isW_lt hw (i := 0) (by decide)) (layW_0 hw) fX6_66 rfl dX6_dropHold_4 ?_
      refine n_iconst 1 rfl dX6_dropHold_7 ?_
      refine n_isub (by omega) dX6_dropHold_8 ?_
      refine n_icmp_ge 46 (by omega) (by omega) dX6_dropHold_9 (by decide) (fun h_9 => ?_) (fun h_9 => absurd h_9 (by omega))
      refine a_aload_n rfl dX6_dropHold_46 ?_
      refine a_dup rfl dX6_dropHold_47 ?_
      refine g_i (dr_o (VX_3 hV) (by omega) (by omega)) (isW_lt hw (i := 0) (by decide)) (layW_0 hw) fX6_66 rfl dX6_dropHold_48 ?_
      refine n_iconst 1 rfl dX6_dropHold_51 ?_
      refine n_isub (by omega) dX6_dropHold_52 ?_
      refine a_puti dX6_dropHold_53 pX6_66 (isW_lt hw (i := 0) (by decide)) (layW_0 hw) rfl ?_
      refine a_vret dX6_dropHold_56 rfl ?_
      exact hQ (VX_drop hV hk)
    · refine a_iload_n rfl dX6_dropHold_2 ?_
      refine a_aload_n rfl dX6_dropHold_3 ?_
      refine g_i (dr_o (VX_3 hV) (by omega) (by omega)) (isW_lt hw (i := 0) (by decide)) (layW_0 hw) fX6_66 rfl dX6_dropHold_4 ?_
      refine n_iconst 1 rfl dX6_dropHold_7 ?_
      refine n_isub (by omega) dX6_dropHold_8 ?_
      refine n_icmp_ge 46 (by omega) (by omega) dX6_dropHold_9 (by decide) (fun h_9 => absurd h_9 (by omega)) (fun h_9 => ?_)
      refine a_aload_n rfl dX6_dropHold_12 ?_
      refine a_geta dX6_dropHold_13 fX6_26 (isW_lt hw (i := 0) (by decide)) (layW_0 hw) rfl ?_
      refine a_iload_n rfl dX6_dropHold_16 ?_
      refine a_aload_n rfl dX6_dropHold_17 ?_
      refine a_geta dX6_dropHold_18 fX6_26 (isW_lt hw (i := 0) (by decide)) (layW_0 hw) rfl ?_
      refine a_iload_n rfl dX6_dropHold_21 ?_
      refine n_iconst 1 rfl dX6_dropHold_22 ?_
      refine n_iadd dX6_dropHold_23 ?_
      refine v_iald (by omega) (dr_4 (VX_a4 hV (by omega)) (by omega)) (isW_lt hw (i := 4) (by decide)) (layW_4 hw) (by decide) dX6_dropHold_24 ?_
      refine n_iast (by omega) (isW_lt hw (i := 4) (by decide)) (layW_4 hw) (by decide) dX6_dropHold_25 ?_
      refine a_aload_n rfl dX6_dropHold_26 ?_
      refine a_geta dX6_dropHold_27 fX6_29 (isW_lt hw (i := 0) (by decide)) (layW_0 hw) rfl ?_
      refine a_iload_n rfl dX6_dropHold_30 ?_
      refine a_aload_n rfl dX6_dropHold_31 ?_
      refine a_geta dX6_dropHold_32 fX6_29 (isW_lt hw (i := 0) (by decide)) (layW_0 hw) rfl ?_
      refine a_iload_n rfl dX6_dropHold_35 ?_
      refine n_iconst 1 rfl dX6_dropHold_36 ?_
      refine n_iadd dX6_dropHold_37 ?_
      refine v_iald (by omega) (siN (dr_5 (VX_a5 hV (by omega)) (by omega)) (by omega)) (isW_lt hw (i := 5) (by decide)) (layW_5 hw) (by decide) dX6_dropHold_38 ?_
      refine n_iast (by omega) (isW_lt hw (i := 5) (by decide)) (layW_5 hw) (by decide) dX6_dropHold_39 ?_
      refine n_iinc (c := 1) rfl rfl (by decide) rfl dX6_dropHold_40 ?_
      refine a_goto 2 dX6_dropHold_43 (by decide) ?_
      have ihx_2 := (ih_2 (by omega))
      rw [← dr_st M w S k i hI_2] at ihx_2
      exact a_bk ihx_2 ⟨rfl, rfl, rfl, trivial⟩
  have l0 := loop_2 k (by omega) (Nat.le_refl k)
  rw [dr_0] at l0
  exact a_bk l0 ⟨rfl, rfl, rfl, trivial⟩

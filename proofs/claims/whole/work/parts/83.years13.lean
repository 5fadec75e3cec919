theorem rt_e18F {w d i : Nat} {Q : Option Value → Mm → Prop} (hw : isW w) {M0 M : Mm} {S0 : ST} {Y : YR} {tl : Nat → Int32} {a p : Nat} {F : FN} (hY0 : YX (w + 13) M0 Y) (hWY : WFY S0 Y) (ha : a < Y.2.1) (hC : CF w (S0 0 1) M0 M a tl F) (hG : GF S0 F) (h0 : F.2.2.1 = 0) (h23 : Y.2.2 a 0 = 23) (hp : Y.2.2 a 5 = p) (hp18 : Y.2.2 p 0 = 18) (hpl : p < Y.2.1) (hi : i < 1000000) (kk : ∀ M', CF w (S0 0 1) M0 M' (a + 1) tl F → HP w d Q (i + 1) M') : HP w d Q i M := by
  obtain ⟨⟨S, dr, mi, br, cr⟩, n, ov, le⟩ := F
  have h0 : ov = 0 := h0
  subst h0
  have hle : le = 0 := hG.2.2.2.2.2 rfl
  subst hle
  exact rt_e18 hw hY0 hWY ha hC hG h23 hp hp18 hpl hi kk
theorem rt_e22F {w d i : Nat} {Q : Option Value → Mm → Prop} (hw : isW w) {M0 M : Mm} {S0 : ST} {Y : YR} {tl : Nat → Int32} {a p q : Nat} {F : FN} (hY0 : YX (w + 13) M0 Y) (hWY : WFY S0 Y) (ha : a < Y.2.1) (hC : CF w (S0 0 1) M0 M a tl F) (hG : GF S0 F) (h0 : F.2.2.1 = 0) (h23 : Y.2.2 a 0 = 23) (hp : Y.2.2 a 5 = p) (hp22 : Y.2.2 p 0 = 22) (hpl : p < Y.2.1) (htq : tl p = nI q) (hq1 : 1 ≤ q) (hq9 : q ≤ 99) (hi : i < 1000000) (kk : ∀ M', CF w (S0 0 1) M0 M' (if q = 1 then a + 1 else p + 1) (upT tl p (nI (q - 1))) F → HP w d Q (i + 1) M') : HP w d Q i M := by
  obtain ⟨⟨S, dr, mi, br, cr⟩, n, ov, le⟩ := F
  have h0 : ov = 0 := h0
  subst h0
  have hle : le = 0 := hG.2.2.2.2.2 rfl
  subst hle
  exact rt_e22 hw hY0 hWY ha hC hG h23 hp hp22 hpl htq hq1 hq9 hi kk
def RTc (w d : Nat) (Q : Option Value → Mm → Prop) (M0 : Mm) (S0 : ST) (Y : YR) (g : Nat) : Prop := ∀ (a b i : Nat) (M : Mm) (tl : Nat → Int32) (F : FN), CF w (S0 0 1) M0 M a tl F → GF S0 F → F.2.2.1 = 0 → lvl Y.2.2 a b → a ≤ b → b ≤ Y.2.1 → b - a ≤ g → i ≤ 900000 + 100 * F.2.1 →
  ((doA Y.2.2 g a b F).2.2.1 = 0 → ∀ (M' : Mm) (i' : Nat) (tl' : Nat → Int32), CF w (S0 0 1) M0 M' b tl' (doA Y.2.2 g a b F) → (∀ j, j < a ∨ b ≤ j → tl' j = tl j) → i' + 100 * F.2.1 ≤ i + 100 * (doA Y.2.2 g a b F).2.1 → HP w d Q i' M') →
  (¬ (doA Y.2.2 g a b F).2.2.1 = 0 → ∀ M', CE w (S0 0 1) M0 M' (doA Y.2.2 g a b F) → Q none M') → HP w d Q i M
abbrev KB (w d : Nat) (Q : Option Value → Mm → Prop) (M0 : Mm) (S0 : ST) (a b i n : Nat) (tl : Nat → Int32) (F' : FN) : Prop := F'.2.2.1 = 0 → ∀ (M' : Mm) (i' : Nat) (tl' : Nat → Int32), CF w (S0 0 1) M0 M' b tl' F' → (∀ j, j < a ∨ b ≤ j → tl' j = tl j) → i' + 100 * n ≤ i + 100 * F'.2.1 → HP w d Q i' M'
abbrev KX (w : Nat) (Q : Option Value → Mm → Prop) (M0 : Mm) (S0 : ST) (F' : FN) : Prop := ¬ F'.2.2.1 = 0 → ∀ M', CE w (S0 0 1) M0 M' F' → Q none M'
/-- one pass and another of a loop's block -/
theorem rt_lp {w d i n : Nat} {Q : Option Value → Mm → Prop} (hw : isW w) {M0 : Mm} {S0 : ST} {Y : YR} {tl : Nat → Int32} (hY0 : YX (w + 13) M0 Y) (hWY : WFY S0 Y) {g : Nat} (IH : RTc w d Q M0 S0 Y g) {a : Nat} {F1 : FN} (hG1 : GF S0 F1) (hF1 : F1.2.1 = n + 1) (ha : a < Y.2.1) (h22 : Y.2.2 a 0 = 22) (hga : Y.2.2 a 5 - (a + 1) ≤ g) (hi : i ≤ 900000 + 100 * n)
    (kb : KB w d Q M0 S0 a (Y.2.2 a 5 + 1) i n tl (itN (doA Y.2.2 g (a + 1) (Y.2.2 a 5)) (Y.2.2 a 2) F1)) (kx : KX w Q M0 S0 (itN (doA Y.2.2 g (a + 1) (Y.2.2 a 5)) (Y.2.2 a 2) F1)) :
    ∀ m k, k + m + 1 = Y.2.2 a 2 → ∀ (M : Mm) (i1 : Nat) (tl1 : Nat → Int32), (itN (doA Y.2.2 g (a + 1) (Y.2.2 a 5)) k F1).2.2.1 = 0 → CF w (S0 0 1) M0 M (a + 1) tl1 (itN (doA Y.2.2 g (a + 1) (Y.2.2 a 5)) k F1) → tl1 a = nI (Y.2.2 a 2 - k) → (∀ j, j < a ∨ Y.2.2 a 5 + 1 ≤ j → tl1 j = tl j) → i1 + 100 * (n + 1) ≤ i + 1 + k + 100 * (itN (doA Y.2.2 g (a + 1) (Y.2.2 a 5)) k F1).2.1 → HP w d Q i1 M := by
  intro m
  have hb := WFY_blk hWY
  obtain ⟨b1, b2, b3, b4, b5⟩ := hb.1 a ha (Or.inr h22)
  have h99 := (hWY.2.2.2.2 a ha).2.2.2.2.2.2.2.2.1 h22
  have hgi : ∀ k, GF S0 (itN (doA Y.2.2 g (a + 1) (Y.2.2 a 5)) k F1) := fun k => (GF_it (f := doA Y.2.2 g (a + 1) (Y.2.2 a 5)) (fun F q _ => GF_a hb (WFY_ok hWY) g (a + 1) (Y.2.2 a 5) F (Nat.le_of_lt b2) q) k hG1).1
  induction m with
  | zero =>
    intro k hk M i1 tl1 ho hC ht hfr hi1
    have hs := itN_1 (f := doA Y.2.2 g (a + 1) (Y.2.2 a 5)) ho
    have h3 := (hgi k).2.2.1
    have h31 := (hgi (k + 1)).2.2.1
    rw [show Y.2.2 a 2 = k + 1 by omega] at kb kx ht
    rw [hs] at kb kx h31
    refine IH (a + 1) (Y.2.2 a 5) i1 M tl1 _ hC (hgi k) ho (lvl_in hb ha (Or.inr h22)) b1 (Nat.le_of_lt b2) hga (by omega) (fun ho2 M2 i2 tl2 h2 ht2 hi2 => ?_) kx
    refine rt_e22F hw hY0 hWY b2 h2 (hs ▸ hgi (k + 1)) ho2 b3 b4 h22 ha ((ht2 a (Or.inl (Nat.lt_succ_self a))).trans (ht.trans (congrArg nI (show k + 1 - k = 1 by omega)))) (Nat.le_refl 1) (by omega) (by omega) (fun M3 h3 => ?_)
    rw [if_pos rfl] at h3
    exact kb ho2 M3 (i2 + 1) _ h3 (fun j hj => (if_neg (show ¬ j = a by omega)).trans ((ht2 j (by omega)).trans (hfr j hj))) (by omega)
  | succ m ih =>
    intro k hk M i1 tl1 ho hC ht hfr hi1
    have hs := itN_1 (f := doA Y.2.2 g (a + 1) (Y.2.2 a 5)) ho
    have h3 := (hgi k).2.2.1
    have h31 := (hgi (k + 1)).2.2.1
    rw [hs] at h31
    refine IH (a + 1) (Y.2.2 a 5) i1 M tl1 _ hC (hgi k) ho (lvl_in hb ha (Or.inr h22)) b1 (Nat.le_of_lt b2) hga (by omega) (fun ho2 M2 i2 tl2 h2 ht2 hi2 => ?_) (fun hx M2 h2 => ?_)
    · refine rt_e22F hw hY0 hWY b2 h2 (hs ▸ hgi (k + 1)) ho2 b3 b4 h22 ha ((ht2 a (Or.inl (Nat.lt_succ_self a))).trans ht) (by omega) (by omega) (by omega) (fun M3 h3 => ?_)
      rw [if_neg (show ¬ Y.2.2 a 2 - k = 1 by omega)] at h3
      refine ih (k + 1) (by omega) M3 (i2 + 1) _ (by rw [hs]; exact ho2) (by rw [hs]; exact h3) ((if_pos rfl).trans (congrArg nI (show Y.2.2 a 2 - k - 1 = Y.2.2 a 2 - (k + 1) by omega))) (fun j hj => (if_neg (show ¬ j = a by omega)).trans ((ht2 j (by omega)).trans (hfr j hj))) (by rw [hs]; omega)
    · rw [← hs] at hx h2
      have e := itN_st hx (Y.2.2 a 2) (by omega)
      rw [e] at kx
      exact kx hx M2 h2
theorem rt_one {w d i : Nat} {Q : Option Value → Mm → Prop} (hw : isW w) {M0 M : Mm} {S0 : ST} {Y : YR} {tl : Nat → Int32} (hY0 : YX (w + 13) M0 Y) (hWY : WFY S0 Y) {g : Nat} (IH : RTc w d Q M0 S0 Y g) {a : Nat} {F : FN} (hC : CF w (S0 0 1) M0 M a tl F) (hG : GF S0 F) (h0 : F.2.2.1 = 0) (ha : a < Y.2.1) (hv : Y.2.2 a 0 ≠ 23) (hga : Y.2.2 a 0 = 18 ∨ Y.2.2 a 0 = 22 → Y.2.2 a 5 - (a + 1) ≤ g) (hi : i ≤ 900000 + 100 * F.2.1)
    (kb : KB w d Q M0 S0 a (nxA Y.2.2 a) i F.2.1 tl (doO (doA Y.2.2 g) Y.2.2 a F)) (kx : KX w Q M0 S0 (doO (doA Y.2.2 g) Y.2.2 a F)) : HP w d Q i M := by
  obtain ⟨⟨S, dr, mi, br, cr⟩, n, ov, le⟩ := F
  have h0 : ov = 0 := h0
  subst h0
  have hle : le = 0 := hG.2.2.2.2.2 rfl
  subst hle
  have hn3 : n ≤ 300 := hG.2.2.1
  have hi : i ≤ 900000 + 100 * n := hi
  have v2 := (hWY.2.2.2.2 a ha).2.1
  have v3 := (hWY.2.2.2.2 a ha).2.2.1
  have hb := WFY_blk hWY
  by_cases c : n = 300
  · rw [doO_300 c] at kx
    exact rt_300 hw hY0 hWY ha hv hC c (by omega) (kx (show ¬ (1 : Nat) = 0 by decide))
  · by_cases c17 : Y.2.2 a 0 ≤ 17
    · rw [doO_in c c17, show nxA Y.2.2 a = a + 1 from if_neg (by omega)] at kb
      exact rt_in hw hY0 hWY ha hC hG c c17 (by omega) (fun M' h => kb rfl M' (i + 1) tl h (fun _ _ => rfl) (show i + 1 + 100 * n ≤ i + 100 * (n + 1) by omega))
    · by_cases c18 : Y.2.2 a 0 = 18
      · have b1 := (hb.1 a ha (Or.inl c18)).1
        have b2 := (hb.1 a ha (Or.inl c18)).2.1
        have b3 := (hb.1 a ha (Or.inl c18)).2.2.1
        have b4 := (hb.1 a ha (Or.inl c18)).2.2.2.1
        rw [doO_18 c c18] at kb kx
        rw [show nxA Y.2.2 a = Y.2.2 a 5 + 1 from if_pos (Or.inl c18)] at kb
        refine rt_18 hw hY0 hWY ha hC hG c c18 (by omega) (fun M' h => ?_)
        by_cases hs : soN S (Y.2.2 a) = true
        · rw [if_pos hs] at kb kx h
          refine IH (a + 1) (Y.2.2 a 5) (i + 1) M' tl _ h (GF_s1 hG c) rfl (lvl_in hb ha (Or.inl c18)) b1 (Nat.le_of_lt b2) (hga (Or.inl c18)) (show i + 1 ≤ 900000 + 100 * (n + 1) by omega) (fun ho M2 i2 tl2 h2 ht2 hi2 => ?_) kx
          have hG2 := (GF_a hb (WFY_ok hWY) g (a + 1) (Y.2.2 a 5) _ (Nat.le_of_lt b2) (GF_s1 hG c)).1
          have h32 := hG2.2.2.1
          have hi2 : i2 + 100 * (n + 1) ≤ i + 1 + 100 * (doA Y.2.2 g (a + 1) (Y.2.2 a 5) ((S, dr, mi, br, cr), n + 1, 0, 0)).2.1 := hi2
          have h32 : (doA Y.2.2 g (a + 1) (Y.2.2 a 5) ((S, dr, mi, br, cr), n + 1, 0, 0)).2.1 ≤ 300 := h32
          refine rt_e18F hw hY0 hWY b2 h2 hG2 ho b3 b4 c18 ha (by omega) (fun M3 h3 => ?_)
          exact kb ho M3 (i2 + 1) tl2 h3 (fun j hj => ht2 j (by omega)) (show i2 + 1 + 100 * n ≤ i + 100 * (doA Y.2.2 g (a + 1) (Y.2.2 a 5) ((S, dr, mi, br, cr), n + 1, 0, 0)).2.1 by omega)
        · rw [if_neg hs] at kb h
          exact kb rfl M' (i + 1) tl h (fun _ _ => rfl) (show i + 1 + 100 * n ≤ i + 100 * (n + 1) by omega)
      · by_cases c22 : Y.2.2 a 0 = 22
        · have h99 := (hWY.2.2.2.2 a ha).2.2.2.2.2.2.2.2.1 c22
          rw [doO_22 c c22] at kb kx
          rw [show nxA Y.2.2 a = Y.2.2 a 5 + 1 from if_pos (Or.inr c22)] at kb
          refine rt_22 hw hY0 hWY ha hC hG c c22 (by omega) (fun M' h => ?_)
          exact rt_lp hw hY0 hWY IH (GF_s1 hG c) rfl ha c22 (hga (Or.inr c22)) hi kb kx (Y.2.2 a 2 - 1) 0 (by omega) M' (i + 1) _ rfl h (if_pos rfl) (fun j hj => if_neg (show ¬ j = a by have := (hb.1 a ha (Or.inr c22)).1; omega)) (show i + 1 + 100 * (n + 1) ≤ i + 1 + 0 + 100 * (n + 1) by omega)
        · have c24 : Y.2.2 a 0 = 24 := v24 v2 v3 hv c17 c18 c22
          rw [doO_24 c c24] at kx
          exact rt_24 hw hY0 hWY ha hC hG c c24 (by omega) (kx (show ¬ (1 : Nat) = 0 by decide))
theorem rt_all {w d : Nat} {Q : Option Value → Mm → Prop} (hw : isW w) {M0 : Mm} {S0 : ST} {Y : YR} (hY0 : YX (w + 13) M0 Y) (hWY : WFY S0 Y) : ∀ g, RTc w d Q M0 S0 Y g := by
  intro g
  have hb := WFY_blk hWY
  induction g with
  | zero =>
    intro a b i M tl F hC hG h0 hl hab hbL hba hi kb kx
    have e : a = b := by omega
    subst e
    exact kb h0 M i tl hC (fun _ _ => rfl) (Nat.le_refl _)
  | succ g IH =>
    intro a b i M tl F hC hG h0 hl hab hbL hba hi kb kx
    by_cases hlt : a < b
    · have haL : a < Y.2.1 := by omega
      have hv := lvl_no hb hl hbL hlt
      have hnx := lvl_nx hb hl hbL hlt
      have hgt := nx_gt (s := Y.2.2) hb haL
      rw [doA_s hlt h0] at kb kx
      have hgo := GF_o (rec := doA Y.2.2 g) (L := Y.2.1) (fun a b F z q => GF_a hb (WFY_ok hWY) g a b F z q) (WFY_ok hWY a haL) (fun z => Nat.le_of_lt (hb.1 a haL z).2.1) hG h0
      refine rt_one hw hY0 hWY IH hC hG h0 haL hv (fun z => by have := hl.2 a (Nat.le_refl _) hlt z; omega) hi (fun ho M1 i1 tl1 hC1 ht1 hi1 => ?_) (fun ho => ?_)
      · exact IH (nxA Y.2.2 a) b i1 M1 tl1 _ hC1 hgo.1 ho hnx.1 hnx.2 hbL (by omega) (by omega) (fun ho2 M2 i2 tl2 h2 ht2 hi2 => kb ho2 M2 i2 tl2 h2 (fun j hj => (ht2 j (by omega)).trans (ht1 j (by omega))) (by omega)) kx
      · rw [doA_o ho] at kx
        exact kx ho
    · have e : a = b := by omega
      subst e
      rw [doA_e hlt] at kb
      exact kb h0 M i tl hC (fun _ _ => rfl) (Nat.le_refl _)
theorem CF_0 {w sd : Nat} (hw : isW w) {M : Mm} {S : ST} (hV : VX w M S) : ∃ tl, CF w (S 0 1) M (siM (siM (siM (siM (siM (siM (siM (siM M 118 0 (nI sd)) 118 1 (nI 0)) 118 3 (nI 0)) 118 4 (nI 0)) 118 5 (nI 0)) 118 6 (nI 0)) 118 7 (nI 0)) 118 8 (nI 0)) 0 tl ((S, sd, 0, 0, 0), 0, 0, 0) := by
  refine ⟨fun j => M.1 119 j, ⟨VX_si (VX_si (VX_si (VX_si (VX_si (VX_si (VX_si (VX_si hV hw) hw) hw) hw) hw) hw) hw) hw, by simp [siM], by simp [siM], by simp [siM], by simp [siM], by simp [siM]⟩, by simp [siM], by simp [siM], by simp [siM], fun j => by simp [siM], ?_⟩
  have p : ∀ j, hyP w 118 j := fun j => Or.inr (Or.inl rfl)
  exact (((((((fr.r.si (p _)).si (p _)).si (p _)).si (p _)).si (p _)).si (p _)).si (p _)).si (p _)
theorem rt_run {w d : Nat} {Q : Option Value → Mm → Prop} (hw : isW w) {M0 M : Mm} {S : ST} {Y : YR} {sd : Nat} (hY0 : YX (w + 13) M0 Y) (hWY : WFY S Y) (hF : WF S) (hsd : sd < 65536) (hC : ∃ tl, CF w (S 0 1) M0 M 0 tl ((S, sd, 0, 0, 0), 0, 0, 0)) (hQ : ∀ M', CE w (S 0 1) M0 M' (runF Y S sd) → Q none M') : HP w d Q 0 M := by
  obtain ⟨tl, hC⟩ := hC
  have hb := WFY_blk hWY
  have hG := GF_0 hWY hF hsd
  have hGr : GF S (runF Y S sd) := (GF_a hb (WFY_ok hWY) (Y.2.1 + 1) 0 Y.2.1 _ (Nat.le_refl _) hG).1
  refine rt_all hw hY0 hWY (Y.2.1 + 1) 0 Y.2.1 0 M tl _ hC hG rfl (lvl_0 hb) (Nat.zero_le _) (Nat.le_refl _) (by omega) (Nat.zero_le _) (fun ho M' i' tl' h ht hi => ?_) (fun ho M' h => hQ M' h)
  have h3 := hGr.2.2.1
  have hi : i' + 0 ≤ 0 + 100 * (runF Y S sd).2.1 := hi
  exact rt_x2 hw h.2.1 (h.2.2.2.1.trans (congrArg nI (hGr.2.2.2.2.2 ho))) (YX_hy hw hY0 h.2.2.2.2.2).2.2.1 hWY.2.1 (Nat.le_refl _) hWY.2.1 (by omega) (hQ M' h.e)

set_option maxRecDepth 100000 in
set_option maxHeartbeats 800000 in
theorem c_X2_runThrough {w : Nat} (hw : isW w) {M : Mm} {S : ST} {Y : YR} (hV : VX w M S) (hY : YX (w + 13) M Y) (hWY : WFY S Y) (hF : WF S) {sd : Nat} (hsd : sd < 65536) {Q : Option Value → Mm → Prop} (hQ : ∀ M', CE w (S 0 1) M M' (runF Y S sd) → Q none M') (d : Nat) : AMt miX2_runThrough (d + 7) [.ref 118, .ref w, .int (nI sd)] M Q := by
  refine AMt.of (by decide) (Nat.le_of_ble_eq_true rfl) ?_
  show AW miX2_runThrough (d + 7) (mxA Q) 0 [(0, some (.ref 118)), (1, some (.ref w)), (2, some (.int (nI sd)))] [] M
  refine a_aload_n rfl dX2_runThrough_0 ?_
  refine a_geta dX2_runThrough_1 fX2_17 (isW_lt hw (i := 0) (by decide)) (layW_0 hw) rfl ?_
  refine a_astore_n (by decide) rfl dX2_runThrough_4 ?_
  refine a_aload_n rfl dX2_runThrough_5 ?_
  refine a_iload_n rfl dX2_runThrough_6 ?_
  refine a_puti dX2_runThrough_7 pX2_23 (by decide) rfl rfl ?_
  refine a_aload_n rfl dX2_runThrough_10 ?_
  refine n_iconst 0 rfl dX2_runThrough_11 ?_
  refine a_puti dX2_runThrough_12 pX2_27 (by decide) rfl rfl ?_
  refine a_aload_n rfl dX2_runThrough_15 ?_
  refine n_iconst 0 rfl dX2_runThrough_16 ?_
  refine a_puti dX2_runThrough_17 pX2_30 (by decide) rfl rfl ?_
  refine a_aload_n rfl dX2_runThrough_20 ?_
  refine n_iconst 0 rfl dX2_runThrough_21 ?_
  refine a_puti dX2_runThrough_22 pX2_33 (by decide) rfl rfl ?_
  refine a_aload_n rfl dX2_runThrough_25 ?_
  refine n_iconst 0 rfl dX2_runThrough_26 ?_
  refine a_puti dX2_runThrough_27 pX2_36 (by decide) rfl rfl ?_
  refine a_aload_n rfl dX2_runThrough_30 ?_
  refine n_iconst 0 rfl dX2_runThrough_31 ?_
  refine a_puti dX2_runThrough_32 pX2_39 (by decide) rfl rfl ?_
  refine a_aload_n rfl dX2_runThrough_35 ?_
  refine n_iconst 0 rfl dX2_runThrough_36 ?_
  refine a_puti dX2_runThrough_37 pX2_42 (by decide) rfl rfl ?_
  refine a_aload_n rfl dX2_runThrough_40 ?_
  refine n_iconst 0 rfl dX2_runThrough_41 ?_
  refine a_putz dX2_runThrough_42 pX2_45 (by decide) rfl rfl (Or.inl rfl) ?_
  refine n_iconst 0 rfl dX2_runThrough_45 ?_
  refine a_istore (by decide) rfl dX2_runThrough_46 ?_
  exact a_bk (rt_run (d := d) hw hY hWY hF hsd (CF_0 hw hV) hQ) ⟨rfl, rfl, rfl, rfl, trivial⟩

theorem nI01 {n : Nat} (h : n ≤ 1) : (if n = 0 then nI 0 else nI 1) = nI n := by
  rcases (show n = 0 ∨ n = 1 by omega) with e | e <;> rw [e] <;> rfl

set_option maxRecDepth 100000 in
set_option maxHeartbeats 800000 in
theorem c_X2_copyCounts {M : Mm} {mi dy br cr le : Nat} (g4 : M.1 118 4 = nI mi) (g5 : M.1 118 5 = nI dy) (g6 : M.1 118 6 = nI br) (g7 : M.1 118 7 = nI cr) (g8 : M.1 118 8 = nI le) (hle : le ≤ 1) {Q : Option Value → Mm → Prop} (hQ : Q none (siM (siM (siM (siM (siM M 120 0 (nI mi)) 120 1 (nI dy)) 120 2 (nI br)) 120 3 (nI cr)) 120 4 (nI le))) (d : Nat) : AMt miX2_copyCounts (d) [.ref 118, .ref 120] M Q := by
  refine AMt.of (by decide) (Nat.le_of_ble_eq_true rfl) ?_
  show AW miX2_copyCounts (d) (mxA Q) 0 [(0, some (.ref 118)), (1, some (.ref 120))] [] M
  refine a_aload_n rfl dX2_copyCounts_0 ?_
  refine a_alen dX2_copyCounts_1 (by decide) rfl (by decide) ?_
  refine n_iconst 5 rfl dX2_copyCounts_2 ?_
  refine n_icmp_lt 49 (by omega) (by omega) dX2_copyCounts_3 (by decide) (fun h_3 => absurd h_3 (by omega)) (fun h_3 => ?_)
  refine a_aload_n rfl dX2_copyCounts_6 ?_
  refine n_iconst 0 rfl dX2_copyCounts_7 ?_
  refine a_aload_n rfl dX2_copyCounts_8 ?_
  refine g_i g4 (by decide) rfl fX2_33 rfl dX2_copyCounts_9 ?_
  refine n_iast (by omega) (by decide) rfl (by decide) dX2_copyCounts_12 ?_
  refine a_aload_n rfl dX2_copyCounts_13 ?_
  refine n_iconst 1 rfl dX2_copyCounts_14 ?_
  refine a_aload_n rfl dX2_copyCounts_15 ?_
  refine g_i (siN g5 (by omega)) (by decide) rfl fX2_36 rfl dX2_copyCounts_16 ?_
  refine n_iast (by omega) (by decide) rfl (by decide) dX2_copyCounts_19 ?_
  refine a_aload_n rfl dX2_copyCounts_20 ?_
  refine n_iconst 2 rfl dX2_copyCounts_21 ?_
  refine a_aload_n rfl dX2_copyCounts_22 ?_
  refine g_i (siN (siN g6 (by omega)) (by omega)) (by decide) rfl fX2_39 rfl dX2_copyCounts_23 ?_
  refine n_iast (by omega) (by decide) rfl (by decide) dX2_copyCounts_26 ?_
  refine a_aload_n rfl dX2_copyCounts_27 ?_
  refine n_iconst 3 rfl dX2_copyCounts_28 ?_
  refine a_aload_n rfl dX2_copyCounts_29 ?_
  refine g_i (siN (siN (siN g7 (by omega)) (by omega)) (by omega)) (by decide) rfl fX2_42 rfl dX2_copyCounts_30 ?_
  refine n_iast (by omega) (by decide) rfl (by decide) dX2_copyCounts_33 ?_
  refine a_aload_n rfl dX2_copyCounts_34 ?_
  refine n_iconst 4 rfl dX2_copyCounts_35 ?_
  refine a_aload_n rfl dX2_copyCounts_36 ?_
  refine g_i (siN (siN (siN (siN g8 (by omega)) (by omega)) (by omega)) (by omega)) (by decide) rfl fX2_45 rfl dX2_copyCounts_37 ?_
  refine n_if_eq 47 (by omega) dX2_copyCounts_40 (by decide) (fun h_40 => ?_) (fun h_40 => ?_)
  · refine n_iconst 0 rfl dX2_copyCounts_47 ?_
    refine n_iast (by omega) (by decide) rfl (by decide) dX2_copyCounts_48 ?_
    refine a_vret dX2_copyCounts_49 rfl ?_
    rw [show le = 0 by omega] at hQ
    exact hQ
  · refine n_iconst 1 rfl dX2_copyCounts_43 ?_
    refine a_goto 48 dX2_copyCounts_44 (by decide) ?_
    refine n_iast (by omega) (by decide) rfl (by decide) dX2_copyCounts_48 ?_
    refine a_vret dX2_copyCounts_49 rfl ?_
    rw [show le = 1 by omega] at hQ
    exact hQ

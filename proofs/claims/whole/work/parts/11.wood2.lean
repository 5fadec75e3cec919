theorem VX_intro {w : Nat} {M : Mm} {S : ST} (h0 : M.1 w 0 = nI (S 0 0)) (h1 : M.1 w 1 = nI (S 0 1)) (h2 : M.1 w 2 = nI (S 0 2)) (h3 : M.1 w 3 = nI (S 0 3)) (h4 : M.1 w 4 = nI (S 0 4)) (h5 : M.1 w 5 = nI (S 0 5)) (h6 : M.1 w 6 = nI (bsN (fun j => S 11 j == 1) (S 0 5)))
    (a2 : ∀ j, j < S 0 2 → M.1 (w + 2) j = nI (S 1 j)) (a3 : ∀ j, j < S 0 2 → M.1 (w + 3) j = nI (S 2 j)) (a4 : ∀ j, j < S 0 3 → M.1 (w + 4) j = nI (S 3 j)) (a5 : ∀ j, j < S 0 3 → M.1 (w + 5) j = nI (S 4 j)) (a7 : ∀ j, j < S 0 4 → M.1 (w + 7) j = nI (S 5 j)) (a8 : ∀ j, j < S 0 4 → M.1 (w + 8) j = nI (S 6 j)) (a9 : ∀ j, j < S 0 4 → M.1 (w + 9) j = nI (S 7 j)) (a10 : ∀ j, j < S 0 4 → M.1 (w + 10) j = nI (S 8 j)) (a11 : ∀ j, j < S 0 5 → M.1 (w + 11) j = nI (S 9 j)) (a12 : ∀ j, j < S 0 5 → M.1 (w + 12) j = nI (S 10 j)) : VX w M S :=
  ⟨h0, h1, h2, h3, h4, h5, h6, a2, a3, a4, a5, a7, a8, a9, a10, a11, a12⟩
/-- the wood's cells of numbers: w itself (0 .. 6), w + 2 .. w + 5, w + 7 .. w + 12 -/
theorem VX_fr {w : Nat} {M M' : Mm} {S : ST} (h : VX w M S) (he : ∀ k j, w ≤ k → k ≤ w + 12 → M'.1 k j = M.1 k j) : VX w M' S := by
  obtain ⟨h0, h1, h2, h3, h4, h5, h6, a2, a3, a4, a5, a7, a8, a9, a10, a11, a12⟩ := h
  refine VX_intro ?_ ?_ ?_ ?_ ?_ ?_ ?_ ?_ ?_ ?_ ?_ ?_ ?_ ?_ ?_ ?_ ?_
  all_goals first
    | (rw [he _ _ (by omega) (by omega)]; assumption)
    | (intro j hj; rw [he _ _ (by omega) (by omega)]; first | exact a2 j hj | exact a3 j hj | exact a4 j hj | exact a5 j hj | exact a7 j hj | exact a8 j hj | exact a9 j hj | exact a10 j hj | exact a11 j hj | exact a12 j hj)
theorem VX_sr3 {w : Nat} {M : Mm} {S : ST} (h : VX w M S) (g : Nat → Nat) : VX w (srM M (w + 3) (fun b => if b < S 0 2 then nI (g b) else M.1 (w + 3) b)) (setC S g) := by
  obtain ⟨h0, h1, h2, h3, h4, h5, h6, a2, a3, a4, a5, a7, a8, a9, a10, a11, a12⟩ := h
  refine VX_intro (srN h0 (by omega)) (srN h1 (by omega)) (srN h2 (by omega)) (srN h3 (by omega)) (srN h4 (by omega)) (srN h5 (by omega)) (srN h6 (by omega)) (fun j hj => srN (a2 j hj) (by omega)) (fun j hj => ?_) (fun j hj => srN (a4 j hj) (by omega)) (fun j hj => srN (a5 j hj) (by omega)) (fun j hj => srN (a7 j hj) (by omega)) (fun j hj => srN (a8 j hj) (by omega)) (fun j hj => srN (a9 j hj) (by omega)) (fun j hj => srN (a10 j hj) (by omega)) (fun j hj => srN (a11 j hj) (by omega)) (fun j hj => srN (a12 j hj) (by omega))
  show (if w + 3 = w + 3 then (if j < S 0 2 then nI (g j) else M.1 (w + 3) j) else M.1 (w + 3) j) = nI (g j)
  rw [if_pos rfl]
  exact if_pos (c := j < S 0 2) hj
theorem WF_setC {S : ST} (h : WF S) {g : Nat → Nat} (hg : ∀ j, j < S 0 2 → g j ≤ 100) : WF (setC S g) := by
  obtain ⟨b0, b1, b2, b3, b4, b5, b6, b7, b8, b9, b10, b11, b12, b13, b14, b15, b16, b17⟩ := h
  exact ⟨b0, b1, b2, b3, b4, b5, b6, hg, b8, b9, b10, b11, b12, b13, b14, b15, b16, b17⟩
theorem pdN_le {S : ST} {f : Nat → Nat} {j : Nat} (h : f j ≤ 100) : pdN S f j ≤ 100 := by unfold pdN; split <;> omega
theorem pdI_le {S : ST} {f : Nat → Nat} {m : Nat} (h : ∀ j, j < m → f j ≤ 100) : ∀ i j, j < m → pdI S f i j ≤ 100
  | 0, j, hj => h j hj
  | i + 1, j, hj => pdN_le (pdI_le h i j hj)
theorem orN_congr {p q : Nat → Bool} {f : Nat → Nat} : ∀ {n : Nat}, (∀ j, j < n → p j = q j) → orN p f n = orN q f n
  | 0, _ => rfl
  | n + 1, h => by rw [orN, orN, orN_congr (fun j hj => h j (by omega)), h n (by omega)]
theorem stkN_congr {S : ST} (hF : WF S) {f g : Nat → Nat} (h : ∀ j, j < S 0 2 → f j = g j) : stkN S f = stkN S g := by
  unfold stkN
  rw [orN_congr (q := fun i => decide (g (S 4 i) < 100)) (fun j hj => by rw [h _ (WF_by hF j hj)]), bsN_congr (q := fun j => decide (100 ≤ g j)) (fun j hj => by rw [h j hj])]
theorem pdB_congr {S : ST} (hF : WF S) {f g : Nat → Nat} (h : ∀ j, j < S 0 2 → f j = g j) {j : Nat} (hj : j < S 0 2) : pdB S f j = pdB S g j := by
  unfold pdB; rw [stkN_congr hF h, h j hj]
theorem pdN_congr {S : ST} (hF : WF S) {f g : Nat → Nat} (h : ∀ j, j < S 0 2 → f j = g j) {j : Nat} (hj : j < S 0 2) : pdN S f j = pdN S g j := by
  unfold pdN; rw [pdB_congr hF h hj, h j hj]
theorem mvN_0 {p : Nat → Bool} : ∀ {n : Nat}, mvN p n = 0 → ∀ j, j < n → p j = false
  | 0, _, j, hj => absurd hj (by omega)
  | n + 1, h, j, hj => by
    unfold mvN at h
    by_cases hp : p n = true
    · rw [if_pos hp] at h; omega
    · rw [if_neg hp] at h
      rcases (show j < n ∨ j = n by omega) with h1 | h1
      · exact mvN_0 h j h1
      · subst h1; simpa using hp
/-- once a DAY moved nothing, none behind it will -/
theorem pdI_fix {S : ST} (hF : WF S) {f : Nat → Nat} {i : Nat} (h : mvN (pdB S (pdI S f i)) (S 0 2) = 0) : ∀ n, ∀ j, j < S 0 2 → pdI S f (i + 1 + n) j = pdI S f (i + 1) j
  | 0, j, hj => rfl
  | n + 1, j, hj => by
    have h1 : ∀ j, j < S 0 2 → pdI S f (i + 1) j = pdI S f i j := fun j hj => by
      show pdN S (pdI S f i) j = _
      unfold pdN
      rw [mvN_0 h j hj]
      rfl
    show pdN S (pdI S f (i + 1 + n)) j = _
    rw [pdN_congr hF (g := pdI S f i) (fun j hj => (pdI_fix hF h n j hj).trans (h1 j hj)) hj]
    rfl
theorem srM_srM (M : Mm) (k : Nat) (f g : Nat → Int32) : srM (srM M k f) k g = srM M k g := by
  unfold srM
  refine Prod.ext (funext fun a => funext fun b => ?_) rfl
  by_cases h : a = k <;> simp [h]
theorem srM_congr {M : Mm} {k : Nat} {f g : Nat → Int32} (h : ∀ b, f b = g b) : srM M k f = srM M k g := by rw [show f = g from funext h]
theorem srM_at (M : Mm) (k : Nat) (f : Nat → Int32) (b : Nat) : (srM M k f).1 k b = f b := by unfold srM; simp

theorem stkN_lt {S : ST} (hF : WF S) (f : Nat → Nat) : stkN S f < 64 := by
  have hm := WF_m hF
  have h1 : orN (fun i => decide (f (S 4 i) < 100)) (S 3) (S 0 3) < 2 ^ 6 := Nat.lt_of_lt_of_le (orN_lt (k := S 0 2) (fun j hj => WF_held hF j hj)) (pow_le hm)
  unfold stkN
  exact Nat.xor_lt_two_pow (n := 6) h1 (Nat.lt_of_le_of_lt Nat.and_le_left h1)

set_option maxRecDepth 100000 in
set_option maxHeartbeats 800000 in
theorem c_X6_passDay {w : Nat} (hw : isW w) {M : Mm} {S : ST} (hV : VX w M S) (hF : WF S) {k : Nat} (hk : k < nC) (hc : layC k = .inr (0, 6, fun _ => 0)) {f : Nat → Nat} (hf : ∀ j, j < S 0 2 → M.1 k j = nI (f j)) (hf1 : ∀ j, j < S 0 2 → f j ≤ 100) (hke : k = w + 3 ∨ k < w ∨ w + 20 ≤ k) {Q : Option Value → Mm → Prop} (hQ : Q (some (.int (nI (mvN (pdB S f) (S 0 2))))) (srM M k (fun b => if b < S 0 2 then nI (pdN S f b) else M.1 k b))) (d : Nat) : AMt miX6_passDay (d + 1) [.ref w, .ref k] M Q := by
  refine AMt.of (by decide) (Nat.le_of_ble_eq_true rfl) ?_
  show AW miX6_passDay (d + 1) (mxA Q) 0 [(0, some (.ref w)), (1, some (.ref k))] [] M
  have hm := WF_m hF
  have hh := WF_h hF
  have hs := WF_s hF
  have hn := WF_n hF
  have hb1 := stkN_lt hF f
  refine a_aload_n rfl dX6_passDay_0 ?_
  refine a_aload_n rfl dX6_passDay_1 ?_
  refine n_callV (mi' := miX6_stuckSet) dX6_passDay_2 lX6_103 mX6_stuckSet (isW_lt hw (i := 0) (by decide)) (layW_0 hw) rfl rfl (c_X6_stuckSet hw hV hF hk hc hf hf1 ?_ d) rfl rfl (by omega) (by decide) (Nat.le_of_ble_eq_true rfl)
  show AW _ _ _ _ _ _ _
  refine a_istore_n (by decide) rfl dX6_passDay_5 ?_
  refine n_iconst 0 rfl dX6_passDay_6 ?_
  refine a_istore_n (by decide) rfl dX6_passDay_7 ?_
  refine n_iconst 0 rfl dX6_passDay_8 ?_
  refine a_istore (by decide) rfl dX6_passDay_9 ?_
  have loop_11 : ∀ i, i ≤ S 0 2 → AW miX6_passDay (d + 1) (mxA Q) 11 [(0, some (.ref w)), (1, some (.ref k)), (2, some (.int (nI (stkN S f)))), (3, some (.int (nI (mvN (pdB S f) i)))), (4, some (.int (nI i)))] [] (srM M k (fun b => if b < i then nI (pdN S f b) else M.1 k b)) := by
    refine up (S 0 2) ?_ (fun i hi_11 ih_11 => ?_)
    · refine a_iload rfl dX6_passDay_11 ?_
      refine a_aload_n rfl dX6_passDay_13 ?_
      refine g_i (srN (VX_2 hV) (by omega)) (isW_lt hw (i := 0) (by decide)) (layW_0 hw) fX6_63 rfl dX6_passDay_14 ?_
      refine n_icmp_ge 77 (by omega) (by omega) dX6_passDay_17 (by decide) (fun h_17 => ?_) (fun h_17 => absurd h_17 (by omega))
      refine a_iload_n rfl dX6_passDay_77 ?_
      have hz := mvN_01 (pdB S f) (S 0 2)
      refine a_zret dX6_passDay_78 rfl (by rcases hz with h | h <;> rw [h] <;> simp [nI]) ?_
      exact hQ
    · have h1 := hf1 i hi_11
      have h2 := WF_pace hF i hi_11
      refine a_iload rfl dX6_passDay_11 ?_
      refine a_aload_n rfl dX6_passDay_13 ?_
      refine g_i (srN (VX_2 hV) (by omega)) (isW_lt hw (i := 0) (by decide)) (layW_0 hw) fX6_63 rfl dX6_passDay_14 ?_
      refine n_icmp_ge 77 (by omega) (by omega) dX6_passDay_17 (by decide) (fun h_17 => absurd h_17 (by omega)) (fun h_17 => ?_)
      refine a_aload_n rfl dX6_passDay_20 ?_
      refine a_geta dX6_passDay_21 fX6_19 (isW_lt hw (i := 0) (by decide)) (layW_0 hw) rfl ?_
      refine a_iload rfl dX6_passDay_24 ?_
      refine v_iald (by omega) (srN (VX_a2 hV (by omega)) (by omega)) (isW_lt hw (i := 2) (by decide)) (layW_2 hw) (by decide) dX6_passDay_26 ?_
      refine n_if_le 71 (by omega) dX6_passDay_27 (by decide) (fun h_27 => ?_) (fun h_27 => ?_)
      · refine n_iinc (c := 1) rfl rfl (by decide) rfl dX6_passDay_71 ?_
        refine a_goto 11 dX6_passDay_74 (by decide) ?_
        have e : pdB S f i = false := by simp [pdB]; omega
        rw [show mvN (pdB S f) (i + 1) = mvN (pdB S f) i by simp [mvN, e], ← srM_skip (M := M) (k := k) (i := i) (g := fun b => nI (pdN S f b)) (by rw [hf i hi_11]; simp [pdN, e])] at ih_11
        exact a_bk ih_11 ⟨rfl, rfl, rfl, rfl, rfl, trivial⟩
      · refine a_aload_n rfl dX6_passDay_30 ?_
        refine a_iload rfl dX6_passDay_31 ?_
        refine v_iald (by omega) (srH (g := fun b => nI (pdN S f b)) (hf _ (by omega)) (by omega)) hk hc (by decide) dX6_passDay_33 ?_
        refine n_bipush 100 rfl dX6_passDay_34 ?_
        refine n_icmp_ge 71 (by omega) (by omega) dX6_passDay_36 (by decide) (fun h_36 => ?_) (fun h_36 => ?_)
        · refine n_iinc (c := 1) rfl rfl (by decide) rfl dX6_passDay_71 ?_
          refine a_goto 11 dX6_passDay_74 (by decide) ?_
          have e : pdB S f i = false := by simp [pdB]; omega
          rw [show mvN (pdB S f) (i + 1) = mvN (pdB S f) i by simp [mvN, e], ← srM_skip (M := M) (k := k) (i := i) (g := fun b => nI (pdN S f b)) (by rw [hf i hi_11]; simp [pdN, e])] at ih_11
          exact a_bk ih_11 ⟨rfl, rfl, rfl, rfl, rfl, trivial⟩
        · refine a_iload_n rfl dX6_passDay_39 ?_
          refine a_iload rfl dX6_passDay_40 ?_
          refine n_shr (by omega) (by omega) dX6_passDay_42 ?_
          refine n_iconst 1 rfl dX6_passDay_43 ?_
          refine n_has dX6_passDay_44 ?_
          have hbt : (if (stkN S f).testBit i then 1 else 0) < 2 := by split <;> omega
          refine n_if_ne 71 (by omega) dX6_passDay_45 (by decide) (fun h_45 => ?_) (fun h_45 => ?_)
          · refine n_iinc (c := 1) rfl rfl (by decide) rfl dX6_passDay_71 ?_
            refine a_goto 11 dX6_passDay_74 (by decide) ?_
            have e : pdB S f i = false := by simp [pdB]; intro _ _; simpa using h_45
            rw [show mvN (pdB S f) (i + 1) = mvN (pdB S f) i by simp [mvN, e], ← srM_skip (M := M) (k := k) (i := i) (g := fun b => nI (pdN S f b)) (by rw [hf i hi_11]; simp [pdN, e])] at ih_11
            exact a_bk ih_11 ⟨rfl, rfl, rfl, rfl, rfl, trivial⟩
          · refine a_aload_n rfl dX6_passDay_48 ?_
            refine a_iload rfl dX6_passDay_49 ?_
            refine n_bipush 100 rfl dX6_passDay_51 ?_
            refine a_aload_n rfl dX6_passDay_53 ?_
            refine a_iload rfl dX6_passDay_54 ?_
            refine v_iald (by omega) (srH (g := fun b => nI (pdN S f b)) (hf _ (by omega)) (by omega)) hk hc (by decide) dX6_passDay_56 ?_
            refine a_aload_n rfl dX6_passDay_57 ?_
            refine a_geta dX6_passDay_58 fX6_19 (isW_lt hw (i := 0) (by decide)) (layW_0 hw) rfl ?_
            refine a_iload rfl dX6_passDay_61 ?_
            refine v_iald (by omega) (srN (VX_a2 hV (by omega)) (by omega)) (isW_lt hw (i := 2) (by decide)) (layW_2 hw) (by decide) dX6_passDay_63 ?_
            refine n_iadd dX6_passDay_64 ?_
            refine n_min (by omega) (by omega) dX6_passDay_65 lX6_107 (Nat.le_of_ble_eq_true rfl) ?_
            refine n_iast (by omega) hk hc (by decide) dX6_passDay_68 ?_
            refine n_iconst 1 rfl dX6_passDay_69 ?_
            refine a_istore_n (by decide) rfl dX6_passDay_70 ?_
            refine n_iinc (c := 1) rfl rfl (by decide) rfl dX6_passDay_71 ?_
            refine a_goto 11 dX6_passDay_74 (by decide) ?_
            have e : pdB S f i = true := by simp [pdB]; exact ⟨⟨by omega, by omega⟩, by simpa using h_45⟩
            rw [show mvN (pdB S f) (i + 1) = 1 by simp [mvN, e], ← srM_step M k i (fun b => nI (pdN S f b)) (x := nI (min 100 (f i + S 1 i))) (by simp [pdN, e])] at ih_11
            exact a_bk ih_11 ⟨rfl, rfl, rfl, rfl, rfl, trivial⟩
  have l0 := loop_11 0 (by omega)
  rw [srM_0] at l0
  exact a_bk l0 ⟨rfl, rfl, rfl, rfl, rfl, trivial⟩

/-- whether the DAY ahead of day i moved anything (1 ahead of the first) -/
def gdm (S : ST) : Nat → Nat
  | 0 => 1
  | i + 1 => mvN (pdB S (pdI S (S 2) i)) (S 0 2)
theorem gdm_le (S : ST) (i : Nat) : gdm S i ≤ 1 := by
  cases i with
  | zero => exact Nat.le_refl 1
  | succ i =>
    show mvN (pdB S (pdI S (S 2) i)) (S 0 2) ≤ 1
    rcases mvN_01 (pdB S (pdI S (S 2) i)) (S 0 2) with h | h <;> omega
theorem gdM0 {w : Nat} {M : Mm} {S : ST} (hV : VX w M S) : srM M (w + 3) (fun b => if b < S 0 2 then nI (pdI S (S 2) 0 b) else M.1 (w + 3) b) = M := by
  unfold srM
  refine Prod.ext (funext fun a => funext fun b => ?_) rfl
  by_cases ha : a = w + 3
  · subst ha
    by_cases hb : b < S 0 2
    · simp only [if_true, if_pos hb]; exact (VX_a3 hV hb).symm
    · simp [hb]
  · simp [ha]
theorem gdstep (M : Mm) (w : Nat) (S : ST) (i : Nat) : srM (srM M (w + 3) (fun b => if b < S 0 2 then nI (pdI S (S 2) i b) else M.1 (w + 3) b)) (w + 3) (fun b => if b < S 0 2 then nI (pdN (setC S (pdI S (S 2) i)) (pdI S (S 2) i) b) else (srM M (w + 3) (fun b => if b < S 0 2 then nI (pdI S (S 2) i b) else M.1 (w + 3) b)).1 (w + 3) b) = srM M (w + 3) (fun b => if b < S 0 2 then nI (pdI S (S 2) (i + 1) b) else M.1 (w + 3) b) := by
  rw [srM_srM]
  apply srM_congr
  intro b
  by_cases hb : b < S 0 2
  · rw [if_pos hb, if_pos hb]; rfl
  · rw [if_neg hb, if_neg hb, srM_at, if_neg hb]
theorem gdstop {S : ST} (hF : WF S) {i n : Nat} (hi : i < n) (h : gdm S i = 0) : ∀ j, j < S 0 2 → pdI S (S 2) i j = pdI S (S 2) n j := by
  intro j hj
  cases i with
  | zero => exact absurd (show (1 : Nat) = 0 from h) (by decide)
  | succ i =>
    obtain ⟨q, rfl⟩ : ∃ q, n = i + 1 + q := ⟨n - (i + 1), by omega⟩
    exact (pdI_fix hF h q j hj).symm
theorem gdend {w : Nat} {M : Mm} {S : ST} (hV : VX w M S) {i n : Nat} (h : ∀ j, j < S 0 2 → pdI S (S 2) i j = pdI S (S 2) n j) : VX w (siM (srM M (w + 3) (fun b => if b < S 0 2 then nI (pdI S (S 2) i b) else M.1 (w + 3) b)) w 1 (nI (S 0 1 + n))) (dayN S n) := by
  obtain ⟨h0, h1, h2, h3, h4, h5, h6, a2, a3, a4, a5, a7, a8, a9, a10, a11, a12⟩ := VX_sr3 hV (pdI S (S 2) i)
  exact VX_intro (siN h0 (by omega)) siS (siN h2 (by omega)) (siN h3 (by omega)) (siN h4 (by omega)) (siN h5 (by omega)) (siN h6 (by omega)) (fun j hj => siN (a2 j hj) (by omega)) (fun j hj => (siN (a3 j hj) (by omega)).trans (congrArg nI (h j hj))) (fun j hj => siN (a4 j hj) (by omega)) (fun j hj => siN (a5 j hj) (by omega)) (fun j hj => siN (a7 j hj) (by omega)) (fun j hj => siN (a8 j hj) (by omega)) (fun j hj => siN (a9 j hj) (by omega)) (fun j hj => siN (a10 j hj) (by omega)) (fun j hj => siN (a11 j hj) (by omega)) (fun j hj => siN (a12 j hj) (by omega))
theorem gdfr {w : Nat} {M : Mm} (f : Nat → Int32) (x : Int32) (q : Unit := ()) : frM (fun k j => k = w + 3 ∨ (k = w ∧ j = 1)) M (siM (srM M (w + 3) f) w 1 x) := by
  refine ⟨fun k j h => ?_, rfl⟩
  exact siN (srN rfl (fun e => h (Or.inl e))) (by
    by_cases hk : k = w
    · exact Or.inr (fun e => h (Or.inr ⟨hk, e⟩))
    · exact Or.inl hk)

set_option maxRecDepth 100000 in
set_option maxHeartbeats 800000 in
theorem c_X6_goDays {w : Nat} (hw : isW w) {M : Mm} {S : ST} (hV : VX w M S) (hF : WF S) {n : Nat} (hn1 : n < 2 ^ 30) {Q : Option Value → Mm → Prop} (hQ : ∀ M', VX w M' (dayN S n) → frM (fun k j => k = w + 3 ∨ (k = w ∧ j = 1)) M M' → Q none M') (d : Nat) : AMt miX6_goDays (d + 2) [.ref w, .int (nI n)] M Q := by
  refine AMt.of (by decide) (Nat.le_of_ble_eq_true rfl) ?_
  show AW miX6_goDays (d + 2) (mxA Q) 0 [(0, some (.ref w)), (1, some (.int (nI n)))] [] M
  have hm := WF_m hF
  have hh := WF_h hF
  have hs := WF_s hF
  have hn := WF_n hF
  have hdy := WF_day hF
  have hst : ∀ i, stkN (setC S (pdI S (S 2) i)) = stkN S := fun i => rfl
  refine n_iconst 1 rfl dX6_goDays_0 ?_
  refine a_istore_n (by decide) rfl dX6_goDays_1 ?_
  refine n_iconst 0 rfl dX6_goDays_2 ?_
  refine a_istore_n (by decide) rfl dX6_goDays_3 ?_
  have loop_4 : ∀ i, i ≤ n → AW miX6_goDays (d + 2) (mxA Q) 4 [(0, some (.ref w)), (1, some (.int (nI n))), (2, some (.int (nI (gdm S i)))), (3, some (.int (nI i)))] [] (srM M (w + 3) (fun b => if b < S 0 2 then nI (pdI S (S 2) i b) else M.1 (w + 3) b)) := by
    refine up n ?_ (fun i hi_4 ih_4 => ?_)
    · have hVi := VX_sr3 hV (pdI S (S 2) n)
      refine a_iload_n rfl dX6_goDays_4 ?_
      refine a_iload_n rfl dX6_goDays_5 ?_
      refine n_icmp_ge 28 (by omega) (by omega) dX6_goDays_6 (by decide) (fun h_6 => ?_) (fun h_6 => absurd h_6 (by omega))
      refine a_aload_n rfl dX6_goDays_28 ?_
      refine a_dup rfl dX6_goDays_29 ?_
      refine g_i (VX_1 hVi) (isW_lt hw (i := 0) (by decide)) (layW_0 hw) fX6_60 rfl dX6_goDays_30 ?_
      refine a_iload_n rfl dX6_goDays_33 ?_
      refine n_iadd dX6_goDays_34 ?_
      refine a_puti dX6_goDays_35 pX6_60 (isW_lt hw (i := 0) (by decide)) (layW_0 hw) rfl ?_
      refine a_vret dX6_goDays_38 rfl ?_
      exact hQ _ (gdend hV (fun j hj => rfl)) (gdfr _ _)
    · have hVi := VX_sr3 hV (pdI S (S 2) i)
      have hFi := WF_setC hF (pdI_le (S := S) (fun j hj => WF_clear hF j hj) i)
      have hgd := gdm_le S i
      refine a_iload_n rfl dX6_goDays_4 ?_
      refine a_iload_n rfl dX6_goDays_5 ?_
      refine n_icmp_ge 28 (by omega) (by omega) dX6_goDays_6 (by decide) (fun h_6 => absurd h_6 (by omega)) (fun h_6 => ?_)
      refine a_iload_n rfl dX6_goDays_9 ?_
      refine n_if_eq 28 (by omega) dX6_goDays_10 (by decide) (fun h_10 => ?_) (fun h_10 => ?_)
      · refine a_aload_n rfl dX6_goDays_28 ?_
        refine a_dup rfl dX6_goDays_29 ?_
        refine g_i (VX_1 hVi) (isW_lt hw (i := 0) (by decide)) (layW_0 hw) fX6_60 rfl dX6_goDays_30 ?_
        refine a_iload_n rfl dX6_goDays_33 ?_
        refine n_iadd dX6_goDays_34 ?_
        refine a_puti dX6_goDays_35 pX6_60 (isW_lt hw (i := 0) (by decide)) (layW_0 hw) rfl ?_
        refine a_vret dX6_goDays_38 rfl ?_
        exact hQ _ (gdend hV (gdstop hF hi_4 h_10)) (gdfr _ _)
      · refine a_aload_n rfl dX6_goDays_13 ?_
        refine a_aload_n rfl dX6_goDays_14 ?_
        refine a_geta dX6_goDays_15 fX6_23 (isW_lt hw (i := 0) (by decide)) (layW_0 hw) rfl ?_
        refine n_callV (mi' := miX6_passDay) dX6_goDays_18 lX6_99 mX6_passDay (isW_lt hw (i := 0) (by decide)) (layW_0 hw) rfl rfl (c_X6_passDay hw hVi hFi (f := pdI S (S 2) i) (isW_lt hw (i := 3) (by decide)) (layW_3 hw) (fun j hj => VX_a3 hVi hj) (pdI_le (fun j hj => WF_clear hF j hj) i) (Or.inl rfl) ?_ d) rfl rfl (by omega) (by decide) (Nat.le_of_ble_eq_true rfl)
        show AW _ _ _ _ _ _ _
        refine a_istore_n (by decide) rfl dX6_goDays_21 ?_
        refine n_iinc (c := 1) rfl rfl (by decide) rfl dX6_goDays_22 ?_
        refine a_goto 4 dX6_goDays_25 (by decide) ?_
        refine a_eqM (M' := srM M (w + 3) (fun b => if b < S 0 2 then nI (pdI S (S 2) (i + 1) b) else M.1 (w + 3) b)) (gdstep M w S i) ?_
        exact a_bk ih_4 ⟨rfl, rfl, rfl, rfl, trivial⟩
  have l0 := loop_4 0 (by omega)
  rw [show (srM M (w + 3) (fun b => if b < S 0 2 then nI (pdI S (S 2) 0 b) else M.1 (w + 3) b)) = M from gdM0 hV] at l0
  exact a_bk l0 ⟨rfl, rfl, rfl, rfl, trivial⟩

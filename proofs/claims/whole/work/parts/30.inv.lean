/-! ===== the state of a run, and how the two sides hold it ===== -/
abbrev NM : Type := Nat → Nat → Int64
/-- YEARS: whether there are any, how many items, the items (0 the verb's number, 1 who, 2 number, 3 test, 4 compare, 5 partner) -/
abbrev YR : Type := Nat × Nat × (Nat → Nat → Nat)
abbrev WD : Type := ST × NM × YR
abbrev TRY : Type := (Nat → Nat) × (Nat → Option Nat) × (Nat → Nat → Int64)
abbrev TT : Type := WD × TRY × (Nat × (Nat → Int32)) × (Nat × Int64 × Int64) × (Int32 × Int32) × (Nat × (Nat → Nat)) × (Nat × (Nat → WD))
abbrev tW (T : TT) : WD := T.1
abbrev tS (T : TT) : ST := T.1.1
abbrev tN (T : TT) : NM := T.1.2.1
abbrev tY (T : TT) : YR := T.1.2.2
abbrev tR (T : TT) : TRY := T.2.1
abbrev tP (T : TT) : Nat × (Nat → Int32) := T.2.2.1
abbrev tE (T : TT) : Nat × Int64 × Int64 := T.2.2.2.1
abbrev tF (T : TT) : Int32 × Int32 := T.2.2.2.2.1
abbrev tL (T : TT) : Nat × (Nat → Nat) := T.2.2.2.2.2.1
abbrev tK (T : TT) : Nat × (Nat → WD) := T.2.2.2.2.2.2
abbrev sW (T : TT) (x : WD) : TT := (x, T.2)
abbrev sS (T : TT) (x : ST) : TT := ((x, T.1.2), T.2)
abbrev sR (T : TT) (x : TRY) : TT := (T.1, x, T.2.2)
abbrev sP (T : TT) (x : Nat × (Nat → Int32)) : TT := (T.1, T.2.1, x, T.2.2.2)
abbrev sE (T : TT) (x : Nat × Int64 × Int64) : TT := (T.1, T.2.1, T.2.2.1, x, T.2.2.2.2)
abbrev sF (T : TT) (x : Int32 × Int32) : TT := (T.1, T.2.1, T.2.2.1, T.2.2.2.1, x, T.2.2.2.2.2)
abbrev sL (T : TT) (x : Nat × (Nat → Nat)) : TT := (T.1, T.2.1, T.2.2.1, T.2.2.2.1, T.2.2.2.2.1, x, T.2.2.2.2.2.2)
abbrev sK (T : TT) (x : Nat × (Nat → WD)) : TT := (T.1, T.2.1, T.2.2.1, T.2.2.2.1, T.2.2.2.2.1, T.2.2.2.2.2.1, x)
/-- with this STATUS -/
abbrev st' (T : TT) (n : Nat) : TT := sE T (n, (tE T).2)
/-- steps (not ends) among the first i items -/
def scN (It : Nat → Nat → Nat) : Nat → Nat
  | 0 => 0
  | i + 1 => if It i 0 = 23 then scN It i else scN It i + 1
/-- YEARS as the class holds them at y -/
def YX (y : Nat) (M : Mm) (Y : YR) : Prop := M.1 y 0 = nI Y.1 ∧ M.1 y 1 = nI (scN Y.2.2 Y.2.1) ∧ M.1 y 2 = nI Y.2.1 ∧
  ∀ i, i < Y.2.1 → M.1 (y + 1) i = nI (Y.2.2 i 0) ∧ ((Y.2.2 i 0 = 15 ∨ Y.2.2 i 0 = 16 ∨ Y.2.2 i 0 = 18) → M.1 (y + 3) i = nI (Y.2.2 i 1)) ∧ M.1 (y + 5) i = nI (Y.2.2 i 2) ∧ M.1 (y + 6) i = nI (Y.2.2 i 5) ∧ (Y.2.2 i 0 = 18 → M.1 (y + 2) i = nI (Y.2.2 i 3) ∧ M.1 (y + 4) i = if Y.2.2 i 3 = 21 then nI (Y.2.2 i 4) else -1)
/-- the model's number of a verb -/
def vkN (v : Nat) : Nat := if v = 22 then 6 else if v = 24 then 7 else v - 13
/-- YEARS as the model holds them in the block at o: a step's cells begin at o + 92 + 9 * its number -/
def YM (o : Nat) (M : Mm) (Y : YR) : Prop := M.1 137 (o + 90) = nI Y.1 ∧ M.1 137 (o + 91) = nI (scN Y.2.2 Y.2.1) ∧
  ∀ i, i < Y.2.1 → Y.2.2 i 0 ≠ 23 → (fun c : Nat => M.1 137 c = nI (vkN (Y.2.2 i 0)) ∧
    ((Y.2.2 i 0 = 13 ∨ Y.2.2 i 0 = 14 ∨ Y.2.2 i 0 = 22) → M.1 137 (c + 1) = nI (Y.2.2 i 2)) ∧
    ((Y.2.2 i 0 = 15 ∨ Y.2.2 i 0 = 16 ∨ Y.2.2 i 0 = 18) → M.1 137 (c + 1) = nI (Y.2.2 i 1)) ∧
    ((Y.2.2 i 0 = 15 ∨ Y.2.2 i 0 = 16) → M.1 137 (c + 2) = nI (Y.2.2 i 2)) ∧
    (Y.2.2 i 0 = 18 → M.1 137 (c + 5) = nI (Y.2.2 i 3 - 19) ∧ (Y.2.2 i 3 = 21 → M.1 137 (c + 6) = nI (Y.2.2 i 2) ∧ M.1 137 (c + 7) = nI (Y.2.2 i 4))) ∧
    M.1 137 (c + 8) = nI (if Y.2.2 i 0 = 18 ∨ Y.2.2 i 0 = 22 then scN Y.2.2 (Y.2.2 i 5) else scN Y.2.2 (i + 1))) (o + 92 + 9 * scN Y.2.2 i)
/-- the model's names of the block b -/
def VNM (b : Nat) (M : Mm) (S : ST) (N : NM) : Prop := (∀ j, j < S 0 2 → M.2 139 (13 * b + j) = N 0 j) ∧ ∀ j, j < S 0 4 → M.2 139 (13 * b + 6 + j) = N 1 j
/-- well-made YEARS of a wood -/
def WFY (S : ST) (Y : YR) : Prop := Y.1 ≤ 1 ∧ Y.2.1 ≤ 60 ∧ scN Y.2.2 Y.2.1 ≤ 30 ∧ S 0 1 ≤ 9999 ∧ (∀ i, i < Y.2.1 → 13 ≤ Y.2.2 i 0 ∧ Y.2.2 i 0 ≤ 24 ∧ (Y.2.2 i 0 ≤ 18 ∨ 22 ≤ Y.2.2 i 0) ∧
  (Y.2.2 i 0 = 13 → 1 ≤ Y.2.2 i 2 ∧ Y.2.2 i 2 ≤ 40) ∧ (Y.2.2 i 0 = 14 → Y.2.2 i 2 ≤ 7) ∧ (Y.2.2 i 0 = 15 → Y.2.2 i 1 < S 0 2 ∧ 1 ≤ Y.2.2 i 2 ∧ Y.2.2 i 2 ≤ 100) ∧ (Y.2.2 i 0 = 16 → Y.2.2 i 1 < S 0 4 ∧ Y.2.2 i 2 < S 0 2) ∧
  (Y.2.2 i 0 = 18 → 19 ≤ Y.2.2 i 3 ∧ Y.2.2 i 3 ≤ 21 ∧ (Y.2.2 i 3 = 20 → Y.2.2 i 1 < S 0 2) ∧ (Y.2.2 i 3 ≠ 20 → Y.2.2 i 1 < S 0 4) ∧ (Y.2.2 i 3 = 21 → Y.2.2 i 2 ≤ 99 ∧ (Y.2.2 i 4 = 60 ∨ Y.2.2 i 4 = 61 ∨ Y.2.2 i 4 = 62))) ∧ (Y.2.2 i 0 = 22 → 1 ≤ Y.2.2 i 2 ∧ Y.2.2 i 2 ≤ 99) ∧
  (Y.2.2 i 0 = 18 ∨ Y.2.2 i 0 = 22 → i < Y.2.2 i 5 ∧ Y.2.2 i 5 < Y.2.1 ∧ Y.2.2 (Y.2.2 i 5) 0 = 23 ∧ Y.2.2 (Y.2.2 i 5) 5 = i ∧ (∀ k, i < k → k < Y.2.2 i 5 → (Y.2.2 k 0 = 18 ∨ Y.2.2 k 0 = 22) → Y.2.2 k 5 < Y.2.2 i 5)) ∧
  (Y.2.2 i 0 = 23 → Y.2.2 i 5 < i ∧ (Y.2.2 (Y.2.2 i 5) 0 = 18 ∨ Y.2.2 (Y.2.2 i 5) 0 = 22) ∧ Y.2.2 (Y.2.2 i 5) 5 = i))
/-- a wood, its names, its YEARS: the class's at w, the model's block b -/
def WX (w : Nat) (M : Mm) (W : WD) : Prop := VX w M W.1 ∧ VN w M W.1 W.2.1 ∧ YX (w + 13) M W.2.2
def WM (b : Nat) (M : Mm) (W : WD) : Prop := VM (362 * b) M W.1 ∧ VNM b M W.1 W.2.1 ∧ YM (362 * b) M W.2.2
def WG (W : WD) : Prop := WF W.1 ∧ WFY W.1 W.2.2
/-- TRAYS -/
def RX (M : Mm) (R : TRY) : Prop := ∀ t, t < 4 → M.1 8 t = nI (R.1 t) ∧ (R.2.1 t = none → M.1 9 t = -1) ∧ ∀ n, R.2.1 t = some n → M.1 9 t = nI n ∧ ∀ j, j < n → M.2 (4 + t) j = R.2.2 t j
def RM (M : Mm) (R : TRY) : Prop := ∀ t, t < 4 → M.1 133 t = nI (R.1 t) ∧ (R.2.1 t = none → M.1 134 t = -1) ∧ ∀ n, R.2.1 t = some n → M.1 134 t = nI n ∧ ∀ j, j < n → M.2 135 (60 * t + j) = R.2.2 t j
def RG (R : TRY) : Prop := ∀ t, t < 4 → R.1 t ≤ 3 ∧ ∀ n, R.2.1 t = some n → n ≤ 60
/-- what holds of every state -/
def TG (T : TT) : Prop := WG (tW T) ∧ RG (tR T) ∧ (tP T).1 ≤ 900 ∧ (tE T).1 ≤ 11 ∧ (tL T).1 ≤ 1 ∧ (tK T).1 ≤ 3 ∧ (∀ i, i < (tK T).1 → WG ((tK T).2 i)) ∧ ∀ j, j < 5 → (tL T).2 j ≤ 100000
def IX (M : Mm) (T : TT) : Prop := WX 17 M (tW T) ∧ RX M (tR T) ∧ (M.1 0 4 = nI (tP T).1 ∧ ∀ j, j < (tP T).1 → M.1 1 j = (tP T).2 j) ∧ (M.1 0 0 = nI (tE T).1 ∧ M.2 0 1 = (tE T).2.1 ∧ M.2 0 2 = (tE T).2.2) ∧ (M.1 10 5 = (tF T).1 ∧ M.1 10 6 = (tF T).2) ∧ (M.1 0 15 = nI (tL T).1 ∧ ((tL T).1 = 1 → ∀ j, j < 5 → M.1 120 j = nI ((tL T).2 j))) ∧ M.1 0 12 = nI (tK T).1 ∧ ∀ i, i < (tK T).1 → WX (58 + 20 * i) M ((tK T).2 i)
def IM (M : Mm) (T : TT) : Prop := WM 0 M (tW T) ∧ RM M (tR T) ∧ (M.1 132 8 = nI (tP T).1 ∧ ∀ j, j < (tP T).1 → M.1 136 j = (tP T).2 j) ∧ (M.1 132 0 = nI (tE T).1 ∧ M.2 132 2 = (tE T).2.1 ∧ M.2 132 3 = (tE T).2.2) ∧ (M.1 132 10 = (tF T).1 ∧ M.1 132 11 = (tF T).2) ∧ (M.1 132 38 = nI (tL T).1 ∧ ((tL T).1 = 1 → ∀ j, j < 5 → M.1 146 j = nI ((tL T).2 j))) ∧ M.1 132 23 = nI (tK T).1 ∧ ∀ i, i < (tK T).1 → WM (i + 1) M ((tK T).2 i)
/-- what the other side does not touch -/
def keX (M M' : Mm) : Prop := (∀ k, k < 132 → M'.1 k = M.1 k) ∧ ∀ k, k < 132 → M'.2 k = M.2 k
def keM (M M' : Mm) : Prop := (∀ k, 132 ≤ k → M'.1 k = M.1 k) ∧ ∀ k, 132 ≤ k → M'.2 k = M.2 k
theorem VX_eq {w : Nat} {M M' : Mm} {S : ST} (h : VX w M S) (he : ∀ k, w ≤ k → k ≤ w + 12 → M'.1 k = M.1 k) : VX w M' S := VX_fr h (fun k j h1 h2 => by rw [he k h1 h2])
theorem VN_eq {w : Nat} {M M' : Mm} {S : ST} {N : NM} (h : VN w M S N) (he : ∀ k, w ≤ k → k ≤ w + 6 → M'.2 k = M.2 k) : VN w M' S N := ⟨fun j hj => by rw [he _ (by omega) (by omega)]; exact h.1 j hj, fun j hj => by rw [he _ (by omega) (by omega)]; exact h.2 j hj⟩
theorem YX_eq {y : Nat} {M M' : Mm} {Y : YR} (h : YX y M Y) (he : ∀ k, y ≤ k → k ≤ y + 6 → M'.1 k = M.1 k) : YX y M' Y := by
  obtain ⟨h0, h1, h2, h3⟩ := h
  refine ⟨by rw [he _ (by omega) (by omega)]; exact h0, by rw [he _ (by omega) (by omega)]; exact h1, by rw [he _ (by omega) (by omega)]; exact h2, fun i hi => ?_⟩
  rw [he (y + 1) (by omega) (by omega), he (y + 2) (by omega) (by omega), he (y + 3) (by omega) (by omega), he (y + 4) (by omega) (by omega), he (y + 5) (by omega) (by omega), he (y + 6) (by omega) (by omega)]
  exact h3 i hi
theorem WX_eq {w : Nat} {M M' : Mm} {W : WD} (h : WX w M W) (he : ∀ k, w ≤ k → k < w + 20 → M'.1 k = M.1 k) (he2 : ∀ k, w ≤ k → k < w + 20 → M'.2 k = M.2 k) : WX w M' W :=
  ⟨VX_eq h.1 (fun k h1 h2 => he k h1 (by omega)), VN_eq h.2.1 (fun k h1 h2 => he2 k h1 (by omega)), YX_eq h.2.2 (fun k h1 h2 => he k (by omega) (by omega))⟩
/-- the class's core: all that later answers hang on -/
def coX (k j : Nat) : Prop := k < 10 ∨ (k = 10 ∧ (j = 5 ∨ j = 6)) ∨ (17 ≤ k ∧ k < 37) ∨ (57 ≤ k ∧ k < 118) ∨ k = 120
theorem IX_eq {M M' : Mm} {T : TT} (h : IX M T) (hk : (tK T).1 ≤ 3) (he : ∀ k j, coX k j → M'.1 k j = M.1 k j) (he2 : ∀ k j, coX k j → M'.2 k j = M.2 k j) : IX M' T := by
  obtain ⟨h1, h2, h3, h4, h5, h6, h7, h8⟩ := h
  refine ⟨WX_eq h1 (fun k a b => funext fun j => he k j (by unfold coX; omega)) (fun k a b => funext fun j => he2 k j (by unfold coX; omega)), fun t ht => ?_, ?_, ?_, ?_, ?_, ?_, fun i hi => ?_⟩
  · rw [he 8 t (by unfold coX; omega), he 9 t (by unfold coX; omega)]
    refine ⟨(h2 t ht).1, (h2 t ht).2.1, fun n hn => ⟨((h2 t ht).2.2 n hn).1, fun j hj => ?_⟩⟩
    rw [he2 (4 + t) j (by unfold coX; omega)]
    exact ((h2 t ht).2.2 n hn).2 j hj
  · exact ⟨by rw [he 0 4 (by unfold coX; omega)]; exact h3.1, fun j hj => by rw [he 1 j (by unfold coX; omega)]; exact h3.2 j hj⟩
  · exact ⟨by rw [he 0 0 (by unfold coX; omega)]; exact h4.1, by rw [he2 0 1 (by unfold coX; omega)]; exact h4.2.1, by rw [he2 0 2 (by unfold coX; omega)]; exact h4.2.2⟩
  · exact ⟨by rw [he 10 5 (by unfold coX; omega)]; exact h5.1, by rw [he 10 6 (by unfold coX; omega)]; exact h5.2⟩
  · exact ⟨by rw [he 0 15 (by unfold coX; omega)]; exact h6.1, fun q j hj => by rw [he 120 j (by unfold coX; omega)]; exact h6.2 q j hj⟩
  · rw [he 0 12 (by unfold coX; omega)]; exact h7
  · exact WX_eq (h8 i hi) (fun k a b => funext fun j => he k j (by unfold coX; omega)) (fun k a b => funext fun j => he2 k j (by unfold coX; omega))
/-- as IX, but for the STATUS -/
theorem IX_st {M : Mm} {T : TT} (h : IX M T) (n : Nat) : IX (siM M 0 0 (nI n)) (st' T n) := by
  obtain ⟨h1, h2, h3, h4, h5, h6, h7, h8⟩ := h
  have e : ∀ k, 0 < k → (siM M 0 0 (nI n)).1 k = M.1 k := fun k hk => funext fun j => siN rfl (by omega)
  refine ⟨WX_eq h1 (fun k a b => e k (by omega)) (fun _ _ _ => rfl), fun t ht => ?_, ⟨siN h3.1 (by omega), fun j hj => by rw [e 1 (by omega)]; exact h3.2 j hj⟩, ⟨siS, h4.2⟩, ⟨by rw [e 10 (by omega)]; exact h5.1, by rw [e 10 (by omega)]; exact h5.2⟩, ⟨siN h6.1 (by omega), fun q j hj => by rw [e 120 (by omega)]; exact h6.2 q j hj⟩, siN h7 (by omega), fun i hi => WX_eq (h8 i hi) (fun k a b => e k (by omega)) (fun _ _ _ => rfl)⟩
  rw [e 8 (by omega), e 9 (by omega)]
  exact h2 t ht
theorem IM_ke {M M' : Mm} {T : TT} (h : IM M T) (k : keM M M') : IM M' T := by
  obtain ⟨h1, h2, h3, h4, h5, h6, h7, h8⟩ := h
  have wm : ∀ b W, WM b M W → WM b M' W := fun b W hw => by
    unfold WM VM VNM YM at hw ⊢
    rw [k.1 137 (by omega), k.2 139 (by omega)]
    exact hw
  refine ⟨wm 0 _ h1, ?_, ?_, ?_, ?_, ?_, ?_, fun i hi => wm _ _ (h8 i hi)⟩
  · unfold RM at h2 ⊢
    rw [k.1 133 (by omega), k.1 134 (by omega), k.2 135 (by omega)]; exact h2
  · rw [k.1 132 (by omega), k.1 136 (by omega)]; exact h3
  · rw [k.1 132 (by omega), k.2 132 (by omega)]; exact h4
  · rw [k.1 132 (by omega)]; exact h5
  · rw [k.1 132 (by omega), k.1 146 (by omega)]; exact h6
  · rw [k.1 132 (by omega)]; exact h7
theorem IX_ke {M M' : Mm} {T : TT} (h : IX M T) (hk : (tK T).1 ≤ 3) (k : keX M M') : IX M' T := by
  obtain ⟨h1, h2, h3, h4, h5, h6, h7, h8⟩ := h
  refine ⟨WX_eq h1 (fun q _ b => k.1 q (by omega)) (fun q _ b => k.2 q (by omega)), fun t ht => ?_, ?_, ?_, ?_, ?_, ?_, fun i hi => WX_eq (h8 i hi) (fun q _ b => k.1 q (by omega)) (fun q _ b => k.2 q (by omega))⟩
  · rw [k.1 8 (by omega), k.1 9 (by omega), k.2 (4 + t) (by omega)]; exact h2 t ht
  · rw [k.1 0 (by omega), k.1 1 (by omega)]; exact h3
  · rw [k.1 0 (by omega), k.2 0 (by omega)]; exact h4
  · rw [k.1 10 (by omega)]; exact h5
  · rw [k.1 0 (by omega), k.1 120 (by omega)]; exact h6
  · rw [k.1 0 (by omega)]; exact h7


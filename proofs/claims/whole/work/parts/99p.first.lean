/-- the first state -/
def T00 : TT := ((emW, fun _ _ => 0, Y0), (fun _ => 0, fun _ => none, fun _ _ => 0), (0, fun _ => 0), (0, 0, 1), (-1, -1), (0, fun _ => 0), (0, fun _ => (emW, fun _ _ => 0, Y0)))
/-- the numbers of the cells when both constructors have run -/
def m0i (k j : Nat) : Int32 := if (k = 9 ∧ j < 4) ∨ (k = 134 ∧ j < 4) ∨ (k = 10 ∧ (j = 5 ∨ j = 6)) ∨ (k = 132 ∧ (j = 10 ∨ j = 11)) then -1 else if ((k = 17 ∨ k = 37 ∨ k = 58 ∨ k = 78 ∨ k = 98) ∧ j = 0) ∨ (k = 137 ∧ j = 4) then nI 4 else nI 0
def m0l (k j : Nat) : Int64 := if (k = 0 ∧ j = 2) ∨ (k = 132 ∧ j = 3) then 1 else 0
theorem TI_00 : TI T00 := ⟨⟨⟨WF_em, WFY_0 rfl⟩, fun t _ => ⟨Nat.zero_le _, fun n q => absurd q (by intro z; cases z)⟩, Nat.zero_le _, Nat.zero_le _, Nat.zero_le _, Nat.zero_le _, fun i hi => absurd (show i < 0 from hi) (Nat.not_lt_zero i), fun j _ => Nat.zero_le _⟩, fun j hj => absurd (show j < 0 from hj) (Nat.not_lt_zero j)⟩
theorem IX_00 {M : Mm} (h : ∀ k j, M.1 k j = m0i k j) (h2 : ∀ k j, M.2 k j = m0l k j) : IX M T00 := by
  refine ⟨⟨VX_intro ((h 17 0).trans (by decide)) ((h 17 1).trans (by decide)) ((h 17 2).trans (by decide)) ((h 17 3).trans (by decide)) ((h 17 4).trans (by decide)) ((h 17 5).trans (by decide)) ((h 17 6).trans (by decide)) (fun j hj => absurd hj (Nat.not_lt_zero j)) (fun j hj => absurd hj (Nat.not_lt_zero j)) (fun j hj => absurd hj (Nat.not_lt_zero j)) (fun j hj => absurd hj (Nat.not_lt_zero j)) (fun j hj => absurd hj (Nat.not_lt_zero j)) (fun j hj => absurd hj (Nat.not_lt_zero j)) (fun j hj => absurd hj (Nat.not_lt_zero j)) (fun j hj => absurd hj (Nat.not_lt_zero j)) (fun j hj => absurd hj (Nat.not_lt_zero j)) (fun j hj => absurd hj (Nat.not_lt_zero j)), ⟨fun j hj => absurd (show j < 0 from hj) (Nat.not_lt_zero j), fun j hj => absurd (show j < 0 from hj) (Nat.not_lt_zero j)⟩, ⟨(h 30 0).trans (by decide), (h 30 1).trans (by decide), (h 30 2).trans (by decide), fun i hi => absurd (show i < 0 from hi) (Nat.not_lt_zero i)⟩⟩, fun t ht => ⟨?_, fun _ => ?_, fun n q => absurd q (by intro z; cases z)⟩, ⟨(h 0 4).trans (by decide), fun j hj => absurd (show j < 0 from hj) (Nat.not_lt_zero j)⟩, ⟨(h 0 0).trans (by decide), (h2 0 1).trans (by decide), (h2 0 2).trans (by decide)⟩, ⟨(h 10 5).trans (by decide), (h 10 6).trans (by decide)⟩, ⟨(h 0 15).trans (by decide), fun q => absurd (show (0 : Nat) = 1 from q) (by decide)⟩, (h 0 12).trans (by decide), fun i hi => absurd (show i < 0 from hi) (Nat.not_lt_zero i)⟩
  · rw [h]; unfold m0i; rw [if_neg (by omega), if_neg (by omega)]; rfl
  · rw [h]; unfold m0i; rw [if_pos (by omega)]
theorem IM_00 {M : Mm} (h : ∀ k j, M.1 k j = m0i k j) (h2 : ∀ k j, M.2 k j = m0l k j) : IM M T00 := by
  have hb := em_VM (M := M) (b := 0) (fun j hj => by
    rw [h, show 362 * 0 + j = j by omega]
    unfold m0i
    by_cases e : j = 4
    · rw [if_neg (by omega), if_pos (by omega), if_pos e]
    · rw [if_neg (by omega), if_neg (by omega), if_neg e])
  refine ⟨⟨hb.1, ⟨fun j hj => absurd (show j < 0 from hj) (Nat.not_lt_zero j), fun j hj => absurd (show j < 0 from hj) (Nat.not_lt_zero j)⟩, hb.2⟩, fun t ht => ⟨?_, fun _ => ?_, fun n q => absurd q (by intro z; cases z)⟩, ⟨(h 132 8).trans (by decide), fun j hj => absurd (show j < 0 from hj) (Nat.not_lt_zero j)⟩, ⟨(h 132 0).trans (by decide), (h2 132 2).trans (by decide), (h2 132 3).trans (by decide)⟩, ⟨(h 132 10).trans (by decide), (h 132 11).trans (by decide)⟩, ⟨(h 132 38).trans (by decide), fun q => absurd (show (0 : Nat) = 1 from q) (by decide)⟩, (h 132 23).trans (by decide), fun i hi => absurd (show i < 0 from hi) (Nat.not_lt_zero i)⟩
  · rw [h]; unfold m0i; rw [if_neg (by omega), if_neg (by omega)]; rfl
  · rw [h]; unfold m0i; rw [if_pos (by omega)]
theorem LI_00 {M : Mm} (h : ∀ k j, M.1 k j = m0i k j) (h2 : ∀ k j, M.2 k j = m0l k j) : LI M T00 := ⟨IX_00 h h2, IM_00 h h2, TI_00⟩
/-- the law, when both objects stand -/
theorem lw_go {b L : Nat} {xs : Nat → Int32} {E : List Frame → State → State → Prop} (hL : L ≤ 3072) (hend : ∀ i M, AW miL 300 (lwX b L xs E) 1828 (lwL i) [] M) {M : Mm} {T : TT} (h : LI M T) : AW miL 300 (lwX b L xs E) 16 [(0, some (.ref 150)), (1, some (.ref 0)), (2, some (.ref 132))] [] M := by
  refine n_iconst 0 rfl dL_law_16 ?_
  refine a_istore_n (by decide) rfl dL_law_17 ?_
  exact a_bk (lw_loop hL hend L 0 M T (by omega) (by omega) h) ⟨rfl, rfl, rfl, rfl, trivial⟩
/-- the law's end: 1 on the stack -/
theorem lw_1 {b L : Nat} {xs : Nat → Int32} {E : List Frame → State → State → Prop} (hend : ∀ i M, AW miL 300 (lwX b L xs E) 1829 (lwL i) [.int (nI 1)] M) : ∀ i M, AW miL 300 (lwX b L xs E) 1828 (lwL i) [] M := fun i M => n_iconst 1 rfl dL_law_1828 (hend i M)

/-! ===== what each call answers, and the state behind it ===== -/
def idx (x : Int32) : Nat := x.toInt.toNat
theorem idx_nI {j : Nat} (h : j < 2 ^ 31) : idx (nI j) = j := by unfold idx; rw [nI_toInt h]; omega
/-- x is one of 0 .. n - 1 -/
abbrev inN (x : Int32) (n : Nat) : Prop := 0 ≤ x.toInt ∧ x.toInt < n
theorem inR_of' {x : Int32} {m : Nat} (h0 : 0 ≤ x.toInt) (h1 : x.toInt < m) (hm : m < 2 ^ 31) : inR x m := inR_of h0 h1 hm
theorem not_inR {x : Int32} {n : Nat} (h : ¬ inR x n) (hn : n < 2 ^ 31) : ¬ (0 ≤ x.toInt ∧ x.toInt < n) := fun q => h (inR_of' q.1 q.2 hn)
abbrev AN : Type := Int32 × TT
def setlN (S : ST) : Nat := bsN (fun j => decide (100 ≤ S 2 j)) (S 0 2)
def downN (S : ST) : Nat := bsN (fun p => hgt (S 6 p) (S 2 (S 7 p)) == 0) (S 0 4)
def cameN (S : ST) : Nat := bsN (fun j => S 11 j == 1) (S 0 5)
def heldN (S : ST) (k : Nat) : Nat := orN (fun q => S 3 q == k) (S 4) (S 0 3)
def satN (S : ST) (k : Nat) : Nat := bsN (fun j => S 7 j == k) (S 0 4)
def hghN (S : ST) (p : Nat) : Nat := hgt (S 6 p) (S 2 (S 7 p))
def manyV (S : ST) (i : Nat) : Nat := if i = 0 then S 0 2 else if i = 1 then S 0 3 else if i = 2 then S 0 4 else if i = 3 then S 0 5 else if i = 4 then S 0 0 else if i = 5 then S 0 1 else if i = 6 then setlN S else if i = 7 then stkN S (S 2) else if i = 8 then downN S else cameN S
def sp_many (x : Int32) (T : TT) : AN := if inN x 10 then (nI (manyV (tS T) (idx x)), st' T 0) else (-1, st' T 5)
def sp_matter (k x : Int32) (T : TT) : AN :=
  if inN k (tS T 0 2) then (if inN x 5 then
    (if idx x = 0 then (nI (tS T 2 (idx k)), st' T 0) else if idx x = 1 then (nI (tS T 1 (idx k)), st' T 0) else if idx x = 2 then (nI (heldN (tS T) (idx k)), st' T 0) else if idx x = 3 then (nI (satN (tS T) (idx k)), st' T 0) else match loadN (tS T) (idx k) with
      | some v => (nI v, st' T 0)
      | none => (-1, st' T 8)) else (-1, st' T 5)) else (-1, st' T 2)
def sp_hold (k x : Int32) (T : TT) : AN := if inN k (tS T 0 3) then (if inN x 2 then (nI (tS T (3 + idx x) (idx k)), st' T 0) else (-1, st' T 5)) else (-1, st' T 2)
def sp_sitter (k x : Int32) (T : TT) : AN := if inN k (tS T 0 4) then (if inN x 5 then (nI (if idx x = 4 then hghN (tS T) (idx k) else tS T (5 + idx x) (idx k)), st' T 0) else (-1, st' T 5)) else (-1, st' T 2)
def sp_news (k x : Int32) (T : TT) : AN := if inN k (tS T 0 5) then (if inN x 3 then (nI (tS T (9 + idx x) (idx k)), st' T 0) else (-1, st' T 5)) else (-1, st' T 2)
def sp_day (n : Int32) (T : TT) : AN := if 1 ≤ n.toInt ∧ n.toInt ≤ 999 then (if (tS T 0 1 : Int) + n.toInt ≤ 9999 then (nI (downN (dayN (tS T) (idx n))), st' (sS T (dayN (tS T) (idx n))) 0) else (-1, st' T 7)) else (-1, st' T 5)
def canN (S : ST) (i : Nat) : Prop := S 11 i = 0 ∧ S 2 (S 9 i) < 100
def sp_bring (k : Int32) (T : TT) : AN := if inN k (tS T 0 5) then (if tS T 11 (idx k) = 0 ∧ tS T 2 (tS T 9 (idx k)) < 100 then (nI (comeN (tS T) (idx k) 2 (tS T 9 (idx k))), st' (sS T (comeN (tS T) (idx k))) 0) else (-1, st' T 9)) else (-1, st' T 2)
def sp_crisis (k n : Int32) (T : TT) : AN := if inN k (tS T 0 2) then (if 1 ≤ n.toInt ∧ n.toInt ≤ 100 then (if tS T 2 (idx k) = 0 then (-1, st' T 9) else (nI (tS T 2 (idx k) - idx n), st' (sS T (hupd (tS T) (idx k) (tS T 2 (idx k) - idx n))) 0)) else (-1, st' T 5)) else (-1, st' T 2)
def sp_turn (p k : Int32) (T : TT) : AN := if inN p (tS T 0 4) ∧ inN k (tS T 0 2) then (if tS T 7 (idx p) = idx k then (-1, st' T 9) else (nI (hghN (upS2 (tS T) 7 (idx p) (idx k)) (idx p)), st' (sS T (upS2 (tS T) 7 (idx p) (idx k))) 0)) else (-1, st' T 2)
def sp_sit (a b k : Int32) (T : TT) : AN := if inN k (tS T 0 2) then (if inN a 60 ∧ 1 ≤ b.toInt ∧ b.toInt ≤ 99 then (if tS T 0 4 = 7 then (-1, st' T 7) else (nI (tS T 0 4), st' (sW T (addSN (tS T) (idx a) (idx b) (idx k) 1, upN (tN T) 1 (tS T 0 4) 0, tY T)) 0)) else (-1, st' T 5)) else (-1, st' T 2)
def sp_hear (k z : Int32) (T : TT) : AN := if inN k (tS T 0 2) then (if 1 ≤ z.toInt ∧ z.toInt ≤ 100 then (if tS T 0 5 = 8 then (-1, st' T 7) else (nI (tS T 0 5), st' (sS T (addNN (tS T) (idx k) (idx z))) 0)) else (-1, st' T 5)) else (-1, st' T 2)
def boundN (S : ST) (a b : Nat) : Bool := (List.range (S 0 3)).any (fun i => S 3 i == a && S 4 i == b)
def sp_bind (k b : Int32) (T : TT) : AN := if inN k (tS T 0 2) ∧ inN b (tS T 0 2) then (if idx k = idx b then (-1, st' T 5) else if tS T 0 3 = 10 then (-1, st' T 7) else if boundN (tS T) (idx k) (idx b) then (-1, st' T 9) else (nI (tS T 0 3), st' (sS T (addHN (tS T) (idx k) (idx b))) 0)) else (-1, st' T 2)
def sp_loose (k : Int32) (T : TT) : AN := if inN k (tS T 0 3) then (nI (tS T 0 3 - 1), st' (sS T (dropN (tS T) (idx k))) 0) else (-1, st' T 2)
def sp_hurry (k p : Int32) (T : TT) : AN := if inN k (tS T 0 2) then (if inN p 21 then (nI (tS T 1 (idx k)), st' (sS T (upS2 (tS T) 1 (idx k) (idx p))) 0) else (-1, st' T 5)) else (-1, st' T 2)
def sp_rule (x : Int32) (T : TT) : AN := if inN x 17 then (nI 1, st' (sS T (upS2 (tS T) 0 0 (idx x))) 0) else (nI 0, st' T 5)
def sp_fault (x : Int32) (T : TT) : AN := (if x.toInt = 0 then (tF T).1 else if x.toInt = 1 then (tF T).2 else -1, T)
theorem keM_st (M : Mm) (j : Nat) (x : Int32) : keM M (siM M 0 j x) := ⟨fun k hk => funext fun i => siN rfl (by omega), fun _ _ => rfl⟩
/-- the end of a call that writes its STATUS alone -/
theorem fin_st {Q : Option Value → Mm → Prop} {M : Mm} {T : TT} {p : AN} {v : Int32} {n : Nat} (hQ : ∀ M', IX M' p.2 → keM M M' → Q (some (.int p.1)) M') (hI : IX M T) (e : p = (v, st' T n)) : Q (some (.int v)) (siM M 0 0 (nI n)) := by
  subst e
  exact hQ _ (IX_st hI n) (keM_st M 0 _)

theorem came_bit {S : ST} (hF : WF S) {i : Nat} (hi : i < S 0 5) : (bsN (fun j => S 11 j == 1) (S 0 5)).testBit i = false ↔ S 11 i = 0 := by
  rw [bsN_bit]
  have := WF_came hF i hi
  simp [hi]
  omega
theorem IX_w {M M1 : Mm} {T : TT} {W' : WD} (h : IX M T) (hk : (tK T).1 ≤ 3) (hW : WX 17 M1 W') (he : ∀ k, (k < 17 ∨ 37 ≤ k) → M1.1 k = M.1 k) (he2 : ∀ k, (k < 17 ∨ 37 ≤ k) → M1.2 k = M.2 k) : IX M1 (sW T W') := by
  obtain ⟨h1, h2, h3, h4, h5, h6, h7, h8⟩ := h
  refine ⟨hW, fun t ht => ?_, ?_, ?_, ?_, ?_, ?_, fun i hi => WX_eq (h8 i hi) (fun q _ b => he q (by omega)) (fun q _ b => he2 q (by omega))⟩
  · rw [he 8 (by omega), he 9 (by omega), he2 (4 + t) (by omega)]; exact h2 t ht
  · rw [he 0 (by omega), he 1 (by omega)]; exact h3
  · rw [he 0 (by omega), he2 0 (by omega)]; exact h4
  · rw [he 10 (by omega)]; exact h5
  · rw [he 0 (by omega), he 120 (by omega)]; exact h6
  · rw [he 0 (by omega)]; exact h7
theorem WX_s {M M1 : Mm} {W : WD} {S' : ST} (h : WX 17 M W) (hV : VX 17 M1 S') (c2 : S' 0 2 = W.1 0 2) (c4 : S' 0 4 = W.1 0 4) (he : ∀ k, 30 ≤ k → k < 37 → M1.1 k = M.1 k) (he2 : M1.2 = M.2) : WX 17 M1 (S', W.2) :=
  ⟨hV, ⟨fun j hj => by rw [he2]; exact h.2.1.1 j (by rw [← c2]; exact hj), fun j hj => by rw [he2]; exact h.2.1.2 j (by rw [← c4]; exact hj)⟩, YX_eq h.2.2 (fun k a b => he k (by omega) (by omega))⟩
/-- the end of a call that changes the wood's numbers -/
theorem fin_s {Q : Option Value → Mm → Prop} {M M1 : Mm} {T : TT} {p : AN} {v : Int32} {n : Nat} {S' : ST} (hQ : ∀ M', IX M' p.2 → keM M M' → Q (some (.int p.1)) M') (hI : IX M T) (hG : TG T) (e : p = (v, st' (sS T S') n)) (hV : VX 17 M1 S') (c2 : S' 0 2 = tS T 0 2) (c4 : S' 0 4 = tS T 0 4) (he : ∀ k, (k < 17 ∨ 30 ≤ k) → M1.1 k = M.1 k) (he2 : M1.2 = M.2) : Q (some (.int v)) (siM M1 0 0 (nI n)) := by
  subst e
  refine hQ _ (IX_st (IX_w hI hG.2.2.2.2.2.1 (WX_s hI.1 hV c2 c4 (fun k a b => he k (by omega)) he2) (fun k hk => he k (by omega)) (fun k _ => by rw [he2])) n) ⟨fun k hk => ?_, fun k hk => by rw [← he2]; rfl⟩
  rw [(keM_st M1 0 (nI n)).1 k hk]
  exact he k (by omega)

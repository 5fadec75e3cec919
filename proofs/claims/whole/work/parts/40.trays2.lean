theorem n_dec {mi : MI} {d : Nat} {X : CX} {pc : Nat} {L : List (Nat × Option Value)} {st : List Value} {M : Mm} {k c a : Nat} {n : Int} (hv : lkA L k = some (.int (nI a))) (hc : nI c + Int32.ofInt n = 0) (hca : c ≤ a) (hn : k < mi.2.2.1) (hk : nlA L k = true) (hd : decode mi.2.1 pc = .ok (.iinc k n, 3)) (kk : AW mi d X (pc + 3) ((k, some (.int (nI (a - c)))) :: L) st M) : AW mi d X pc L st M := by
  refine a_iinc hv hn hk hd ?_
  rw [show nI a + Int32.ofInt n = nI (a - c) by rw [show nI a = nI (a - c) + nI c by rw [nI_add]; congr 1; omega, Int32.add_assoc, hc, Int32.add_zero]]
  exact kk
theorem i32_sub {x y : Int32} (h1 : -2147483648 ≤ x.toInt - y.toInt) (h2 : x.toInt - y.toInt < 2147483648) : (x - y).toInt = x.toInt - y.toInt := by
  rw [Int32.toInt_sub, Int.bmod_eq_of_le (by omega) (by omega)]
theorem nI_ofI {x : Int32} (h : 0 ≤ x.toInt) : ∃ j, j < 2 ^ 31 ∧ x = nI j := by
  refine ⟨x.toInt.toNat, ?_, ?_⟩
  · have := Int32.toInt_lt x; omega
  · apply Int32.toInt_inj.mp
    rw [nI_toInt (by have := Int32.toInt_lt x; omega)]; omega
theorem sl_all0 {M : Mm} {k i : Nat} {v : Int64} (h : ∀ j, j < i → M.2 k j = v) : ∀ j, j < i + 1 → (slM M k i v).2 k j = v := by
  intro j hj
  by_cases e : j = i
  · subst e; exact slS
  · exact slN (h j (by omega)) (by omega)
theorem sl_all {M : Mm} {k i b : Nat} {v : Int64} (h : ∀ j, j < i → M.2 k (b + j) = v) : ∀ j, j < i + 1 → (slM M k (b + i) v).2 k (b + j) = v := by
  intro j hj
  by_cases e : j = i
  · subst e; exact slS
  · exact slN (h j (by omega)) (by omega)
/-- how long a TRAY is, -1 if it is MISSING -/
def lenI (R : TRY) (t : Nat) : Int := match R.2.1 t with
  | none => -1
  | some n => n
theorem lenI_le {R : TRY} (h : RG R) {t : Nat} (ht : t < 4) : -1 ≤ lenI R t ∧ lenI R t ≤ 60 := by
  unfold lenI
  cases e : R.2.1 t with
  | none => exact ⟨by decide, by decide⟩
  | some n => have := (h t ht).2 n e; exact ⟨by show (-1 : Int) ≤ (n : Int); omega, by show (n : Int) ≤ 60; omega⟩
theorem toInt_m1 {x : Int32} (h : x = -1) : x.toInt = -1 := by rw [h]; decide
theorem RX_len {M : Mm} {R : TRY} (h : RX M R) (hG : RG R) {t : Nat} (ht : t < 4) : (M.1 9 t).toInt = lenI R t := by
  unfold lenI
  cases e : R.2.1 t with
  | none => exact toInt_m1 ((h t ht).2.1 e)
  | some n => have := (hG t ht).2 n e; rw [((h t ht).2.2 n e).1, nI_toInt (by omega)]
theorem RX_sort {M : Mm} {R : TRY} (h : RX M R) {t : Nat} (ht : t < 4) : M.1 8 t = nI (R.1 t) := (h t ht).1
theorem RX_dat {M : Mm} {R : TRY} (h : RX M R) {t j : Nat} (ht : t < 4) (hj : (j : Int) < lenI R t) : M.2 (4 + t) j = R.2.2 t j := by
  unfold lenI at hj
  cases e : R.2.1 t with
  | none => rw [e] at hj; have hj : (j : Int) < -1 := hj; omega
  | some n => rw [e] at hj; have hj : (j : Int) < n := hj; exact ((h t ht).2.2 n e).2 j (by omega)
theorem RX_mk {M : Mm} {R : TRY} (hG : RG R) (h1 : ∀ t, t < 4 → M.1 8 t = nI (R.1 t)) (h2 : ∀ t, t < 4 → (M.1 9 t).toInt = lenI R t) (h3 : ∀ t j : Nat, t < 4 → (j : Int) < lenI R t → M.2 (4 + t) j = R.2.2 t j) : RX M R := by
  intro t ht
  have a := h2 t ht
  refine ⟨h1 t ht, fun e => ?_, fun n e => ⟨?_, fun j hj => h3 t j ht (by unfold lenI; rw [e]; show (j : Int) < n; omega)⟩⟩
  · unfold lenI at a
    rw [e] at a
    apply Int32.toInt_inj.mp
    rw [a]; decide
  · unfold lenI at a
    rw [e] at a
    have := (hG t ht).2 n e
    apply Int32.toInt_inj.mp
    rw [a, nI_toInt (by omega)]
theorem RM_len {M : Mm} {R : TRY} (h : RM M R) (hG : RG R) {t : Nat} (ht : t < 4) : (M.1 134 t).toInt = lenI R t := by
  unfold lenI
  cases e : R.2.1 t with
  | none => exact toInt_m1 ((h t ht).2.1 e)
  | some n => have := (hG t ht).2 n e; rw [((h t ht).2.2 n e).1, nI_toInt (by omega)]
theorem RM_sort {M : Mm} {R : TRY} (h : RM M R) {t : Nat} (ht : t < 4) : M.1 133 t = nI (R.1 t) := (h t ht).1
theorem RM_dat {M : Mm} {R : TRY} (h : RM M R) {t j : Nat} (ht : t < 4) (hj : (j : Int) < lenI R t) : M.2 135 (60 * t + j) = R.2.2 t j := by
  unfold lenI at hj
  cases e : R.2.1 t with
  | none => rw [e] at hj; have hj : (j : Int) < -1 := hj; omega
  | some n => rw [e] at hj; have hj : (j : Int) < n := hj; exact ((h t ht).2.2 n e).2 j (by omega)
theorem RM_mk {M : Mm} {R : TRY} (hG : RG R) (h1 : ∀ t, t < 4 → M.1 133 t = nI (R.1 t)) (h2 : ∀ t, t < 4 → (M.1 134 t).toInt = lenI R t) (h3 : ∀ t j : Nat, t < 4 → (j : Int) < lenI R t → M.2 135 (60 * t + j) = R.2.2 t j) : RM M R := by
  intro t ht
  have a := h2 t ht
  refine ⟨h1 t ht, fun e => ?_, fun n e => ⟨?_, fun j hj => h3 t j ht (by unfold lenI; rw [e]; show (j : Int) < n; omega)⟩⟩
  · unfold lenI at a
    rw [e] at a
    apply Int32.toInt_inj.mp
    rw [a]; decide
  · unfold lenI at a
    rw [e] at a
    have := (hG t ht).2 n e
    apply Int32.toInt_inj.mp
    rw [a, nI_toInt (by omega)]
/-- the end of a call of the class's that changes a TRAY -/
theorem fin_R {Q : Option Value → Mm → Prop} {M M1 : Mm} {T : TT} {p : AN} {v : Int32} {n : Nat} {R' : TRY} (hQ : ∀ M', IX M' p.2 → keM M M' → Q (some (.int p.1)) M') (hI : IX M T) (e : p = (v, st' (sR T R') n)) (hR : RX M1 R') (hf : fr (fun k _ => 4 ≤ k ∧ k ≤ 9) M M1) : Q (some (.int v)) (siM M1 0 0 (nI n)) := by
  subst e
  obtain ⟨h1, h2, h3, h4, h5, h6, h7, h8⟩ := hI
  have hf2 : fr (fun k j => (4 ≤ k ∧ k ≤ 9) ∨ (k = 0 ∧ j = 0)) M (siM M1 0 0 (nI n)) := (hf.mo (fun k j h => Or.inl h)).si (by omega)
  refine hQ _ ⟨WX_fr h1 hf2 (fun k j a b => by omega), ?_, ?_, ?_, ?_, ?_, hf2.i h7 (by omega), fun i hi => WX_fr (h8 i hi) hf2 (fun k j a b => by omega)⟩ (keM_fr hf2 (fun k j h => by omega))
  · unfold RX at hR ⊢
    rw [show (siM M1 0 0 (nI n)).1 8 = M1.1 8 from funext fun j => siN rfl (by omega), show (siM M1 0 0 (nI n)).1 9 = M1.1 9 from funext fun j => siN rfl (by omega)]
    exact hR
  · exact ⟨hf2.i h3.1 (by omega), fun j hj => hf2.i (h3.2 j hj) (by omega)⟩
  · exact ⟨siS, hf2.l h4.2.1 (by omega), hf2.l h4.2.2 (by omega)⟩
  · exact ⟨hf2.i h5.1 (by omega), hf2.i h5.2 (by omega)⟩
  · exact ⟨hf2.i h6.1 (by omega), fun q j hj => hf2.i (h6.2 q j hj) (by omega)⟩
theorem fin_RM {Q : Option Value → Mm → Prop} {M M1 : Mm} {T : TT} {p : AN} {v : Int32} {n : Nat} {R' : TRY} (hQ : ∀ M', IM M' p.2 → keX M M' → Q (some (.int p.1)) M') (hI : IM M T) (hG : TG T) (e : p = (v, st' (sR T R') n)) (hR : RM M1 R') (hst : M1.1 132 0 = nI n) (hf : fr (fun k j => (133 ≤ k ∧ k ≤ 135) ∨ (k = 132 ∧ (j = 0 ∨ j = 1))) M M1) : Q (some (.int v)) M1 := by
  subst e
  obtain ⟨h1, h2, h3, h4, h5, h6, h7, h8⟩ := hI
  refine hQ _ ⟨WM_fr h1 hG.1 hf (fun j a b => by omega) (fun j a b => by omega), hR, ?_, ?_, ?_, ?_, hf.i h7 (by omega), fun i hi => WM_fr (h8 i hi) (hG.2.2.2.2.2.2.1 i hi) hf (fun j a b => by omega) (fun j a b => by omega)⟩ (keX_fr hf (fun k j h => by omega))
  · exact ⟨hf.i h3.1 (by omega), fun j hj => hf.i (h3.2 j hj) (by omega)⟩
  · exact ⟨hst, hf.l h4.2.1 (by omega), hf.l h4.2.2 (by omega)⟩
  · exact ⟨hf.i h5.1 (by omega), hf.i h5.2 (by omega)⟩
  · exact ⟨hf.i h6.1 (by omega), fun q j hj => hf.i (h6.2 q j hj) (by omega)⟩
/-- what is written into a TRAY of a sort -/
def cutN (s : Nat) (v : Int64) : Int64 := if s = 0 then v.toInt32.toInt8.toInt32.toInt64 else if s = 1 then v.toInt32.toInt16.toInt32.toInt64 else if s = 2 then v.toInt32.toInt64 else v
def whyN (R : TRY) (x p : Int32) (c : Nat) : Nat := if inN x 4 then (if lenI R (idx x) < 0 then 3 else if 0 ≤ p.toInt ∧ p.toInt + c ≤ lenI R (idx x) then 0 else 4) else 1
theorem whyN_le (R : TRY) (x p : Int32) (c : Nat) : whyN R x p c ≤ 4 := by unfold whyN; split <;> (try split) <;> (try split) <;> omega
theorem whyN_0 {R : TRY} {x p : Int32} {c : Nat} (h : whyN R x p c = 0) : inN x 4 ∧ 0 ≤ p.toInt ∧ p.toInt + c ≤ lenI R (idx x) := by
  unfold whyN at h
  split at h
  · split at h
    · omega
    · split at h
      · exact ⟨by assumption, by omega, by omega⟩
      · omega
  · omega
theorem idx_of {x : Int32} {j : Nat} (h : x.toInt = j) : idx x = j := by unfold idx; omega
/-- a TRAY's data as they become -/
def putR (R : TRY) (t p : Nat) (v : Int64) : TRY := (R.1, R.2.1, fun a b => if a = t ∧ b = p then v else R.2.2 a b)
def layR (R : TRY) (t s n : Nat) : TRY := (fun a => if a = t then s else R.1 a, fun a => if a = t then some n else R.2.1 a, fun a b => if a = t then 0 else R.2.2 a b)
def pourR (R : TRY) (a i b j n : Nat) : TRY := (R.1, R.2.1, fun t k => if t = b ∧ j ≤ k ∧ k < j + n then R.2.2 a (i + (k - j)) else R.2.2 t k)
def chR (R : TRY) (S : ST) (t n : Nat) : TRY := (R.1, R.2.1, fun a b => if a = t ∧ b < n then cutN (R.1 t) (nI (hghN S b)).toInt64 else R.2.2 a b)
theorem RG_lay {R : TRY} (h : RG R) {t s n : Nat} (hs : s ≤ 3) (hn : n ≤ 60) : RG (layR R t s n) := by
  intro a ha
  by_cases e : a = t
  · simp only [layR, if_pos e]
    exact ⟨hs, fun q hq => by cases hq; exact hn⟩
  · simp only [layR, if_neg e]
    exact h a ha
theorem RX_put {M : Mm} {R : TRY} (hG : RG R) (h : RX M R) {t p : Nat} {v : Int64} : RX (slM M (4 + t) p v) (putR R t p v) := by
  refine RX_mk (R := putR R t p v) hG (fun a ha => RX_sort h ha) (fun a ha => RX_len h hG ha) (fun a j ha hj => ?_)
  show _ = if a = t ∧ j = p then v else R.2.2 a j
  by_cases e : a = t ∧ j = p
  · obtain ⟨rfl, rfl⟩ := e
    rw [if_pos ⟨rfl, rfl⟩]; exact slS
  · rw [if_neg e]
    exact slN (RX_dat h ha hj) (by omega)
theorem RM_put {M : Mm} {R : TRY} (hG : RG R) (h : RM M R) {t p : Nat} {v : Int64} (hp : p < 60) : RM (slM M 135 (60 * t + p) v) (putR R t p v) := by
  refine RM_mk (R := putR R t p v) hG (fun a ha => RM_sort h ha) (fun a ha => RM_len h hG ha) (fun a j ha hj => ?_)
  show _ = if a = t ∧ j = p then v else R.2.2 a j
  have h60 := (lenI_le hG ha).2
  have hj : (j : Int) < lenI R a := hj
  by_cases e : a = t ∧ j = p
  · obtain ⟨rfl, rfl⟩ := e
    rw [if_pos ⟨rfl, rfl⟩]; exact slS
  · rw [if_neg e]
    exact slN (RM_dat h ha hj) (by omega)
theorem tr_hk {t : Nat} (h : t < 4) : 4 + t < nC := Nat.lt_of_lt_of_le (Nat.add_lt_add_left h 4) (by decide)
theorem tr_hc {t : Nat} (h : t < 4) : layC (4 + t) = .inr (2, 60, fun _ => 0) := by
  rcases (show t = 0 ∨ t = 1 ∨ t = 2 ∨ t = 3 by omega) with rfl | rfl | rfl | rfl <;> rfl
abbrev ANl : Type := Int64 × TT
def sp_tray (x s n : Int32) (T : TT) : AN := if inN x 4 ∧ inN s 4 then (if 60 < n.toInt then (nI 0, st' T 5) else if n.toInt < 0 then (nI 0, st' T 6) else (nI 1, st' (sR T (layR (tR T) (idx x) (idx s) (idx n))) 0)) else (nI 0, st' T 1)
def sp_write (x p : Int32) (v : Int64) (T : TT) : AN := if whyN (tR T) x p 1 = 0 then (nI 1, st' (sR T (putR (tR T) (idx x) (idx p) (cutN ((tR T).1 (idx x)) v))) 0) else (nI 0, st' T (whyN (tR T) x p 1))
def sp_read (x p : Int32) (T : TT) : ANl := if whyN (tR T) x p 1 = 0 then ((tR T).2.2 (idx x) (idx p), st' T 0) else (-1, st' T (whyN (tR T) x p 1))
def sp_pour (a i b j n : Int32) (T : TT) : AN :=
  if inN a 4 ∧ inN b 4 then (if lenI (tR T) (idx a) < 0 ∨ lenI (tR T) (idx b) < 0 then (nI 0, st' T 3) else if (tR T).1 (idx a) = (tR T).1 (idx b) then (if n.toInt < 0 then (nI 0, st' T 6) else
    if (0 ≤ i.toInt ∧ i.toInt + n.toInt ≤ lenI (tR T) (idx a)) ∧ 0 ≤ j.toInt ∧ j.toInt + n.toInt ≤ lenI (tR T) (idx b) then (nI 1, st' (sR T (pourR (tR T) (idx a) (idx i) (idx b) (idx j) (idx n))) 0) else (nI 0, st' T 4)) else (nI 0, st' T 11)) else (nI 0, st' T 1)
def sp_copyHeights (x : Int32) (T : TT) : AN := if whyN (tR T) x (nI 0) (tS T 0 4) = 0 then (nI (tS T 0 4), st' (sR T (chR (tR T) (tS T) (idx x) (tS T 0 4))) 0) else (-1, st' T (whyN (tR T) x (nI 0) (tS T 0 4)))

set_option maxRecDepth 100000 in
set_option maxHeartbeats 800000 in
theorem c_X5_isMissing {M : Mm} {R : TRY} (hR : RX M R) (hG : RG R) {t : Nat} (ht : t < 4) {Q : Option Value → Mm → Prop} (h1 : lenI R t < 0 → Q (some (.int (nI 1))) M) (h0 : 0 ≤ lenI R t → Q (some (.int (nI 0))) M) (d : Nat) : AMt miX5_isMissing (d) [.ref 2, .int (nI t)] M Q := by
  refine AMt.of (by decide) (Nat.le_of_ble_eq_true rfl) ?_
  show AW miX5_isMissing (d) (mxA Q) 0 [(0, some (.ref 2)), (1, some (.int (nI t)))] [] M
  have hl := RX_len hR hG ht
  have hle := lenI_le hG ht
  refine a_aload_n rfl dX5_isMissing_0 ?_
  refine a_geta dX5_isMissing_1 fX5_20 (by decide) rfl rfl ?_
  refine a_iload_n rfl dX5_isMissing_4 ?_
  refine n_iald (by omega) (by decide) rfl (by decide) dX5_isMissing_5 ?_
  refine a_iconst (-1) rfl dX5_isMissing_6 ?_
  have hm1 : (-1 : Int32).toInt = -1 := by decide
  refine u_icmp_ne 14 dX5_isMissing_7 (by decide) (fun h_7 => ?_) (fun h_7 => ?_)
  · refine n_iconst 0 rfl dX5_isMissing_14 ?_
    refine a_zret dX5_isMissing_15 rfl (Or.inl rfl) ?_
    exact h0 (by omega)
  · refine n_iconst 1 rfl dX5_isMissing_10 ?_
    refine a_goto 15 dX5_isMissing_11 (by decide) ?_
    refine a_zret dX5_isMissing_15 rfl (Or.inr rfl) ?_
    exact h1 (by omega)

set_option maxRecDepth 100000 in
set_option maxHeartbeats 800000 in
theorem c_X5_has {M : Mm} {R : TRY} (hR : RX M R) (hG : RG R) {t c : Nat} (ht : t < 4) (hc31 : c < 2 ^ 31) {p : Int32} {Q : Option Value → Mm → Prop} (h1 : 0 ≤ p.toInt → p.toInt + c ≤ lenI R t → Q (some (.int (nI 1))) M) (h0 : ¬ (0 ≤ p.toInt ∧ p.toInt + c ≤ lenI R t) → Q (some (.int (nI 0))) M) (d : Nat) : AMt miX5_has (d) [.ref 2, .int (nI t), .int p, .int (nI c)] M Q := by
  refine AMt.of (by decide) (Nat.le_of_ble_eq_true rfl) ?_
  show AW miX5_has (d) (mxA Q) 0 [(0, some (.ref 2)), (1, some (.int (nI t))), (2, some (.int p)), (3, some (.int (nI c)))] [] M
  have hl := RX_len hR hG ht
  have hle := lenI_le hG ht
  refine a_iload_n rfl dX5_has_0 ?_
  refine r_if_lt 30 dX5_has_1 (by decide) (fun h_1 => ?_) (fun h_1 => ?_)
  · refine n_iconst 0 rfl dX5_has_30 ?_
    refine a_zret dX5_has_31 rfl (Or.inl rfl) ?_
    exact h0 (by omega)
  · refine a_iload_n rfl dX5_has_4 ?_
    refine a_aload_n rfl dX5_has_5 ?_
    refine a_geta dX5_has_6 fX5_20 (by decide) rfl rfl ?_
    refine a_iload_n rfl dX5_has_9 ?_
    refine n_iald (by omega) (by decide) rfl (by decide) dX5_has_10 ?_
    refine s_icmp_gt 30 (by omega) dX5_has_11 (by decide) (fun h_11 => ?_) (fun h_11 => ?_)
    · refine n_iconst 0 rfl dX5_has_30 ?_
      refine a_zret dX5_has_31 rfl (Or.inl rfl) ?_
      exact h0 (by omega)
    · refine a_iload_n rfl dX5_has_14 ?_
      refine a_aload_n rfl dX5_has_15 ?_
      refine a_geta dX5_has_16 fX5_20 (by decide) rfl rfl ?_
      refine a_iload_n rfl dX5_has_19 ?_
      refine n_iald (by omega) (by decide) rfl (by decide) dX5_has_20 ?_
      refine a_iload_n rfl dX5_has_21 ?_
      have htc : (nI c).toInt = (c : Int) := nI_toInt hc31
      have hsb := i32_sub (x := M.1 9 t) (y := nI c) (by omega) (by omega)
      refine a_isub dX5_has_22 ?_
      refine u_icmp_gt 30 dX5_has_23 (by decide) (fun h_23 => ?_) (fun h_23 => ?_)
      · refine n_iconst 0 rfl dX5_has_30 ?_
        refine a_zret dX5_has_31 rfl (Or.inl rfl) ?_
        exact h0 (by omega)
      · refine n_iconst 1 rfl dX5_has_26 ?_
        refine a_goto 31 dX5_has_27 (by decide) ?_
        refine a_zret dX5_has_31 rfl (Or.inr rfl) ?_
        exact h1 (by omega) (by omega)

set_option maxRecDepth 100000 in
set_option maxHeartbeats 800000 in
theorem c_J7_fill_d0a16 {M : Mm} {k : Nat} (hk : k < nC) (hc : layC k = .inr (2, 60, fun _ => 0)) {v : Int64} {Q : Option Value → Mm → Prop} (hQ : ∀ M', (∀ j, j < 60 → M'.2 k j = v) → fr (fun q _ => q = k) M M' → Q none M') (d : Nat) : AMt miJ7_fill_d0a16 (d) [.ref k, .long v] M Q := by
  refine AMt.of (by decide) (Nat.le_of_ble_eq_true rfl) ?_
  show AW miJ7_fill_d0a16 (d) (mxA Q) 0 [(0, some (.ref k)), (1, some (.long v))] [] M
  refine n_iconst 0 rfl dJ7_fill_d0a16_0 ?_
  refine a_istore_n (by decide) rfl dJ7_fill_d0a16_1 ?_
  refine a_aload_n rfl dJ7_fill_d0a16_2 ?_
  refine a_alen dJ7_fill_d0a16_3 hk hc (by decide) ?_
  refine a_istore (by decide) rfl dJ7_fill_d0a16_4 ?_
  have loop_6 : ∀ i, i ≤ 60 → ∀ M1, ((∀ j, j < i → (M1).2 k j = v) ∧ fr (fun q _ => q = k) M M1) → AW miJ7_fill_d0a16 (d) (mxA Q) 6 [(0, some (.ref k)), (1, some (.long v)), (3, some (.int (nI i))), (4, some (.int (nI 60)))] [] M1 := by
    refine up (W := fun i => ∀ M1, ((∀ j, j < i → (M1).2 k j = v) ∧ fr (fun q _ => q = k) M M1) → AW miJ7_fill_d0a16 (d) (mxA Q) 6 [(0, some (.ref k)), (1, some (.long v)), (3, some (.int (nI i))), (4, some (.int (nI 60)))] [] M1) 60 (fun M1 hI_6 => ?_) (fun i hi_6 ih_6 M1 hI_6 => ?_)
    · refine a_iload_n rfl dJ7_fill_d0a16_6 ?_
      refine a_iload rfl dJ7_fill_d0a16_7 ?_
      refine n_icmp_ge 22 (by omega) (by omega) dJ7_fill_d0a16_9 (by decide) (fun h_9 => ?_) (fun h_9 => absurd h_9 (by omega))
      refine a_vret dJ7_fill_d0a16_22 rfl ?_
      exact hQ _ hI_6.1 hI_6.2
    · refine a_iload_n rfl dJ7_fill_d0a16_6 ?_
      refine a_iload rfl dJ7_fill_d0a16_7 ?_
      refine n_icmp_ge 22 (by omega) (by omega) dJ7_fill_d0a16_9 (by decide) (fun h_9 => absurd h_9 (by omega)) (fun h_9 => ?_)
      refine a_aload_n rfl dJ7_fill_d0a16_12 ?_
      refine a_iload_n rfl dJ7_fill_d0a16_13 ?_
      refine a_lload_n rfl dJ7_fill_d0a16_14 ?_
      refine n_last (by omega) hk hc (by decide) dJ7_fill_d0a16_15 ?_
      refine n_iinc (c := 1) rfl rfl (by decide) rfl dJ7_fill_d0a16_16 ?_
      refine a_goto 6 dJ7_fill_d0a16_19 (by decide) ?_
      exact a_bk (ih_6 _ ⟨sl_all0 hI_6.1, hI_6.2.sl rfl⟩) ⟨rfl, rfl, rfl, rfl, trivial⟩
  exact a_bk (loop_6 0 (by omega) _ ⟨fun j hj => absurd hj (by omega), fr.r⟩) ⟨rfl, rfl, rfl, rfl, trivial⟩

set_option maxRecDepth 100000 in
set_option maxHeartbeats 800000 in
theorem c_X5_lay {M : Mm} {t a n : Nat} (ht : t < 4) {Q : Option Value → Mm → Prop} (hQ : ∀ M', (∀ j, j < 60 → M'.2 (4 + t) j = 0) → M'.1 8 t = nI a → M'.1 9 t = nI n → fr (fun k j => k = 4 + t ∨ (8 ≤ k ∧ k ≤ 9 ∧ j = t)) M M' → Q none M') (d : Nat) : AMt miX5_lay (d + 1) [.ref 2, .int (nI t), .int (nI a), .int (nI n)] M Q := by
  refine AMt.of (by decide) (Nat.le_of_ble_eq_true rfl) ?_
  show AW miX5_lay (d + 1) (mxA Q) 0 [(0, some (.ref 2)), (1, some (.int (nI t))), (2, some (.int (nI a))), (3, some (.int (nI n)))] [] M
  refine a_aload_n rfl dX5_lay_0 ?_
  refine a_geta dX5_lay_1 fX5_11 (by decide) rfl rfl ?_
  refine a_iload_n rfl dX5_lay_4 ?_
  refine n_aald (by omega) (by decide) rfl (Or.inl rfl) (by decide) dX5_lay_5 ?_
  refine a_lconst 0 rfl dX5_lay_6 ?_
  refine n_callS (mi' := miJ7_fill_d0a16) dX5_lay_7 lX5_29 mJ7_fill_d0a16 (c_J7_fill_d0a16 (tr_hk (by omega)) (tr_hc (by omega)) (fun M_7 hz_7 hf_7 => ?_) d) rfl rfl (by omega) (by decide) (Nat.le_of_ble_eq_true rfl)
  show AW _ _ _ _ _ _ _
  refine a_aload_n rfl dX5_lay_10 ?_
  refine a_geta dX5_lay_11 fX5_16 (by decide) rfl rfl ?_
  refine a_iload_n rfl dX5_lay_14 ?_
  refine a_iload_n rfl dX5_lay_15 ?_
  refine n_iast (by omega) (by decide) rfl (by decide) dX5_lay_16 ?_
  refine a_aload_n rfl dX5_lay_17 ?_
  refine a_geta dX5_lay_18 fX5_20 (by decide) rfl rfl ?_
  refine a_iload_n rfl dX5_lay_21 ?_
  refine a_iload_n rfl dX5_lay_22 ?_
  refine n_iast (by omega) (by decide) rfl (by decide) dX5_lay_23 ?_
  refine a_vret dX5_lay_24 rfl ?_
  exact hQ _ hz_7 (siN siS (by omega)) siS (((hf_7.mo (fun k j h => Or.inl h)).si (by omega)).si (by omega))

set_option maxRecDepth 100000 in
set_option maxHeartbeats 800000 in
theorem c_X5_whyNot {M : Mm} {R : TRY} (hR : RX M R) (hG : RG R) {x p : Int32} {c : Nat} (hc31 : c < 2 ^ 31) {Q : Option Value → Mm → Prop} (hQ : Q (some (.int (nI (whyN R x p c)))) M) (d : Nat) : AMt miX5_whyNot (d + 1) [.ref 2, .int x, .int p, .int (nI c)] M Q := by
  refine AMt.of (by decide) (Nat.le_of_ble_eq_true rfl) ?_
  show AW miX5_whyNot (d + 1) (mxA Q) 0 [(0, some (.ref 2)), (1, some (.int x)), (2, some (.int p)), (3, some (.int (nI c)))] [] M
  refine a_iload_n rfl dX5_whyNot_0 ?_
  refine n_callS (mi' := miX5_isTray) dX5_whyNot_1 lX5_32 mX5_isTray (c_X5_isTray (fun ha_1 hb_1 => ?_) (fun h_1 => ?_) d) rfl rfl (by omega) (by decide) (Nat.le_of_ble_eq_true rfl)
  · show AW _ _ _ _ _ _ _
    refine n_if_ne 9 (by decide) dX5_whyNot_4 (by decide) (fun _ => ?_) (fun h => absurd h (by decide))
    obtain ⟨t, ht, rfl⟩ := inR_of (x := x) (m := 4) (by omega) (by omega) (by omega)
    have t_t : (nI t).toInt = (t : Int) := nI_toInt (by omega)
    have i_t : idx (nI t) = t := idx_nI (by omega)
    refine a_aload_n rfl dX5_whyNot_9 ?_
    refine a_iload_n rfl dX5_whyNot_10 ?_
    refine n_callV (mi' := miX5_isMissing) dX5_whyNot_11 lX5_36 mX5_isMissing (by decide) rfl rfl rfl (c_X5_isMissing hR hG (by omega) (fun h_11 => ?_) (fun h_11 => ?_) d) rfl rfl (by omega) (by decide) (Nat.le_of_ble_eq_true rfl)
    · show AW _ _ _ _ _ _ _
      refine n_if_eq 19 (by decide) dX5_whyNot_14 (by decide) (fun h => absurd h (by decide)) (fun _ => ?_)
      refine n_iconst 3 rfl dX5_whyNot_17 ?_
      refine a_iret dX5_whyNot_18 rfl ?_
      rw [show whyN R (nI t) p c = 3 by unfold whyN; rw [if_pos (by omega), i_t, if_pos (by omega)]] at hQ
      exact hQ
    · show AW _ _ _ _ _ _ _
      refine n_if_eq 19 (by decide) dX5_whyNot_14 (by decide) (fun _ => ?_) (fun h => absurd h (by decide))
      refine a_aload_n rfl dX5_whyNot_19 ?_
      refine a_iload_n rfl dX5_whyNot_20 ?_
      refine a_iload_n rfl dX5_whyNot_21 ?_
      refine a_iload_n rfl dX5_whyNot_22 ?_
      refine n_callV (mi' := miX5_has) dX5_whyNot_23 lX5_39 mX5_has (by decide) rfl rfl rfl (c_X5_has hR hG (by omega) (by omega) (fun ha_23 hb_23 => ?_) (fun h_23 => ?_) d) rfl rfl (by omega) (by decide) (Nat.le_of_ble_eq_true rfl)
      · show AW _ _ _ _ _ _ _
        refine n_if_eq 33 (by decide) dX5_whyNot_26 (by decide) (fun h => absurd h (by decide)) (fun _ => ?_)
        refine n_iconst 0 rfl dX5_whyNot_29 ?_
        refine a_goto 34 dX5_whyNot_30 (by decide) ?_
        refine a_iret dX5_whyNot_34 rfl ?_
        rw [show whyN R (nI t) p c = 0 by unfold whyN; rw [if_pos (by omega), i_t, if_neg (by omega), if_pos (by omega)]] at hQ
        exact hQ
      · show AW _ _ _ _ _ _ _
        refine n_if_eq 33 (by decide) dX5_whyNot_26 (by decide) (fun _ => ?_) (fun h => absurd h (by decide))
        refine n_iconst 4 rfl dX5_whyNot_33 ?_
        refine a_iret dX5_whyNot_34 rfl ?_
        rw [show whyN R (nI t) p c = 4 by unfold whyN; rw [if_pos (by omega), i_t, if_neg (by omega), if_neg (by omega)]] at hQ
        exact hQ
  · show AW _ _ _ _ _ _ _
    refine n_if_ne 9 (by decide) dX5_whyNot_4 (by decide) (fun h => absurd h (by decide)) (fun _ => ?_)
    refine n_iconst 1 rfl dX5_whyNot_7 ?_
    refine a_iret dX5_whyNot_8 rfl ?_
    rw [show whyN R x p c = 1 by unfold whyN; rw [if_neg (by omega)]] at hQ
    exact hQ

set_option maxRecDepth 100000 in
set_option maxHeartbeats 800000 in
theorem c_X5_put {M : Mm} {R : TRY} (hR : RX M R) (hG : RG R) {t p : Nat} {v : Int64} (ht : t < 4) (hp : p < 60) {Q : Option Value → Mm → Prop} (hQ : Q none (slM M (4 + t) p (cutN (R.1 t) v))) (d : Nat) : AMt miX5_put (d) [.ref 2, .int (nI t), .int (nI p), .long v] M Q := by
  refine AMt.of (by decide) (Nat.le_of_ble_eq_true rfl) ?_
  show AW miX5_put (d) (mxA Q) 0 [(0, some (.ref 2)), (1, some (.int (nI t))), (2, some (.int (nI p))), (3, some (.long v))] [] M
  have hs3 := (hG t ht).1
  refine a_aload_n rfl dX5_put_0 ?_
  refine a_geta dX5_put_1 fX5_16 (by decide) rfl rfl ?_
  refine a_iload_n rfl dX5_put_4 ?_
  refine v_iald (by omega) (RX_sort hR (by omega)) (by decide) rfl (by decide) dX5_put_5 ?_
  have hx_6 : (nI (R.1 t)).toInt = ((R.1 t : Nat) : Int) := nI_toInt (by omega)
  by_cases hs_6_0 : (nI (R.1 t)).toInt = 0
  · refine a_tabIn 32 dX5_put_6 (by omega) (by omega) (by rw [hs_6_0]; rfl) (by decide) ?_
    refine a_aload_n rfl dX5_put_32 ?_
    refine a_geta dX5_put_33 fX5_11 (by decide) rfl rfl ?_
    refine a_iload_n rfl dX5_put_36 ?_
    refine n_aald (by omega) (by decide) rfl (Or.inl rfl) (by decide) dX5_put_37 ?_
    refine a_iload_n rfl dX5_put_38 ?_
    refine a_lload_n rfl dX5_put_39 ?_
    refine a_l2i dX5_put_40 ?_
    refine a_i2b dX5_put_41 ?_
    refine a_i2l dX5_put_42 ?_
    refine n_last (by omega) (tr_hk (by omega)) (tr_hc (by omega)) (by decide) dX5_put_43 ?_
    refine a_goto 85 dX5_put_44 (by decide) ?_
    refine a_vret dX5_put_85 rfl ?_
    rw [show cutN (R.1 t) v = _ from by unfold cutN; rw [if_pos (by omega)]] at hQ
    exact hQ
  by_cases hs_6_1 : (nI (R.1 t)).toInt = 1
  · refine a_tabIn 47 dX5_put_6 (by omega) (by omega) (by rw [hs_6_1]; rfl) (by decide) ?_
    refine a_aload_n rfl dX5_put_47 ?_
    refine a_geta dX5_put_48 fX5_11 (by decide) rfl rfl ?_
    refine a_iload_n rfl dX5_put_51 ?_
    refine n_aald (by omega) (by decide) rfl (Or.inl rfl) (by decide) dX5_put_52 ?_
    refine a_iload_n rfl dX5_put_53 ?_
    refine a_lload_n rfl dX5_put_54 ?_
    refine a_l2i dX5_put_55 ?_
    refine a_i2s dX5_put_56 ?_
    refine a_i2l dX5_put_57 ?_
    refine n_last (by omega) (tr_hk (by omega)) (tr_hc (by omega)) (by decide) dX5_put_58 ?_
    refine a_goto 85 dX5_put_59 (by decide) ?_
    refine a_vret dX5_put_85 rfl ?_
    rw [show cutN (R.1 t) v = _ from by unfold cutN; rw [if_neg (by omega), if_pos (by omega)]] at hQ
    exact hQ
  by_cases hs_6_2 : (nI (R.1 t)).toInt = 2
  · refine a_tabIn 62 dX5_put_6 (by omega) (by omega) (by rw [hs_6_2]; rfl) (by decide) ?_
    refine a_aload_n rfl dX5_put_62 ?_
    refine a_geta dX5_put_63 fX5_11 (by decide) rfl rfl ?_
    refine a_iload_n rfl dX5_put_66 ?_
    refine n_aald (by omega) (by decide) rfl (Or.inl rfl) (by decide) dX5_put_67 ?_
    refine a_iload_n rfl dX5_put_68 ?_
    refine a_lload_n rfl dX5_put_69 ?_
    refine a_l2i dX5_put_70 ?_
    refine a_i2l dX5_put_71 ?_
    refine n_last (by omega) (tr_hk (by omega)) (tr_hc (by omega)) (by decide) dX5_put_72 ?_
    refine a_goto 85 dX5_put_73 (by decide) ?_
    refine a_vret dX5_put_85 rfl ?_
    rw [show cutN (R.1 t) v = _ from by unfold cutN; rw [if_neg (by omega), if_neg (by omega), if_pos (by omega)]] at hQ
    exact hQ
  refine a_tabOut 76 dX5_put_6 (by omega) (by decide) ?_
  refine a_aload_n rfl dX5_put_76 ?_
  refine a_geta dX5_put_77 fX5_11 (by decide) rfl rfl ?_
  refine a_iload_n rfl dX5_put_80 ?_
  refine n_aald (by omega) (by decide) rfl (Or.inl rfl) (by decide) dX5_put_81 ?_
  refine a_iload_n rfl dX5_put_82 ?_
  refine a_lload_n rfl dX5_put_83 ?_
  refine n_last (by omega) (tr_hk (by omega)) (tr_hc (by omega)) (by decide) dX5_put_84 ?_
  refine a_vret dX5_put_85 rfl ?_
  rw [show cutN (R.1 t) v = _ from by unfold cutN; rw [if_neg (by omega), if_neg (by omega), if_neg (by omega)]] at hQ
  exact hQ

/-- the STATUS of n twos of a TRAY -/
def twoB (R : TRY) (t i : Nat) : Bool := decide (0 ≤ (R.2.2 t (2 * i)).toInt ∧ (R.2.2 t (2 * i)).toInt ≤ 40 ∧ 0 ≤ (R.2.2 t (2 * i + 1)).toInt ∧ (R.2.2 t (2 * i + 1)).toInt ≤ 99)
def twosN (R : TRY) (t : Nat) (n : Int32) : Nat := if lenI R t < 0 then 3 else if lenI R t < 2 * n.toInt then 4 else if inN n 21 then (if ∀ i, i < idx n → twoB R t i = true then 0 else 5) else 5
theorem twosN_le (R : TRY) (t : Nat) (n : Int32) : twosN R t n ≤ 5 := by unfold twosN; split <;> (try split) <;> (try split) <;> (try split) <;> omega
theorem twoB_t {R : TRY} {t i : Nat} (h1 : 0 ≤ (R.2.2 t (2 * i)).toInt) (h2 : (R.2.2 t (2 * i)).toInt ≤ 40) (h3 : 0 ≤ (R.2.2 t (2 * i + 1)).toInt) (h4 : (R.2.2 t (2 * i + 1)).toInt ≤ 99) : twoB R t i = true := decide_eq_true ⟨h1, h2, h3, h4⟩
theorem twoB_f {R : TRY} {t i : Nat} (h : ¬ (0 ≤ (R.2.2 t (2 * i)).toInt ∧ (R.2.2 t (2 * i)).toInt ≤ 40 ∧ 0 ≤ (R.2.2 t (2 * i + 1)).toInt ∧ (R.2.2 t (2 * i + 1)).toInt ≤ 99)) : twoB R t i ≠ true := fun q => h (of_decide_eq_true q)
theorem twosN_0 {R : TRY} {t : Nat} {n : Int32} (h : twosN R t n = 0) : inN n 21 ∧ 2 * n.toInt ≤ lenI R t ∧ ∀ i, i < idx n → twoB R t i = true := by
  unfold twosN at h
  split at h
  · omega
  · split at h
    · omega
    · split at h
      · split at h
        · exact ⟨by assumption, by omega, by assumption⟩
        · omega
      · omega
theorem half_lt {n : Int32} {k : Nat} (hk : k ≤ 60) : ((k / 2 : Nat) : Int) < n.toInt ↔ (k : Int) < 2 * n.toInt := by omega

set_option maxRecDepth 100000 in
set_option maxHeartbeats 800000 in
theorem c_X5_whyNoTwos {M : Mm} {R : TRY} (hR : RX M R) (hG : RG R) {t : Nat} {n : Int32} (ht : t < 4) {Q : Option Value → Mm → Prop} (hQ : Q (some (.int (nI (twosN R t n)))) M) (d : Nat) : AMt miX5_whyNoTwos (d + 1) [.ref 2, .int (nI t), .int n] M Q := by
  refine AMt.of (by decide) (Nat.le_of_ble_eq_true rfl) ?_
  show AW miX5_whyNoTwos (d + 1) (mxA Q) 0 [(0, some (.ref 2)), (1, some (.int (nI t))), (2, some (.int n))] [] M
  have hl := RX_len hR hG ht
  have hle := lenI_le hG ht
  refine a_aload_n rfl dX5_whyNoTwos_0 ?_
  refine a_iload_n rfl dX5_whyNoTwos_1 ?_
  refine n_callV (mi' := miX5_isMissing) dX5_whyNoTwos_2 lX5_36 mX5_isMissing (by decide) rfl rfl rfl (c_X5_isMissing hR hG (by omega) (fun h_2 => ?_) (fun h_2 => ?_) d) rfl rfl (by omega) (by decide) (Nat.le_of_ble_eq_true rfl)
  · show AW _ _ _ _ _ _ _
    refine n_if_eq 10 (by decide) dX5_whyNoTwos_5 (by decide) (fun h => absurd h (by decide)) (fun _ => ?_)
    refine n_iconst 3 rfl dX5_whyNoTwos_8 ?_
    refine a_iret dX5_whyNoTwos_9 rfl ?_
    rw [show twosN R t n = 3 by unfold twosN; rw [if_pos (by omega)]] at hQ
    exact hQ
  · show AW _ _ _ _ _ _ _
    refine n_if_eq 10 (by decide) dX5_whyNoTwos_5 (by decide) (fun _ => ?_) (fun h => absurd h (by decide))
    obtain ⟨k, hk, hkl⟩ : ∃ k : Nat, k ≤ 60 ∧ lenI R t = k := ⟨(lenI R t).toNat, by omega, by omega⟩
    have hkm : M.1 9 t = nI k := Int32.toInt_inj.mp (by rw [hl, hkl, nI_toInt (by omega)])
    refine a_iload_n rfl dX5_whyNoTwos_10 ?_
    refine a_aload_n rfl dX5_whyNoTwos_11 ?_
    refine a_geta dX5_whyNoTwos_12 fX5_20 (by decide) rfl rfl ?_
    refine a_iload_n rfl dX5_whyNoTwos_15 ?_
    refine v_iald (by omega) hkm (by decide) rfl (by decide) dX5_whyNoTwos_16 ?_
    refine n_iconst 2 rfl dX5_whyNoTwos_17 ?_
    refine n_idiv (by omega) (by omega) (by omega) dX5_whyNoTwos_18 ?_
    refine r_icmp_le 24 (by omega) dX5_whyNoTwos_19 (by decide) (fun h_19 => ?_) (fun h_19 => ?_)
    · refine a_iload_n rfl dX5_whyNoTwos_24 ?_
      refine r_if_lt 34 dX5_whyNoTwos_25 (by decide) (fun h_25 => ?_) (fun h_25 => ?_)
      · refine n_iconst 5 rfl dX5_whyNoTwos_34 ?_
        refine a_iret dX5_whyNoTwos_35 rfl ?_
        rw [show twosN R t n = 5 by unfold twosN; rw [if_neg (by omega), if_neg (by omega), if_neg (by omega)]] at hQ
        exact hQ
      · refine a_iload_n rfl dX5_whyNoTwos_28 ?_
        refine n_bipush 20 rfl dX5_whyNoTwos_29 ?_
        refine r_icmp_le 36 (by omega) dX5_whyNoTwos_31 (by decide) (fun h_31 => ?_) (fun h_31 => ?_)
        · obtain ⟨q, hq, rfl⟩ := inR_of (x := n) (m := 21) (by omega) (by omega) (by omega)
          have t_q : (nI q).toInt = (q : Int) := nI_toInt (by omega)
          have i_q : idx (nI q) = q := idx_nI (by omega)
          have h0_ : (0 : Int64).toInt = 0 := by decide
          have h40_ : (40 : Int64).toInt = 40 := by decide
          have h99_ : (99 : Int64).toInt = 99 := by decide
          refine n_iconst 0 rfl dX5_whyNoTwos_36 ?_
          refine a_istore_n (by decide) rfl dX5_whyNoTwos_37 ?_
          have loop_38 : ∀ i, i ≤ q → (∀ j, j < i → twoB R t j = true) → AW miX5_whyNoTwos (d + 1) (mxA Q) 38 [(0, some (.ref 2)), (1, some (.int (nI t))), (2, some (.int (nI q))), (3, some (.int (nI i)))] [] M := by
            refine up (W := fun i => (∀ j, j < i → twoB R t j = true) → AW miX5_whyNoTwos (d + 1) (mxA Q) 38 [(0, some (.ref 2)), (1, some (.int (nI t))), (2, some (.int (nI q))), (3, some (.int (nI i)))] [] M) q (fun hI_38 => ?_) (fun i hi_38 ih_38 hI_38 => ?_)
            · refine a_iload_n rfl dX5_whyNoTwos_38 ?_
              refine a_iload_n rfl dX5_whyNoTwos_39 ?_
              refine n_icmp_ge 109 (by omega) (by omega) dX5_whyNoTwos_40 (by decide) (fun h_40 => ?_) (fun h_40 => absurd h_40 (by omega))
              refine n_iconst 0 rfl dX5_whyNoTwos_109 ?_
              refine a_iret dX5_whyNoTwos_110 rfl ?_
              rw [show twosN R t (nI q) = 0 by unfold twosN; rw [if_neg (by omega), if_neg (by omega), if_pos (by omega), if_pos (fun j hj => hI_38 j (by omega))]] at hQ
              exact hQ
            · have hda := congrArg Int64.toInt (RX_dat hR (t := t) (j := 2 * i) ht (by omega))
              have hdb := congrArg Int64.toInt (RX_dat hR (t := t) (j := 2 * i + 1) ht (by omega))
              refine a_iload_n rfl dX5_whyNoTwos_38 ?_
              refine a_iload_n rfl dX5_whyNoTwos_39 ?_
              refine n_icmp_ge 109 (by omega) (by omega) dX5_whyNoTwos_40 (by decide) (fun h_40 => absurd h_40 (by omega)) (fun h_40 => ?_)
              refine a_aload_n rfl dX5_whyNoTwos_43 ?_
              refine a_geta dX5_whyNoTwos_44 fX5_11 (by decide) rfl rfl ?_
              refine a_iload_n rfl dX5_whyNoTwos_47 ?_
              refine n_aald (by omega) (by decide) rfl (Or.inl rfl) (by decide) dX5_whyNoTwos_48 ?_
              refine n_iconst 2 rfl dX5_whyNoTwos_49 ?_
              refine a_iload_n rfl dX5_whyNoTwos_50 ?_
              refine n_imul dX5_whyNoTwos_51 ?_
              refine n_lald (by omega) (tr_hk (by omega)) (tr_hc (by omega)) (by decide) dX5_whyNoTwos_52 ?_
              refine a_lstore (by decide) rfl dX5_whyNoTwos_53 ?_
              refine a_aload_n rfl dX5_whyNoTwos_55 ?_
              refine a_geta dX5_whyNoTwos_56 fX5_11 (by decide) rfl rfl ?_
              refine a_iload_n rfl dX5_whyNoTwos_59 ?_
              refine n_aald (by omega) (by decide) rfl (Or.inl rfl) (by decide) dX5_whyNoTwos_60 ?_
              refine n_iconst 2 rfl dX5_whyNoTwos_61 ?_
              refine a_iload_n rfl dX5_whyNoTwos_62 ?_
              refine n_imul dX5_whyNoTwos_63 ?_
              refine n_iconst 1 rfl dX5_whyNoTwos_64 ?_
              refine n_iadd dX5_whyNoTwos_65 ?_
              refine n_lald (by omega) (tr_hk (by omega)) (tr_hc (by omega)) (by decide) dX5_whyNoTwos_66 ?_
              refine a_lstore (by decide) rfl dX5_whyNoTwos_67 ?_
              refine a_lload rfl dX5_whyNoTwos_69 ?_
              refine a_lconst 0 rfl dX5_whyNoTwos_71 ?_
              refine a_lcmp dX5_whyNoTwos_72 ?_
              refine l_if_lt 101 dX5_whyNoTwos_73 (by decide) (fun h_73 => ?_) (fun h_73 => ?_)
              · refine n_iconst 5 rfl dX5_whyNoTwos_101 ?_
                refine a_iret dX5_whyNoTwos_102 rfl ?_
                rw [show twosN R t (nI q) = 5 by unfold twosN; rw [if_neg (by omega), if_neg (by omega), if_pos (by omega), if_neg (fun z => twoB_f (by simp only [Int64.lt_iff_toInt_lt, Int64.le_iff_toInt_le, h0_, h40_, h99_] at *; omega) (z i (by omega)))]] at hQ
                exact hQ
              · refine a_lload rfl dX5_whyNoTwos_76 ?_
                refine a_ldc2 kX5_43 dX5_whyNoTwos_78 ?_
                refine a_lcmp dX5_whyNoTwos_81 ?_
                refine l_if_gt 101 dX5_whyNoTwos_82 (by decide) (fun h_82 => ?_) (fun h_82 => ?_)
                · refine n_iconst 5 rfl dX5_whyNoTwos_101 ?_
                  refine a_iret dX5_whyNoTwos_102 rfl ?_
                  rw [show twosN R t (nI q) = 5 by unfold twosN; rw [if_neg (by omega), if_neg (by omega), if_pos (by omega), if_neg (fun z => twoB_f (by simp only [Int64.lt_iff_toInt_lt, Int64.le_iff_toInt_le, h0_, h40_, h99_] at *; omega) (z i (by omega)))]] at hQ
                  exact hQ
                · refine a_lload rfl dX5_whyNoTwos_85 ?_
                  refine a_lconst 0 rfl dX5_whyNoTwos_87 ?_
                  refine a_lcmp dX5_whyNoTwos_88 ?_
                  refine l_if_lt 101 dX5_whyNoTwos_89 (by decide) (fun h_89 => ?_) (fun h_89 => ?_)
                  · refine n_iconst 5 rfl dX5_whyNoTwos_101 ?_
                    refine a_iret dX5_whyNoTwos_102 rfl ?_
                    rw [show twosN R t (nI q) = 5 by unfold twosN; rw [if_neg (by omega), if_neg (by omega), if_pos (by omega), if_neg (fun z => twoB_f (by simp only [Int64.lt_iff_toInt_lt, Int64.le_iff_toInt_le, h0_, h40_, h99_] at *; omega) (z i (by omega)))]] at hQ
                    exact hQ
                  · refine a_lload rfl dX5_whyNoTwos_92 ?_
                    refine a_ldc2 kX5_45 dX5_whyNoTwos_94 ?_
                    refine a_lcmp dX5_whyNoTwos_97 ?_
                    refine l_if_le 103 dX5_whyNoTwos_98 (by decide) (fun h_98 => ?_) (fun h_98 => ?_)
                    · refine n_iinc (c := 1) rfl rfl (by decide) rfl dX5_whyNoTwos_103 ?_
                      refine a_goto 38 dX5_whyNoTwos_106 (by decide) ?_
                      exact a_bk (ih_38 (fun j hj => by
          rcases (show j < i ∨ j = i by omega) with h | h
          · exact hI_38 j h
          · subst h
            refine twoB_t ?_ ?_ ?_ ?_ <;> simp only [Int64.lt_iff_toInt_lt, Int64.le_iff_toInt_le, h0_, h40_, h99_] at * <;> omega)) ⟨rfl, rfl, rfl, rfl, trivial⟩
                    · refine n_iconst 5 rfl dX5_whyNoTwos_101 ?_
                      refine a_iret dX5_whyNoTwos_102 rfl ?_
                      rw [show twosN R t (nI q) = 5 by unfold twosN; rw [if_neg (by omega), if_neg (by omega), if_pos (by omega), if_neg (fun z => twoB_f (by simp only [Int64.lt_iff_toInt_lt, Int64.le_iff_toInt_le, h0_, h40_, h99_] at *; omega) (z i (by omega)))]] at hQ
                      exact hQ
          exact a_bk (loop_38 0 (by omega) (fun j hj => absurd hj (by omega))) ⟨rfl, rfl, rfl, rfl, trivial⟩
        · refine n_iconst 5 rfl dX5_whyNoTwos_34 ?_
          refine a_iret dX5_whyNoTwos_35 rfl ?_
          rw [show twosN R t n = 5 by unfold twosN; rw [if_neg (by omega), if_neg (by omega), if_neg (by omega)]] at hQ
          exact hQ
    · refine n_iconst 4 rfl dX5_whyNoTwos_22 ?_
      refine a_iret dX5_whyNoTwos_23 rfl ?_
      rw [show twosN R t n = 4 by unfold twosN; rw [if_neg (by omega), if_pos (by omega)]] at hQ
      exact hQ

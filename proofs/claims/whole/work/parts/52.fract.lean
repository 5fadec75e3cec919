theorem lN_sh : ∀ k, k < 64 → ((nI k).toInt64 &&& 63) = lN k := by decide +kernel
theorem lN_sm : ∀ k, k < 64 → (BitVec.ofNat 64 k).smod 64 = BitVec.ofNat 64 k := by decide +kernel
theorem lN_shl (n : Nat) {k : Nat} (hk : k < 64) : lN n <<< ((nI k).toInt64 &&& 63) = lN (n * 2 ^ k) := by
  rw [lN_sh k hk]
  apply Int64.toBitVec_inj.1
  show (BitVec.ofNat 64 n) <<< ((BitVec.ofNat 64 k).smod 64) = BitVec.ofNat 64 (n * 2 ^ k)
  rw [lN_sm k hk]
  apply BitVec.eq_of_toNat_eq
  show (BitVec.ofNat 64 n <<< (BitVec.ofNat 64 k).toNat).toNat = _
  rw [BitVec.toNat_shiftLeft, BitVec.toNat_ofNat, BitVec.toNat_ofNat, BitVec.toNat_ofNat, Nat.mod_eq_of_lt (a := k) (by omega), Nat.shiftLeft_eq, Nat.mod_mul_mod]
theorem n_i2l {mi : MI} {d : Nat} {X : CX} {pc : Nat} {L : List (Nat × Option Value)} {st : List Value} {M : Mm} {a : Nat} (ha : a < 2 ^ 31) (hd : decode mi.2.1 pc = .ok (.i2l, 1)) (kk : AW mi d X (pc + 1) L (.long (lN a) :: st) M) : AW mi d X pc L (.int (nI a) :: st) M := by
  refine a_i2l hd ?_; rw [nI_l ha]; exact kk
theorem n_ladd {mi : MI} {d : Nat} {X : CX} {pc : Nat} {L : List (Nat × Option Value)} {st : List Value} {M : Mm} {a b : Nat} (hd : decode mi.2.1 pc = .ok (.ladd, 1)) (kk : AW mi d X (pc + 1) L (.long (lN (a + b)) :: st) M) : AW mi d X pc L (.long (lN b) :: .long (lN a) :: st) M := by
  refine a_ladd hd ?_; rw [lN_add]; exact kk
theorem n_lmul {mi : MI} {d : Nat} {X : CX} {pc : Nat} {L : List (Nat × Option Value)} {st : List Value} {M : Mm} {a b : Nat} (hd : decode mi.2.1 pc = .ok (.lmul, 1)) (kk : AW mi d X (pc + 1) L (.long (lN (a * b)) :: st) M) : AW mi d X pc L (.long (lN b) :: .long (lN a) :: st) M := by
  refine a_lmul hd ?_; rw [lN_mul]; exact kk
theorem n_ldiv {mi : MI} {d : Nat} {X : CX} {pc : Nat} {L : List (Nat × Option Value)} {st : List Value} {M : Mm} {a b : Nat} (ha : a < 2 ^ 63) (h0 : 0 < b) (hb : b < 2 ^ 63) (hd : decode mi.2.1 pc = .ok (.ldiv, 1)) (kk : AW mi d X (pc + 1) L (.long (lN (a / b)) :: st) M) : AW mi d X pc L (.long (lN b) :: .long (lN a) :: st) M := by
  refine a_ldiv (fun e => by have := (pk_lEQ hb (by decide : 0 < 2 ^ 63)).mp e; omega) hd ?_; rw [pk_lDiv ha h0 hb]; exact kk
theorem n_lrem {mi : MI} {d : Nat} {X : CX} {pc : Nat} {L : List (Nat × Option Value)} {st : List Value} {M : Mm} {a b : Nat} (ha : a < 2 ^ 63) (h0 : 0 < b) (hb : b < 2 ^ 63) (hd : decode mi.2.1 pc = .ok (.lrem, 1)) (kk : AW mi d X (pc + 1) L (.long (lN (a % b)) :: st) M) : AW mi d X pc L (.long (lN b) :: .long (lN a) :: st) M := by
  refine a_lrem (fun e => by have := (pk_lEQ hb (by decide : 0 < 2 ^ 63)).mp e; omega) hd ?_; rw [pk_lRem ha h0 hb]; exact kk
theorem n_lshl {mi : MI} {d : Nat} {X : CX} {pc : Nat} {L : List (Nat × Option Value)} {st : List Value} {M : Mm} {a k : Nat} (hk : k < 64) (hd : decode mi.2.1 pc = .ok (.lshl, 1)) (kk : AW mi d X (pc + 1) L (.long (lN (a * 2 ^ k)) :: st) M) : AW mi d X pc L (.int (nI k) :: .long (lN a) :: st) M := by
  refine a_lshl hd ?_; rw [lN_shl a hk]; exact kk
theorem nl_if_lt {mi : MI} {d : Nat} {X : CX} {pc : Nat} {L : List (Nat × Option Value)} {st : List Value} {M : Mm} {a b : Nat} {off : Int} (tgt : Nat) (ha : a < 2 ^ 63) (hb : b < 2 ^ 63) (hd : decode mi.2.1 pc = .ok (.ifCond .lt off, 3)) (ht : (pc : Int) + off = (tgt : Int)) (k1 : a < b → AW mi d X tgt L st M) (k2 : ¬ a < b → AW mi d X (pc + 3) L st M) : AW mi d X pc L (.int (lg_cmp (lN a) (lN b)) :: st) M :=
  l_if_lt tgt hd ht (fun h => k1 ((pk_lLT ha hb).mp h)) (fun h => k2 (fun q => h ((pk_lLT ha hb).mpr q)))
theorem nl_if_le {mi : MI} {d : Nat} {X : CX} {pc : Nat} {L : List (Nat × Option Value)} {st : List Value} {M : Mm} {a b : Nat} {off : Int} (tgt : Nat) (ha : a < 2 ^ 63) (hb : b < 2 ^ 63) (hd : decode mi.2.1 pc = .ok (.ifCond .le off, 3)) (ht : (pc : Int) + off = (tgt : Int)) (k1 : a ≤ b → AW mi d X tgt L st M) (k2 : ¬ a ≤ b → AW mi d X (pc + 3) L st M) : AW mi d X pc L (.int (lg_cmp (lN a) (lN b)) :: st) M :=
  l_if_le tgt hd ht (fun h => k1 ((pk_lLE ha hb).mp h)) (fun h => k2 (fun q => h ((pk_lLE ha hb).mpr q)))
theorem nl_if_gt {mi : MI} {d : Nat} {X : CX} {pc : Nat} {L : List (Nat × Option Value)} {st : List Value} {M : Mm} {a b : Nat} {off : Int} (tgt : Nat) (ha : a < 2 ^ 63) (hb : b < 2 ^ 63) (hd : decode mi.2.1 pc = .ok (.ifCond .gt off, 3)) (ht : (pc : Int) + off = (tgt : Int)) (k1 : b < a → AW mi d X tgt L st M) (k2 : ¬ b < a → AW mi d X (pc + 3) L st M) : AW mi d X pc L (.int (lg_cmp (lN a) (lN b)) :: st) M :=
  l_if_gt tgt hd ht (fun h => k1 ((pk_lLT hb ha).mp h)) (fun h => k2 (fun q => h ((pk_lLT hb ha).mpr q)))
theorem nl_if_ge {mi : MI} {d : Nat} {X : CX} {pc : Nat} {L : List (Nat × Option Value)} {st : List Value} {M : Mm} {a b : Nat} {off : Int} (tgt : Nat) (ha : a < 2 ^ 63) (hb : b < 2 ^ 63) (hd : decode mi.2.1 pc = .ok (.ifCond .ge off, 3)) (ht : (pc : Int) + off = (tgt : Int)) (k1 : b ≤ a → AW mi d X tgt L st M) (k2 : ¬ b ≤ a → AW mi d X (pc + 3) L st M) : AW mi d X pc L (.int (lg_cmp (lN a) (lN b)) :: st) M :=
  l_if_ge tgt hd ht (fun h => k1 ((pk_lLE hb ha).mp h)) (fun h => k2 (fun q => h ((pk_lLE hb ha).mpr q)))
theorem nl_if_eq {mi : MI} {d : Nat} {X : CX} {pc : Nat} {L : List (Nat × Option Value)} {st : List Value} {M : Mm} {a b : Nat} {off : Int} (tgt : Nat) (ha : a < 2 ^ 63) (hb : b < 2 ^ 63) (hd : decode mi.2.1 pc = .ok (.ifCond .eq off, 3)) (ht : (pc : Int) + off = (tgt : Int)) (k1 : a = b → AW mi d X tgt L st M) (k2 : ¬ a = b → AW mi d X (pc + 3) L st M) : AW mi d X pc L (.int (lg_cmp (lN a) (lN b)) :: st) M :=
  l_if_eq tgt hd ht (fun h => k1 ((pk_lEQ ha hb).mp h)) (fun h => k2 (fun q => h ((pk_lEQ ha hb).mpr q)))
theorem nl_if_ne {mi : MI} {d : Nat} {X : CX} {pc : Nat} {L : List (Nat × Option Value)} {st : List Value} {M : Mm} {a b : Nat} {off : Int} (tgt : Nat) (ha : a < 2 ^ 63) (hb : b < 2 ^ 63) (hd : decode mi.2.1 pc = .ok (.ifCond .ne off, 3)) (ht : (pc : Int) + off = (tgt : Int)) (k1 : ¬ a = b → AW mi d X tgt L st M) (k2 : a = b → AW mi d X (pc + 3) L st M) : AW mi d X pc L (.int (lg_cmp (lN a) (lN b)) :: st) M :=
  l_if_ne tgt hd ht (fun h => k1 (fun q => h ((pk_lEQ ha hb).mpr q))) (fun h => k2 ((pk_lEQ ha hb).mp h))
theorem g_l {mi : MI} {d : Nat} {X : CX} {pc : Nat} {L : List (Nat × Option Value)} {st : List Value} {M : Mm} {k ci j idx q a : Nat} {fs : List (Nat × Nat)} (hv : M.2 k j = lN a) (hk : k < nC) (hc : layC k = .inl (ci, fs)) (hf : lnkF mi.1.cls idx ci j) (hj : fs[j]? = some (1, q)) (hd : decode mi.2.1 pc = .ok (.getfield idx, 3)) (kk : AW mi d X (pc + 3) L (.long (lN a) :: st) M) : AW mi d X pc L (.ref k :: st) M := by
  refine a_getl hd hf hk hc hj ?_; rw [hv]; exact kk
theorem n_minl {mi : MI} {d : Nat} {X : CX} {pc : Nat} {L : List (Nat × Option Value)} {st : List Value} {M : Mm} {a b idx : Nat} (ha : a < 2 ^ 63) (hb : b < 2 ^ 63) (hd : decode mi.2.1 pc = .ok (.invokestatic idx, 3)) (h1 : Cond.methodLink mi.1.cls idx Lib.MathLoose.min_long.x ∈ TB) (hcat : (st.map fun v => v.category).sum ≤ 8) (kk : AW mi d X (pc + 3) L (.long (lN (min a b)) :: st) M) : AW mi d X pc L (.long (lN b) :: .long (lN a) :: st) M := by
  refine a_minl hd h1 hcat ?_
  by_cases h : b < a
  · rw [if_pos ((pk_lLT hb ha).mpr h)]; rw [Nat.min_eq_right (by omega)] at kk; exact kk
  · rw [if_neg (fun q => h ((pk_lLT hb ha).mp q))]; rw [Nat.min_eq_left (by omega)] at kk; exact kk
theorem n_absl {mi : MI} {d : Nat} {X : CX} {pc : Nat} {L : List (Nat × Option Value)} {st : List Value} {M : Mm} {a idx : Nat} (ha : a < 2 ^ 63) (hd : decode mi.2.1 pc = .ok (.invokestatic idx, 3)) (h1 : Cond.methodLink mi.1.cls idx Lib.MathLoose.abs_long.x ∈ TB) (hcat : (st.map fun v => v.category).sum ≤ 8) (kk : AW mi d X (pc + 3) L (.long (lN a) :: st) M) : AW mi d X pc L (.long (lN a) :: st) M := by
  refine a_absl hd h1 hcat ?_
  by_cases h : 0 < a
  · rw [if_pos (show (0 : Int64) < lN a from (pk_lLT (a := 0) (by decide) ha).mpr h)]; exact kk
  · rw [if_neg (show ¬ (0 : Int64) < lN a from fun q => h ((pk_lLT (a := 0) (by decide) ha).mp q)), show a = 0 by omega]; rw [show a = 0 by omega] at kk; exact kk

/-- Euclid's rounds -/
def euN (a b : Nat) : Nat → Nat × Nat
  | 0 => (a, b)
  | i + 1 => if (euN a b i).2 = 0 then euN a b i else ((euN a b i).2, (euN a b i).1 % (euN a b i).2)
theorem eu_s {a b i : Nat} (h : ¬ (euN a b i).2 = 0) : euN a b (i + 1) = ((euN a b i).2, (euN a b i).1 % (euN a b i).2) := by rw [euN, if_neg h]
theorem eu_gcd (a b : Nat) : ∀ i, Nat.gcd (euN a b i).1 (euN a b i).2 = Nat.gcd a b
  | 0 => rfl
  | i + 1 => by
    by_cases h : (euN a b i).2 = 0
    · rw [euN, if_pos h]; exact eu_gcd a b i
    · rw [eu_s h, ← eu_gcd a b i]
      show Nat.gcd (euN a b i).2 ((euN a b i).1 % (euN a b i).2) = _
      rw [Nat.gcd_comm, ← Nat.gcd_rec, Nat.gcd_comm]
theorem eu_le (a b : Nat) : ∀ i, (euN a b i).1 ≤ max a b ∧ (euN a b i).2 ≤ b
  | 0 => ⟨Nat.le_max_left _ _, Nat.le_refl _⟩
  | i + 1 => by
    have ih := eu_le a b i
    by_cases h : (euN a b i).2 = 0
    · rw [euN, if_pos h]; exact ih
    · rw [eu_s h]
      have := Nat.mod_lt (euN a b i).1 (show 0 < (euN a b i).2 by omega)
      exact ⟨Nat.le_trans ih.2 (Nat.le_max_right _ _), by show (euN a b i).1 % (euN a b i).2 ≤ b; omega⟩
theorem eu_z {a b i : Nat} (h : (euN a b i).2 = 0) : ∀ n, (euN a b (i + n)).2 = 0
  | 0 => h
  | n + 1 => by
    have := eu_z h n
    show (euN a b (i + n + 1)).2 = 0
    rw [euN, if_pos this]; exact this
theorem eu_half (a b i : Nat) : 2 * (euN a b (i + 2)).2 ≤ (euN a b i).2 := by
  by_cases h : (euN a b i).2 = 0
  · rw [eu_z h 2, h]; omega
  · by_cases h2 : (euN a b (i + 1)).2 = 0
    · rw [show (euN a b (i + 2)).2 = 0 from eu_z h2 1]; omega
    · rw [show euN a b (i + 2) = ((euN a b (i + 1)).2, (euN a b (i + 1)).1 % (euN a b (i + 1)).2) from eu_s h2]
      have e := eu_s h
      have e1 : (euN a b (i + 1)).1 = (euN a b i).2 := by rw [e]
      show 2 * ((euN a b (i + 1)).1 % (euN a b (i + 1)).2) ≤ _
      rw [e1]
      have h3 : (euN a b (i + 1)).2 < (euN a b i).2 := by
        rw [e]; exact Nat.mod_lt _ (by omega)
      have h4 := Nat.mod_lt (euN a b i).2 (show 0 < (euN a b (i + 1)).2 by omega)
      have h5 := Nat.div_add_mod (euN a b i).2 (euN a b (i + 1)).2
      have h6 : 1 ≤ (euN a b i).2 / (euN a b (i + 1)).2 := (Nat.one_le_div_iff (by omega)).mpr (by omega)
      have h7 : (euN a b (i + 1)).2 * 1 ≤ (euN a b (i + 1)).2 * ((euN a b i).2 / (euN a b (i + 1)).2) := Nat.mul_le_mul_left _ h6
      omega
theorem eu_pow (a b : Nat) : ∀ k, (euN a b (2 * k)).2 * 2 ^ k ≤ b
  | 0 => by show b * 1 ≤ b; omega
  | k + 1 => by
    have ih := eu_pow a b k
    have h := eu_half a b (2 * k)
    have h2 := Nat.mul_le_mul_right (2 ^ k) h
    rw [show 2 * (k + 1) = 2 * k + 2 by omega, Nat.pow_succ]
    have e : (euN a b (2 * k + 2)).2 * (2 ^ k * 2) = 2 * (euN a b (2 * k + 2)).2 * 2 ^ k := by rw [Nat.mul_comm (2 ^ k) 2, ← Nat.mul_assoc, Nat.mul_comm _ 2]
    rw [e]; omega
theorem eu_200 {a b : Nat} (hb : b < 2 ^ 63) : (euN a b 200).2 = 0 := by
  have h := eu_pow a b 100
  rcases Nat.eq_zero_or_pos (euN a b (2 * 100)).2 with e | e
  · exact e
  · have h2 := Nat.mul_le_mul_right (2 ^ 100) e
    have h3 : (2 : Nat) ^ 63 < 2 ^ 100 := by decide
    omega
theorem eu_end {a b i : Nat} (h : (euN a b i).2 = 0) : (euN a b i).1 = Nat.gcd a b := by
  have := eu_gcd a b i
  rw [h, Nat.gcd_zero_right] at this
  exact this
def frT (T : TT) (a b : Nat) : TT := sE T (0, lN (a / Nat.gcd a b), lN (b / Nat.gcd a b))
/-- the end of a call of the class's that tells a FRACTION -/
theorem fin_F {Q : Option Value → Mm → Prop} {M M1 : Mm} {T : TT} {p : AN} {v : Int32} {a b : Nat} (hQ : ∀ M', IX M' p.2 → keM M M' → Q (some (.int p.1)) M') (hI : IX M T) (hG : TG T) (e : p = (v, frT T a b)) (hf : fr scX M M1) : Q (some (.int v)) (siM (slM (slM M1 0 1 (lN (a / Nat.gcd a b))) 0 2 (lN (b / Nat.gcd a b))) 0 0 (nI 0)) := by
  subst e
  obtain ⟨h1, h2, h3, h4, h5, h6, h7, h8⟩ := IX_fr hI hG hf
  have hf2 : fr (fun k j => k = 0 ∧ j < 3) M1 (siM (slM (slM M1 0 1 (lN (a / Nat.gcd a b))) 0 2 (lN (b / Nat.gcd a b))) 0 0 (nI 0)) := ((fr.r.sl (by omega)).sl (by omega)).si (by omega)
  refine hQ _ ⟨WX_fr h1 hf2 (fun k j a b => by omega), RX_fr h2 hf2 (fun k j a b => by omega), ⟨hf2.i h3.1 (by omega), fun j hj => hf2.i (h3.2 j hj) (by omega)⟩, ⟨siS, (show (slM (slM M1 0 1 (lN (a / Nat.gcd a b))) 0 2 (lN (b / Nat.gcd a b))).2 0 1 = lN (a / Nat.gcd a b) from slN slS (by omega)), (show (slM (slM M1 0 1 (lN (a / Nat.gcd a b))) 0 2 (lN (b / Nat.gcd a b))).2 0 2 = lN (b / Nat.gcd a b) from slS)⟩, ⟨hf2.i h5.1 (by omega), hf2.i h5.2 (by omega)⟩, ⟨hf2.i h6.1 (by omega), fun q j hj => hf2.i (h6.2 q j hj) (by omega)⟩, hf2.i h7 (by omega), fun i hi => WX_fr (h8 i hi) hf2 (fun k j a b => by omega)⟩ (keM_fr ((hf.mo (fun k j h => Or.inl h)).t (hf2.mo (fun k j h => Or.inr h)) : fr (fun k j => scX k j ∨ (k = 0 ∧ j < 3)) M _) (fun k j h => by unfold scX at h; omega))
theorem fin_FM {Q : Option Value → Mm → Prop} {M M1 : Mm} {T : TT} {p : AN} {v : Int32} {a b : Nat} (hQ : ∀ M', IM M' p.2 → keX M M' → Q (some (.int p.1)) M') (hI : IM M T) (hG : TG T) (e : p = (v, frT T a b)) (hst : M1.1 132 0 = nI 0) (hf : fr scM M M1) : Q (some (.int v)) (slM (slM M1 132 2 (lN (a / Nat.gcd a b))) 132 3 (lN (b / Nat.gcd a b))) := by
  subst e
  obtain ⟨h1, h2, h3, h4, h5, h6, h7, h8⟩ := IM_fr (n := 0) hI hG hst hf
  have hf2 : fr (fun k j => k = 132 ∧ 2 ≤ j ∧ j < 4) M1 (slM (slM M1 132 2 (lN (a / Nat.gcd a b))) 132 3 (lN (b / Nat.gcd a b))) := (fr.r.sl (by omega)).sl (by omega)
  refine hQ _ ⟨WM_fr h1 hG.1 hf2 (fun j a b => by omega) (fun j a b => by omega), RM_fr h2 hf2 (fun k j a b => by omega), ⟨hf2.i h3.1 (by omega), fun j hj => hf2.i (h3.2 j hj) (by omega)⟩, ⟨hf2.i h4.1 (by omega), slN slS (by omega), slS⟩, ⟨hf2.i h5.1 (by omega), hf2.i h5.2 (by omega)⟩, ⟨hf2.i h6.1 (by omega), fun q j hj => hf2.i (h6.2 q j hj) (by omega)⟩, hf2.i h7 (by omega), fun i hi => WM_fr (h8 i hi) (hG.2.2.2.2.2.2.1 i hi) hf2 (fun j a b => by omega) (fun j a b => by omega)⟩ (keX_fr ((hf.mo (fun k j h => Or.inl h)).t (hf2.mo (fun k j h => Or.inr h)) : fr (fun k j => scM k j ∨ (k = 132 ∧ 2 ≤ j ∧ j < 4)) M _) (fun k j h => by unfold scM at h; omega))

set_option maxRecDepth 100000 in
set_option maxHeartbeats 800000 in
theorem c_X11_commonDivisor {M : Mm} {a b : Nat} (ha : a < 2 ^ 62) (hb : b < 2 ^ 62) {Q : Option Value → Mm → Prop} (hQ : Q (some (.long (lN (Nat.gcd a b)))) M) (d : Nat) : AMt miX11_commonDivisor (d) [.long (lN a), .long (lN b)] M Q := by
  refine AMt.of (by decide) (Nat.le_of_ble_eq_true rfl) ?_
  show AW miX11_commonDivisor (d) (mxA Q) 0 [(0, some (.long (lN a))), (2, some (.long (lN b)))] [] M
  have hem := fun i => eu_le a b i
  have hmx : max a b < 2 ^ 63 := by omega
  refine a_lload_n rfl dX11_commonDivisor_0 ?_
  refine a_lstore (by decide) rfl dX11_commonDivisor_1 ?_
  refine a_lload_n rfl dX11_commonDivisor_3 ?_
  refine a_lstore (by decide) rfl dX11_commonDivisor_4 ?_
  refine n_iconst 0 rfl dX11_commonDivisor_6 ?_
  refine a_istore (by decide) rfl dX11_commonDivisor_7 ?_
  have loop_9 : ∀ i, i ≤ 200 → AW miX11_commonDivisor (d) (mxA Q) 9 [(0, some (.long (lN a))), (2, some (.long (lN b))), (4, some (.long (lN ((euN a b i).1)))), (6, some (.long (lN ((euN a b i).2)))), (8, some (.int (nI i)))] [] M := by
    refine up 200 ?_ (fun i hi_9 ih_9 => ?_)
    · refine a_iload rfl dX11_commonDivisor_9 ?_
      refine n_sipush 200 rfl dX11_commonDivisor_11 ?_
      refine n_icmp_ge 45 (by omega) (by omega) dX11_commonDivisor_14 (by decide) (fun h_14 => ?_) (fun h_14 => absurd h_14 (by omega))
      refine a_lload rfl dX11_commonDivisor_45 ?_
      refine a_lret dX11_commonDivisor_47 rfl ?_
      rw [eu_end (eu_200 (by omega))]
      exact hQ
    · have hem1 := hem i
      refine a_iload rfl dX11_commonDivisor_9 ?_
      refine n_sipush 200 rfl dX11_commonDivisor_11 ?_
      refine n_icmp_ge 45 (by omega) (by omega) dX11_commonDivisor_14 (by decide) (fun h_14 => absurd h_14 (by omega)) (fun h_14 => ?_)
      refine a_lload rfl dX11_commonDivisor_17 ?_
      refine a_lconst (lN 0) rfl dX11_commonDivisor_19 ?_
      refine a_lcmp dX11_commonDivisor_20 ?_
      refine nl_if_eq 45 (by omega) (by omega) dX11_commonDivisor_21 (by decide) (fun h_21 => ?_) (fun h_21 => ?_)
      · refine a_lload rfl dX11_commonDivisor_45 ?_
        refine a_lret dX11_commonDivisor_47 rfl ?_
        rw [eu_end h_21]
        exact hQ
      · refine a_lload rfl dX11_commonDivisor_24 ?_
        refine a_lload rfl dX11_commonDivisor_26 ?_
        refine n_lrem (by omega) (by omega) (by omega) dX11_commonDivisor_28 ?_
        refine a_lstore (by decide) rfl dX11_commonDivisor_29 ?_
        refine a_lload rfl dX11_commonDivisor_31 ?_
        refine a_lstore (by decide) rfl dX11_commonDivisor_33 ?_
        refine a_lload rfl dX11_commonDivisor_35 ?_
        refine a_lstore (by decide) rfl dX11_commonDivisor_37 ?_
        refine n_iinc (c := 1) rfl rfl (by decide) rfl dX11_commonDivisor_39 ?_
        refine a_goto 9 dX11_commonDivisor_42 (by decide) ?_
        rw [eu_s h_21] at ih_9
        exact a_bk ih_9 ⟨rfl, rfl, rfl, rfl, rfl, trivial⟩
  exact a_bk (loop_9 0 (by omega)) ⟨rfl, rfl, rfl, rfl, rfl, trivial⟩

set_option maxRecDepth 100000 in
set_option maxHeartbeats 800000 in
theorem c_X11_tellFraction {M : Mm} {a b : Nat} (ha : a < 2 ^ 62) (hb : b < 2 ^ 62) (hb0 : 0 < b) {Q : Option Value → Mm → Prop} (hQ : Q none (slM (slM M 0 1 (lN (a / Nat.gcd a b))) 0 2 (lN (b / Nat.gcd a b)))) (d : Nat) : AMt miX11_tellFraction (d + 1) [.ref 0, .long (lN a), .long (lN b)] M Q := by
  refine AMt.of (by decide) (Nat.le_of_ble_eq_true rfl) ?_
  show AW miX11_tellFraction (d + 1) (mxA Q) 0 [(0, some (.ref 0)), (1, some (.long (lN a))), (3, some (.long (lN b)))] [] M
  have hg0 := Nat.gcd_pos_of_pos_right a hb0
  have hgl := Nat.le_of_dvd hb0 (Nat.gcd_dvd_right a b)
  refine a_lload_n rfl dX11_tellFraction_0 ?_
  refine a_lload_n rfl dX11_tellFraction_1 ?_
  refine n_callS (mi' := miX11_commonDivisor) dX11_tellFraction_2 lX11_419 mX11_commonDivisor (c_X11_commonDivisor (by omega) (by omega) ?_ d) rfl rfl (by omega) (by decide) (Nat.le_of_ble_eq_true rfl)
  show AW _ _ _ _ _ _ _
  refine a_lstore (by decide) rfl dX11_tellFraction_5 ?_
  refine a_lload rfl dX11_tellFraction_7 ?_
  refine a_lconst (lN 0) rfl dX11_tellFraction_9 ?_
  refine a_lcmp dX11_tellFraction_10 ?_
  refine nl_if_le 30 (by omega) (by omega) dX11_tellFraction_11 (by decide) (fun h_11 => absurd h_11 (by omega)) (fun h_11 => ?_)
  refine a_aload_n rfl dX11_tellFraction_14 ?_
  refine a_lload_n rfl dX11_tellFraction_15 ?_
  refine a_lload rfl dX11_tellFraction_16 ?_
  refine n_ldiv (by omega) (by omega) (by omega) dX11_tellFraction_18 ?_
  refine a_putl dX11_tellFraction_19 pX11_13 (by decide) rfl rfl ?_
  refine a_aload_n rfl dX11_tellFraction_22 ?_
  refine a_lload_n rfl dX11_tellFraction_23 ?_
  refine a_lload rfl dX11_tellFraction_24 ?_
  refine n_ldiv (by omega) (by omega) (by omega) dX11_tellFraction_26 ?_
  refine a_putl dX11_tellFraction_27 pX11_17 (by decide) rfl rfl ?_
  refine a_vret dX11_tellFraction_30 rfl ?_
  exact hQ

set_option maxRecDepth 100000 in
set_option maxHeartbeats 800000 in
theorem c_X12_fraction {M : Mm} {a b : Nat} (ha : a < 2 ^ 62) (hb : b < 2 ^ 62) (hb0 : 0 < b) {Q : Option Value → Mm → Prop} (hQ : Q (some (.int (nI 1))) (slM (slM M 132 2 (lN (a / Nat.gcd a b))) 132 3 (lN (b / Nat.gcd a b)))) (d : Nat) : AMt miX12_fraction (d) [.ref 132, .long (lN a), .long (lN b)] M Q := by
  refine AMt.of (by decide) (Nat.le_of_ble_eq_true rfl) ?_
  show AW miX12_fraction (d) (mxA Q) 0 [(0, some (.ref 132)), (1, some (.long (lN a))), (3, some (.long (lN b)))] [] M
  have hg0 := Nat.gcd_pos_of_pos_right a hb0
  have hgl := Nat.le_of_dvd hb0 (Nat.gcd_dvd_right a b)
  have hem := fun i => eu_le a b i
  have hmx : max a b < 2 ^ 63 := by omega
  refine a_lload_n rfl dX12_fraction_0 ?_
  refine n_absl (by omega) dX12_fraction_1 lX12_78 (Nat.le_of_ble_eq_true rfl) ?_
  refine a_lstore (by decide) rfl dX12_fraction_4 ?_
  refine a_lload_n rfl dX12_fraction_6 ?_
  refine a_lstore (by decide) rfl dX12_fraction_7 ?_
  have loop_9 : ∀ i, i ≤ 200 → AW miX12_fraction (d) (mxA Q) 9 [(0, some (.ref 132)), (1, some (.long (lN a))), (3, some (.long (lN b))), (5, some (.long (lN ((euN a b i).1)))), (7, some (.long (lN ((euN a b i).2))))] [] M := by
    refine up 200 ?_ (fun i hi_9 ih_9 => ?_)
    · have hem1 := hem 200
      refine a_lload rfl dX12_fraction_9 ?_
      refine a_lconst (lN 0) rfl dX12_fraction_11 ?_
      refine a_lcmp dX12_fraction_12 ?_
      refine nl_if_eq 34 (by omega) (by omega) dX12_fraction_13 (by decide) (fun h_13 => ?_) (fun h_13 => absurd (eu_200 (by omega)) h_13)
      rw [eu_end (eu_200 (by omega))]
      refine a_aload_n rfl dX12_fraction_34 ?_
      refine a_lload_n rfl dX12_fraction_35 ?_
      refine a_lload rfl dX12_fraction_36 ?_
      refine n_ldiv (by omega) (by omega) (by omega) dX12_fraction_38 ?_
      refine a_putl dX12_fraction_39 pX12_75 (by decide) rfl rfl ?_
      refine a_aload_n rfl dX12_fraction_42 ?_
      refine a_lload_n rfl dX12_fraction_43 ?_
      refine a_lload rfl dX12_fraction_44 ?_
      refine n_ldiv (by omega) (by omega) (by omega) dX12_fraction_46 ?_
      refine a_putl dX12_fraction_47 pX12_7 (by decide) rfl rfl ?_
      refine n_iconst 1 rfl dX12_fraction_50 ?_
      refine a_zret dX12_fraction_51 rfl (Or.inr rfl) ?_
      exact hQ
    · have hem1 := hem i
      refine a_lload rfl dX12_fraction_9 ?_
      refine a_lconst (lN 0) rfl dX12_fraction_11 ?_
      refine a_lcmp dX12_fraction_12 ?_
      refine nl_if_eq 34 (by omega) (by omega) dX12_fraction_13 (by decide) (fun h_13 => ?_) (fun h_13 => ?_)
      · rw [eu_end h_13]
        refine a_aload_n rfl dX12_fraction_34 ?_
        refine a_lload_n rfl dX12_fraction_35 ?_
        refine a_lload rfl dX12_fraction_36 ?_
        refine n_ldiv (by omega) (by omega) (by omega) dX12_fraction_38 ?_
        refine a_putl dX12_fraction_39 pX12_75 (by decide) rfl rfl ?_
        refine a_aload_n rfl dX12_fraction_42 ?_
        refine a_lload_n rfl dX12_fraction_43 ?_
        refine a_lload rfl dX12_fraction_44 ?_
        refine n_ldiv (by omega) (by omega) (by omega) dX12_fraction_46 ?_
        refine a_putl dX12_fraction_47 pX12_7 (by decide) rfl rfl ?_
        refine n_iconst 1 rfl dX12_fraction_50 ?_
        refine a_zret dX12_fraction_51 rfl (Or.inr rfl) ?_
        exact hQ
      · refine a_lload rfl dX12_fraction_16 ?_
        refine a_lload rfl dX12_fraction_18 ?_
        refine n_lrem (by omega) (by omega) (by omega) dX12_fraction_20 ?_
        refine a_lstore (by decide) rfl dX12_fraction_21 ?_
        refine a_lload rfl dX12_fraction_23 ?_
        refine a_lstore (by decide) rfl dX12_fraction_25 ?_
        refine a_lload rfl dX12_fraction_27 ?_
        refine a_lstore (by decide) rfl dX12_fraction_29 ?_
        refine a_goto 9 dX12_fraction_31 (by decide) ?_
        rw [eu_s h_13] at ih_9
        exact a_bk ih_9 ⟨rfl, rfl, rfl, rfl, rfl, trivial⟩
  exact a_bk (loop_9 0 (by omega)) ⟨rfl, rfl, rfl, rfl, rfl, trivial⟩

/-- what OFF costs, in parts of 16 to the power of the DAYS -/
def ocN (o h : Nat) : Nat → Nat
  | 0 => h
  | n + 1 => min (16 ^ (n + 1) + (16 - o) * ocN o h n) (h * 16 ^ (n + 1))
theorem oc_le (o h : Nat) : ∀ n, ocN o h n ≤ h * 16 ^ n
  | 0 => by show h ≤ h * 1; omega
  | n + 1 => Nat.min_le_right _ _
theorem p16 {n : Nat} (hn : n ≤ 8) : 16 ^ n ≤ 4294967296 ∧ 0 < 16 ^ n := ⟨Nat.le_trans (Nat.pow_le_pow_right (by decide) hn) (by decide), Nat.pow_pos (by decide)⟩
theorem p16b {n : Nat} (hn : n ≤ 12) : 16 ^ n ≤ 281474976710656 ∧ 0 < 16 ^ n := ⟨Nat.le_trans (Nat.pow_le_pow_right (by decide) hn) (by decide), Nat.pow_pos (by decide)⟩
theorem oc_b {o h n : Nat} (hh : h ≤ 99) (hn : n ≤ 8) : ocN o h n ≤ 425201762304 ∧ (16 - o) * ocN o h n ≤ 6803228196864 ∧ h * 16 ^ n ≤ 425201762304 := by
  have h1 := Nat.mul_le_mul hh (p16 hn).1
  have h2 := oc_le o h n
  have h3 : (16 - o) * ocN o h n ≤ 16 * ocN o h n := Nat.mul_le_mul_right _ (Nat.sub_le _ _)
  exact ⟨by omega, by omega, by omega⟩
theorem pw4 (n : Nat) : 1 * 2 ^ (4 * n) = 16 ^ n := by rw [Nat.one_mul, Nat.pow_mul]
def sp_off (h n : Int32) (T : TT) : AN := if inN h 100 ∧ inN n 9 then (nI 1, frT T (ocN (tS T 0 0) (idx h) (idx n)) (16 ^ idx n)) else (nI 0, st' T 5)
def sp_stay (h n : Int32) (T : TT) : AN := if inN h 100 ∧ inN n 9 then (nI (if ocN (tS T 0 0) (idx h) (idx n) < idx h * 16 ^ idx n then 1 else 0), st' T 0) else (-1, st' T 5)
def sp_lasts (n : Int32) (T : TT) : AN := if inN n 13 then (nI 1, frT T ((16 - tS T 0 0) ^ idx n) (16 ^ idx n)) else (nI 0, st' T 5)
def hallN (S : ST) : Nat := sumN (fun p => hgt (S 6 p) (S 2 (S 7 p))) (S 0 4)
def sp_share (p : Int32) (T : TT) : AN := if inN p (tS T 0 4) then (if hallN (tS T) = 0 then (nI 0, st' T 8) else (nI 1, frT T (hghN (tS T) (idx p)) (hallN (tS T)))) else (nI 0, st' T 2)
theorem hall_le {S : ST} (hF : WF S) : hallN S ≤ 693 := by
  have hs := WF_s hF
  have h := sumN_le (f := fun p => hgt (S 6 p) (S 2 (S 7 p))) (b := 99) (n := S 0 4) (fun p hp => Nat.le_trans (hgt_le _ _) (WF_tall hF p hp).2)
  have h2 : S 0 4 * 99 ≤ 7 * 99 := Nat.mul_le_mul_right 99 hs
  unfold hallN; omega

set_option maxRecDepth 100000 in
set_option maxHeartbeats 800000 in
theorem c_X11_isOffCase {M : Mm} {h n : Int32} {Q : Option Value → Mm → Prop} (h1 : inN h 100 ∧ inN n 9 → Q (some (.int (nI 1))) M) (h0 : ¬ (inN h 100 ∧ inN n 9) → Q (some (.int (nI 0))) M) (d : Nat) : AMt miX11_isOffCase (d) [.int h, .int n] M Q := by
  refine AMt.of (by decide) (Nat.le_of_ble_eq_true rfl) ?_
  show AW miX11_isOffCase (d) (mxA Q) 0 [(0, some (.int h)), (1, some (.int n))] [] M
  refine a_iload_n rfl dX11_isOffCase_0 ?_
  refine r_if_lt 24 dX11_isOffCase_1 (by decide) (fun h_1 => ?_) (fun h_1 => ?_)
  · refine n_iconst 0 rfl dX11_isOffCase_24 ?_
    refine a_zret dX11_isOffCase_25 rfl (Or.inl rfl) ?_
    exact h0 (by omega)
  · refine a_iload_n rfl dX11_isOffCase_4 ?_
    refine n_bipush 99 rfl dX11_isOffCase_5 ?_
    refine r_icmp_gt 24 (by omega) dX11_isOffCase_7 (by decide) (fun h_7 => ?_) (fun h_7 => ?_)
    · refine n_iconst 0 rfl dX11_isOffCase_24 ?_
      refine a_zret dX11_isOffCase_25 rfl (Or.inl rfl) ?_
      exact h0 (by omega)
    · refine a_iload_n rfl dX11_isOffCase_10 ?_
      refine r_if_lt 24 dX11_isOffCase_11 (by decide) (fun h_11 => ?_) (fun h_11 => ?_)
      · refine n_iconst 0 rfl dX11_isOffCase_24 ?_
        refine a_zret dX11_isOffCase_25 rfl (Or.inl rfl) ?_
        exact h0 (by omega)
      · refine a_iload_n rfl dX11_isOffCase_14 ?_
        refine n_bipush 8 rfl dX11_isOffCase_15 ?_
        refine r_icmp_gt 24 (by omega) dX11_isOffCase_17 (by decide) (fun h_17 => ?_) (fun h_17 => ?_)
        · refine n_iconst 0 rfl dX11_isOffCase_24 ?_
          refine a_zret dX11_isOffCase_25 rfl (Or.inl rfl) ?_
          exact h0 (by omega)
        · refine n_iconst 1 rfl dX11_isOffCase_20 ?_
          refine a_goto 25 dX11_isOffCase_21 (by decide) ?_
          refine a_zret dX11_isOffCase_25 rfl (Or.inr rfl) ?_
          exact h1 (by omega)

set_option maxRecDepth 100000 in
set_option maxHeartbeats 800000 in
theorem c_X11_powerOf16 {M : Mm} {n : Nat} (hn : n ≤ 15) {Q : Option Value → Mm → Prop} (hQ : Q (some (.long (lN (16 ^ n)))) M) (d : Nat) : AMt miX11_powerOf16 (d) [.int (nI n)] M Q := by
  refine AMt.of (by decide) (Nat.le_of_ble_eq_true rfl) ?_
  show AW miX11_powerOf16 (d) (mxA Q) 0 [(0, some (.int (nI n)))] [] M
  refine a_lconst (lN 1) rfl dX11_powerOf16_0 ?_
  refine n_iconst 4 rfl dX11_powerOf16_1 ?_
  refine a_iload_n rfl dX11_powerOf16_2 ?_
  refine n_imul dX11_powerOf16_3 ?_
  refine n_lshl (by omega) dX11_powerOf16_4 ?_
  refine a_lret dX11_powerOf16_5 rfl ?_
  rw [pw4]
  exact hQ

set_option maxRecDepth 100000 in
set_option maxHeartbeats 800000 in
theorem c_X11_offCost {M : Mm} {S : ST} (hV : VX 17 M S) (hF : WF S) {h n : Nat} (hh : h ≤ 99) (hn : n ≤ 8) {Q : Option Value → Mm → Prop} (hQ : Q (some (.long (lN (ocN (S 0 0) h n)))) M) (d : Nat) : AMt miX11_offCost (d + 1) [.ref 0, .int (nI h), .int (nI n)] M Q := by
  refine AMt.of (by decide) (Nat.le_of_ble_eq_true rfl) ?_
  show AW miX11_offCost (d + 1) (mxA Q) 0 [(0, some (.ref 0)), (1, some (.int (nI h))), (2, some (.int (nI n)))] [] M
  have hod := WF_odds hF
  refine a_iload_n rfl dX11_offCost_0 ?_
  refine n_i2l (by omega) dX11_offCost_1 ?_
  refine a_lstore_n (by decide) rfl dX11_offCost_2 ?_
  refine n_iconst 1 rfl dX11_offCost_3 ?_
  refine a_istore (by decide) rfl dX11_offCost_4 ?_
  have loop_6 : ∀ i, i ≤ n → AW miX11_offCost (d + 1) (mxA Q) 6 [(0, some (.ref 0)), (1, some (.int (nI h))), (2, some (.int (nI n))), (3, some (.long (lN (ocN (S 0 0) h i)))), (5, some (.int (nI (i + 1))))] [] M := by
    refine up n ?_ (fun i hi_6 ih_6 => ?_)
    · refine a_iload rfl dX11_offCost_6 ?_
      refine a_iload_n rfl dX11_offCost_8 ?_
      refine n_icmp_gt 53 (by omega) (by omega) dX11_offCost_9 (by decide) (fun h_9 => ?_) (fun h_9 => absurd h_9 (by omega))
      refine a_lload_n rfl dX11_offCost_53 ?_
      refine a_lret dX11_offCost_54 rfl ?_
      exact hQ
    · have hb1 := oc_b (o := S 0 0) hh (show i ≤ 8 by omega)
      have hb2 := oc_b (o := S 0 0) hh (show i + 1 ≤ 8 by omega)
      have hb3 := p16 (show i + 1 ≤ 8 by omega)
      refine a_iload rfl dX11_offCost_6 ?_
      refine a_iload_n rfl dX11_offCost_8 ?_
      refine n_icmp_gt 53 (by omega) (by omega) dX11_offCost_9 (by decide) (fun h_9 => absurd h_9 (by omega)) (fun h_9 => ?_)
      refine a_iload rfl dX11_offCost_12 ?_
      refine n_callS (mi' := miX11_powerOf16) dX11_offCost_14 lX11_389 mX11_powerOf16 (c_X11_powerOf16 (by omega) ?_ d) rfl rfl (by omega) (by decide) (Nat.le_of_ble_eq_true rfl)
      show AW _ _ _ _ _ _ _
      refine n_bipush 16 rfl dX11_offCost_17 ?_
      refine a_aload_n rfl dX11_offCost_19 ?_
      refine a_geta dX11_offCost_20 fX11_58 (by decide) rfl rfl ?_
      refine g_i (VX_0 hV) (by decide) rfl fX11_210 rfl dX11_offCost_23 ?_
      refine n_isub (by omega) dX11_offCost_26 ?_
      refine n_i2l (by omega) dX11_offCost_27 ?_
      refine a_lload_n rfl dX11_offCost_28 ?_
      refine n_lmul dX11_offCost_29 ?_
      refine n_ladd dX11_offCost_30 ?_
      refine a_lstore (by decide) rfl dX11_offCost_31 ?_
      refine a_lload rfl dX11_offCost_33 ?_
      refine a_iload_n rfl dX11_offCost_35 ?_
      refine n_i2l (by omega) dX11_offCost_36 ?_
      refine a_iload rfl dX11_offCost_37 ?_
      refine n_callS (mi' := miX11_powerOf16) dX11_offCost_39 lX11_389 mX11_powerOf16 (c_X11_powerOf16 (by omega) ?_ d) rfl rfl (by omega) (by decide) (Nat.le_of_ble_eq_true rfl)
      show AW _ _ _ _ _ _ _
      refine n_lmul dX11_offCost_42 ?_
      refine n_minl (by omega) (by omega) dX11_offCost_43 lX11_423 (Nat.le_of_ble_eq_true rfl) ?_
      refine a_lstore_n (by decide) rfl dX11_offCost_46 ?_
      refine n_iinc (c := 1) rfl rfl (by decide) rfl dX11_offCost_47 ?_
      refine a_goto 6 dX11_offCost_50 (by decide) ?_
      exact a_bk ih_6 ⟨rfl, rfl, rfl, rfl, rfl, trivial⟩
  exact a_bk (loop_6 0 (by omega)) ⟨rfl, rfl, rfl, rfl, rfl, trivial⟩

set_option maxRecDepth 100000 in
set_option maxHeartbeats 800000 in
theorem c_X11_off {M : Mm} {T : TT} (hI : IX M T) (hG : TG T) {h n : Int32} {Q : Option Value → Mm → Prop} (hQ : ∀ M', IX M' (sp_off h n T).2 → keM M M' → Q (some (.int (sp_off h n T).1)) M') (d : Nat) : AMt miX11_off (d + 3) [.ref 0, .int h, .int n] M Q := by
  refine AMt.of (by decide) (Nat.le_of_ble_eq_true rfl) ?_
  show AW miX11_off (d + 3) (mxA Q) 0 [(0, some (.ref 0)), (1, some (.int h)), (2, some (.int n))] [] M
  have hV : VX 17 M (tS T) := hI.1.1
  have hF : WF (tS T) := hG.1.1
  have hm : tS T 0 2 ≤ 6 := WF_m hF
  have hh : tS T 0 3 ≤ 10 := WF_h hF
  have hs : tS T 0 4 ≤ 7 := WF_s hF
  have hn : tS T 0 5 ≤ 8 := WF_n hF
  refine a_iload_n rfl dX11_off_0 ?_
  refine a_iload_n rfl dX11_off_1 ?_
  refine n_callS (mi' := miX11_isOffCase) dX11_off_2 lX11_382 mX11_isOffCase (c_X11_isOffCase (fun h_2 => ?_) (fun h_2 => ?_) d) rfl rfl (by omega) (by decide) (Nat.le_of_ble_eq_true rfl)
  · show AW _ _ _ _ _ _ _
    refine n_if_ne 14 (by decide) dX11_off_5 (by decide) (fun _ => ?_) (fun h => absurd h (by decide))
    obtain ⟨a, ha, rfl⟩ := inR_of (x := h) (m := 100) (by omega) (by omega) (by omega)
    have t_a : (nI a).toInt = (a : Int) := nI_toInt (by omega)
    have i_a : idx (nI a) = a := idx_nI (by omega)
    obtain ⟨b, hb, rfl⟩ := inR_of (x := n) (m := 9) (by omega) (by omega) (by omega)
    have t_b : (nI b).toInt = (b : Int) := nI_toInt (by omega)
    have i_b : idx (nI b) = b := idx_nI (by omega)
    have hb1 := oc_b (o := tS T 0 0) (show a ≤ 99 by omega) (show b ≤ 8 by omega)
    have hb2 := p16 (show b ≤ 8 by omega)
    refine a_aload_n rfl dX11_off_14 ?_
    refine a_aload_n rfl dX11_off_15 ?_
    refine a_iload_n rfl dX11_off_16 ?_
    refine a_iload_n rfl dX11_off_17 ?_
    refine n_callV (mi' := miX11_offCost) dX11_off_18 lX11_385 mX11_offCost (by decide) rfl rfl rfl (c_X11_offCost hV hF (by omega) (by omega) ?_ d) rfl rfl (by omega) (by decide) (Nat.le_of_ble_eq_true rfl)
    show AW _ _ _ _ _ _ _
    refine a_iload_n rfl dX11_off_21 ?_
    refine n_callS (mi' := miX11_powerOf16) dX11_off_22 lX11_389 mX11_powerOf16 (c_X11_powerOf16 (by omega) ?_ d) rfl rfl (by omega) (by decide) (Nat.le_of_ble_eq_true rfl)
    show AW _ _ _ _ _ _ _
    refine n_callV (mi' := miX11_tellFraction) dX11_off_25 lX11_393 mX11_tellFraction (by decide) rfl rfl rfl (c_X11_tellFraction (by omega) (by omega) (by omega) ?_ d) rfl rfl (by omega) (by decide) (Nat.le_of_ble_eq_true rfl)
    show AW _ _ _ _ _ _ _
    refine a_aload_n rfl dX11_off_28 ?_
    refine n_callV (mi' := miX11_agree) dX11_off_29 lX11_119 mX11_agree (by decide) rfl rfl rfl (c_X11_agree ?_ d) rfl rfl (by omega) (by decide) (Nat.le_of_ble_eq_true rfl)
    show AW _ _ _ _ _ _ _
    refine a_zret dX11_off_32 rfl (Or.inr rfl) ?_
    exact fin_F hQ hI hG (by unfold sp_off; rw [if_pos (by omega), i_a, i_b]) fr.r
  · show AW _ _ _ _ _ _ _
    refine n_if_ne 14 (by decide) dX11_off_5 (by decide) (fun h => absurd h (by decide)) (fun _ => ?_)
    refine a_aload_n rfl dX11_off_8 ?_
    refine n_iconst 5 rfl dX11_off_9 ?_
    refine n_callV (mi' := miX11_refuse) dX11_off_10 lX11_112 mX11_refuse (by decide) rfl rfl rfl (c_X11_refuse ?_ d) rfl rfl (by omega) (by decide) (Nat.le_of_ble_eq_true rfl)
    show AW _ _ _ _ _ _ _
    refine a_zret dX11_off_13 rfl (Or.inl rfl) ?_
    exact fin_q hQ hI hG (by unfold sp_off; rw [if_neg h_2]) fr.r

set_option maxRecDepth 100000 in
set_option maxHeartbeats 800000 in
theorem c_X11_stay {M : Mm} {T : TT} (hI : IX M T) (hG : TG T) {h n : Int32} {Q : Option Value → Mm → Prop} (hQ : ∀ M', IX M' (sp_stay h n T).2 → keM M M' → Q (some (.int (sp_stay h n T).1)) M') (d : Nat) : AMt miX11_stay (d + 3) [.ref 0, .int h, .int n] M Q := by
  refine AMt.of (by decide) (Nat.le_of_ble_eq_true rfl) ?_
  show AW miX11_stay (d + 3) (mxA Q) 0 [(0, some (.ref 0)), (1, some (.int h)), (2, some (.int n))] [] M
  have hV : VX 17 M (tS T) := hI.1.1
  have hF : WF (tS T) := hG.1.1
  have hm : tS T 0 2 ≤ 6 := WF_m hF
  have hh : tS T 0 3 ≤ 10 := WF_h hF
  have hs : tS T 0 4 ≤ 7 := WF_s hF
  have hn : tS T 0 5 ≤ 8 := WF_n hF
  refine a_iload_n rfl dX11_stay_0 ?_
  refine a_iload_n rfl dX11_stay_1 ?_
  refine n_callS (mi' := miX11_isOffCase) dX11_stay_2 lX11_382 mX11_isOffCase (c_X11_isOffCase (fun h_2 => ?_) (fun h_2 => ?_) d) rfl rfl (by omega) (by decide) (Nat.le_of_ble_eq_true rfl)
  · show AW _ _ _ _ _ _ _
    refine n_if_ne 14 (by decide) dX11_stay_5 (by decide) (fun _ => ?_) (fun h => absurd h (by decide))
    obtain ⟨a, ha, rfl⟩ := inR_of (x := h) (m := 100) (by omega) (by omega) (by omega)
    have t_a : (nI a).toInt = (a : Int) := nI_toInt (by omega)
    have i_a : idx (nI a) = a := idx_nI (by omega)
    obtain ⟨b, hb, rfl⟩ := inR_of (x := n) (m := 9) (by omega) (by omega) (by omega)
    have t_b : (nI b).toInt = (b : Int) := nI_toInt (by omega)
    have i_b : idx (nI b) = b := idx_nI (by omega)
    have hb1 := oc_b (o := tS T 0 0) (show a ≤ 99 by omega) (show b ≤ 8 by omega)
    have hb2 := p16 (show b ≤ 8 by omega)
    refine a_aload_n rfl dX11_stay_14 ?_
    refine a_aload_n rfl dX11_stay_15 ?_
    refine a_iload_n rfl dX11_stay_16 ?_
    refine a_iload_n rfl dX11_stay_17 ?_
    refine n_callV (mi' := miX11_offCost) dX11_stay_18 lX11_385 mX11_offCost (by decide) rfl rfl rfl (c_X11_offCost hV hF (by omega) (by omega) ?_ d) rfl rfl (by omega) (by decide) (Nat.le_of_ble_eq_true rfl)
    show AW _ _ _ _ _ _ _
    refine a_iload_n rfl dX11_stay_21 ?_
    refine n_i2l (by omega) dX11_stay_22 ?_
    refine a_iload_n rfl dX11_stay_23 ?_
    refine n_callS (mi' := miX11_powerOf16) dX11_stay_24 lX11_389 mX11_powerOf16 (c_X11_powerOf16 (by omega) ?_ d) rfl rfl (by omega) (by decide) (Nat.le_of_ble_eq_true rfl)
    show AW _ _ _ _ _ _ _
    refine n_lmul dX11_stay_27 ?_
    refine a_lcmp dX11_stay_28 ?_
    refine nl_if_ge 36 (by omega) (by omega) dX11_stay_29 (by decide) (fun h_29 => ?_) (fun h_29 => ?_)
    · refine n_iconst 0 rfl dX11_stay_36 ?_
      refine n_callV (mi' := miX11_answer) dX11_stay_37 lX11_177 mX11_answer (by decide) rfl rfl rfl (c_X11_answer ?_ d) rfl rfl (by omega) (by decide) (Nat.le_of_ble_eq_true rfl)
      show AW _ _ _ _ _ _ _
      refine a_iret dX11_stay_40 rfl ?_
      exact fin_q hQ hI hG (by unfold sp_stay; rw [if_pos (by omega), i_a, i_b, if_neg (by omega)]) fr.r
    · refine n_iconst 1 rfl dX11_stay_32 ?_
      refine a_goto 37 dX11_stay_33 (by decide) ?_
      refine n_callV (mi' := miX11_answer) dX11_stay_37 lX11_177 mX11_answer (by decide) rfl rfl rfl (c_X11_answer ?_ d) rfl rfl (by omega) (by decide) (Nat.le_of_ble_eq_true rfl)
      show AW _ _ _ _ _ _ _
      refine a_iret dX11_stay_40 rfl ?_
      exact fin_q hQ hI hG (by unfold sp_stay; rw [if_pos (by omega), i_a, i_b, if_pos (by omega)]) fr.r
  · show AW _ _ _ _ _ _ _
    refine n_if_ne 14 (by decide) dX11_stay_5 (by decide) (fun h => absurd h (by decide)) (fun _ => ?_)
    refine a_aload_n rfl dX11_stay_8 ?_
    refine n_iconst 5 rfl dX11_stay_9 ?_
    refine n_callV (mi' := miX11_none) dX11_stay_10 lX11_131 mX11_none (by decide) rfl rfl rfl (c_X11_none ?_ d) rfl rfl (by omega) (by decide) (Nat.le_of_ble_eq_true rfl)
    show AW _ _ _ _ _ _ _
    refine a_iret dX11_stay_13 rfl ?_
    exact fin_q hQ hI hG (by unfold sp_stay; rw [if_neg h_2]) fr.r

set_option maxRecDepth 100000 in
set_option maxHeartbeats 800000 in
theorem c_X11_lasts {M : Mm} {T : TT} (hI : IX M T) (hG : TG T) {n : Int32} {Q : Option Value → Mm → Prop} (hQ : ∀ M', IX M' (sp_lasts n T).2 → keM M M' → Q (some (.int (sp_lasts n T).1)) M') (d : Nat) : AMt miX11_lasts (d + 3) [.ref 0, .int n] M Q := by
  refine AMt.of (by decide) (Nat.le_of_ble_eq_true rfl) ?_
  show AW miX11_lasts (d + 3) (mxA Q) 0 [(0, some (.ref 0)), (1, some (.int n))] [] M
  have hV : VX 17 M (tS T) := hI.1.1
  have hF : WF (tS T) := hG.1.1
  have hm : tS T 0 2 ≤ 6 := WF_m hF
  have hh : tS T 0 3 ≤ 10 := WF_h hF
  have hs : tS T 0 4 ≤ 7 := WF_s hF
  have hn : tS T 0 5 ≤ 8 := WF_n hF
  have hod := WF_odds hF
  refine a_iload_n rfl dX11_lasts_0 ?_
  refine r_if_lt 10 dX11_lasts_1 (by decide) (fun h_1 => ?_) (fun h_1 => ?_)
  · refine a_aload_n rfl dX11_lasts_10 ?_
    refine n_iconst 5 rfl dX11_lasts_11 ?_
    refine n_callV (mi' := miX11_refuse) dX11_lasts_12 lX11_112 mX11_refuse (by decide) rfl rfl rfl (c_X11_refuse ?_ d) rfl rfl (by omega) (by decide) (Nat.le_of_ble_eq_true rfl)
    show AW _ _ _ _ _ _ _
    refine a_zret dX11_lasts_15 rfl (Or.inl rfl) ?_
    exact fin_q hQ hI hG (by unfold sp_lasts; rw [if_neg (by omega)]) fr.r
  · refine a_iload_n rfl dX11_lasts_4 ?_
    refine n_bipush 12 rfl dX11_lasts_5 ?_
    refine r_icmp_le 16 (by omega) dX11_lasts_7 (by decide) (fun h_7 => ?_) (fun h_7 => ?_)
    · obtain ⟨b, hb, rfl⟩ := inR_of (x := n) (m := 13) (by omega) (by omega) (by omega)
      have t_b : (nI b).toInt = (b : Int) := nI_toInt (by omega)
      have i_b : idx (nI b) = b := idx_nI (by omega)
      have hb2 := p16b (show b ≤ 12 by omega)
      have hlp : ∀ i, i ≤ 12 → (16 - tS T 0 0) ^ i ≤ 281474976710656 := fun i hi => Nat.le_trans (Nat.pow_le_pow_left (Nat.sub_le _ _) i) (p16b hi).1
      have hlb := hlp b (by omega)
      refine a_lconst (lN 1) rfl dX11_lasts_16 ?_
      refine a_lstore_n (by decide) rfl dX11_lasts_17 ?_
      refine n_iconst 0 rfl dX11_lasts_18 ?_
      refine a_istore (by decide) rfl dX11_lasts_19 ?_
      have loop_21 : ∀ i, i ≤ b → AW miX11_lasts (d + 3) (mxA Q) 21 [(0, some (.ref 0)), (1, some (.int (nI b))), (2, some (.long (lN ((16 - tS T 0 0) ^ i)))), (4, some (.int (nI i)))] [] M := by
        refine up b ?_ (fun i hi_21 ih_21 => ?_)
        · refine a_iload rfl dX11_lasts_21 ?_
          refine a_iload_n rfl dX11_lasts_23 ?_
          refine n_icmp_ge 47 (by omega) (by omega) dX11_lasts_24 (by decide) (fun h_24 => ?_) (fun h_24 => absurd h_24 (by omega))
          refine a_aload_n rfl dX11_lasts_47 ?_
          refine a_lload_n rfl dX11_lasts_48 ?_
          refine a_iload_n rfl dX11_lasts_49 ?_
          refine n_callS (mi' := miX11_powerOf16) dX11_lasts_50 lX11_389 mX11_powerOf16 (c_X11_powerOf16 (by omega) ?_ d) rfl rfl (by omega) (by decide) (Nat.le_of_ble_eq_true rfl)
          show AW _ _ _ _ _ _ _
          refine n_callV (mi' := miX11_tellFraction) dX11_lasts_53 lX11_393 mX11_tellFraction (by decide) rfl rfl rfl (c_X11_tellFraction (by omega) (by omega) (by omega) ?_ d) rfl rfl (by omega) (by decide) (Nat.le_of_ble_eq_true rfl)
          show AW _ _ _ _ _ _ _
          refine a_aload_n rfl dX11_lasts_56 ?_
          refine n_callV (mi' := miX11_agree) dX11_lasts_57 lX11_119 mX11_agree (by decide) rfl rfl rfl (c_X11_agree ?_ d) rfl rfl (by omega) (by decide) (Nat.le_of_ble_eq_true rfl)
          show AW _ _ _ _ _ _ _
          refine a_zret dX11_lasts_60 rfl (Or.inr rfl) ?_
          exact fin_F hQ hI hG (by unfold sp_lasts; rw [if_pos (by omega), i_b]) fr.r
        · have hli := hlp i (by omega)
          refine a_iload rfl dX11_lasts_21 ?_
          refine a_iload_n rfl dX11_lasts_23 ?_
          refine n_icmp_ge 47 (by omega) (by omega) dX11_lasts_24 (by decide) (fun h_24 => absurd h_24 (by omega)) (fun h_24 => ?_)
          refine a_lload_n rfl dX11_lasts_27 ?_
          refine n_bipush 16 rfl dX11_lasts_28 ?_
          refine a_aload_n rfl dX11_lasts_30 ?_
          refine a_geta dX11_lasts_31 fX11_58 (by decide) rfl rfl ?_
          refine g_i (VX_0 hV) (by decide) rfl fX11_210 rfl dX11_lasts_34 ?_
          refine n_isub (by omega) dX11_lasts_37 ?_
          refine n_i2l (by omega) dX11_lasts_38 ?_
          refine n_lmul dX11_lasts_39 ?_
          refine a_lstore_n (by decide) rfl dX11_lasts_40 ?_
          refine n_iinc (c := 1) rfl rfl (by decide) rfl dX11_lasts_41 ?_
          refine a_goto 21 dX11_lasts_44 (by decide) ?_
          rw [Nat.pow_succ] at ih_21
          exact a_bk ih_21 ⟨rfl, rfl, rfl, rfl, trivial⟩
      exact a_bk (loop_21 0 (by omega)) ⟨rfl, rfl, rfl, rfl, trivial⟩
    · refine a_aload_n rfl dX11_lasts_10 ?_
      refine n_iconst 5 rfl dX11_lasts_11 ?_
      refine n_callV (mi' := miX11_refuse) dX11_lasts_12 lX11_112 mX11_refuse (by decide) rfl rfl rfl (c_X11_refuse ?_ d) rfl rfl (by omega) (by decide) (Nat.le_of_ble_eq_true rfl)
      show AW _ _ _ _ _ _ _
      refine a_zret dX11_lasts_15 rfl (Or.inl rfl) ?_
      exact fin_q hQ hI hG (by unfold sp_lasts; rw [if_neg (by omega)]) fr.r

set_option maxRecDepth 100000 in
set_option maxHeartbeats 800000 in
theorem c_X11_share {M : Mm} {T : TT} (hI : IX M T) (hG : TG T) {p : Int32} {Q : Option Value → Mm → Prop} (hQ : ∀ M', IX M' (sp_share p T).2 → keM M M' → Q (some (.int (sp_share p T).1)) M') (d : Nat) : AMt miX11_share (d + 4) [.ref 0, .int p] M Q := by
  refine AMt.of (by decide) (Nat.le_of_ble_eq_true rfl) ?_
  show AW miX11_share (d + 4) (mxA Q) 0 [(0, some (.ref 0)), (1, some (.int p))] [] M
  have hV : VX 17 M (tS T) := hI.1.1
  have hF : WF (tS T) := hG.1.1
  have hm : tS T 0 2 ≤ 6 := WF_m hF
  have hh : tS T 0 3 ≤ 10 := WF_h hF
  have hs : tS T 0 4 ≤ 7 := WF_s hF
  have hn : tS T 0 5 ≤ 8 := WF_n hF
  have hal := hall_le hF
  refine a_aload_n rfl dX11_share_0 ?_
  refine a_geta dX11_share_1 fX11_58 (by decide) rfl rfl ?_
  refine a_iload_n rfl dX11_share_4 ?_
  refine n_callV (mi' := miX6_hasSitter) dX11_share_5 lX11_259 mX6_hasSitter (by decide) rfl rfl rfl (c_X6_hasSitter isW17 hV hF (fun j_5 h_5 e_5 => ?_) (fun h_5 => ?_) d) rfl rfl (by omega) (by decide) (Nat.le_of_ble_eq_true rfl)
  · show AW _ _ _ _ _ _ _
    subst e_5
    have t_5 : (nI j_5).toInt = (j_5 : Int) := nI_toInt (by omega)
    refine n_if_ne 17 (by decide) dX11_share_8 (by decide) (fun _ => ?_) (fun h => absurd h (by decide))
    refine a_aload_n rfl dX11_share_17 ?_
    refine a_geta dX11_share_18 fX11_58 (by decide) rfl rfl ?_
    refine n_callV (mi' := miX6_heightsTogether) dX11_share_21 lX11_404 mX6_heightsTogether (by decide) rfl rfl rfl (c_X6_heightsTogether isW17 hV hF ?_ d) rfl rfl (by omega) (by decide) (Nat.le_of_ble_eq_true rfl)
    show AW _ _ _ _ _ _ _
    refine a_eqi (y := nI (hallN (tS T))) rfl ?_
    refine a_istore_n (by decide) rfl dX11_share_24 ?_
    refine a_iload_n rfl dX11_share_25 ?_
    refine n_if_ne 36 (by omega) dX11_share_26 (by decide) (fun h_26 => ?_) (fun h_26 => ?_)
    · refine a_aload_n rfl dX11_share_36 ?_
      refine a_aload_n rfl dX11_share_37 ?_
      refine a_geta dX11_share_38 fX11_58 (by decide) rfl rfl ?_
      refine a_iload_n rfl dX11_share_41 ?_
      refine n_callV (mi' := miX6_heightNow) dX11_share_42 lX11_274 mX6_heightNow (by decide) rfl rfl rfl (c_X6_heightNow isW17 hV hF (by omega) ?_ d) rfl rfl (by omega) (by decide) (Nat.le_of_ble_eq_true rfl)
      show AW _ _ _ _ _ _ _
      refine a_eqi (y := nI (hghN (tS T) j_5)) rfl ?_
      have hh1 := hgt_le (tS T 6 j_5) (tS T 2 (tS T 7 j_5))
      have hh2 := WF_tall hF j_5 (by omega)
      have hh3 : hghN (tS T) j_5 = hgt (tS T 6 j_5) (tS T 2 (tS T 7 j_5)) := rfl
      refine n_i2l (by omega) dX11_share_45 ?_
      refine a_iload_n rfl dX11_share_46 ?_
      refine n_i2l (by omega) dX11_share_47 ?_
      refine n_callV (mi' := miX11_tellFraction) dX11_share_48 lX11_393 mX11_tellFraction (by decide) rfl rfl rfl (c_X11_tellFraction (by omega) (by omega) (by omega) ?_ d) rfl rfl (by omega) (by decide) (Nat.le_of_ble_eq_true rfl)
      show AW _ _ _ _ _ _ _
      refine a_aload_n rfl dX11_share_51 ?_
      refine n_callV (mi' := miX11_agree) dX11_share_52 lX11_119 mX11_agree (by decide) rfl rfl rfl (c_X11_agree ?_ d) rfl rfl (by omega) (by decide) (Nat.le_of_ble_eq_true rfl)
      show AW _ _ _ _ _ _ _
      refine a_zret dX11_share_55 rfl (Or.inr rfl) ?_
      exact fin_F hQ hI hG (by unfold sp_share; rw [if_pos (by omega), if_neg h_26, idx_nI (show j_5 < 2 ^ 31 by omega)]) fr.r
    · refine a_aload_n rfl dX11_share_29 ?_
      refine n_bipush 8 rfl dX11_share_30 ?_
      refine n_callV (mi' := miX11_refuse) dX11_share_32 lX11_112 mX11_refuse (by decide) rfl rfl rfl (c_X11_refuse ?_ d) rfl rfl (by omega) (by decide) (Nat.le_of_ble_eq_true rfl)
      show AW _ _ _ _ _ _ _
      refine a_zret dX11_share_35 rfl (Or.inl rfl) ?_
      exact fin_q hQ hI hG (by unfold sp_share; rw [if_pos (by omega), if_pos h_26]) fr.r
  · show AW _ _ _ _ _ _ _
    have h_5 := not_inR h_5 (by omega)
    refine n_if_ne 17 (by decide) dX11_share_8 (by decide) (fun h => absurd h (by decide)) (fun _ => ?_)
    refine a_aload_n rfl dX11_share_11 ?_
    refine n_iconst 2 rfl dX11_share_12 ?_
    refine n_callV (mi' := miX11_refuse) dX11_share_13 lX11_112 mX11_refuse (by decide) rfl rfl rfl (c_X11_refuse ?_ d) rfl rfl (by omega) (by decide) (Nat.le_of_ble_eq_true rfl)
    show AW _ _ _ _ _ _ _
    refine a_zret dX11_share_16 rfl (Or.inl rfl) ?_
    exact fin_q hQ hI hG (by unfold sp_share; rw [if_neg (by omega)]) fr.r

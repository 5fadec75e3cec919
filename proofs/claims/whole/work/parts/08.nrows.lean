/-! ===== rows over natural numbers (some plain facts begun from kit/laws: s_l, fa_and, fa_or) ===== -/
theorem s_l : ∀ n, n < 32 → ((nI n &&& 31).toBitVec.smod 32).toNat = n := by decide +kernel
theorem fa_and (a b : Nat) : nI a &&& nI b = nI (a &&& b) := by
  apply Int32.toBitVec_inj.1
  show BitVec.ofNat 32 a &&& BitVec.ofNat 32 b = BitVec.ofNat 32 (a &&& b)
  apply BitVec.eq_of_getLsbD_eq
  intro i hi
  simp [hi]
theorem fa_or (a b : Nat) : nI a ||| nI b = nI (a ||| b) := by
  apply Int32.toBitVec_inj.1
  show BitVec.ofNat 32 a ||| BitVec.ofNat 32 b = BitVec.ofNat 32 (a ||| b)
  apply BitVec.eq_of_getLsbD_eq
  intro i hi
  simp [hi]
theorem bv_andc (x y : BitVec 32) : x &&& (y ^^^ BitVec.allOnes 32) = x ^^^ (x &&& y) := by
  apply BitVec.eq_of_getLsbD_eq
  intro i hi
  simp only [BitVec.getLsbD_and, BitVec.getLsbD_xor, BitVec.getLsbD_allOnes, hi, decide_true]
  cases x.getLsbD i <;> cases y.getLsbD i <;> rfl
theorem nI_andc (a b : Nat) : nI a &&& (nI b ^^^ (-1)) = nI (a ^^^ (a &&& b)) := by
  apply Int32.toBitVec_inj.1
  show BitVec.ofNat 32 a &&& (BitVec.ofNat 32 b ^^^ BitVec.ofInt 32 (-1)) = BitVec.ofNat 32 (a ^^^ (a &&& b))
  have e : BitVec.ofInt 32 (-1) = BitVec.allOnes 32 := by decide
  rw [e, bv_andc]
  apply BitVec.eq_of_getLsbD_eq
  intro i hi
  simp [hi]
theorem nI_shl {a k : Nat} (hk : k < 31) (h : a * 2 ^ k < 2 ^ 32) : nI a <<< (nI k &&& 31) = nI (a * 2 ^ k) := pk_shlN _ k (s_l k (by omega)) h
theorem nI_shr {a k : Nat} (ha : a < 2 ^ 31) (hk : k < 32) : nI a >>> (nI k &&& 31) = nI (a / 2 ^ k) := pk_shrN ha _ k (s_l k hk)
theorem nI_bit1 {k : Nat} (hk : k < 31) : (nI 1) <<< (nI k &&& 31) = nI (2 ^ k) := by
  rw [nI_shl hk (by rw [Nat.one_mul]; exact Nat.lt_of_lt_of_le (Nat.pow_lt_pow_right (by decide) hk) (by decide)), Nat.one_mul]
theorem nI_has (a k : Nat) : nI (a / 2 ^ k) &&& nI 1 = nI (if a.testBit k then 1 else 0) := by
  rw [fa_and, Nat.and_one_is_mod, Nat.testBit_eq_decide_div_mod_eq]
  have := Nat.mod_two_eq_zero_or_one (a / 2 ^ k)
  rcases this with h | h <;> simp [h]
theorem up {W : Nat → Prop} (N : Nat) (hx : W N) (hs : ∀ i, i < N → W (i + 1) → W i) : ∀ i, i ≤ N → W i := by
  intro i
  generalize hn : N - i = n
  induction n generalizing i with
  | zero => intro h; rw [show i = N by omega]; exact hx
  | succ n ih => intro h; exact hs i (by omega) (ih (i + 1) (by omega) (by omega))
/-- a loop that counts up: its states by number, a world beside -/
theorem upS {σ : Type} {W : Nat → σ → Prop} (I : Nat → σ → Prop) (N : Nat) (hx : ∀ s, I N s → W N s) (hs : ∀ i s, i < N → I i s → (∀ s', I (i + 1) s' → W (i + 1) s') → W i s) : ∀ i s, i ≤ N → I i s → W i s := by
  intro i
  generalize hn : N - i = n
  induction n generalizing i with
  | zero => intro s h hI; rw [show i = N by omega] at hI ⊢; exact hx s hI
  | succ n ih => intro s h hI; exact hs i s (by omega) hI (fun s' hI' => ih (i + 1) (by omega) s' (by omega) hI')

theorem n_iadd {mi : MI} {d : Nat} {X : CX} {pc : Nat} {L : List (Nat × Option Value)} {st : List Value} {M : Mm} {a b : Nat} (hd : decode mi.2.1 pc = .ok (.iadd, 1)) (kk : AW mi d X (pc + 1) L (.int (nI (a + b)) :: st) M) : AW mi d X pc L (.int (nI b) :: .int (nI a) :: st) M := by
  refine a_iadd hd ?_; rw [nI_add]; exact kk
theorem n_isub {mi : MI} {d : Nat} {X : CX} {pc : Nat} {L : List (Nat × Option Value)} {st : List Value} {M : Mm} {a b : Nat} (h : b ≤ a) (hd : decode mi.2.1 pc = .ok (.isub, 1)) (kk : AW mi d X (pc + 1) L (.int (nI (a - b)) :: st) M) : AW mi d X pc L (.int (nI b) :: .int (nI a) :: st) M := by
  refine a_isub hd ?_; rw [pk_sub h]; exact kk
theorem n_imul {mi : MI} {d : Nat} {X : CX} {pc : Nat} {L : List (Nat × Option Value)} {st : List Value} {M : Mm} {a b : Nat} (hd : decode mi.2.1 pc = .ok (.imul, 1)) (kk : AW mi d X (pc + 1) L (.int (nI (a * b)) :: st) M) : AW mi d X pc L (.int (nI b) :: .int (nI a) :: st) M := by
  refine a_imul hd ?_; rw [pk_mul]; exact kk
theorem n_idiv {mi : MI} {d : Nat} {X : CX} {pc : Nat} {L : List (Nat × Option Value)} {st : List Value} {M : Mm} {a b : Nat} (ha : a < 2 ^ 31) (h0 : 0 < b) (hb : b < 2 ^ 31) (hd : decode mi.2.1 pc = .ok (.idiv, 1)) (kk : AW mi d X (pc + 1) L (.int (nI (a / b)) :: st) M) : AW mi d X pc L (.int (nI b) :: .int (nI a) :: st) M := by
  refine a_idiv (fun e => by have := (nI_eq hb (by decide : 0 < 2 ^ 31)).mp e; omega) hd ?_; rw [pk_div ha h0 hb]; exact kk
theorem n_irem {mi : MI} {d : Nat} {X : CX} {pc : Nat} {L : List (Nat × Option Value)} {st : List Value} {M : Mm} {a b : Nat} (ha : a < 2 ^ 31) (h0 : 0 < b) (hb : b < 2 ^ 31) (hd : decode mi.2.1 pc = .ok (.irem, 1)) (kk : AW mi d X (pc + 1) L (.int (nI (a % b)) :: st) M) : AW mi d X pc L (.int (nI b) :: .int (nI a) :: st) M := by
  refine a_irem (fun e => by have := (nI_eq hb (by decide : 0 < 2 ^ 31)).mp e; omega) hd ?_; rw [pk_rem ha h0 hb]; exact kk
theorem n_ior {mi : MI} {d : Nat} {X : CX} {pc : Nat} {L : List (Nat × Option Value)} {st : List Value} {M : Mm} {a b : Nat} (hd : decode mi.2.1 pc = .ok (.ior, 1)) (kk : AW mi d X (pc + 1) L (.int (nI (a ||| b)) :: st) M) : AW mi d X pc L (.int (nI b) :: .int (nI a) :: st) M := by
  refine a_ior hd ?_; rw [fa_or]; exact kk
theorem n_iand {mi : MI} {d : Nat} {X : CX} {pc : Nat} {L : List (Nat × Option Value)} {st : List Value} {M : Mm} {a b : Nat} (hd : decode mi.2.1 pc = .ok (.iand, 1)) (kk : AW mi d X (pc + 1) L (.int (nI (a &&& b)) :: st) M) : AW mi d X pc L (.int (nI b) :: .int (nI a) :: st) M := by
  refine a_iand hd ?_; rw [fa_and]; exact kk
theorem n_has {mi : MI} {d : Nat} {X : CX} {pc : Nat} {L : List (Nat × Option Value)} {st : List Value} {M : Mm} {a k : Nat} (hd : decode mi.2.1 pc = .ok (.iand, 1)) (kk : AW mi d X (pc + 1) L (.int (nI (if a.testBit k then 1 else 0)) :: st) M) : AW mi d X pc L (.int (nI 1) :: .int (nI (a / 2 ^ k)) :: st) M := by
  refine a_iand hd ?_; rw [nI_has]; exact kk
theorem n_andc {mi : MI} {d : Nat} {X : CX} {pc : Nat} {L : List (Nat × Option Value)} {st : List Value} {M : Mm} {a b : Nat} (hd : decode mi.2.1 pc = .ok (.iand, 1)) (kk : AW mi d X (pc + 1) L (.int (nI (a ^^^ (a &&& b))) :: st) M) : AW mi d X pc L (.int (nI b ^^^ (-1)) :: .int (nI a) :: st) M := by
  refine a_iand hd ?_; rw [nI_andc]; exact kk
theorem n_shl {mi : MI} {d : Nat} {X : CX} {pc : Nat} {L : List (Nat × Option Value)} {st : List Value} {M : Mm} {a k : Nat} (hk : k < 31) (h : a * 2 ^ k < 2 ^ 32) (hd : decode mi.2.1 pc = .ok (.ishl, 1)) (kk : AW mi d X (pc + 1) L (.int (nI (a * 2 ^ k)) :: st) M) : AW mi d X pc L (.int (nI k) :: .int (nI a) :: st) M := by
  refine a_ishl hd ?_; rw [nI_shl hk h]; exact kk
theorem n_bit {mi : MI} {d : Nat} {X : CX} {pc : Nat} {L : List (Nat × Option Value)} {st : List Value} {M : Mm} {k : Nat} (hk : k < 31) (hd : decode mi.2.1 pc = .ok (.ishl, 1)) (kk : AW mi d X (pc + 1) L (.int (nI (2 ^ k)) :: st) M) : AW mi d X pc L (.int (nI k) :: .int (nI 1) :: st) M := by
  refine a_ishl hd ?_; rw [nI_bit1 hk]; exact kk
theorem n_shr {mi : MI} {d : Nat} {X : CX} {pc : Nat} {L : List (Nat × Option Value)} {st : List Value} {M : Mm} {a k : Nat} (ha : a < 2 ^ 31) (hk : k < 32) (hd : decode mi.2.1 pc = .ok (.ishr, 1)) (kk : AW mi d X (pc + 1) L (.int (nI (a / 2 ^ k)) :: st) M) : AW mi d X pc L (.int (nI k) :: .int (nI a) :: st) M := by
  refine a_ishr hd ?_; rw [nI_shr ha hk]; exact kk
theorem n_iconst {mi : MI} {d : Nat} {X : CX} {pc : Nat} {L : List (Nat × Option Value)} {st : List Value} {M : Mm} {n : Int} (a : Nat) (hv : Int32.ofInt n = nI a) (hd : decode mi.2.1 pc = .ok (.iconst n, 1)) (kk : AW mi d X (pc + 1) L (.int (nI a) :: st) M) : AW mi d X pc L (st) M := by
  exact a_iconst _ hv hd kk
theorem n_bipush {mi : MI} {d : Nat} {X : CX} {pc : Nat} {L : List (Nat × Option Value)} {st : List Value} {M : Mm} {n : Int} (a : Nat) (hv : (Int8.ofInt n).toInt32 = nI a) (hd : decode mi.2.1 pc = .ok (.bipush n, 2)) (kk : AW mi d X (pc + 2) L (.int (nI a) :: st) M) : AW mi d X pc L (st) M := by
  exact a_bipush _ hv hd kk
theorem n_sipush {mi : MI} {d : Nat} {X : CX} {pc : Nat} {L : List (Nat × Option Value)} {st : List Value} {M : Mm} {n : Int} (a : Nat) (hv : (Int16.ofInt n).toInt32 = nI a) (hd : decode mi.2.1 pc = .ok (.sipush n, 3)) (kk : AW mi d X (pc + 3) L (.int (nI a) :: st) M) : AW mi d X pc L (st) M := by
  exact a_sipush _ hv hd kk
theorem n_icmp_lt {mi : MI} {d : Nat} {X : CX} {pc : Nat} {L : List (Nat × Option Value)} {st : List Value} {M : Mm} {a b : Nat} {off : Int} (tgt : Nat) (ha : a < 2 ^ 31) (hb : b < 2 ^ 31) (hd : decode mi.2.1 pc = .ok (.if_icmp .lt off, 3)) (ht : (pc : Int) + off = (tgt : Int)) (k1 : a < b → AW mi d X tgt L st M) (k2 : ¬ a < b → AW mi d X (pc + 3) L st M) : AW mi d X pc L (.int (nI b) :: .int (nI a) :: st) M :=
  a_icmp_lt tgt hd ht (fun h => k1 ((nI_ltI ha hb).mp h)) (fun h => k2 (fun q => h ((nI_ltI ha hb).mpr q)))
theorem n_icmp_ge {mi : MI} {d : Nat} {X : CX} {pc : Nat} {L : List (Nat × Option Value)} {st : List Value} {M : Mm} {a b : Nat} {off : Int} (tgt : Nat) (ha : a < 2 ^ 31) (hb : b < 2 ^ 31) (hd : decode mi.2.1 pc = .ok (.if_icmp .ge off, 3)) (ht : (pc : Int) + off = (tgt : Int)) (k1 : b ≤ a → AW mi d X tgt L st M) (k2 : ¬ b ≤ a → AW mi d X (pc + 3) L st M) : AW mi d X pc L (.int (nI b) :: .int (nI a) :: st) M :=
  a_icmp_ge tgt hd ht (fun h => k1 ((nI_leI hb ha).mp h)) (fun h => k2 (fun q => h ((nI_leI hb ha).mpr q)))
theorem n_icmp_gt {mi : MI} {d : Nat} {X : CX} {pc : Nat} {L : List (Nat × Option Value)} {st : List Value} {M : Mm} {a b : Nat} {off : Int} (tgt : Nat) (ha : a < 2 ^ 31) (hb : b < 2 ^ 31) (hd : decode mi.2.1 pc = .ok (.if_icmp .gt off, 3)) (ht : (pc : Int) + off = (tgt : Int)) (k1 : b < a → AW mi d X tgt L st M) (k2 : ¬ b < a → AW mi d X (pc + 3) L st M) : AW mi d X pc L (.int (nI b) :: .int (nI a) :: st) M :=
  a_icmp_gt tgt hd ht (fun h => k1 ((nI_ltI hb ha).mp h)) (fun h => k2 (fun q => h ((nI_ltI hb ha).mpr q)))
theorem n_icmp_le {mi : MI} {d : Nat} {X : CX} {pc : Nat} {L : List (Nat × Option Value)} {st : List Value} {M : Mm} {a b : Nat} {off : Int} (tgt : Nat) (ha : a < 2 ^ 31) (hb : b < 2 ^ 31) (hd : decode mi.2.1 pc = .ok (.if_icmp .le off, 3)) (ht : (pc : Int) + off = (tgt : Int)) (k1 : a ≤ b → AW mi d X tgt L st M) (k2 : ¬ a ≤ b → AW mi d X (pc + 3) L st M) : AW mi d X pc L (.int (nI b) :: .int (nI a) :: st) M :=
  a_icmp_le tgt hd ht (fun h => k1 ((nI_leI ha hb).mp h)) (fun h => k2 (fun q => h ((nI_leI ha hb).mpr q)))
theorem n_icmp_eq {mi : MI} {d : Nat} {X : CX} {pc : Nat} {L : List (Nat × Option Value)} {st : List Value} {M : Mm} {a b : Nat} {off : Int} (tgt : Nat) (ha : a < 2 ^ 31) (hb : b < 2 ^ 31) (hd : decode mi.2.1 pc = .ok (.if_icmp .eq off, 3)) (ht : (pc : Int) + off = (tgt : Int)) (k1 : a = b → AW mi d X tgt L st M) (k2 : ¬ a = b → AW mi d X (pc + 3) L st M) : AW mi d X pc L (.int (nI b) :: .int (nI a) :: st) M :=
  a_icmp_eq tgt hd ht (fun h => k1 ((nI_eq ha hb).mp h)) (fun h => k2 (fun q => h ((nI_eq ha hb).mpr q)))
theorem n_icmp_ne {mi : MI} {d : Nat} {X : CX} {pc : Nat} {L : List (Nat × Option Value)} {st : List Value} {M : Mm} {a b : Nat} {off : Int} (tgt : Nat) (ha : a < 2 ^ 31) (hb : b < 2 ^ 31) (hd : decode mi.2.1 pc = .ok (.if_icmp .ne off, 3)) (ht : (pc : Int) + off = (tgt : Int)) (k1 : ¬ a = b → AW mi d X tgt L st M) (k2 : a = b → AW mi d X (pc + 3) L st M) : AW mi d X pc L (.int (nI b) :: .int (nI a) :: st) M :=
  a_icmp_ne tgt hd ht (fun h => k1 (fun q => h ((nI_eq ha hb).mpr q))) (fun h => k2 ((nI_eq ha hb).mp h))
theorem n_if_eq {mi : MI} {d : Nat} {X : CX} {pc : Nat} {L : List (Nat × Option Value)} {st : List Value} {M : Mm} {a : Nat} {off : Int} (tgt : Nat) (ha : a < 2 ^ 31) (hd : decode mi.2.1 pc = .ok (.ifCond .eq off, 3)) (ht : (pc : Int) + off = (tgt : Int)) (k1 : a = 0 → AW mi d X tgt L st M) (k2 : ¬ a = 0 → AW mi d X (pc + 3) L st M) : AW mi d X pc L (.int (nI a) :: st) M :=
  a_if_eq tgt hd ht (fun h => k1 ((nI_eq ha (by decide)).mp h)) (fun h => k2 (fun q => h ((nI_eq ha (by decide)).mpr q)))
theorem n_if_ne {mi : MI} {d : Nat} {X : CX} {pc : Nat} {L : List (Nat × Option Value)} {st : List Value} {M : Mm} {a : Nat} {off : Int} (tgt : Nat) (ha : a < 2 ^ 31) (hd : decode mi.2.1 pc = .ok (.ifCond .ne off, 3)) (ht : (pc : Int) + off = (tgt : Int)) (k1 : ¬ a = 0 → AW mi d X tgt L st M) (k2 : a = 0 → AW mi d X (pc + 3) L st M) : AW mi d X pc L (.int (nI a) :: st) M :=
  a_if_ne tgt hd ht (fun h => k1 (fun q => h ((nI_eq ha (by decide)).mpr q))) (fun h => k2 ((nI_eq ha (by decide)).mp h))
theorem n_if_lt {mi : MI} {d : Nat} {X : CX} {pc : Nat} {L : List (Nat × Option Value)} {st : List Value} {M : Mm} {a : Nat} {off : Int} (ha : a < 2 ^ 31) (hd : decode mi.2.1 pc = .ok (.ifCond .lt off, 3)) {tgt : Nat} (ht : (pc : Int) + off = (tgt : Int)) (kk : AW mi d X (pc + 3) L st M) : AW mi d X pc L (.int (nI a) :: st) M :=
  a_if_lt tgt hd ht (fun h => absurd h (nI_pos ha)) (fun _ => kk)
theorem n_if_ge {mi : MI} {d : Nat} {X : CX} {pc : Nat} {L : List (Nat × Option Value)} {st : List Value} {M : Mm} {a : Nat} {off : Int} (tgt : Nat) (ha : a < 2 ^ 31) (hd : decode mi.2.1 pc = .ok (.ifCond .ge off, 3)) (ht : (pc : Int) + off = (tgt : Int)) (kk : AW mi d X tgt L st M) : AW mi d X pc L (.int (nI a) :: st) M :=
  a_if_ge tgt hd ht (fun _ => kk) (fun h => absurd (nI_pos' ha) h)
theorem n_if_gt {mi : MI} {d : Nat} {X : CX} {pc : Nat} {L : List (Nat × Option Value)} {st : List Value} {M : Mm} {a : Nat} {off : Int} (tgt : Nat) (ha : a < 2 ^ 31) (hd : decode mi.2.1 pc = .ok (.ifCond .gt off, 3)) (ht : (pc : Int) + off = (tgt : Int)) (k1 : 0 < a → AW mi d X tgt L st M) (k2 : ¬ 0 < a → AW mi d X (pc + 3) L st M) : AW mi d X pc L (.int (nI a) :: st) M :=
  a_if_gt tgt hd ht (fun h => k1 ((nI_ltI (a := 0) (by decide) ha).mp h)) (fun h => k2 (fun q => h ((nI_ltI (a := 0) (by decide) ha).mpr q)))
theorem n_if_le {mi : MI} {d : Nat} {X : CX} {pc : Nat} {L : List (Nat × Option Value)} {st : List Value} {M : Mm} {a : Nat} {off : Int} (tgt : Nat) (ha : a < 2 ^ 31) (hd : decode mi.2.1 pc = .ok (.ifCond .le off, 3)) (ht : (pc : Int) + off = (tgt : Int)) (k1 : a = 0 → AW mi d X tgt L st M) (k2 : ¬ a = 0 → AW mi d X (pc + 3) L st M) : AW mi d X pc L (.int (nI a) :: st) M :=
  a_if_le tgt hd ht (fun h => k1 (by have := (nI_leI (b := 0) ha (by decide)).mp h; omega)) (fun h => k2 (fun q => h ((nI_leI (b := 0) ha (by decide)).mpr (by omega))))
theorem g_i {mi : MI} {d : Nat} {X : CX} {pc : Nat} {L : List (Nat × Option Value)} {st : List Value} {M : Mm} {k ci j idx q a : Nat} {fs : List (Nat × Nat)} (hv : M.1 k j = nI a) (hk : k < nC) (hc : layC k = .inl (ci, fs)) (hf : lnkF mi.1.cls idx ci j) (hj : fs[j]? = some (0, q)) (hd : decode mi.2.1 pc = .ok (.getfield idx, 3)) (kk : AW mi d X (pc + 3) L (.int (nI a) :: st) M) : AW mi d X pc L (.ref k :: st) M := by
  refine a_geti hd hf hk hc hj ?_; rw [hv]; exact kk
theorem n_iald {mi : MI} {d : Nat} {X : CX} {pc : Nat} {L : List (Nat × Option Value)} {st : List Value} {M : Mm} {k n i : Nat} {f : Nat → Nat} (hi : i < n) (hk : k < nC) (hc : layC k = .inr (0, n, f)) (hn : n < 2 ^ 31) (hd : decode mi.2.1 pc = .ok (.iaload, 1)) (kk : AW mi d X (pc + 1) L (.int (M.1 k i) :: st) M) : AW mi d X pc L (.int (nI i) :: .ref k :: st) M := by
  refine a_iald hd hk hc (vp_in_nI hi hn) ?_; rw [nI_clamp (Nat.lt_trans hi hn)]; exact kk
theorem n_bald {mi : MI} {d : Nat} {X : CX} {pc : Nat} {L : List (Nat × Option Value)} {st : List Value} {M : Mm} {k n i : Nat} {f : Nat → Nat} (hi : i < n) (hk : k < nC) (hc : layC k = .inr (1, n, f)) (hn : n < 2 ^ 31) (hd : decode mi.2.1 pc = .ok (.baload, 1)) (kk : AW mi d X (pc + 1) L (.int (M.1 k i) :: st) M) : AW mi d X pc L (.int (nI i) :: .ref k :: st) M := by
  refine a_bald hd hk hc (vp_in_nI hi hn) ?_; rw [nI_clamp (Nat.lt_trans hi hn)]; exact kk
theorem n_lald {mi : MI} {d : Nat} {X : CX} {pc : Nat} {L : List (Nat × Option Value)} {st : List Value} {M : Mm} {k n i : Nat} {f : Nat → Nat} (hi : i < n) (hk : k < nC) (hc : layC k = .inr (2, n, f)) (hn : n < 2 ^ 31) (hd : decode mi.2.1 pc = .ok (.laload, 1)) (kk : AW mi d X (pc + 1) L (.long (M.2 k i) :: st) M) : AW mi d X pc L (.int (nI i) :: .ref k :: st) M := by
  refine a_lald hd hk hc (vp_in_nI hi hn) ?_; rw [nI_clamp (Nat.lt_trans hi hn)]; exact kk
theorem v_iald {mi : MI} {d : Nat} {X : CX} {pc : Nat} {L : List (Nat × Option Value)} {st : List Value} {M : Mm} {k n i a : Nat} {f : Nat → Nat} (hi : i < n) (hv : M.1 k i = nI a) (hk : k < nC) (hc : layC k = .inr (0, n, f)) (hn : n < 2 ^ 31) (hd : decode mi.2.1 pc = .ok (.iaload, 1)) (kk : AW mi d X (pc + 1) L (.int (nI a) :: st) M) : AW mi d X pc L (.int (nI i) :: .ref k :: st) M := by
  refine n_iald hi hk hc hn hd ?_; rw [hv]; exact kk
theorem n_aald {mi : MI} {d : Nat} {X : CX} {pc : Nat} {L : List (Nat × Option Value)} {st : List Value} {M : Mm} {k n i t : Nat} {f : Nat → Nat} (hi : i < n) (hk : k < nC) (hc : layC k = .inr (t, n, f)) (ht : t = 3 ∨ t = 4) (hn : n < 2 ^ 31) (hd : decode mi.2.1 pc = .ok (.aaload, 1)) (kk : AW mi d X (pc + 1) L (.ref (f i) :: st) M) : AW mi d X pc L (.int (nI i) :: .ref k :: st) M := by
  refine a_aald hd hk hc ht (vp_in_nI hi hn) ?_; rw [nI_clamp (Nat.lt_trans hi hn)]; exact kk
theorem n_iast {mi : MI} {d : Nat} {X : CX} {pc : Nat} {L : List (Nat × Option Value)} {st : List Value} {M : Mm} {k n i : Nat} {f : Nat → Nat} {x : Int32} (hi : i < n) (hk : k < nC) (hc : layC k = .inr (0, n, f)) (hn : n < 2 ^ 31) (hd : decode mi.2.1 pc = .ok (.iastore, 1)) (kk : AW mi d X (pc + 1) L st (siM M k i x)) : AW mi d X pc L (.int x :: .int (nI i) :: .ref k :: st) M := by
  refine a_iast hd hk hc (vp_in_nI hi hn) ?_; rw [nI_clamp (Nat.lt_trans hi hn)]; exact kk
theorem n_bast {mi : MI} {d : Nat} {X : CX} {pc : Nat} {L : List (Nat × Option Value)} {st : List Value} {M : Mm} {k n i : Nat} {f : Nat → Nat} {x : Int32} (hi : i < n) (hk : k < nC) (hc : layC k = .inr (1, n, f)) (hn : n < 2 ^ 31) (hd : decode mi.2.1 pc = .ok (.bastore, 1)) (kk : AW mi d X (pc + 1) L st (siM M k i (vp_nar .byte x))) : AW mi d X pc L (.int x :: .int (nI i) :: .ref k :: st) M := by
  refine a_bast hd hk hc (vp_in_nI hi hn) ?_; rw [nI_clamp (Nat.lt_trans hi hn)]; exact kk
theorem n_last {mi : MI} {d : Nat} {X : CX} {pc : Nat} {L : List (Nat × Option Value)} {st : List Value} {M : Mm} {k n i : Nat} {f : Nat → Nat} {x : Int64} (hi : i < n) (hk : k < nC) (hc : layC k = .inr (2, n, f)) (hn : n < 2 ^ 31) (hd : decode mi.2.1 pc = .ok (.lastore, 1)) (kk : AW mi d X (pc + 1) L st (slM M k i x)) : AW mi d X pc L (.long x :: .int (nI i) :: .ref k :: st) M := by
  refine a_last hd hk hc (vp_in_nI hi hn) ?_; rw [nI_clamp (Nat.lt_trans hi hn)]; exact kk
theorem n_iinc {mi : MI} {d : Nat} {X : CX} {pc : Nat} {L : List (Nat × Option Value)} {st : List Value} {M : Mm} {k c a : Nat} {n : Int} (hv : lkA L k = some (.int (nI a))) (hc : Int32.ofInt n = nI c) (hn : k < mi.2.2.1) (hk : nlA L k = true) (hd : decode mi.2.1 pc = .ok (.iinc k n, 3)) (kk : AW mi d X (pc + 3) ((k, some (.int (nI (a + c)))) :: L) st M) : AW mi d X pc L st M := by
  refine a_iinc hv hn hk hd ?_; rw [hc, nI_add]; exact kk

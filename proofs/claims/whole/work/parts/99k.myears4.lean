def yzP (k j : Nat) : Prop := muP k j ∨ (k = 132 ∧ j = 25) ∨ (k = 137 ∧ 1540 ≤ j ∧ j < 1810)
theorem mu_yz {k j : Nat} (h : muP k j) : yzP k j := Or.inl h
theorem VM_yz {M M' : Mm} {S : ST} (h : VM 0 M S) (hF : WF S) (hf : fr yzP M M') : VM 0 M' S := VM_e h (fun j hj => (hf 137 j (by unfold yzP muP; omega)).1) hF
theorem VNM_yz {M M' : Mm} {S : ST} {N : NM} (h : VNM 0 M S N) (hf : fr yzP M M') : VNM 0 M' S N := ⟨fun j hj => ((hf 139 _ (by unfold yzP muP; omega)).2).trans (h.1 j hj), fun j hj => ((hf 139 _ (by unfold yzP muP; omega)).2).trans (h.2 j hj)⟩
theorem vkw_i {v : Nat} (h : v ≤ 7) : (vkw v = 13 ∧ v = 0) ∨ (vkw v = 14 ∧ v = 1) ∨ (vkw v = 22 ∧ v = 6) ∨ (vkw v = 18 ∧ v = 5) ∨ (vkw v = 15 ∧ v = 2) ∨ (vkw v = 16 ∧ v = 3) ∨ (vkw v = 17 ∧ v = 4) ∨ (vkw v = 24 ∧ v = 7) := by
  rcases (show v = 0 ∨ v = 1 ∨ v = 2 ∨ v = 3 ∨ v = 4 ∨ v = 5 ∨ v = 6 ∨ v = 7 by omega) with e | e | e | e | e | e | e | e <;> subst e <;> decide
theorem vk_vk {v : Nat} (h : v ≤ 7) : vkN (vkw v) = v := by
  rcases (show v = 0 ∨ v = 1 ∨ v = 2 ∨ v = 3 ∨ v = 4 ∨ v = 5 ∨ v = 6 ∨ v = 7 by omega) with e | e | e | e | e | e | e | e <;> subst e <;> decide
theorem nst {tk : Nat → TK} {c : CC} (h : ∀ v, v ≤ 7 → ¬ isK tk c (vkw v) = true) : ¬ yStp (yv tk c) := by
  intro q
  have h0 := fun z => h 0 (by decide) ((yv_i (k := 13) (by decide)).mpr z)
  have h1 := fun z => h 1 (by decide) ((yv_i (k := 14) (by decide)).mpr z)
  have h2 := fun z => h 2 (by decide) ((yv_i (k := 15) (by decide)).mpr z)
  have h3 := fun z => h 3 (by decide) ((yv_i (k := 16) (by decide)).mpr z)
  have h4 := fun z => h 4 (by decide) ((yv_i (k := 17) (by decide)).mpr z)
  have h5 := fun z => h 5 (by decide) ((yv_i (k := 18) (by decide)).mpr z)
  have h6 := fun z => h 6 (by decide) ((yv_i (k := 22) (by decide)).mpr z)
  have h7 := fun z => h 7 (by decide) ((yv_i (k := 24) (by decide)).mpr z)
  generalize yv tk c = v at *
  rcases (show v = 13 ∨ v = 14 ∨ v = 15 ∨ v = 16 ∨ v = 17 ∨ v = 18 ∨ v = 22 ∨ v = 24 by omega) with e | e | e | e | e | e | e | e
  · exact h0 e
  · exact h1 e
  · exact h2 e
  · exact h3 e
  · exact h4 e
  · exact h5 e
  · exact h6 e
  · exact h7 e
theorem v_sgn {M : Mm} {D : Nat → Nat} {n : Nat} (hDl : ∀ j, D j < 256) (hn : n ≤ 900) {c : CC} (hU : MU M D n c) {v : Nat} (hv : v < 256) {Q : Option Value → Mm → Prop} (hQ : ∀ b : Nat, b = (if decide (kd (tkN D n) c = 5 ∧ cd (tkN D n) c = v) = true then 1 else 0) → Q (some (.int (nI b))) M) (d : Nat) : AMt miX12_isSign d [.ref 132, .int (nI v)] M Q :=
  c_X12_isSign hDl hn hU hv (fun h => hQ 1 (if_pos (decide_eq_true h)).symm) (fun h => hQ 0 (if_neg (fun q => h (of_decide_eq_true q))).symm) d
theorem v_end {M : Mm} {D : Nat → Nat} {n : Nat} (hDl : ∀ j, D j < 256) (hn : n ≤ 900) {c : CC} (hU : MU M D n c) {Q : Option Value → Mm → Prop} (hQ : ∀ b : Nat, b = (if isK (tkN D n) c 23 = true then 1 else 0) → Q (some (.int (nI b))) M) (d : Nat) : AMt miX12_isEnd (d + 1) [.ref 132] M Q :=
  c_X12_isEnd hDl hn hU (fun h => hQ 1 (if_pos h).symm) (fun h => hQ 0 (if_neg h).symm) d
theorem yst_it {M : Mm} {L v a b t q c : Nat} {s : Nat → Nat → Nat} (h0 : M.1 137 c = nI (vkN v)) (h1 : v = 13 ∨ v = 14 ∨ v = 22 → M.1 137 (c + 1) = nI b) (h2 : v = 15 ∨ v = 16 ∨ v = 18 → M.1 137 (c + 1) = nI a) (h3 : v = 15 ∨ v = 16 → M.1 137 (c + 2) = nI b) (h4 : v = 18 → M.1 137 (c + 5) = nI (t - 19) ∧ (t = 21 → M.1 137 (c + 6) = nI b ∧ M.1 137 (c + 7) = nI q)) : yst M (itA L s v a b t q L) c := by
  have z := it_0 (L := L) (v := v) (a := a) (b := b) (t := t) (q := q) (s := s)
  unfold yst
  rw [z.1, z.2.1, z.2.2.1, z.2.2.2.1, z.2.2.2.2.1]
  exact ⟨h0, h1, h2, h3, h4⟩
theorem my_step {M M3 : Mm} {D : Nat → Nat} {n : Nat} {S : ST} {N : NM} {R : YS} {k : Nat} {x : YS} (hn9 : n ≤ 900) (h3 : n ≤ 300) (hX : MYS M D n S N R k x) (h0 : x.1.2.1 = 0) (hk : kd (tkN D n) x.1 ≠ 0) (hb : (ybG (tkN D n) (yv (tkN D n) x.1) (scN x.2.1.2 x.2.1.1) x.2.2.1 x.1).2.1 = 0) (hst : yStp (yv (tkN D n) x.1)) (hU3 : MU M3 D n (endC (tkN D n) (yC (tkN D n) S N (yv (tkN D n) x.1) (ybG (tkN D n) (yv (tkN D n) x.1) (scN x.2.1.2 x.2.1.1) x.2.2.1 x.1)))) (hold : ∀ j, 1540 ≤ j → j < 1540 + 9 * scN x.2.1.2 x.2.1.1 → M3.1 137 j = M.1 137 j) (h25 : M3.1 132 25 = nI (scN x.2.1.2 x.2.1.1 + 1)) (hc : (yC (tkN D n) S N (yv (tkN D n) x.1) (ybG (tkN D n) (yv (tkN D n) x.1) (scN x.2.1.2 x.2.1.1) x.2.2.1 x.1)).2.1 = 0 → yst M3 (itA x.2.1.1 x.2.1.2 (yv (tkN D n) x.1) (yWho (tkN D n) S N (yv (tkN D n) x.1) (ybG (tkN D n) (yv (tkN D n) x.1) (scN x.2.1.2 x.2.1.1) x.2.2.1 x.1)) (yNum (tkN D n) S N (yv (tkN D n) x.1) (ybG (tkN D n) (yv (tkN D n) x.1) (scN x.2.1.2 x.2.1.1) x.2.2.1 x.1)) (yTst (tkN D n) (yv (tkN D n) x.1) (ybG (tkN D n) (yv (tkN D n) x.1) (scN x.2.1.2 x.2.1.1) x.2.2.1 x.1)) (yCmp (tkN D n) S N (yv (tkN D n) x.1) (ybG (tkN D n) (yv (tkN D n) x.1) (scN x.2.1.2 x.2.1.1) x.2.2.1 x.1)) x.2.1.1) (1540 + 9 * scN x.2.1.2 x.2.1.1)) (h8 : ¬ yOp (yv (tkN D n) x.1) → M3.1 137 (1540 + 9 * scN x.2.1.2 x.2.1.1 + 8) = nI (scN x.2.1.2 x.2.1.1 + 1)) : MYS M3 D n S N R (k + 1) (ysT (tkN D n) S N x) ∧ ((ysT (tkN D n) S N x).1.2.1 = 0 → (ysT (tkN D n) S N x).2.2.1 = (if yOp (yv (tkN D n) x.1) then x.2.2.1 + 1 else x.2.2.1) ∧ yext x (ysT (tkN D n) S N x) ∧ (yOp (yv (tkN D n) x.1) → (ysT (tkN D n) S N x).2.2.2 x.2.2.1 = x.2.1.1) ∧ (ysT (tkN D n) S N x).2.1.1 = x.2.1.1 + 1) := by
  have fl := my_fl hn9 h3 hX h0 hk
  have h23 : yv (tkN D n) x.1 ≠ 23 := by clear hc h8 hold hU3 fl hb hX; generalize yv (tkN D n) x.1 = v at *; omega
  have e : ysT (tkN D n) S N x = (endC (tkN D n) (yC (tkN D n) S N (yv (tkN D n) x.1) (ybG (tkN D n) (yv (tkN D n) x.1) (scN x.2.1.2 x.2.1.1) x.2.2.1 x.1)), (x.2.1.1 + 1, itA x.2.1.1 x.2.1.2 (yv (tkN D n) x.1) (yWho (tkN D n) S N (yv (tkN D n) x.1) (ybG (tkN D n) (yv (tkN D n) x.1) (scN x.2.1.2 x.2.1.1) x.2.2.1 x.1)) (yNum (tkN D n) S N (yv (tkN D n) x.1) (ybG (tkN D n) (yv (tkN D n) x.1) (scN x.2.1.2 x.2.1.1) x.2.2.1 x.1)) (yTst (tkN D n) (yv (tkN D n) x.1) (ybG (tkN D n) (yv (tkN D n) x.1) (scN x.2.1.2 x.2.1.1) x.2.2.1 x.1)) (yCmp (tkN D n) S N (yv (tkN D n) x.1) (ybG (tkN D n) (yv (tkN D n) x.1) (scN x.2.1.2 x.2.1.1) x.2.2.1 x.1))), yDp (yv (tkN D n) x.1) x.2.1.1 x.2.2.1 x.2.2.2) := by
    unfold ysT
    rw [if_pos hb]
    unfold yIt
    rw [if_neg h23]
  have dp := dp_O (v := yv (tkN D n) x.1) (L := x.2.1.1) (D := x.2.2.1) (O := x.2.2.2) h23
  refine ⟨⟨by rw [e]; exact hU3, fun q => ⟨?_, fl.2 q⟩, fl.1⟩, fun q => ?_⟩
  · rw [e] at q ⊢
    have g := (end_0 q).1
    refine my_add (hX.2.1 h0).1 (hX.2.1 h0).2.1 h23 dp.1 dp.2.1 (fun ho => ⟨x.2.2.1, ?_, dp.2.2.2 ho⟩) hold h25 (hc g) h8
    rw [dp.2.2.1, if_pos ho]; exact Nat.lt_succ_self _
  · rw [e]
    exact ⟨dp.2.2.1, ⟨Nat.le_succ _, fun i hi => it_n i hi, dp.1⟩, dp.2.2.2, rfl⟩
theorem yC_23 {tk : Nat → TK} {S : ST} {N : NM} {c : CC} : yC tk S N 23 c = c := rfl
theorem my_close {M1 M3 : Mm} {D : Nat → Nat} {n : Nat} {S : ST} {N : NM} {R : YS} {k1 e p W : Nat} {y : YS} (hn9 : n ≤ 900) (h3 : n ≤ 300) (hX : MYS M1 D n S N R k1 y) (hd : y.1.2.1 = 0 → y.2.2.1 = e + 1 ∧ y.2.2.2 e = p ∧ W = 1540 + 9 * scN y.2.1.2 p) (hend : y.1.2.1 = 0 → yv (tkN D n) y.1 = 23) (hU3 : MU M3 D n (endC (tkN D n) (spC (tkN D n) (if isK (tkN D n) y.1 23 = true then y.1 else flC (tkN D n) 2 y.1)))) (hold : ∀ j, 1540 ≤ j → j ≠ W + 8 → M3.1 137 j = M1.1 137 j) (h25 : M3.1 132 25 = M1.1 132 25) (h8 : M3.1 137 (W + 8) = M1.1 132 25) : ∃ k' x', MYS M3 D n S N R k' x' ∧ k1 ≤ k' ∧ (x'.1.2.1 = 0 → y.1.2.1 = 0 ∧ x'.2.2.1 = e ∧ x'.2.1.1 = y.2.1.1 + 1 ∧ (∀ i, i < y.2.1.1 → ¬ i = p → x'.2.1.2 i = y.2.1.2 i) ∧ x'.2.2.2 = y.2.2.2) := by
  by_cases hg : y.1.2.1 = 0
  · obtain ⟨d1, d2, d3⟩ := hd hg
    have hy := hend hg
    have hK : isK (tkN D n) y.1 23 = true := (yv_i (by decide)).mpr hy
    have hk : kd (tkN D n) y.1 ≠ 0 := by rw [(isK_i.mp hK).1]; decide
    rw [if_pos hK] at hU3
    have fl := my_fl hn9 h3 hX hg hk
    have hbe : ybG (tkN D n) (yv (tkN D n) y.1) (scN y.2.1.2 y.2.1.1) y.2.2.1 y.1 = spC (tkN D n) y.1 := by
      rw [hy, d1]
      exact congrArg (spC (tkN D n)) ((if_neg (fun q => q (Or.inl ⟨rfl, Nat.succ_pos e⟩))).trans ((if_neg (fun q => absurd q.1 (by decide))).trans (if_neg (fun q => absurd q.1 (by decide)))))
    have hb0 : (ybG (tkN D n) (yv (tkN D n) y.1) (scN y.2.1.2 y.2.1.1) y.2.2.1 y.1).2.1 = 0 := by rw [hbe, sp_f]; exact hg
    have ey : ysT (tkN D n) S N y = (endC (tkN D n) (spC (tkN D n) y.1), (y.2.1.1 + 1, itE y.2.1.1 y.2.1.2 (y.2.2.2 (y.2.2.1 - 1))), (y.2.2.1 - 1, y.2.2.2)) := by
      unfold ysT
      rw [if_pos hb0, hbe, hy, yC_23]
      rfl
    refine ⟨k1 + 1, ysT (tkN D n) S N y, ⟨by rw [ey]; exact hU3, fun q => ⟨?_, fl.2 q⟩, fl.1⟩, Nat.le_succ _, fun _ => ?_⟩
    · rw [ey]
      have hp : y.2.2.2 (y.2.2.1 - 1) = p := by rw [d1]; exact d2
      exact my_end (hX.2.1 hg).1 (hX.2.1 hg).2.1 (by rw [d1]; exact Nat.succ_pos e) (fun j h1 h2 => hold j h1 (by rw [d3, ← hp]; exact h2)) h25 (by rw [hp, ← d3]; exact h8)
    · rw [ey]
      have hp : y.2.2.2 (y.2.2.1 - 1) = p := by rw [d1]; exact d2
      refine ⟨hg, by show y.2.2.1 - 1 = e; rw [d1]; rfl, rfl, fun i hi hne => ?_, rfl⟩
      show itE y.2.1.1 y.2.1.2 (y.2.2.2 (y.2.2.1 - 1)) i = _
      rw [hp]
      exact funext fun j => (if_neg (Nat.ne_of_lt hi)).trans (if_neg (fun q => hne q.1))
  · have ez : endC (tkN D n) (spC (tkN D n) (if isK (tkN D n) y.1 23 = true then y.1 else flC (tkN D n) 2 y.1)) = y.1 := by
      rw [fl_n hg, ite_self, sp_n hg, end_f hg]
    rw [ez] at hU3
    exact ⟨k1, y, ⟨hU3, fun q => absurd q hg, hX.2.2⟩, Nat.le_refl _, fun q => absurd q hg⟩

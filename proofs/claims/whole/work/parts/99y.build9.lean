def lwB (b L : Nat) (xs : Nat → Int32) (E : List Frame → State → State → Prop) : BX := fun _ _ hs _ _ _ R s _ args below _ A cells slots Qf => hs = [b] ∧ va_X b L xs s s.heap ∧ b < s.heap.size ∧ ¬ A b ∧ R = room_1 ∧ args = #[Value.ref b] ∧ A = (fun q => s.heap.size ≤ q) ∧ Qf = E below s ∧ (∃ n0 n1 n2 : Nat, ∀ G : GG, G.2.2 nC = n0 → G.2.2 (nC + 1) = n1 → G.2.2 (nC + 2) = n2 → strA G A s s.heap) ∧ cells ≤ 600000 ∧ slots ≤ 7302250
theorem upB_hi {a n : Nat} {ad ad0 : Nat → Nat} {i : Nat} (h1 : a + n ≤ i) : upB (List.range' a n) ad ad0 i = ad0 i := if_neg (fun h => absurd (List.mem_range'_1.mp h).2 (by omega))
abbrev w_all : List (Nat × BE) := ([] ++ w_X11) ++ w_X12
theorem md_all : mdW 0 147 w_all := mdW_app (mdW_app mdW_nil (mdW_mono md_X11 rfl rfl)) (mdW_mono (md_X12 _ _) rfl rfl)
def blkL (G : GG) (a n : Nat) : va_W := (List.range' a n).map (fun k => (G.2.2 k, celA G (m0i, m0l) k (layC k)))
theorem blk_app (G : GG) (a n k : Nat) (h : a + n = k) (n2 : Nat) : blkL G a n ++ blkL G k n2 = blkL G a (n + n2) := by
  subst h
  unfold blkL
  rw [← List.map_append, List.range'_append_1]
theorem blk_all (G : GG) : blkL G 0 147 = wrl G (m0i, m0l) := by
  unfold blkL wrl
  rw [show List.range nC = List.range' 0 147 from List.range_eq_range']
set_option maxRecDepth 100000 in
set_option maxHeartbeats 1600000 in
theorem bk_0 (G : GG) : bwl G [h_X11] = blkL G 0 1 := rfl
set_option maxRecDepth 100000 in
set_option maxHeartbeats 1600000 in
theorem bk_1 (G : GG) : bwl G [(1, .inr (1, fun _ => zrB 1 900))] = blkL G 1 1 := rfl
set_option maxRecDepth 100000 in
set_option maxHeartbeats 1600000 in
theorem bk_2 (G : GG) : bwl G w_X5 = blkL G 2 8 := rfl
set_option maxRecDepth 100000 in
set_option maxHeartbeats 1600000 in
theorem bk_3 (G : GG) : bwl G w_X4 = blkL G 10 4 := rfl
set_option maxRecDepth 100000 in
set_option maxHeartbeats 1600000 in
theorem bk_4 (G : GG) : bwl G w_X7 = blkL G 14 1 := rfl
set_option maxRecDepth 100000 in
set_option maxHeartbeats 1600000 in
theorem bk_5 (G : GG) : bwl G w_X10 = blkL G 15 2 := rfl
set_option maxRecDepth 100000 in
set_option maxHeartbeats 1600000 in
theorem bk_6 (G : GG) : bwl G w_X6_17 = blkL G 17 20 := rfl
set_option maxRecDepth 100000 in
set_option maxHeartbeats 1600000 in
theorem bk_7 (G : GG) : bwl G w_X6_37 = blkL G 37 20 := rfl
theorem mk_3 (ad : Nat → Nat) : va_up (va_up (va_up (fun _ => none) 0 (some (ad 58))) 1 (some (ad 78))) 2 (some (ad 98)) = fun j => if j < 3 then some (ad (58 + 20 * j)) else none := by
  funext j
  unfold va_up
  by_cases h : j < 3
  · rcases (show j = 0 ∨ j = 1 ∨ j = 2 by omega) with rfl | rfl | rfl <;> rfl
  · rw [if_neg (by omega), if_neg (by omega), if_neg (by omega), if_neg h]
theorem bk_8 (G : GG) : bwl G [(57, .inr (4, fun ad => (3, .inr (.inr (.inr (.inr (va_up (va_up (va_up (fun _ => none) 0 (some (ad 58))) 1 (some (ad 78))) 2 (some (ad 98)))))))))] = blkL G 57 1 := by
  show [(G.2.2 57, (Sum.inl (G.2.1 4, (3, .inr (.inr (.inr (.inr (va_up (va_up (va_up (fun _ => none) 0 (some (G.2.2 58))) 1 (some (G.2.2 78))) 2 (some (G.2.2 98)))))))) : va_E))] = _
  rw [mk_3]
  rfl
set_option maxRecDepth 100000 in
set_option maxHeartbeats 1600000 in
theorem bk_9 (G : GG) : bwl G w_X6_58 = blkL G 58 20 := rfl
set_option maxRecDepth 100000 in
set_option maxHeartbeats 1600000 in
theorem bk_10 (G : GG) : bwl G w_X6_78 = blkL G 78 20 := rfl
set_option maxRecDepth 100000 in
set_option maxHeartbeats 1600000 in
theorem bk_11 (G : GG) : bwl G w_X6_98 = blkL G 98 20 := rfl
set_option maxRecDepth 100000 in
set_option maxHeartbeats 1600000 in
theorem bk_12 (G : GG) : bwl G w_X2 = blkL G 118 2 := rfl
set_option maxRecDepth 100000 in
set_option maxHeartbeats 1600000 in
theorem bk_13 (G : GG) : bwl G [(120, .inr (0, fun _ => zrB 0 5))] = blkL G 120 1 := rfl
set_option maxRecDepth 100000 in
set_option maxHeartbeats 1600000 in
theorem bk_14 (G : GG) : bwl G w_X0 = blkL G 121 2 := rfl
set_option maxRecDepth 100000 in
set_option maxHeartbeats 1600000 in
theorem bk_15 (G : GG) : bwl G w_X3 = blkL G 123 7 := rfl
set_option maxRecDepth 100000 in
set_option maxHeartbeats 1600000 in
theorem bk_16 (G : GG) : bwl G w_X1 = blkL G 130 2 := rfl
set_option maxRecDepth 100000 in
set_option maxHeartbeats 1600000 in
theorem bk_17 (G : GG) : bwl G w_X12 = blkL G 132 15 := rfl
theorem wrl_00 (G : GG) : bwl G w_all = wrl G (m0i, m0l) := by
  show bwl G (([] ++ ([h_X11] ++ r_X11)) ++ w_X12) = _
  unfold r_X11
  simp only [bwl_app, bk_0, bk_1, bk_2, bk_3, bk_4, bk_5, bk_6, bk_7, bk_8, bk_9, bk_10, bk_11, bk_12, bk_13, bk_14, bk_15, bk_16, bk_17, List.nil_append, show bwl G [] = [] from rfl]
  rw [← blk_all]
  simp only [← List.append_assoc]
  rw [blk_app G 0 1 1 rfl 1, blk_app G 0 2 2 rfl 8, blk_app G 0 10 10 rfl 4, blk_app G 0 14 14 rfl 1, blk_app G 0 15 15 rfl 2, blk_app G 0 17 17 rfl 20, blk_app G 0 37 37 rfl 20, blk_app G 0 57 57 rfl 1, blk_app G 0 58 58 rfl 20, blk_app G 0 78 78 rfl 20, blk_app G 0 98 98 rfl 20, blk_app G 0 118 118 rfl 2, blk_app G 0 120 120 rfl 1, blk_app G 0 121 121 rfl 2, blk_app G 0 123 123 rfl 7, blk_app G 0 130 130 rfl 2, blk_app G 0 132 132 rfl 15]
set_option maxHeartbeats 800000 in
theorem bw_aw {b L : Nat} {xs : Nat → Int32} {E : List Frame → State → State → Prop} (kk : AW miL 300 (lwX b L xs E) 16 [(0, some (.ref 150)), (1, some (.ref 0)), (2, some (.ref 132))] [] (m0i, m0l)) : BW miL 300 (lwB b L xs E) [150] 16 [(2, some (.ref 132)), (1, some (.ref 0)), (0, some (.ref 150))] [] w_all 0 0 := by
  intro G p l e R s m args below meth c A cells slots Qf B hX h1 h2 H locs ls hP hD hS hl
  obtain ⟨x1, x2, x3, x4, x5, x6, x7, x8, ⟨n0, n1, n2, hs⟩, x9, x10⟩ := hX
  have hadr : ∃ ad : Nat → Nat, (∀ i, i < 147 ∨ i = 150 → ad i = G.2.2 i) ∧ ad nC = n0 ∧ ad (nC + 1) = n1 ∧ ad (nC + 2) = n2 :=
    ⟨fun i => if i = 147 then n0 else if i = 148 then n1 else if i = 149 then n2 else G.2.2 i, fun i hi => by
      show (if i = 147 then n0 else if i = 148 then n1 else if i = 149 then n2 else G.2.2 i) = _
      rw [if_neg (by omega), if_neg (by omega), if_neg (by omega)], rfl, rfl, rfl⟩
  obtain ⟨ad, had, a0, a1, a2⟩ := hadr
  have hw : bwl G w_all = wrl (G.1, G.2.1, ad) (m0i, m0l) := by
    rw [← wrl_00 (G.1, G.2.1, ad)]
    exact md_all G.1 G.2.1 _ _ (fun i _ hi => (had i (Or.inl hi)).symm)
  rw [hw] at hP hD
  have e150 : G.2.2 150 = b := (List.cons.inj (show [G.2.2 150] = [b] from x1)).1
  exact kk (G.1, G.2.1, ad) p l e R s m args below meth c A cells slots Qf ⟨B.1, B.2.1, B.2.2.1, B.2.2.2.1, B.2.2.2.2.1, B.2.2.2.2.2.1, B.2.2.2.2.2.2.1, B.2.2.2.2.2.2.2.1, B.2.2.2.2.2.2.2.2.1, B.2.2.2.2.2.2.2.2.2.1, B.2.2.2.2.2.2.2.2.2.2.1, h1, h2, hs (G.1, G.2.1, ad) a0 a1 a2⟩ ⟨(had 150 (Or.inr rfl)).trans e150, x2, x3, x4, x5, x6, x7, x8, x9, x10⟩ H locs ls hP hD hS
    (hasL_m (L := [(0, some (.ref 150)), (1, some (.ref 0)), (2, some (.ref 132))]) (ad := G.2.2) ⟨hl.1, hl.2.1, fun i v h => hl.2.2 i v (subL_use (L := [(2, some (.ref 132)), (1, some (.ref 0)), (0, some (.ref 150))]) (L' := [(0, some (.ref 150)), (1, some (.ref 0)), (2, some (.ref 132))]) ⟨rfl, rfl, rfl, trivial⟩ i v h)⟩ (by
      show [(0, some (Value.ref (ad 150))), (1, some (Value.ref (ad 0))), (2, some (Value.ref (ad 132)))] = [(0, some (Value.ref (G.2.2 150))), (1, some (Value.ref (G.2.2 0))), (2, some (Value.ref (G.2.2 132)))]
      rw [had 150 (Or.inr rfl), had 0 (Or.inl (by decide)), had 132 (Or.inl (by decide))]))
set_option maxRecDepth 100000 in
set_option maxHeartbeats 1600000 in
theorem lw_new {b L : Nat} {xs : Nat → Int32} {E : List Frame → State → State → Prop} (h5 : BMt miX5_init 1 2 5 [.null, .null, .null] w_X5 7 252) (kk : AW miL 300 (lwX b L xs E) 16 [(0, some (.ref 150)), (1, some (.ref 0)), (2, some (.ref 132))] [] (m0i, m0l)) : BW miL 300 (lwB b L xs E) [150] 0 [(0, some (.ref 150))] [] [] 147 10806 := by
  refine b_new (mi' := miX11_init) (k := 0) (ci := 10) (nm := List.range' 0 132) (W1 := w_X11) (nc := 15) (ns := 3443) (N := 19) (mc' := 131) (ms' := 7344) (fs0 := [.int 0, .long 0, .long 0, .null, .int 0, .null, .null, .null, .null, .null, .null, .null, .int 0, .null, .null, .int 0, .null, .null, .null]) (d' := 2) dL_law_0 dL_law_3 dL_law_4 wclL_7 winX11 micX11 clsF_10 (fun j hj => by rcases (show j = 0 ∨ j = 1 ∨ j = 2 ∨ j = 3 ∨ j = 4 ∨ j = 5 ∨ j = 6 ∨ j = 7 ∨ j = 8 ∨ j = 9 ∨ j = 10 ∨ j = 11 ∨ j = 12 ∨ j = 13 ∨ j = 14 ∨ j = 15 ∨ j = 16 ∨ j = 17 ∨ j = 18 by omega) with rfl | rfl | rfl | rfl | rfl | rfl | rfl | rfl | rfl | rfl | rfl | rfl | rfl | rfl | rfl | rfl | rfl | rfl | rfl <;> rfl) lL_9 mibX11 miiX11 rfl rfl (i_X11 h5) (by decide) (by decide) (by decide) (fun i hi h => by rw [List.mem_singleton] at hi; subst hi; exact absurd (List.mem_range'_1.mp h).2 (by decide)) (List.mem_range'_1.mpr ⟨by decide, by decide⟩) (fun D ids ad ad0 => md_X11 D ids _ _ (fun i h1 h2 => upB_in h1 (by omega))) (fun ad ad0 => ?_) (fun _ _ => rfl) (fun _ _ _ _ => rfl) ?_
  · show [(0, some (Value.ref (upB (List.range' 0 132) ad ad0 150)))] = [(0, some (Value.ref (ad0 150)))]
    rw [upB_hi (by decide)]
  refine b_astore_n (by decide) rfl dL_law_7 ?_
  refine b_new (mi' := miX12_init) (k := 132) (ci := 11) (nm := List.range' 132 15) (W1 := w_X12) (nc := 0) (ns := 0) (N := 47) (mc' := 14) (ms' := 3396) (fs0 := [.int 0, .int 0, .long 0, .long 0, .null, .null, .null, .null, .int 0, .int 0, .int 0, .int 0, .int 0, .int 0, .int 0, .int 0, .int 0, .int 0, .int 0, .long 0, .null, .null, .null, .int 0, .int 0, .int 0, .null, .int 0, .null, .null, .null, .null, .int 0, .null, .long 0, .long 0, .int 0, .null, .int 0, .int 0, .int 0, .int 0, .int 0, .int 0, .int 0, .int 0, .int 0]) (d' := 1) dL_law_8 dL_law_11 dL_law_12 wclL_10 winX12 micX12 clsF_11 (fun j hj => by rcases (show j = 0 ∨ j = 1 ∨ j = 2 ∨ j = 3 ∨ j = 4 ∨ j = 5 ∨ j = 6 ∨ j = 7 ∨ j = 8 ∨ j = 9 ∨ j = 10 ∨ j = 11 ∨ j = 12 ∨ j = 13 ∨ j = 14 ∨ j = 15 ∨ j = 16 ∨ j = 17 ∨ j = 18 ∨ j = 19 ∨ j = 20 ∨ j = 21 ∨ j = 22 ∨ j = 23 ∨ j = 24 ∨ j = 25 ∨ j = 26 ∨ j = 27 ∨ j = 28 ∨ j = 29 ∨ j = 30 ∨ j = 31 ∨ j = 32 ∨ j = 33 ∨ j = 34 ∨ j = 35 ∨ j = 36 ∨ j = 37 ∨ j = 38 ∨ j = 39 ∨ j = 40 ∨ j = 41 ∨ j = 42 ∨ j = 43 ∨ j = 44 ∨ j = 45 ∨ j = 46 by omega) with rfl | rfl | rfl | rfl | rfl | rfl | rfl | rfl | rfl | rfl | rfl | rfl | rfl | rfl | rfl | rfl | rfl | rfl | rfl | rfl | rfl | rfl | rfl | rfl | rfl | rfl | rfl | rfl | rfl | rfl | rfl | rfl | rfl | rfl | rfl | rfl | rfl | rfl | rfl | rfl | rfl | rfl | rfl | rfl | rfl | rfl | rfl <;> rfl) lL_12 mibX12 miiX12 rfl rfl i_X12 (by decide) (by decide) (by decide) (fun i hi h => by rw [List.mem_singleton] at hi; subst hi; exact absurd (List.mem_range'_1.mp h).2 (by decide)) (List.mem_range'_1.mpr ⟨by decide, by decide⟩) (fun D ids ad ad0 => md_X12 _ _ D ids _ _ (fun i h1 h2 => upB_in h1 h2)) (fun ad ad0 => ?_) (fun _ _ => rfl) (fun D ids ad ad0 => mdW_app mdW_nil md_X11 D ids _ _ (fun i _ h => upB_lo h)) ?_
  · show [(1, some (Value.ref (upB (List.range' 132 15) ad ad0 0))), (0, some (Value.ref (upB (List.range' 132 15) ad ad0 150)))] = [(1, some (Value.ref (ad0 0))), (0, some (Value.ref (ad0 150)))]
    rw [upB_lo (i := 0) (by decide), upB_hi (i := 150) (by decide)]
  refine b_astore_n (by decide) rfl dL_law_15 ?_
  exact bw_aw kk
theorem tbl_1 {w : Cond} (h : w ∈ tables_1_1) : w ∈ lw_tbl := List.mem_append_right _ (show w ∈ tables_1 from List.mem_append_left _ h)
theorem tbl_2 {w : Cond} (h : w ∈ tables_1_2) : w ∈ lw_tbl := List.mem_append_right _ (show w ∈ tables_1 from List.mem_append_right _ (List.mem_append_left _ h))
theorem tbl_3 {w : Cond} (h : w ∈ tables_1_3) : w ∈ lw_tbl := List.mem_append_right _ (show w ∈ tables_1 from List.mem_append_right _ (List.mem_append_right _ (List.mem_append_left _ h)))
theorem lw_XF {s : State} {args : Array Value} (hts : ∀ w ∈ lw_tbl, w.before args s = true) : XF s := ⟨va_AO.of (hts _ (tbl_2 (List.mem_of_getElem? (i := 31) rfl))), va_Nw.of rfl (hts _ (tbl_1 (List.mem_of_getElem? (i := 88) rfl))), hts (Cond.arrayOver (.array .long)) (tbl_1 (List.mem_of_getElem? (i := 37) rfl))⟩
theorem arK {s : State} {cA : ClassId} {kA : Class} {comp : ClassId} {ty : FieldType} (h2 : s.vm.classes[cA]? = some kA) (h3 : kA.kind = .array comp ty) : ArrOfT s cA ty := fun n z => ⟨fun k h => (by cases h), kA, h2, comp, h3⟩
theorem lw_K {s : State} {args : Array Value} (hTB : ∀ w ∈ TB, w.before args s = true) (hXF : XF s) : ∃ (D : va_G) (ids : Nat → ClassId), va_K D vwCl (tysA (D, ids, fun _ => 0)) s := by
  obtain ⟨c0, i0, u0⟩ := u_known (C := RX0) (T := TX0) (N := 1) hTB clsW_0 (hTB _ winX0)
  obtain ⟨c1, i1, u1⟩ := u_known (C := RX1) (T := TX1) (N := 3) hTB clsW_1 (hTB _ winX1)
  obtain ⟨c2, i2, u2⟩ := u_known (C := RX2) (T := TX2) (N := 9) hTB clsW_2 (hTB _ winX2)
  obtain ⟨c3, i3, u3⟩ := u_known (C := RX3) (T := TX3) (N := 6) hTB clsW_3 (hTB _ winX3)
  obtain ⟨c4, i4, u4⟩ := u_known (C := RX4) (T := TX4) (N := 7) hTB clsW_4 (hTB _ winX4)
  obtain ⟨c5, i5, u5⟩ := u_known (C := RX5) (T := TX5) (N := 3) hTB clsW_5 (hTB _ winX5)
  obtain ⟨c6, i6, u6⟩ := u_known (C := RX6) (T := TX6) (N := 20) hTB clsW_6 (hTB _ winX6)
  obtain ⟨c7, i7, u7⟩ := u_known (C := RX7) (T := TX7) (N := 1) hTB clsW_7 (hTB _ winX7)
  obtain ⟨c8, i8, u8⟩ := u_known (C := RX9) (T := TX9) (N := 9) hTB clsW_8 (hTB _ winX9)
  obtain ⟨c9, i9, u9⟩ := u_known (C := RX10) (T := TX10) (N := 2) hTB clsW_9 (hTB _ winX10)
  obtain ⟨c10, i10, u10⟩ := u_known (C := RX11) (T := TX11) (N := 19) hTB clsW_10 (hTB _ winX11)
  obtain ⟨c11, i11, u11⟩ := u_known (C := RX12) (T := TX12) (N := 47) hTB clsW_11 (hTB _ winX12)
  obtain ⟨a0, k0, p0, f0, g0, e0⟩ := Cond.arrayClass_spec (hTB _ war_int)
  obtain ⟨a1, k1, p1, f1, g1, e1⟩ := Cond.arrayClass_spec (hTB _ war_byte)
  obtain ⟨a2, k2, p2, f2, g2, e2⟩ := Cond.arrayClass_spec (hTB _ war_long)
  obtain ⟨p3, a3, k3, q3, j3, g3, e3, f3⟩ := arrayOverA_spec hXF.2.2
  obtain ⟨p4, a4, k4, q4, j4, g4, e4, f4⟩ := Cond.arrayOver_spec (va_AO.use (A := #[]) hXF.1)
  refine ⟨(fun k => match k with
    | 0 => c0
    | 1 => c1
    | 2 => c2
    | 3 => c3
    | 4 => c4
    | 5 => c5
    | 6 => c6
    | 7 => c7
    | 8 => c8
    | 9 => c9
    | 10 => c10
    | _ => c11, fun k => match k with
    | 0 => i0
    | 1 => i1
    | 2 => i2
    | 3 => i3
    | 4 => i4
    | 5 => i5
    | 6 => i6
    | 7 => i7
    | 8 => i8
    | 9 => i9
    | 10 => i10
    | _ => i11), fun k => match k with
    | 0 => a0
    | 1 => a1
    | 2 => a2
    | 3 => a3
    | _ => a4, fun k q hq => ?_, fun k q hq => ?_⟩
  · match k, hq with
    | 0, hq => cases hq; exact u0
    | 1, hq => cases hq; exact u1
    | 2, hq => cases hq; exact u2
    | 3, hq => cases hq; exact u3
    | 4, hq => cases hq; exact u4
    | 5, hq => cases hq; exact u5
    | 6, hq => cases hq; exact u6
    | 7, hq => cases hq; exact u7
    | 8, hq => cases hq; exact u8
    | 9, hq => cases hq; exact u9
    | 10, hq => cases hq; exact u10
    | 11, hq => cases hq; exact u11
    | k + 12, hq => simp [vwCl] at hq
  · match k, hq with
    | 0, hq => cases hq; exact ⟨arK g0 e0, f0⟩
    | 1, hq => cases hq; exact ⟨arK g1 e1, f1⟩
    | 2, hq => cases hq; exact ⟨arK g2 e2, f2⟩
    | 3, hq => cases hq; exact ⟨arK g3 e3, f3⟩
    | 4, hq => cases hq; exact ⟨arK g4 e4, k4, p4, g4, e4, q4, f4⟩
    | k + 5, hq => simp [tysA] at hq
set_option maxRecDepth 100000 in
theorem gv_el : ∀ j : Nat, j < 132 → (Cond.eq (.elem (.field (Term.string "MossSeats$Words" 11) "java/lang/String" "value" "[B") (.int (Int32.ofNat j))) (.int (strB.getD j 0))) ∈ flatC (Jvm.Cond.and given_1 narrow_1) := by decide +kernel
set_option maxHeartbeats 800000 in
theorem lw_str {s : State} {args : Array Value} (hts : ∀ w ∈ lw_tbl, w.before args s = true) (hgv : (Jvm.Cond.and given_1 narrow_1).before args s = true) : ∃ n0 n1 n2 : Nat, ∀ G : GG, G.2.2 nC = n0 → G.2.2 (nC + 1) = n1 → G.2.2 (nC + 2) = n2 → strA G (fun q => s.heap.size ≤ q) s s.heap := by
  have hs := flat_of_before _ hgv
  obtain ⟨adK, adV, hZ, hEv⟩ := vk_Sof (A := (fun q : Nat => s.heap.size ≤ q)) (tm := fun _ => (Term.string "MossSeats$Words" 11)) (len := [132]) (byt := [strB]) (N := 1) (fun i hi => by
      have : i = 0 := by omega
      subst this
      decide) (fun i hi => hs _ (by decide +kernel)) (fun i hi => hs _ (by decide +kernel)) (fun i hi => hs _ (by decide +kernel)) (fun i hi => by
      have : i = 0 := by omega
      subst this
      exact hs _ (by decide +kernel)) (fun i hi j hj => by
      have : i = 0 := by omega
      subst this
      exact hs _ (gv_el j hj)) (fun i j hi hj hij => absurd (show i = j by omega) hij) (fun a h9 => Nat.not_le.mpr h9)
  have hR : vk_R "MossSeats$Words" 11 strT (adK 0) s := vk_R.of (hts _ (tbl_3 (List.mem_of_getElem? (i := 45) rfl))) (hEv 0 (by decide))
  have hC : va_Z "java/lang/String" "COMPACT_STRINGS" "Z" (.int 1) (fun q : Nat => s.heap.size ≤ q) s s.heap := va_Zof (hts _ (tbl_3 (List.mem_of_getElem? (i := 55) rfl))) (hts _ (tbl_1 (List.mem_of_getElem? (i := 17) rfl))) (va_eqi (hs (.eq (.static "java/lang/String" "COMPACT_STRINGS" "Z") (.int 1)) (by decide +kernel))) (fun a h9 => Nat.not_le.mpr h9)
  have hQ : va_Zq "jdk/internal/util/Preconditions" "SIOOBE_FORMATTER" "Ljava/util/function/BiFunction;" (fun q : Nat => s.heap.size ≤ q) s s.heap := va_Zqof (hts _ (tbl_3 (List.mem_of_getElem? (i := 71) rfl))) (hts _ (tbl_1 (List.mem_of_getElem? (i := 19) rfl))) (hs (.isRef (.static "jdk/internal/util/Preconditions" "SIOOBE_FORMATTER" "Ljava/util/function/BiFunction;")) (by decide +kernel)) (fun a h9 => Nat.not_le.mpr h9)
  have hS1 : ∀ G : GG, G.2.2 nC = adK 0 → G.2.2 (nC + 1) = adV 0 → vk_S 1 [132] [strB] (fun _ => G.2.2 nC) (fun _ => G.2.2 (nC + 1)) (fun q => s.heap.size ≤ q) s s.heap := fun G e0 e1 => by
    rw [e0, e1]
    exact ⟨fun i hi => by
      have : i = 0 := by omega
      subst this
      exact hZ.1 0 (by decide), fun i j hi hj _ => by omega⟩
  rcases hQ with hN | ⟨t, hT⟩
  · exact ⟨adK 0, adV 0, 0, fun G e0 e1 _ => ⟨hS1 G e0 e1, by rw [e0]; exact hR, hC, Or.inl hN⟩⟩
  · exact ⟨adK 0, adV 0, t, fun G e0 e1 e2 => ⟨hS1 G e0 e1, by rw [e0]; exact hR, hC, Or.inr (by rw [e2]; exact hT)⟩⟩
/-! ===== the skeleton's words of the law's start (given for pasting) ===== -/
def R_law : String := "MossSeatsLaw"
def lw_P (b : Addr) (xs : List Int32) (args : Array Value) (s : State) : Prop := args = #[.ref b] ∧ s.IntsAt b xs ∧ xs.length ≤ 3072 ∧ (Jvm.Cond.and given_1 narrow_1).before args s = true
def lw_Q (_ : Array Value) (s : State) (o : Outcome) (t : State) : Prop := o = .returned (some (.int 1)) ∧ Framed s o t [] 600000 7302250
def lw_Z (below : List Frame) (a : Array Value) (s : State) : State → Prop := fun t => ∃ o, t.status = .running ∧ Ended t below o ∧ lw_Q a s o t
/-- the law's own end, with 1 on the stack, nothing written that was there before, its room as the claim has it -/
theorem lw_ret {p : Program} {l : Launch} {e : Env} {s : State} {m : MethodId} {below : List Frame} {meth : Method} {c : Code} {b : Nat} (hx : p.tables.exec = Jvm.exec) (hb : c.code = code) (hr : meth.sig.returnType = ret) (hlocks : meth.locks = false) {pc : Nat} {H : Heap} {ls : Array Slot} (hdg : decode code pc = .ok (.ireturn, 1)) : W p l e room_1 s m #[Value.ref b] below meth c H [] 600000 7302250 (lw_Z below #[Value.ref b] s) (F0 m pc ls [.int 1]) := by
  intro T hT X
  obtain ⟨fs, hret, hrun, hended, hW, hframe⟩ := X.leave (v := some (.int 1)) (hlocks := hlocks) (fun h => by rw [hr] at h; cases h)
  have hmeth' : T.vm.method? m = some meth := X.method'
  refine ⟨T.setFrames fs, ?_, .returned (some (.int 1)), hrun, hended, rfl, ⟨_, rfl⟩, hW, hframe⟩
  jvm_step X.here [X.here.top, hx, hb, hdg, hmeth', hr, ret, narrow_b1]
  (try refine ⟨rfl, ?_⟩); (try refine ⟨rfl, ?_⟩)
  first | (intro acts; rw [hret _ acts rfl rfl rfl]) | rw [hret _ _ rfl rfl rfl]
  exact Steps.refl _
/-- what holds at the law's entry: the machine, the code, the tables' words (any of lw_tbl by 'hts w (by decide +kernel)'), the script of L ints xs at the cell b, what the Statement gives of the start (any of its parts by flat_of_before) -/
def lw_At (p : Program) (s : State) (m : MethodId) (meth : Method) (c : Code) (b L : Nat) (xs : Nat → Int32) : Prop :=
  p.tables.exec = Jvm.exec ∧ c.code = code ∧ meth.sig.returnType = ret ∧ c.maxLocals = 4 ∧ s.vm.findClass R_law = some m.cls ∧ (∀ w ∈ lw_tbl, w.before #[Value.ref b] s = true) ∧ va_X b L xs s s.heap ∧ b < s.heap.size ∧ meth.locks = false ∧ (Jvm.Cond.and given_1 narrow_1).before #[Value.ref b] s = true
set_option maxHeartbeats 800000 in
theorem lw_start5 (h5 : BMt miX5_init 1 2 5 [.null, .null, .null] w_X5 7 252) {p : Program} {e : Env} {s : State} {m : MethodId} {below : List Frame} {meth : Method} {c : Code} (l : Launch) {b L : Nat} {xs : Nat → Int32} (hL : L ≤ 3072) (C0 : lw_At p s m meth c b L xs) : W p l e room_1 s m #[Value.ref b] below meth c s.heap [] 0 0 (lw_Z below #[Value.ref b] s) (entryFrame m ([Value.ref b] : List Value).toArray 4) := by
  obtain ⟨hx, hb, hr, hml, hown, hts, hX, hbl, hlocks, hgv⟩ := id C0
  have hTB : ∀ w ∈ TB, w.before #[Value.ref b] s = true := fun w hw => hts w (List.mem_filter.mp hw).1
  have hXF := lw_XF hts
  obtain ⟨D, ids, hK⟩ := lw_K hTB hXF
  have hl := lv_entry ([Value.ref b]) (n := 4) (Nat.le_of_ble_eq_true rfl)
  rw [lg_entry_eq]
  have hend : ∀ i M, AW miL 300 (lwX b L xs (fun below s => lw_Z below #[Value.ref b] s)) 1829 (lwL i) [.int (nI 1)] M := by
    intro i M G p l e R s m args below meth c A cells slots Qf B hX H locs ls hP hD hS hl
    obtain ⟨x1, x2, x3, x4, x5, x6, x7, x8, x9, x10⟩ := hX
    subst x5 x6 x7 x8
    refine va_forget (fun q hq => hS.2.2 q hq) ?_
    refine W.widen (k := 600000) (n := 7302250) x9 x10 ?_
    exact lw_ret B.1 B.2.1 B.2.2.2.1 B.2.2.2.2.2.2.1 dL_law_1829
  have key := lw_new h5 (lw_go hL (lw_1 hend) (LI_00 (M := (m0i, m0l)) (fun _ _ => rfl) (fun _ _ => rfl)))
  have hA : [Value.ref b] = ([Value.ref 150]).map (vmA (fun i => if i = 150 then b else 0)) := rfl
  exact key (D, ids, fun i => if i = 150 then b else 0) p l e room_1 s m #[Value.ref b] below meth c (fun q => s.heap.size ≤ q) 0 0 _ ⟨hx, hb, hml, hr, hown, hTB, hlocks, hK, fun q h => h, Nat.le_of_ble_eq_true rfl, Nat.le_of_ble_eq_true rfl, hXF, fun h => absurd h (by decide)⟩
    ⟨rfl, hX, hbl, Nat.not_le.mpr hbl, rfl, rfl, rfl, rfl, lw_str hts hgv, Nat.le_of_ble_eq_true rfl, Nat.le_of_ble_eq_true rfl⟩ (Nat.le_of_ble_eq_true rfl) (Nat.le_of_ble_eq_true rfl) s.heap [] _ (fun k q h => by simp [bwl] at h) ⟨fun i j q r h => by simp [bwl] at h, fun k q h => by simp [bwl] at h⟩ va_S.rf ⟨hl.1, hl.2.1, fun i v h => by
    have z := argL_ok (fun i => if i = 150 then b else 0) [.ref 150] 0 i v h
    rw [← hA] at z
    exact hl.2.2 _ z⟩

/-! ===== BEGIN new T[n][m]: the outer array a place, the inner ones among the pooled ===== -/
/-- f, but v at every address of l -/
def vr_up {α : Type} (f : Nat → α) (l : List Nat) (v : α) : Nat → α := fun a => if a ∈ l then v else f a
theorem vr_up_in {α : Type} {f : Nat → α} {l : List Nat} {v : α} {a : Nat} (h : a ∈ l) : vr_up f l v a = v := if_pos h
theorem vr_up_ne {α : Type} {f : Nat → α} {l : List Nat} {v : α} {a : Nat} (h : a ∉ l) : vr_up f l v a = f a := if_neg h
theorem vr_rows {L l : List Nat} {f : Nat → va_E} {e : va_E} (h : ∀ a, a ∈ l → a ∉ L) : va_pl L f ++ l.map (fun a => (a, e)) = va_pl (L ++ l) (vr_up f l e) := by
  unfold va_pl
  rw [List.map_append]
  congr 1
  · apply List.map_congr_left
    intro a ha
    rw [vr_up_ne (fun q => h a q ha)]
  · apply List.map_congr_left
    intro a ha
    rw [vr_up_in ha]
theorem vr_lay {X rows : va_W} {x : Nat × va_E} {pl : va_W} {D : va_G} {cl : List vw_C} {H : Heap} (hP : va_P D cl (((X ++ pl) ++ [x]) ++ rows) H) : va_P D cl ((X ++ [x]) ++ (pl ++ rows)) H := by
  rw [List.append_assoc (X ++ pl)] at hP
  have h := va_P.swap hP
  rw [← List.append_assoc X] at h
  have h2 := va_P.swap h
  rw [List.append_assoc (X ++ [x])] at h2
  exact h2
theorem vr_layD {X rows : va_W} {x : Nat × va_E} {pl : va_W} {A : Nat → Prop} (hD : va_D A (((X ++ pl) ++ [x]) ++ rows)) : va_D A ((X ++ [x]) ++ (pl ++ rows)) := by
  rw [List.append_assoc (X ++ pl)] at hD
  have h := va_D.swap hD
  rw [← List.append_assoc X] at h
  have h2 := va_D.swap h
  rw [List.append_assoc (X ++ [x])] at h2
  exact h2
theorem vr_outer (c : ClassId) (N h0 : Nat) : ∀ i : Nat, Jvm.Free.Multi.outerC c N h0 i = arrV c N (fun j => va_rf (if j < i then some (h0 + 1 + j) else none))
  | 0 => by
    show ({ cls := c, slots := Array.replicate N .null, vm := .none } : Cell) = _
    rw [arrV_new]
    refine congrArg (arrV c N) (funext fun j => ?_)
    simp [va_rf]
  | i + 1 => by
    show (Jvm.Free.Multi.outerC c N h0 i).setSlot i (.ref (h0 + 1 + i)) = _
    rw [vr_outer c N h0 i, arrV_store]
    refine congrArg (arrV c N) (funext fun j => ?_)
    by_cases e : j = i
    · subst e
      simp [updV, va_rf]
    · by_cases h : j < i
      · simp [updV, e, h, Nat.lt_succ_of_lt h]
      · simp [updV, e, h, show ¬ j < i + 1 by omega]
section VGM
variable {p : Program} {l : Launch} {e : Env} {R : Room} {s : State} {m : MethodId} {args : Array Value} {below : List Frame} {meth : Method} {c : Code} {H : Heap} {locs : List Loc} {cells slots : Nat} {Q : State → Prop}
variable {cc : ByteArray} {pc : Nat} {ls : Array Slot} {rest : List Value} {D : va_G} {cl : List vw_C} {A : Nat → Prop} {a : Nat} {tys : List (ClassId × FieldType)} {ws : va_W} {H0 : Heap}
theorem va_mna {X : va_W} {L : List Nat} {f : Nat → va_E} {cc : ByteArray} (hexec : p.tables.exec = Jvm.exec) (hb : c.code = cc) {own : String} {index : Nat} {ty : FieldType} {cy : ClassId} (hown : s.vm.findClass own = some m.cls) (hclink : (Cond.classLink own index ("[" ++ (FieldType.array ty).toString)).before args s = true) (hover : (Cond.arrayOver (.array ty)).before args s = true) (harr : (Cond.arrayClass ty).before args s = true) (hcy : s.vm.findClass (FieldType.array ty).toString = some cy)
    (hK : va_K D cl tys s) (hP : va_P D cl (X ++ va_pl L f) H) (hD : va_D A (X ++ va_pl L f)) (hS : va_S A H0 H locs) (hA : ∀ q, H0.size ≤ q → A q) {n k : Int32} {N' K' : Nat} {z : vp_A} (hn : ¬ n < 0) (hk : ¬ k < 0) (hN : n.toNatClampNeg = N') (hM : k.toNatClampNeg = K')
    (hb1 : N' * 4 ≤ 536870912) (hb2 : K' * componentBytes ty ≤ 536870912) (hb3 : K' ≤ 536870912) (hdf : fits ty (defaultValue ty) = true) (hdd : (defaultValue ty).isDefault = true) (hcells : cells + (1 + N') ≤ R.cells) (hslots : slots + (N' + N' * K') ≤ R.slots) (hz : ∀ c : ClassId, Jvm.Free.Multi.innerC c K' (defaultValue ty) = vp_cell c z) (hdg : decode cc pc = .ok (.multianewarray index 2, 4))
    (kk : ∀ (q : Nat) (r : Nat → Nat) (cA : ClassId) (H1 : Heap), (∀ i j : Nat, i < N' → j < N' → r i = r j → i = j) → (∀ i : Nat, i < N' → r i ∉ L) → va_K D cl (tys ++ [(cA, .array ty)]) s →
      va_P D cl ((X ++ [(q, .inl (cA, N', .inr (.inr (.inr (.inr (fun i => if i < N' then some (r i) else none))))))]) ++ va_pl (L ++ (List.range N').map r) (vr_up f ((List.range N').map r) (.inl (cy, z)))) H1 → va_D A ((X ++ [(q, .inl (cA, N', .inr (.inr (.inr (.inr (fun i => if i < N' then some (r i) else none))))))]) ++ va_pl (L ++ (List.range N').map r) (vr_up f ((List.range N').map r) (.inl (cy, z)))) → va_S A H0 H1 locs →
      W p l e R s m args below meth c H1 locs (cells + 1 + N') (slots + N' + N' * K') Q (F0 m (pc + 4) ls (.ref q :: rest))) : W p l e R s m args below meth c H locs cells slots Q (F0 m pc ls (.int k :: .int n :: rest)) := by
  subst hN
  subst hM
  intro T hT Xs
  obtain ⟨vm₁, cA, comp, -, fA, fC, hO, -, X', step⟩ := Xs.multianewarray2F hexec hown hclink hover harr (g := F0 m pc ls (.int k :: .int n :: rest)) rfl (by rw [hb]; exact hdg) rfl hn hk hb1 hb2 hb3 hdf hdd hcells hslots
  have ec : some cy = some comp := hcy.symm.trans fC
  cases ec
  generalize hF : Jvm.Free.Multi.fill (T.setVm vm₁) cA cy n.toNatClampNeg k.toNatClampNeg (defaultValue ty) n.toNatClampNeg = F at X' step
  have hTh : (T.setVm vm₁).heap = H := hT
  obtain ⟨f1, f2, -, -⟩ := Jvm.Free.Multi.fill_facts (T.setVm vm₁) cA cy n.toNatClampNeg k.toNatClampNeg (defaultValue ty) n.toNatClampNeg
  rw [hF, hTh] at f1 f2
  have hold : ∀ x : Nat, x < H.size → F.heap[x]? = H[x]? := fun x hx => by
    have := Jvm.Free.Multi.fill_old (T.setVm vm₁) cA cy n.toNatClampNeg k.toNatClampNeg (defaultValue ty) (a := x) (by rw [hTh]; exact hx) n.toNatClampNeg
    rw [hF, hTh] at this
    exact this
  have hrow : ∀ j : Nat, j < n.toNatClampNeg → F.heap[H.size + 1 + j]? = some (vp_cell cy z) := fun j hj => by
    have := Jvm.Free.Multi.fill_inner (T.setVm vm₁) cA cy n.toNatClampNeg k.toNatClampNeg (defaultValue ty) n.toNatClampNeg j hj
    rw [hF, hTh, hz] at this
    exact this
  have hout : Jvm.Free.Multi.outerC cA n.toNatClampNeg H.size n.toNatClampNeg = vp_cell cA (n.toNatClampNeg, .inr (.inr (.inr (.inr (fun i => if i < n.toNatClampNeg then some (H.size + 1 + i) else none))))) := by
    rw [vp_cell_q]
    exact vr_outer cA n.toNatClampNeg H.size n.toNatClampNeg
  rw [hout] at f2
  have hlt : ∀ a, a ∈ L → a < H.size := fun a ha => by
    obtain ⟨k9, hk9⟩ := va_pl_get (X := X) (f := f) ha
    exact (hP k9 _ hk9).lt
  have hnl : ∀ i : Nat, i < n.toNatClampNeg → H.size + 1 + i ∉ L := fun i _ h => by
    have := hlt _ h
    omega
  have hnm : ∀ a, a ∈ (List.range n.toNatClampNeg).map (fun i => H.size + 1 + i) → a ∉ L := fun a ha h => by
    obtain ⟨i, -, rfl⟩ := List.mem_map.mp ha
    have := hlt _ h
    omega
  have hP0 : va_P D cl (X ++ va_pl L f) F.heap := hP.kept (fun k9 x hx => hold x.1 ((hP k9 x hx).lt))
  have hP1 : va_P D cl ((X ++ va_pl L f) ++ [(H.size, .inl (cA, n.toNatClampNeg, .inr (.inr (.inr (.inr (fun i => if i < n.toNatClampNeg then some (H.size + 1 + i) else none))))))]) F.heap := hP0.app (fun k9 x hx => by
    have h0 : k9 < 1 := (List.getElem?_eq_some_iff.mp hx).1
    rw [show k9 = 0 by omega] at hx
    cases hx
    exact f2)
  have hP2 : va_P D cl (((X ++ va_pl L f) ++ [(H.size, .inl (cA, n.toNatClampNeg, .inr (.inr (.inr (.inr (fun i => if i < n.toNatClampNeg then some (H.size + 1 + i) else none))))))]) ++ ((List.range n.toNatClampNeg).map (fun i => H.size + 1 + i)).map (fun a => (a, .inl (cy, z)))) F.heap := hP1.app (fun k9 x hx => by
    obtain ⟨a, ha, rfl⟩ := List.mem_map.mp (List.mem_of_getElem? hx)
    obtain ⟨i, hi, rfl⟩ := List.mem_map.mp ha
    exact hrow i (List.mem_range.mp hi))
  have hD2 : va_D A (((X ++ va_pl L f) ++ [(H.size, .inl (cA, n.toNatClampNeg, .inr (.inr (.inr (.inr (fun i => if i < n.toNatClampNeg then some (H.size + 1 + i) else none))))))]) ++ ((List.range n.toNatClampNeg).map (fun i => H.size + 1 + i)).map (fun a => (a, .inl (cy, z)))) := by
    have hD1 := hD.push (e := .inl (cA, n.toNatClampNeg, .inr (.inr (.inr (.inr (fun i => if i < n.toNatClampNeg then some (H.size + 1 + i) else none)))))) hP rfl (hA _ hS.1)
    generalize hW1 : (X ++ va_pl L f) ++ [(H.size, .inl (cA, n.toNatClampNeg, .inr (.inr (.inr (.inr (fun i => if i < n.toNatClampNeg then some (H.size + 1 + i) else none))))))] = W1 at hD1 hP1 ⊢
    have hle : ∀ (k9 : Nat) (x : Nat × va_E), W1[k9]? = some x → x.1 ≤ H.size := fun k9 x hx => by
      rw [← hW1] at hx
      by_cases hl : k9 < (X ++ va_pl L f).length
      · rw [List.getElem?_append_left hl] at hx
        exact Nat.le_of_lt ((hP k9 x hx).lt)
      · rw [List.getElem?_append_right (by omega)] at hx
        have h0 : k9 - (X ++ va_pl L f).length < 1 := (List.getElem?_eq_some_iff.mp hx).1
        rw [show k9 - (X ++ va_pl L f).length = 0 by omega] at hx
        cases hx
        exact Nat.le_refl _
    have hr : ∀ (k9 : Nat) (x : Nat × va_E), (((List.range n.toNatClampNeg).map (fun i => H.size + 1 + i)).map (fun a => ((a, .inl (cy, z)) : Nat × va_E)))[k9]? = some x → x.1 = H.size + 1 + k9 := fun k9 x hx => by
      rw [List.getElem?_map, List.getElem?_map] at hx
      by_cases h9 : k9 < n.toNatClampNeg
      · rw [List.getElem?_range h9] at hx
        cases hx
        rfl
      · have hn0 : (List.range n.toNatClampNeg)[k9]? = none := List.getElem?_eq_none (by rw [List.length_range]; omega)
        rw [hn0] at hx
        cases hx
    refine ⟨fun i j x y hi hj hxy => ?_, fun k9 x hx => ?_⟩
    · by_cases h1 : i < W1.length <;> by_cases h2 : j < W1.length
      · rw [List.getElem?_append_left h1] at hi
        rw [List.getElem?_append_left h2] at hj
        exact hD1.1 i j x y hi hj hxy
      · rw [List.getElem?_append_left h1] at hi
        rw [List.getElem?_append_right (by omega)] at hj
        have := hle _ _ hi
        have := hr _ _ hj
        omega
      · rw [List.getElem?_append_right (by omega)] at hi
        rw [List.getElem?_append_left h2] at hj
        have := hle _ _ hj
        have := hr _ _ hi
        omega
      · rw [List.getElem?_append_right (by omega)] at hi hj
        have := hr _ _ hi
        have := hr _ _ hj
        omega
    · by_cases h1 : k9 < W1.length
      · rw [List.getElem?_append_left h1] at hx
        exact hD1.2 k9 x hx
      · rw [List.getElem?_append_right (by omega)] at hx
        have := hr _ _ hx
        exact hA _ (by have := hS.1; omega)
  have hAr : ArrOfT s cA (.array ty) := fun N9 z9 => by
    obtain ⟨-, k9, hk9, cm9, hkk9⟩ := (hO 0 0 0).1
    exact ⟨(fun q hq => by cases hq), k9, hk9, cm9, hkk9⟩
  have hK2 : va_K D cl (tys ++ [(cA, .array ty)]) s := ⟨hK.1, fun k9 x hx => by
    by_cases hl : k9 < tys.length
    · rw [List.getElem?_append_left hl] at hx
      exact hK.2 k9 x hx
    · rw [List.getElem?_append_right (by omega)] at hx
      have h0 : k9 - tys.length < 1 := (List.getElem?_eq_some_iff.mp hx).1
      rw [show k9 - tys.length = 0 by omega] at hx
      cases hx
      exact ⟨hAr, fA⟩⟩
  obtain ⟨t, a1, b1⟩ := kk H.size (fun i => H.size + 1 + i) cA F.heap (fun i j _ _ h => by have h9 : H.size + 1 + i = H.size + 1 + j := h; omega) hnl hK2 (by rw [← vr_rows hnm]; exact vr_lay hP2) (by rw [← vr_rows hnm]; exact vr_layD hD2) ⟨by rw [f1]; have := hS.1; omega, fun x h1 h2 => (hold x (Nat.lt_of_lt_of_le h1 hS.1)).trans (hS.2.1 x h1 h2), hS.2.2⟩ F rfl X'
  refine ⟨t, step t ?_, b1⟩
  have e : T.heap.size = H.size := by rw [hT]
  rw [e]
  exact a1
end VGM

theorem b_mna {mi : MI} {d : Nat} {X : BX} {ks : List Nat} {pc nc ns idx : Nat} {L : List (Nat × Option Value)} {st : List Value} {hx : Nat × BE} {wr : List (Nat × BE)} (k N M : Nat) (hd : decode mi.2.1 pc = .ok (.multianewarray idx 2, 4)) (hcl : Cond.classLink mi.1.cls idx ("[" ++ (FieldType.array .long).toString) ∈ TB) (hN : Nat.ble N 2000 = true) (hM : Nat.ble M 2000 = true) (hk : ∀ i, i ∈ ks → i < k) (hlo : mdW 0 k (hx :: wr)) (hL : loL k L = true) (hst : refIn 0 k st = true)
    (kk : BW mi d X ks (pc + 4) L (.ref k :: st) ((hx :: wr) ++ ((k, .inr (3, fun ad => (N, .inr (.inr (.inr (.inr (fun i => if i < N then some (ad (k + 1 + i)) else none))))))) :: (List.range N).map (fun i => (k + 1 + i, .inr (2, fun _ => zrB 2 M))))) nc ns) : BW mi d X ks pc L (.int (nI M) :: .int (nI N) :: st) (hx :: wr) (nc + (1 + N)) (ns + (N + N * M)) := by
  intro G p l e R s m args below meth c A cells slots Qf B hX h1 h2 H locs ls hP hD hS hl
  have hN := Nat.le_of_ble_eq_true hN
  have hM := Nat.le_of_ble_eq_true hM
  have neg : ∀ q : Nat, q ≤ 2000 → ¬ nI q < 0 := fun q hq z => by rw [Int32.lt_iff_toInt_lt, nI_toInt (by omega)] at z; have : (0 : Int32).toInt = 0 := rfl; omega
  have cn : ∀ q : Nat, q ≤ 2000 → (nI q).toNatClampNeg = q := fun q hq => by unfold Int32.toNatClampNeg; rw [nI_toInt (by omega)]; exact Int.toNat_natCast q
  have hK := B.2.2.2.2.2.2.2.1
  have e1 : bwl G (hx :: wr) ++ va_pl [] (fun _ => .inl (G.2.1 0, zrB 0 0)) = bwl G (hx :: wr) := List.append_nil _
  have hcy : s.vm.findClass (FieldType.array .long).toString = some (G.2.1 2) := (hK.2 2 (G.2.1 2, .long) rfl).2
  refine va_mna (X := bwl G (hx :: wr)) (L := []) (f := fun _ => .inl (G.2.1 0, zrB 0 0)) (ty := .long) (cy := G.2.1 2) (N' := N) (K' := M) (z := zrB 2 M) B.1 B.2.1 B.2.2.2.2.1 (B.2.2.2.2.2.1 _ hcl) B.2.2.2.2.2.2.2.2.2.2.2.1.2.2 (B.2.2.2.2.2.1 _ war_long) hcy hK (by rw [e1]; exact hP) (by rw [e1]; exact hD) hS B.2.2.2.2.2.2.2.2.1 (neg N hN) (neg M hM) (cn N hN) (cn M hM) (by omega) (by show M * 8 ≤ 536870912; omega) (by omega) rfl rfl (by omega) (by omega) (fun _ => arrV_new _ _ _) hd (fun q r cA H1 hinj hnl hK1 hP1 hD1 hS1 => ?_)
  have hc : cA = G.2.1 3 := by
    have z1 : s.vm.findClass ("[" ++ (FieldType.array .long).toString) = some cA := (hK1.2 (tysA G).length (cA, .array .long) (by rw [List.getElem?_append_right (Nat.le_refl _), Nat.sub_self]; rfl)).2
    have z2 : s.vm.findClass ("[" ++ (FieldType.array .long).toString) = some (G.2.1 3) := (hK.2 3 (G.2.1 3, .array .long) rfl).2
    rw [z2] at z1
    exact (Option.some.inj z1).symm
  subst hc
  obtain ⟨ad, had, aq, ar⟩ : ∃ ad : Nat → Nat, (∀ i, i < k → ad i = G.2.2 i) ∧ ad k = q ∧ ∀ i, i < N → ad (k + 1 + i) = r i :=
    ⟨fun i => if i < k then G.2.2 i else if i = k then q else r (i - (k + 1)), fun i hi => if_pos hi, by
      show (if k < k then G.2.2 k else if k = k then q else r (k - (k + 1))) = q
      rw [if_neg (by omega), if_pos rfl], fun i hi => by
      show (if k + 1 + i < k then G.2.2 (k + 1 + i) else if k + 1 + i = k then q else r (k + 1 + i - (k + 1))) = r i
      rw [if_neg (by omega), if_neg (by omega), show k + 1 + i - (k + 1) = i by omega]⟩
  have hF : (fun i => if i < N then some (ad (k + 1 + i)) else none) = fun i => if i < N then some (r i) else none := by
    funext i
    by_cases hi : i < N
    · rw [if_pos hi, if_pos hi, ar i hi]
    · rw [if_neg hi, if_neg hi]
  have hb : bwl (G.1, G.2.1, ad) ((hx :: wr) ++ ((k, .inr (3, fun ad => (N, .inr (.inr (.inr (.inr (fun i => if i < N then some (ad (k + 1 + i)) else none))))))) :: (List.range N).map (fun i => (k + 1 + i, .inr (2, fun _ => zrB 2 M))))) = (bwl G (hx :: wr) ++ [(q, .inl (G.2.1 3, N, .inr (.inr (.inr (.inr (fun i => if i < N then some (r i) else none))))))]) ++ va_pl ([] ++ (List.range N).map r) (vr_up (fun _ => .inl (G.2.1 0, zrB 0 0)) ((List.range N).map r) (.inl (G.2.1 2, zrB 2 M))) := by
    rw [bwl_app, hlo G.1 G.2.1 ad G.2.2 (fun i _ hi => had i hi), List.append_assoc]
    show bwl G (hx :: wr) ++ ((ad k, (Sum.inl (G.2.1 3, (N, .inr (.inr (.inr (.inr (fun i => if i < N then some (ad (k + 1 + i)) else none)))))) : va_E)) :: bwl (G.1, G.2.1, ad) ((List.range N).map (fun i => (k + 1 + i, .inr (2, fun _ => zrB 2 M))))) = bwl G (hx :: wr) ++ ((q, (Sum.inl (G.2.1 3, (N, .inr (.inr (.inr (.inr (fun i => if i < N then some (r i) else none)))))) : va_E)) :: va_pl ((List.range N).map r) (vr_up (fun _ => .inl (G.2.1 0, zrB 0 0)) ((List.range N).map r) (.inl (G.2.1 2, zrB 2 M))))
    rw [hF, aq]
    congr 2
    unfold bwl va_pl
    rw [List.map_map, List.map_map]
    apply List.map_congr_left
    intro i hi
    show (ad (k + 1 + i), (Sum.inl (G.2.1 2, zrB 2 M) : va_E)) = (r i, vr_up (fun _ => .inl (G.2.1 0, zrB 0 0)) ((List.range N).map r) (.inl (G.2.1 2, zrB 2 M)) (r i))
    rw [ar i (List.mem_range.mp hi), vr_up_in (List.mem_map.mpr ⟨i, hi, rfl⟩)]
  have e0 : ks.map ad = ks.map G.2.2 := List.map_congr_left (fun i hi => had i (hk i hi))
  have rr := kk (G.1, G.2.1, ad) p l e R s m args below meth c A (cells + 1 + N) (slots + N + N * M) Qf B (by show X G.1 G.2.1 (ks.map ad) p l e R s m args below meth A _ _ Qf; rw [e0, show cells + 1 + N + nc = cells + (nc + (1 + N)) by omega, show slots + N + N * M + ns = slots + (ns + (N + N * M)) by omega]; exact hX) (by omega) (by omega) H1 locs ls (by rw [hb]; exact hP1) (by rw [hb]; exact hD1) hS1 (hasL_m hl (loL_m had L hL))
  have es : (Value.ref k :: st).map (vmA ad) = .ref q :: st.map (vmA G.2.2) := by
    show Value.ref (ad k) :: st.map (vmA ad) = _
    rw [aq, refIn_map (fun i _ hi => had i hi) st hst]
  have r2 : W p l e R s m args below meth c H1 locs (cells + 1 + N) (slots + N + N * M) Qf (F0 m (pc + 4) ls ((Value.ref k :: st).map (vmA ad))) := rr
  rw [es] at r2
  exact r2
def w_rows : List (Nat × BE) := [(3, .inr (3, fun ad => (4, .inr (.inr (.inr (.inr (fun i => if i < 4 then some (ad (4 + i)) else none))))))), (4, .inr (2, fun _ => zrB 2 60)), (5, .inr (2, fun _ => zrB 2 60)), (6, .inr (2, fun _ => zrB 2 60)), (7, .inr (2, fun _ => zrB 2 60))]
theorem md_rows : mdW 3 (3 + 5) w_rows := mdW_arF rfl rfl (fun ad ad0 e => by
  have h : (fun i => if i < 4 then some (ad (4 + i)) else none) = (fun i => if i < 4 then some (ad0 (4 + i)) else none) := by
    funext i
    by_cases hi : i < 4
    · rw [if_pos hi, if_pos hi, e (4 + i) (by omega) (by omega)]
    · rw [if_neg hi, if_neg hi]
  rw [h]) (mdW_arr rfl rfl (mdW_arr rfl rfl (mdW_arr rfl rfl (mdW_arr rfl rfl mdW_nil))))
theorem wcl_mna : Cond.classLink RX5 9 ("[" ++ (FieldType.array .long).toString) ∈ TB := tb_1 (List.mem_of_getElem? (i := 36) rfl) rfl
set_option maxRecDepth 100000 in
set_option maxHeartbeats 800000 in
theorem i_X5 : BMt miX5_init 1 2 5 [.null, .null, .null] w_X5 7 252 := by
  refine BMt.of (by decide) (by decide) (fun _ => rfl) ?_
  refine b_aload_n rfl dX5_init_0 ?_
  refine b_obj dX5_init_1 lobX5 ?_
  refine b_aload_n rfl dX5_init_4 ?_
  refine b_iconst (nI 4) (by decide) dX5_init_5 ?_
  refine b_bipush (nI 60) (by decide) dX5_init_6 ?_
  refine b_mna 3 4 60 (nc := 2) (ns := 8) dX5_init_8 wcl_mna rfl rfl (by decide) (mdW_obj rfl rfl rfl mdW_nil) rfl rfl ?_
  refine b_ws (ws2 := (2, .inl (5, [.null, .null, .null])) :: ([] ++ w_rows)) rfl ?_
  refine b_putFH [.ref 3, .null, .null] dX5_init_12 fX5_11 clsF_5 rfl rfl rfl (fun _ => rfl) (fun _ => rfl) (by decide) rfl ?_
  refine b_aload_n rfl dX5_init_15 ?_
  refine b_iconst (nI 4) (by decide) dX5_init_16 ?_
  refine b_newaH 8 (t := 0) (N := 4) (nc := 1) (ns := 4) dX5_init_17 rfl war_int (fun _ => rfl) hra_int (zr_int 4) rfl (by decide) (by decide) (mdW_obj rfl rfl rfl (mdW_app mdW_nil (mdW_mono md_rows rfl rfl))) rfl rfl ?_
  refine b_putFH [.ref 3, .ref 8, .null] dX5_init_19 fX5_16 clsF_5 rfl rfl rfl (fun _ => rfl) (fun _ => rfl) (by decide) rfl ?_
  refine b_aload_n rfl dX5_init_22 ?_
  refine b_iconst (nI 4) (by decide) dX5_init_23 ?_
  refine b_newaH 9 (t := 0) (N := 4) (nc := 0) (ns := 0) dX5_init_24 rfl war_int (fun _ => rfl) hra_int (zr_int 4) rfl (by decide) (by decide) (mdW_obj rfl rfl rfl (mdW_app (mdW_app mdW_nil (mdW_mono md_rows rfl rfl)) (mdW_arr rfl rfl mdW_nil))) rfl rfl ?_
  refine b_putFH [.ref 3, .ref 8, .ref 9] dX5_init_26 fX5_20 clsF_5 rfl rfl rfl (fun _ => rfl) (fun _ => rfl) (by decide) rfl ?_
  refine b_aload_n rfl dX5_init_29 ?_
  refine b_get (q0 := 0) dX5_init_30 fX5_20 clsF_5 rfl rfl ?_
  refine b_iconst (-1) (by decide) dX5_init_33 ?_
  refine b_ws (ws2 := ((2, .inl (5, [.ref 3, .ref 8, .ref 9])) :: (([] ++ w_rows) ++ ([(8, .inr (0, fun _ => zrB 0 4))] : List (Nat × BE)))) ++ [(9, .inr (0, fun _ => zrB 0 4))]) rfl ?_
  refine b_callS (mi' := miJ7_fill_53178) (d' := 0) (As := [.ref 9, .int (-1)]) (st := []) ((2, .inl (5, [.ref 3, .ref 8, .ref 9])) :: (([] ++ w_rows) ++ ([(8, .inr (0, fun _ => zrB 0 4))] : List (Nat × BE)))) (W0 := [(9, .inr (0, fun _ => zrB 0 4))]) (W1 := [(9, .inr (0, fun _ => (4, .inl (m0i 9))))]) dX5_init_34 lX5_23 mJ7_fill_53178 i_fill rfl rfl (by decide) (by decide) (by decide) rfl ?_
  refine b_ws (ws2 := w_X5) rfl ?_
  exact b_ret dX5_init_37 rfl
/-- YOUR PART: from the entry, for every script of at most 3072 ints, the law comes to its end with true ('hflags': the launch's flags, for a law that throws: no stack traces) -/
theorem whole_start {p : Program} {e : Env} {s : State} {m : MethodId} {below : List Frame} {meth : Method} {c : Code} (l : Launch) (hflags : l.flags = flags0) {b L : Nat} {xs : Nat → Int32} (hL : L ≤ 3072) (C0 : lw_At p s m meth c b L xs) : W p l e room_1 s m #[Value.ref b] below meth c s.heap [] 0 0 (lw_Z below #[Value.ref b] s) (entryFrame m ([Value.ref b] : List Value).toArray 4) := lw_start5 i_X5 l hL C0
set_option maxHeartbeats 4000000 in
theorem lw_walk (l : Launch) (hflags : l.flags = flags0) (b : Addr) (xs : List Int32) : MetFree l x (headSpec (Jvm.Cond.code x code maxLocals ret :: tables_1) room_1) (lw_P b xs) (fun _ _ _ _ _ => True) lw_Q := by
  refine MetFree.of_bodyS (code := code) (maxLocals := maxLocals) (ret := ret) (by decide) ?_ ?_
  · intro args s m h hn
    obtain ⟨meth, c, h1, h2, h3, h4, h5, h6, -, -⟩ := Cond.code_spec hn (atoms_spec (ws := Jvm.Cond.code x code maxLocals ret :: tables_1) h _ List.mem_cons_self)
    exact ⟨meth, c, h1, h2, h3, h4, h5, h6⟩
  · intro p e s m args below meth c s₁ B hml0 hP _
    obtain ⟨rfl, hx, hbd, hgv⟩ := hP
    obtain ⟨scr, harrAt, hlist, hof, hsmall⟩ := hx
    obtain ⟨hcb, hkn, -, -⟩ := State.arrayAt?_spec harrAt
    have hown : s.vm.findClass R_law = some m.cls := findClass_of_methodNamed B.named
    have hts0 : ∀ c ∈ (Jvm.Cond.code x code maxLocals ret :: tables_1), c.before #[Value.ref b] s = true := atoms_spec (ws := Jvm.Cond.code x code maxLocals ret :: tables_1) B.pre
    have hts : ∀ w ∈ lw_tbl, w.before #[Value.ref b] s = true := k2_hts_sels lw_privs (fun w hw => hts0 w (List.mem_cons_of_mem _ hw)) lw_privs_ok
    have hml : c.maxLocals = 4 := B.maxLocals_eq (hts0 _ List.mem_cons_self)
    have X₀ : Stand p l e room_1 s m #[Value.ref b] below meth c s₁ [] 0 0 := Stand.of_body B
    have hh0 : s₁.heap = s.heap := by rw [B.state]; rfl
    have hsz : scr.slots.size = xs.length := by rw [← Array.length_toList, hlist, List.length_map]
    have hval : ∀ j : Nat, j < xs.length → scr.slots[j]? = some (.int (xs.getD j 0)) := fun j hj => by
      rw [← Array.getElem?_toList, hlist]
      simp [hj]
    have hbl : b < s.heap.size := (Array.getElem?_eq_some_iff.mp hcb).1
    have hX : va_X b xs.length (fun j => xs.getD j 0) s s.heap := ⟨scr, hcb, hof, hkn, hsz, hval⟩
    have K : W p l e room_1 s m #[Value.ref b] below meth c s₁.heap [] 0 0 (lw_Z below #[Value.ref b] s) (entryFrame m ([Value.ref b] : List Value).toArray 4) := by
      rw [hh0]
      exact whole_start l hflags hbd ⟨B.exec, B.bytes, B.returns, hml, hown, hts, hX, hbl, B.notSynchronized, hgv⟩
    obtain ⟨t, a1, o, b1, b2, b3⟩ := K s₁ rfl X₀
    exact ⟨t, o, a1, b1, b2, b3⟩
theorem lw_pre_spec {args : Array Value} {s : State} (h : (Jvm.Cond.and given_1 narrow_1).before args s = true) (hr : rest_1_c.before args s = true) : ∃ (b : Addr) (xs : List Int32), lw_P b xs args s := by
  have hs := flat_of_before _ h
  have hq := flat_of_before _ hr
  have hc : (Cond.count 1).before args s = true := hs _ (by decide +kernel)
  have harr : (Cond.arrayOf (.arg 0) .int).before args s = true := hs _ (by decide +kernel)
  have hle : (Cond.le (.length (.arg 0)) (.int 3072)).before args s = true := hs _ (by decide +kernel)
  have hlen : (Cond.isInt (.length (.arg 0))).before args s = true := hq _ (by decide +kernel)
  have hall : (Cond.all (.arg 0) (.isInt (.elem (.arg 0) (.index 0)))).before args s = true := hq _ (by decide +kernel)
  obtain ⟨b, xs, hb, hx⟩ := State.ints_of_pre rfl harr hlen hall
  have hsm : xs.length < 2 ^ 31 := hx.choose_spec.2.2.2
  have hev : (Term.length (.arg 0)).eval args s none [] s = some (.int xs.length.toInt32) := hx.length_eval hb
  have hv := Cond.le_ints hev (show (Term.int 3072).eval args s none [] s = some (.int 3072) from rfl)
  have hd : xs.length.toInt32 ≤ 3072 := by
    simpa [Cond.before, Cond.holds, hv] using hle
  have hN : xs.length ≤ 3072 := (Int32.ofNat_le_ofNat hsm (by decide)).mp (show Int32.ofNat xs.length ≤ Int32.ofNat 3072 from hd)
  exact ⟨b, xs, Cond.one_arg hc (show args[0]? = some (.ref b) from hb), hx, hN, h⟩
theorem lw_comes (l : Launch) (hflags : l.flags = flags0) : Comes l x (Jvm.Cond.code x code maxLocals ret :: tables_1) room_1 (fun tb e args s => Calls_1 tb e args s ∧ rest_1 tb e args s ∧ Pre_1 tb e args s)
    (fun _ _ args s o t => lw_Q args s o t) := by
  intro p e ha hc hk s m args below hf hfit hheap happ hpre
  obtain ⟨b, xs, hP⟩ := lw_pre_spec hpre.2.2 hpre.2.1
  obtain ⟨k, o, h1, h2, h3, hQ⟩ := lw_walk l hflags b xs p e ha hc hk s m args below hf ((Spec.applies_iff_loose hf).mp happ).1 hP trivial
  exact ⟨k, o, h1, h2, h3, hQ⟩
theorem lw_frame {s t : State} {o : Outcome} {args : Array Value} (h : Framed s o t [] 600000 7302250) :
    Framed s o t (fieldLocs frame_1_writes args s ++ arrayLocs frame_1_arrays args s ++ staticLocs frame_1_statics s) 600000 7302250 := h
theorem lw_limb (L : Cond) (hL : ∀ (args : Array Value) (s t : State), L.after args s (.returned (some (.int 1))) t = true) :
    ArmFor flags0 classFile x code maxLocals ret World_1 tables_1 room_1 Calls_1 rest_1 Pre_1
      (fun tb e a s o t => postC L tb e a s o t ∧ Framed s o t (fieldLocs frame_1_writes a s ++ arrayLocs frame_1_arrays a s ++ staticLocs frame_1_statics s) 600000 7302250) := by
  intro l hflags _ _ p e ha hc hk s m args below hf hfit hheap happ hpre
  obtain ⟨k, o, h1, h2, h3, rfl, hF⟩ := lw_comes l hflags p e ha hc hk s m args below hf hfit hheap happ hpre
  exact ⟨k, _, h1, h2, h3, hL args s _, lw_frame hF⟩
theorem i_vc : Claimed_1_1 ∧ Claimed_1_2 := ⟨lw_limb limb_1_1 (fun args s t => by simp [limb_1_1, Cond.after, Cond.holds, Cond.value]), lw_limb limb_1_2 (fun args s t => Cond.after_iff.mpr (by
  first | (rw [show limb_1_2 = Cond.eq .result (.int 1) from rfl, Cond.eq_ints (x := 1) (y := 1) rfl rfl]; simp; done) | (simp [limb_1_2, Cond.value, Term.eval]; done)))⟩

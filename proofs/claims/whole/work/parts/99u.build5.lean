def upB (nm : List Nat) (ad ad0 : Nat → Nat) : Nat → Nat := fun i => if i ∈ nm then ad i else ad0 i
theorem nd_range : ∀ n : Nat, va_nd (List.range n) = true := by
  have key : ∀ l : List Nat, l.Nodup → va_nd l = true := by
    intro l
    induction l with
    | nil => intro _; rfl
    | cons a r ih => intro h; rw [List.nodup_cons] at h; show (decide (a ∉ r) && va_nd r) = true; rw [decide_eq_true h.1, ih h.2]; rfl
  exact fun n => key _ List.nodup_range
theorem range_at {α : Type} (l : List α) (x : α) : (List.range l.length).map (fun i => (l ++ [x])[i]?) = l.map some := by
  apply List.ext_getElem?
  intro i
  rw [List.getElem?_map, List.getElem?_map]
  by_cases h : i < l.length
  · rw [List.getElem?_range h]
    show some ((l ++ [x])[i]?) = _
    rw [List.getElem?_append_left h, List.getElem?_eq_getElem h]; rfl
  · rw [List.getElem?_eq_none (by rw [List.length_range]; omega), List.getElem?_eq_none (by omega)]; rfl
set_option maxHeartbeats 1600000 in
theorem b_new {mi mi' : MI} {d d' : Nat} {X : BX} {ks : List Nat} {pc nc ns mc' ms' idx idx2 k ci N : Nat} {L : List (Nat × Option Value)} {st : List Value} {ws W1 : List (Nat × BE)} {C : String} {T : u_T} {ty0 : Nat → FieldType} {fs0 : List Value} {nm : List Nat}
    (hd : decode mi.2.1 pc = .ok (.new idx, 3)) (hd2 : decode mi.2.1 (pc + 3) = .ok (.dup, 1)) (hd3 : decode mi.2.1 (pc + 4) = .ok (.invokespecial idx2, 3)) (hcl : Cond.classLink mi.1.cls idx C ∈ TB) (hinst : Cond.instantiable C N ∈ TB) (hini : Cond.initialized C ∈ TB) (hc : clsF ci C T N ty0) (hfs : ∀ j, j < N → defaultValue (ty0 j) = vp_V fs0 j)
    (hlk : Cond.methodLink mi.1.cls idx2 mi'.1 ∈ TB) (hm : mthB mi' 0) (hi : Cond.instanceMethod mi'.1 ∈ TB) (hnam : mi'.1.name = "<init>") (hret : mi'.2.2.2 = none) (hB : BMt mi' d' k ci fs0 W1 mc' ms') (hdd : d' < d) (hnl : mi'.2.2.1 ≤ 30) (hcat : (st.map fun v => v.category).sum ≤ 7)
    (hk0 : ∀ i, i ∈ ks → i ∉ nm) (hkn : k ∈ nm) (hW1 : ∀ (D : va_G) (ids : Nat → ClassId) (ad ad0 : Nat → Nat), bwl (D, ids, upB nm ad ad0) W1 = bwl (D, ids, ad) W1) (hL : ∀ ad ad0, mLB (upB nm ad ad0) L = mLB ad0 L) (hst : ∀ ad ad0, st.map (vmA (upB nm ad ad0)) = st.map (vmA ad0)) (hws : ∀ (D : va_G) (ids : Nat → ClassId) (ad ad0 : Nat → Nat), bwl (D, ids, upB nm ad ad0) ws = bwl (D, ids, ad0) ws)
    (kk : BW mi d X ks (pc + 7) L (.ref k :: st) (ws ++ W1) nc ns) : BW mi d X ks pc L st ws (nc + (1 + mc')) (ns + (N + ms')) := by
  intro G p l e R s m args below meth c A cells slots Qf B hX h1 h2 H locs ls hP hD hS hls
  obtain ⟨hx, hb, hml, hr, hown, hts, hlocks, hK, hA, hfr, hlo, hXF, hname⟩ := id B
  obtain ⟨gini, gcode, gdesc⟩ := hm
  refine va_new (fs := fs0) hx hb hts hc.2.1 ty0 hc.2.2.1 hown (hts _ hcl) (hts _ hinst) (hts _ hini) hK hP hD hS hA hc.1 hfs (by omega) (by omega) hd (fun q H1 hP1 hD1 hS1 => ?_)
  refine lv_dup hx hb hd2 rfl ?_
  have hat : (bwl G ws ++ [(q, (Sum.inr (ci, fs0) : va_E))])[(bwl G ws).length]? = some (q, Sum.inr (ci, fs0)) := by
    rw [List.getElem?_append_right (Nat.le_refl _), Nat.sub_self]; rfl
  have hPc : va_P G.1 vwCl [(q, (Sum.inr (ci, fs0) : va_E))] H1 := hP1.sub [(bwl G ws).length] (by simp [hat])
  have hDc : va_D A [(q, (Sum.inr (ci, fs0) : va_E))] := hD1.sub [(bwl G ws).length] (by simp [va_nd]) (by simp [hat])
  have hFc := va_free (wc := [(q, (Sum.inr (ci, fs0) : va_E))]) hD1 hS1 hA [(bwl G ws).length] (by simp [hat])
  have cw : CallB R s args mi.1.cls idx2 mi'.1 mi'.2.1 mi'.2.2.1 mi'.2.2.2 (Cond.code mi'.1 mi'.2.1 mi'.2.2.1 mi'.2.2.2 :: TB) (rmB d' mc' ms') mc' ms' 0 ∧ mi'.1.name = "<init>" ∧ (Cond.instanceMethod mi'.1).before args s = true :=
    ⟨callB_of 0 hts (fun w hw => by rcases List.mem_cons.mp hw with rfl | h; exact tb_good _ gcode; exact tb_good _ h) rfl rfl rfl (hts _ gini) (hts _ hlk) gdesc (by simp only [rmB]; omega), hnam, hts _ hi⟩
  have hM := hB l G.1 G.2.1 q H1.size
  rw [hret] at cw hM
  refine va_callv (va_runI (As := []) (rest := .ref q :: st.map (vmA G.2.2)) ⟨hx, hb, hml, hown, hts⟩ hM cw ⟨fun a U g mk z => by obtain ⟨q0, q1, qP, qK, qD, qX⟩ := z; exact ⟨q0, q1, qP, va_K.moved (u := U) (U := U.calling g mk a) (Vm.Alike.refl U.vm) qK, qD, XF.calling qX⟩, fun U hU hW => ⟨rfl, by rw [hU], by rw [hU]; exact hPc, va_K.moved hW.alike hK, hDc.weaken (fun _ _ _ _ => trivial), XF.warm hW hXF⟩⟩ rfl rfl hls.1 rfl (lv_room (by show 1 + ((st.map (vmA G.2.2)).map fun v => v.category).sum ≤ 8; rw [map_cat]; omega)) hd3 ⟨by omega, by omega⟩) hS1 (fun q _ h => hFc q h) hFc (fun ad t H2 locs2 ht hvm hw hBt hz1 hk1 hS2 => ?_)
  obtain ⟨hP2, hK2, hD2⟩ := hBt
  rw [ht] at hP2
  obtain ⟨hP3, hD3⟩ := va_join (wr := bwl G ws) (w1 := bwl (G.1, G.2.1, ad) W1) hP1 hD1 [(bwl G ws).length] (List.range (bwl G ws).length) (by simp [hat]) (range_at _ _) (nd_range _) (by intro i hi; simp at hi ⊢; omega) hk1 hFc hP2 hD2
  have e0 : ks.map (upB nm ad G.2.2) = ks.map G.2.2 := List.map_congr_left (fun i hi => if_neg (hk0 i hi))
  have hb2 : bwl (G.1, G.2.1, upB nm ad G.2.2) (ws ++ W1) = bwl G ws ++ bwl (G.1, G.2.1, ad) W1 := by
    have a1 := hws G.1 G.2.1 ad G.2.2
    have a2 := hW1 G.1 G.2.1 ad G.2.2
    unfold bwl at a1 a2 ⊢
    rw [List.map_append, a1, a2]
  have r := kk (G.1, G.2.1, upB nm ad G.2.2) p l e R s m args below meth c A (cells + 1 + mc') (slots + N + ms') Qf B (by show X G.1 G.2.1 (ks.map (upB nm ad G.2.2)) p l e R s m args below meth A _ _ Qf; rw [e0, show cells + 1 + mc' + nc = cells + (nc + (1 + mc')) by omega, show slots + N + ms' + ns = slots + (ns + (N + ms')) by omega]; exact hX) (by omega) (by omega) H2 locs2 ls (by show va_P G.1 vwCl _ H2; rw [hb2]; exact hP3) (by rw [hb2]; exact hD3) hS2 (hasL_m hls (hL ad G.2.2))
  have es : (Value.ref k :: st).map (vmA (upB nm ad G.2.2)) = .ref q :: st.map (vmA G.2.2) := by
    show Value.ref (if k ∈ nm then ad k else G.2.2 k) :: st.map (vmA (upB nm ad G.2.2)) = _
    rw [if_pos hkn, hst, show ad k = q from hw]
  have r2 : W p l e R s m args below meth c H2 locs2 (cells + 1 + mc') (slots + N + ms') Qf (F0 m (pc + 7) ls ((Value.ref k :: st).map (vmA (upB nm ad G.2.2)))) := r
  rw [es] at r2
  exact r2

set_option maxHeartbeats 1600000 in
theorem b_newN {host : String} {mi mi' : MI} {d d' : Nat} {X : BX} {ks : List Nat} {pc nc ns mc' ms' idx idx2 k ci N : Nat} {L : List (Nat × Option Value)} {st : List Value} {ws W1 : List (Nat × BE)} {C : String} {T : u_T} {ty0 : Nat → FieldType} {fs0 : List Value} {nm : List Nat}
    (hd : decode mi.2.1 pc = .ok (.new idx, 3)) (hd2 : decode mi.2.1 (pc + 3) = .ok (.dup, 1)) (hd3 : decode mi.2.1 (pc + 4) = .ok (.invokespecial idx2, 3)) (hcl : Cond.classLink mi.1.cls idx C ∈ TB) (hinst : Cond.instantiable C N ∈ TB) (hini : Cond.initialized C ∈ TB) (hc : clsF ci C T N ty0) (hfs : ∀ j, j < N → defaultValue (ty0 j) = vp_V fs0 j)
    (hlk : ∀ s, XF s → va_Nw (.methodLinkNest mi.1.cls idx2 mi'.1 host) s) (hm : mthB mi' 0) (hi : Cond.instanceMethod mi'.1 ∈ TB) (hnam : mi'.1.name = "<init>") (hret : mi'.2.2.2 = none) (hB : BMt mi' d' k ci fs0 W1 mc' ms') (hdd : d' < d) (hnl : mi'.2.2.1 ≤ 30) (hcat : (st.map fun v => v.category).sum ≤ 7)
    (hk0 : ∀ i, i ∈ ks → i ∉ nm) (hkn : k ∈ nm) (hW1 : ∀ (D : va_G) (ids : Nat → ClassId) (ad ad0 : Nat → Nat), bwl (D, ids, upB nm ad ad0) W1 = bwl (D, ids, ad) W1) (hL : ∀ ad ad0, mLB (upB nm ad ad0) L = mLB ad0 L) (hst : ∀ ad ad0, st.map (vmA (upB nm ad ad0)) = st.map (vmA ad0)) (hws : ∀ (D : va_G) (ids : Nat → ClassId) (ad ad0 : Nat → Nat), bwl (D, ids, upB nm ad ad0) ws = bwl (D, ids, ad0) ws)
    (kk : BW mi d X ks (pc + 7) L (.ref k :: st) (ws ++ W1) nc ns) : BW mi d X ks pc L st ws (nc + (1 + mc')) (ns + (N + ms')) := by
  intro G p l e R s m args below meth c A cells slots Qf B hX h1 h2 H locs ls hP hD hS hls
  obtain ⟨hx, hb, hml, hr, hown, hts, hlocks, hK, hA, hfr, hlo, hXF, hname⟩ := id B
  obtain ⟨gini, gcode, gdesc⟩ := hm
  refine va_new (fs := fs0) hx hb hts hc.2.1 ty0 hc.2.2.1 hown (hts _ hcl) (hts _ hinst) (hts _ hini) hK hP hD hS hA hc.1 hfs (by omega) (by omega) hd (fun q H1 hP1 hD1 hS1 => ?_)
  refine lv_dup hx hb hd2 rfl ?_
  have hat : (bwl G ws ++ [(q, (Sum.inr (ci, fs0) : va_E))])[(bwl G ws).length]? = some (q, Sum.inr (ci, fs0)) := by
    rw [List.getElem?_append_right (Nat.le_refl _), Nat.sub_self]; rfl
  have hPc : va_P G.1 vwCl [(q, (Sum.inr (ci, fs0) : va_E))] H1 := hP1.sub [(bwl G ws).length] (by simp [hat])
  have hDc : va_D A [(q, (Sum.inr (ci, fs0) : va_E))] := hD1.sub [(bwl G ws).length] (by simp [va_nd]) (by simp [hat])
  have hFc := va_free (wc := [(q, (Sum.inr (ci, fs0) : va_E))]) hD1 hS1 hA [(bwl G ws).length] (by simp [hat])
  have cw : va_CN R s args mi.1.cls idx2 mi'.1 host mi'.2.1 mi'.2.2.1 mi'.2.2.2 (Cond.code mi'.1 mi'.2.1 mi'.2.2.1 mi'.2.2.2 :: TB) (rmB d' mc' ms') mc' ms' 0 ∧ mi'.1.name = "<init>" ∧ (Cond.instanceMethod mi'.1).before args s = true :=
    ⟨va_cnB 0 hts (fun w hw => by rcases List.mem_cons.mp hw with rfl | h; exact tb_good _ gcode; exact tb_good _ h) rfl rfl rfl (hlk _ hXF) (hts _ gini) gdesc (by simp only [rmB]; omega), hnam, hts _ hi⟩
  have hM := hB l G.1 G.2.1 q H1.size
  rw [hret] at cw hM
  refine va_callv (va_runIN (As := []) (rest := .ref q :: st.map (vmA G.2.2)) ⟨hx, hb, hml, hown, hts⟩ hM cw ⟨fun a U g mk z => by obtain ⟨q0, q1, qP, qK, qD, qX⟩ := z; exact ⟨q0, q1, qP, va_K.moved (u := U) (U := U.calling g mk a) (Vm.Alike.refl U.vm) qK, qD, XF.calling qX⟩, fun U hU hW => ⟨rfl, by rw [hU], by rw [hU]; exact hPc, va_K.moved hW.alike hK, hDc.weaken (fun _ _ _ _ => trivial), XF.warm hW hXF⟩⟩ rfl rfl hls.1 rfl (lv_room (by show 1 + ((st.map (vmA G.2.2)).map fun v => v.category).sum ≤ 8; rw [map_cat]; omega)) hd3 ⟨by omega, by omega⟩) hS1 (fun q _ h => hFc q h) hFc (fun ad t H2 locs2 ht hvm hw hBt hz1 hk1 hS2 => ?_)
  obtain ⟨hP2, hK2, hD2⟩ := hBt
  rw [ht] at hP2
  obtain ⟨hP3, hD3⟩ := va_join (wr := bwl G ws) (w1 := bwl (G.1, G.2.1, ad) W1) hP1 hD1 [(bwl G ws).length] (List.range (bwl G ws).length) (by simp [hat]) (range_at _ _) (nd_range _) (by intro i hi; simp at hi ⊢; omega) hk1 hFc hP2 hD2
  have e0 : ks.map (upB nm ad G.2.2) = ks.map G.2.2 := List.map_congr_left (fun i hi => if_neg (hk0 i hi))
  have hb2 : bwl (G.1, G.2.1, upB nm ad G.2.2) (ws ++ W1) = bwl G ws ++ bwl (G.1, G.2.1, ad) W1 := by
    have a1 := hws G.1 G.2.1 ad G.2.2
    have a2 := hW1 G.1 G.2.1 ad G.2.2
    unfold bwl at a1 a2 ⊢
    rw [List.map_append, a1, a2]
  have r := kk (G.1, G.2.1, upB nm ad G.2.2) p l e R s m args below meth c A (cells + 1 + mc') (slots + N + ms') Qf B (by show X G.1 G.2.1 (ks.map (upB nm ad G.2.2)) p l e R s m args below meth A _ _ Qf; rw [e0, show cells + 1 + mc' + nc = cells + (nc + (1 + mc')) by omega, show slots + N + ms' + ns = slots + (ns + (N + ms')) by omega]; exact hX) (by omega) (by omega) H2 locs2 ls (by show va_P G.1 vwCl _ H2; rw [hb2]; exact hP3) (by rw [hb2]; exact hD3) hS2 (hasL_m hls (hL ad G.2.2))
  have es : (Value.ref k :: st).map (vmA (upB nm ad G.2.2)) = .ref q :: st.map (vmA G.2.2) := by
    show Value.ref (if k ∈ nm then ad k else G.2.2 k) :: st.map (vmA (upB nm ad G.2.2)) = _
    rw [if_pos hkn, hst, show ad k = q from hw]
  have r2 : W p l e R s m args below meth c H2 locs2 (cells + 1 + mc') (slots + N + ms') Qf (F0 m (pc + 7) ls ((Value.ref k :: st).map (vmA (upB nm ad G.2.2)))) := r
  rw [es] at r2
  exact r2

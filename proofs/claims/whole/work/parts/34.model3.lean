theorem VM_set2 {M : Mm} {S : ST} (hM : VM 0 M S) (hF : WF S) {k v : Nat} (hk : k < S 0 2) : VM 0 (siM M 137 (6 + k) (nI v)) (hupd S k v) := by
  obtain ⟨h0, h1, h2, h3, h4, h5, b2, b1, b3, b4, b5, b6, b7, b8, b9, b10, b11⟩ := VM_elim hM
  have hm := WF_m hF
  have hh := WF_h hF
  have hs := WF_s hF
  have hn := WF_n hF
  exact VM_intro (by exact (siN h0 (by omega)))
    (by exact (siN h1 (by omega)))
    (by exact (siN h2 (by omega)))
    (by exact (siN h3 (by omega)))
    (by exact (siN h4 (by omega)))
    (by exact (siN h5 (by omega)))
    (fun j hj => by
    have hj : j < S 0 2 := hj
    by_cases e : j = k
    · rw [e]; exact (siS).trans (congrArg nI (by simp [hupd]))
    · exact ((siN (b2 j (by omega)) (by omega))).trans (congrArg nI (by simp [hupd, e])))
    (fun j hj => by
    have hj : j < S 0 2 := hj
    exact (siN (b1 j hj) (by omega)))
    (fun j hj => by
    have hj : j < S 0 3 := hj
    exact (siN (b3 j hj) (by omega)))
    (fun j hj => by
    have hj : j < S 0 3 := hj
    exact (siN (b4 j hj) (by omega)))
    (fun j hj => by
    have hj : j < S 0 4 := hj
    exact (siN (b5 j hj) (by omega)))
    (fun j hj => by
    have hj : j < S 0 4 := hj
    exact (siN (b6 j hj) (by omega)))
    (fun j hj => by
    have hj : j < S 0 4 := hj
    exact (siN (b7 j hj) (by omega)))
    (fun j hj => by
    have hj : j < S 0 4 := hj
    exact (siN (b8 j hj) (by omega)))
    (fun j hj => by
    have hj : j < S 0 5 := hj
    exact (siN (b9 j hj) (by omega)))
    (fun j hj => by
    have hj : j < S 0 5 := hj
    exact (siN (b10 j hj) (by omega)))
    (fun j hj => by
    have hj : j < S 0 5 := hj
    exact (siN (b11 j hj) (by omega)))

theorem VM_set1 {M : Mm} {S : ST} (hM : VM 0 M S) (hF : WF S) {k v : Nat} (hk : k < S 0 2) : VM 0 (siM M 137 (12 + k) (nI v)) (upS2 S 1 k v) := by
  obtain ⟨h0, h1, h2, h3, h4, h5, b2, b1, b3, b4, b5, b6, b7, b8, b9, b10, b11⟩ := VM_elim hM
  have hm := WF_m hF
  have hh := WF_h hF
  have hs := WF_s hF
  have hn := WF_n hF
  exact VM_intro (by exact (siN h0 (by omega)))
    (by exact (siN h1 (by omega)))
    (by exact (siN h2 (by omega)))
    (by exact (siN h3 (by omega)))
    (by exact (siN h4 (by omega)))
    (by exact (siN h5 (by omega)))
    (fun j hj => by
    have hj : j < S 0 2 := hj
    exact (siN (b2 j hj) (by omega)))
    (fun j hj => by
    have hj : j < S 0 2 := hj
    by_cases e : j = k
    · rw [e]; exact (siS).trans (congrArg nI (by simp [upS2]))
    · exact ((siN (b1 j (by omega)) (by omega))).trans (congrArg nI (by simp [upS2, e])))
    (fun j hj => by
    have hj : j < S 0 3 := hj
    exact (siN (b3 j hj) (by omega)))
    (fun j hj => by
    have hj : j < S 0 3 := hj
    exact (siN (b4 j hj) (by omega)))
    (fun j hj => by
    have hj : j < S 0 4 := hj
    exact (siN (b5 j hj) (by omega)))
    (fun j hj => by
    have hj : j < S 0 4 := hj
    exact (siN (b6 j hj) (by omega)))
    (fun j hj => by
    have hj : j < S 0 4 := hj
    exact (siN (b7 j hj) (by omega)))
    (fun j hj => by
    have hj : j < S 0 4 := hj
    exact (siN (b8 j hj) (by omega)))
    (fun j hj => by
    have hj : j < S 0 5 := hj
    exact (siN (b9 j hj) (by omega)))
    (fun j hj => by
    have hj : j < S 0 5 := hj
    exact (siN (b10 j hj) (by omega)))
    (fun j hj => by
    have hj : j < S 0 5 := hj
    exact (siN (b11 j hj) (by omega)))

theorem VM_set7 {M : Mm} {S : ST} (hM : VM 0 M S) (hF : WF S) {k v : Nat} (hk : k < S 0 4) : VM 0 (siM M 137 (52 + k) (nI v)) (upS2 S 7 k v) := by
  obtain ⟨h0, h1, h2, h3, h4, h5, b2, b1, b3, b4, b5, b6, b7, b8, b9, b10, b11⟩ := VM_elim hM
  have hm := WF_m hF
  have hh := WF_h hF
  have hs := WF_s hF
  have hn := WF_n hF
  exact VM_intro (by exact (siN h0 (by omega)))
    (by exact (siN h1 (by omega)))
    (by exact (siN h2 (by omega)))
    (by exact (siN h3 (by omega)))
    (by exact (siN h4 (by omega)))
    (by exact (siN h5 (by omega)))
    (fun j hj => by
    have hj : j < S 0 2 := hj
    exact (siN (b2 j hj) (by omega)))
    (fun j hj => by
    have hj : j < S 0 2 := hj
    exact (siN (b1 j hj) (by omega)))
    (fun j hj => by
    have hj : j < S 0 3 := hj
    exact (siN (b3 j hj) (by omega)))
    (fun j hj => by
    have hj : j < S 0 3 := hj
    exact (siN (b4 j hj) (by omega)))
    (fun j hj => by
    have hj : j < S 0 4 := hj
    exact (siN (b5 j hj) (by omega)))
    (fun j hj => by
    have hj : j < S 0 4 := hj
    exact (siN (b6 j hj) (by omega)))
    (fun j hj => by
    have hj : j < S 0 4 := hj
    by_cases e : j = k
    · rw [e]; exact (siS).trans (congrArg nI (by simp [upS2]))
    · exact ((siN (b7 j (by omega)) (by omega))).trans (congrArg nI (by simp [upS2, e])))
    (fun j hj => by
    have hj : j < S 0 4 := hj
    exact (siN (b8 j hj) (by omega)))
    (fun j hj => by
    have hj : j < S 0 5 := hj
    exact (siN (b9 j hj) (by omega)))
    (fun j hj => by
    have hj : j < S 0 5 := hj
    exact (siN (b10 j hj) (by omega)))
    (fun j hj => by
    have hj : j < S 0 5 := hj
    exact (siN (b11 j hj) (by omega)))

theorem VM_set0 {M : Mm} {S : ST} (hM : VM 0 M S) (hF : WF S) {v : Nat} : VM 0 (siM M 137 4 (nI v)) (upS2 S 0 0 v) := by
  obtain ⟨h0, h1, h2, h3, h4, h5, b2, b1, b3, b4, b5, b6, b7, b8, b9, b10, b11⟩ := VM_elim hM
  have hm := WF_m hF
  have hh := WF_h hF
  have hs := WF_s hF
  have hn := WF_n hF
  exact VM_intro (by exact (siN h0 (by omega)))
    (by exact (siN h1 (by omega)))
    (by exact (siN h2 (by omega)))
    (by exact (siN h3 (by omega)))
    (by exact siS)
    (by exact (siN h5 (by omega)))
    (fun j hj => by
    have hj : j < S 0 2 := hj
    exact (siN (b2 j hj) (by omega)))
    (fun j hj => by
    have hj : j < S 0 2 := hj
    exact (siN (b1 j hj) (by omega)))
    (fun j hj => by
    have hj : j < S 0 3 := hj
    exact (siN (b3 j hj) (by omega)))
    (fun j hj => by
    have hj : j < S 0 3 := hj
    exact (siN (b4 j hj) (by omega)))
    (fun j hj => by
    have hj : j < S 0 4 := hj
    exact (siN (b5 j hj) (by omega)))
    (fun j hj => by
    have hj : j < S 0 4 := hj
    exact (siN (b6 j hj) (by omega)))
    (fun j hj => by
    have hj : j < S 0 4 := hj
    exact (siN (b7 j hj) (by omega)))
    (fun j hj => by
    have hj : j < S 0 4 := hj
    exact (siN (b8 j hj) (by omega)))
    (fun j hj => by
    have hj : j < S 0 5 := hj
    exact (siN (b9 j hj) (by omega)))
    (fun j hj => by
    have hj : j < S 0 5 := hj
    exact (siN (b10 j hj) (by omega)))
    (fun j hj => by
    have hj : j < S 0 5 := hj
    exact (siN (b11 j hj) (by omega)))

theorem VM_come {M : Mm} {S : ST} (hM : VM 0 M S) (hF : WF S) {i : Nat} (hi : i < S 0 5) (ha : S 9 i < S 0 2) : VM 0 (siM (siM M 137 (82 + i) (nI 1)) 137 (6 + S 9 i) (nI (min 100 (S 2 (S 9 i) + S 10 i)))) (comeN S i) := by
  obtain ⟨h0, h1, h2, h3, h4, h5, b2, b1, b3, b4, b5, b6, b7, b8, b9, b10, b11⟩ := VM_elim hM
  have hm := WF_m hF
  have hh := WF_h hF
  have hs := WF_s hF
  have hn := WF_n hF
  exact VM_intro (by exact (siN (siN h0 (by omega)) (by omega)))
    (by exact (siN (siN h1 (by omega)) (by omega)))
    (by exact (siN (siN h2 (by omega)) (by omega)))
    (by exact (siN (siN h3 (by omega)) (by omega)))
    (by exact (siN (siN h4 (by omega)) (by omega)))
    (by exact (siN (siN h5 (by omega)) (by omega)))
    (fun j hj => by
    have hj : j < S 0 2 := hj
    by_cases e : j = S 9 i
    · rw [e]; exact (siS).trans (congrArg nI (by simp [comeN]))
    · exact ((siN (siN (b2 j (by omega)) (by omega)) (by omega))).trans (congrArg nI (by simp [comeN, e])))
    (fun j hj => by
    have hj : j < S 0 2 := hj
    exact (siN (siN (b1 j hj) (by omega)) (by omega)))
    (fun j hj => by
    have hj : j < S 0 3 := hj
    exact (siN (siN (b3 j hj) (by omega)) (by omega)))
    (fun j hj => by
    have hj : j < S 0 3 := hj
    exact (siN (siN (b4 j hj) (by omega)) (by omega)))
    (fun j hj => by
    have hj : j < S 0 4 := hj
    exact (siN (siN (b5 j hj) (by omega)) (by omega)))
    (fun j hj => by
    have hj : j < S 0 4 := hj
    exact (siN (siN (b6 j hj) (by omega)) (by omega)))
    (fun j hj => by
    have hj : j < S 0 4 := hj
    exact (siN (siN (b7 j hj) (by omega)) (by omega)))
    (fun j hj => by
    have hj : j < S 0 4 := hj
    exact (siN (siN (b8 j hj) (by omega)) (by omega)))
    (fun j hj => by
    have hj : j < S 0 5 := hj
    exact (siN (siN (b9 j hj) (by omega)) (by omega)))
    (fun j hj => by
    have hj : j < S 0 5 := hj
    exact (siN (siN (b10 j hj) (by omega)) (by omega)))
    (fun j hj => by
    have hj : j < S 0 5 := hj
    by_cases e : j = i
    · rw [e]; exact ((siN siS (by omega))).trans (congrArg nI (by simp [comeN]))
    · exact ((siN (siN (b11 j (by omega)) (by omega)) (by omega))).trans (congrArg nI (by simp [comeN, e])))

theorem VMo_addH {o : Nat} {M : Mm} {S : ST} (hM : VM o M S) (hF : WF S) {x y : Nat} (hx : S 0 3 < 10) : VM o (siM (siM (siM M 137 (o + 18 + S 0 3) (nI x)) 137 (o + 28 + S 0 3) (nI y)) 137 (o + 1) (nI (S 0 3 + 1))) (addHN S x y) := by
  obtain ⟨h0, h1, h2, h3, h4, h5, b2, b1, b3, b4, b5, b6, b7, b8, b9, b10, b11⟩ := hM
  have hm := WF_m hF
  have hh := WF_h hF
  have hs := WF_s hF
  have hn := WF_n hF
  exact ⟨(by exact (siN (siN (siN h0 (by omega)) (by omega)) (by omega))),
    (by exact siS),
    (by exact (siN (siN (siN h2 (by omega)) (by omega)) (by omega))),
    (by exact (siN (siN (siN h3 (by omega)) (by omega)) (by omega))),
    (by exact (siN (siN (siN h4 (by omega)) (by omega)) (by omega))),
    (by exact (siN (siN (siN h5 (by omega)) (by omega)) (by omega))),
    (fun j hj => by
    have hj : j < S 0 2 := hj
    exact (siN (siN (siN (b2 j hj) (by omega)) (by omega)) (by omega))),
    (fun j hj => by
    have hj : j < S 0 2 := hj
    exact (siN (siN (siN (b1 j hj) (by omega)) (by omega)) (by omega))),
    (fun j hj => by
    have hj : j < S 0 3 + 1 := hj
    by_cases e : j = S 0 3
    · rw [e]; exact ((siN (siN siS (by omega)) (by omega))).trans (congrArg nI (by simp [addHN]))
    · exact ((siN (siN (siN (b3 j (by omega)) (by omega)) (by omega)) (by omega))).trans (congrArg nI (by simp [addHN, e]))),
    (fun j hj => by
    have hj : j < S 0 3 + 1 := hj
    by_cases e : j = S 0 3
    · rw [e]; exact ((siN siS (by omega))).trans (congrArg nI (by simp [addHN]))
    · exact ((siN (siN (siN (b4 j (by omega)) (by omega)) (by omega)) (by omega))).trans (congrArg nI (by simp [addHN, e]))),
    (fun j hj => by
    have hj : j < S 0 4 := hj
    exact (siN (siN (siN (b5 j hj) (by omega)) (by omega)) (by omega))),
    (fun j hj => by
    have hj : j < S 0 4 := hj
    exact (siN (siN (siN (b6 j hj) (by omega)) (by omega)) (by omega))),
    (fun j hj => by
    have hj : j < S 0 4 := hj
    exact (siN (siN (siN (b7 j hj) (by omega)) (by omega)) (by omega))),
    (fun j hj => by
    have hj : j < S 0 4 := hj
    exact (siN (siN (siN (b8 j hj) (by omega)) (by omega)) (by omega))),
    (fun j hj => by
    have hj : j < S 0 5 := hj
    exact (siN (siN (siN (b9 j hj) (by omega)) (by omega)) (by omega))),
    (fun j hj => by
    have hj : j < S 0 5 := hj
    exact (siN (siN (siN (b10 j hj) (by omega)) (by omega)) (by omega))),
    (fun j hj => by
    have hj : j < S 0 5 := hj
    exact (siN (siN (siN (b11 j hj) (by omega)) (by omega)) (by omega)))⟩

theorem VMo_addN {o : Nat} {M : Mm} {S : ST} (hM : VM o M S) (hF : WF S) {x z : Nat} (hx : S 0 5 < 8) : VM o (siM (siM (siM (siM M 137 (o + 66 + S 0 5) (nI x)) 137 (o + 74 + S 0 5) (nI z)) 137 (o + 82 + S 0 5) (nI 0)) 137 (o + 3) (nI (S 0 5 + 1))) (addNN S x z) := by
  obtain ⟨h0, h1, h2, h3, h4, h5, b2, b1, b3, b4, b5, b6, b7, b8, b9, b10, b11⟩ := hM
  have hm := WF_m hF
  have hh := WF_h hF
  have hs := WF_s hF
  have hn := WF_n hF
  exact ⟨(by exact (siN (siN (siN (siN h0 (by omega)) (by omega)) (by omega)) (by omega))),
    (by exact (siN (siN (siN (siN h1 (by omega)) (by omega)) (by omega)) (by omega))),
    (by exact (siN (siN (siN (siN h2 (by omega)) (by omega)) (by omega)) (by omega))),
    (by exact siS),
    (by exact (siN (siN (siN (siN h4 (by omega)) (by omega)) (by omega)) (by omega))),
    (by exact (siN (siN (siN (siN h5 (by omega)) (by omega)) (by omega)) (by omega))),
    (fun j hj => by
    have hj : j < S 0 2 := hj
    exact (siN (siN (siN (siN (b2 j hj) (by omega)) (by omega)) (by omega)) (by omega))),
    (fun j hj => by
    have hj : j < S 0 2 := hj
    exact (siN (siN (siN (siN (b1 j hj) (by omega)) (by omega)) (by omega)) (by omega))),
    (fun j hj => by
    have hj : j < S 0 3 := hj
    exact (siN (siN (siN (siN (b3 j hj) (by omega)) (by omega)) (by omega)) (by omega))),
    (fun j hj => by
    have hj : j < S 0 3 := hj
    exact (siN (siN (siN (siN (b4 j hj) (by omega)) (by omega)) (by omega)) (by omega))),
    (fun j hj => by
    have hj : j < S 0 4 := hj
    exact (siN (siN (siN (siN (b5 j hj) (by omega)) (by omega)) (by omega)) (by omega))),
    (fun j hj => by
    have hj : j < S 0 4 := hj
    exact (siN (siN (siN (siN (b6 j hj) (by omega)) (by omega)) (by omega)) (by omega))),
    (fun j hj => by
    have hj : j < S 0 4 := hj
    exact (siN (siN (siN (siN (b7 j hj) (by omega)) (by omega)) (by omega)) (by omega))),
    (fun j hj => by
    have hj : j < S 0 4 := hj
    exact (siN (siN (siN (siN (b8 j hj) (by omega)) (by omega)) (by omega)) (by omega))),
    (fun j hj => by
    have hj : j < S 0 5 + 1 := hj
    by_cases e : j = S 0 5
    · rw [e]; exact ((siN (siN (siN siS (by omega)) (by omega)) (by omega))).trans (congrArg nI (by simp [addNN]))
    · exact ((siN (siN (siN (siN (b9 j (by omega)) (by omega)) (by omega)) (by omega)) (by omega))).trans (congrArg nI (by simp [addNN, e]))),
    (fun j hj => by
    have hj : j < S 0 5 + 1 := hj
    by_cases e : j = S 0 5
    · rw [e]; exact ((siN (siN siS (by omega)) (by omega))).trans (congrArg nI (by simp [addNN]))
    · exact ((siN (siN (siN (siN (b10 j (by omega)) (by omega)) (by omega)) (by omega)) (by omega))).trans (congrArg nI (by simp [addNN, e]))),
    (fun j hj => by
    have hj : j < S 0 5 + 1 := hj
    by_cases e : j = S 0 5
    · rw [e]; exact ((siN siS (by omega))).trans (congrArg nI (by simp [addNN]))
    · exact ((siN (siN (siN (siN (b11 j (by omega)) (by omega)) (by omega)) (by omega)) (by omega))).trans (congrArg nI (by simp [addNN, e])))⟩

theorem VMo_addS {o : Nat} {M : Mm} {S : ST} (hM : VM o M S) (hF : WF S) {p q r t : Nat} (hx : S 0 4 < 7) : VM o (siM (siM (siM (siM (siM M 137 (o + 38 + S 0 4) (nI p)) 137 (o + 45 + S 0 4) (nI q)) 137 (o + 52 + S 0 4) (nI r)) 137 (o + 59 + S 0 4) (nI t)) 137 (o + 2) (nI (S 0 4 + 1))) (addSN S p q r t) := by
  obtain ⟨h0, h1, h2, h3, h4, h5, b2, b1, b3, b4, b5, b6, b7, b8, b9, b10, b11⟩ := hM
  have hm := WF_m hF
  have hh := WF_h hF
  have hs := WF_s hF
  have hn := WF_n hF
  exact ⟨(by exact (siN (siN (siN (siN (siN h0 (by omega)) (by omega)) (by omega)) (by omega)) (by omega))),
    (by exact (siN (siN (siN (siN (siN h1 (by omega)) (by omega)) (by omega)) (by omega)) (by omega))),
    (by exact siS),
    (by exact (siN (siN (siN (siN (siN h3 (by omega)) (by omega)) (by omega)) (by omega)) (by omega))),
    (by exact (siN (siN (siN (siN (siN h4 (by omega)) (by omega)) (by omega)) (by omega)) (by omega))),
    (by exact (siN (siN (siN (siN (siN h5 (by omega)) (by omega)) (by omega)) (by omega)) (by omega))),
    (fun j hj => by
    have hj : j < S 0 2 := hj
    exact (siN (siN (siN (siN (siN (b2 j hj) (by omega)) (by omega)) (by omega)) (by omega)) (by omega))),
    (fun j hj => by
    have hj : j < S 0 2 := hj
    exact (siN (siN (siN (siN (siN (b1 j hj) (by omega)) (by omega)) (by omega)) (by omega)) (by omega))),
    (fun j hj => by
    have hj : j < S 0 3 := hj
    exact (siN (siN (siN (siN (siN (b3 j hj) (by omega)) (by omega)) (by omega)) (by omega)) (by omega))),
    (fun j hj => by
    have hj : j < S 0 3 := hj
    exact (siN (siN (siN (siN (siN (b4 j hj) (by omega)) (by omega)) (by omega)) (by omega)) (by omega))),
    (fun j hj => by
    have hj : j < S 0 4 + 1 := hj
    by_cases e : j = S 0 4
    · rw [e]; exact ((siN (siN (siN (siN siS (by omega)) (by omega)) (by omega)) (by omega))).trans (congrArg nI (by simp [addSN]))
    · exact ((siN (siN (siN (siN (siN (b5 j (by omega)) (by omega)) (by omega)) (by omega)) (by omega)) (by omega))).trans (congrArg nI (by simp [addSN, e]))),
    (fun j hj => by
    have hj : j < S 0 4 + 1 := hj
    by_cases e : j = S 0 4
    · rw [e]; exact ((siN (siN (siN siS (by omega)) (by omega)) (by omega))).trans (congrArg nI (by simp [addSN]))
    · exact ((siN (siN (siN (siN (siN (b6 j (by omega)) (by omega)) (by omega)) (by omega)) (by omega)) (by omega))).trans (congrArg nI (by simp [addSN, e]))),
    (fun j hj => by
    have hj : j < S 0 4 + 1 := hj
    by_cases e : j = S 0 4
    · rw [e]; exact ((siN (siN siS (by omega)) (by omega))).trans (congrArg nI (by simp [addSN]))
    · exact ((siN (siN (siN (siN (siN (b7 j (by omega)) (by omega)) (by omega)) (by omega)) (by omega)) (by omega))).trans (congrArg nI (by simp [addSN, e]))),
    (fun j hj => by
    have hj : j < S 0 4 + 1 := hj
    by_cases e : j = S 0 4
    · rw [e]; exact ((siN siS (by omega))).trans (congrArg nI (by simp [addSN]))
    · exact ((siN (siN (siN (siN (siN (b8 j (by omega)) (by omega)) (by omega)) (by omega)) (by omega)) (by omega))).trans (congrArg nI (by simp [addSN, e]))),
    (fun j hj => by
    have hj : j < S 0 5 := hj
    exact (siN (siN (siN (siN (siN (b9 j hj) (by omega)) (by omega)) (by omega)) (by omega)) (by omega))),
    (fun j hj => by
    have hj : j < S 0 5 := hj
    exact (siN (siN (siN (siN (siN (b10 j hj) (by omega)) (by omega)) (by omega)) (by omega)) (by omega))),
    (fun j hj => by
    have hj : j < S 0 5 := hj
    exact (siN (siN (siN (siN (siN (b11 j hj) (by omega)) (by omega)) (by omega)) (by omega)) (by omega)))⟩

theorem VMo_s0 {o : Nat} {M : Mm} {S : ST} (hM : VM o M S) : M.1 137 (o + 0) = nI (S 0 2) := hM.1
theorem VMo_s1 {o : Nat} {M : Mm} {S : ST} (hM : VM o M S) : M.1 137 (o + 1) = nI (S 0 3) := hM.2.1
theorem VMo_s2 {o : Nat} {M : Mm} {S : ST} (hM : VM o M S) : M.1 137 (o + 2) = nI (S 0 4) := hM.2.2.1
theorem VMo_s3 {o : Nat} {M : Mm} {S : ST} (hM : VM o M S) : M.1 137 (o + 3) = nI (S 0 5) := hM.2.2.2.1
theorem VMo_s4 {o : Nat} {M : Mm} {S : ST} (hM : VM o M S) : M.1 137 (o + 4) = nI (S 0 0) := hM.2.2.2.2.1
theorem VMo_s5 {o : Nat} {M : Mm} {S : ST} (hM : VM o M S) : M.1 137 (o + 5) = nI (S 0 1) := hM.2.2.2.2.2.1
theorem VMo_a6 {o : Nat} {M : Mm} {S : ST} (hM : VM o M S) {j : Nat} (hj : j < S 0 2) : M.1 137 (o + 6 + j) = nI (S 2 j) := (hM.2.2.2.2.2.2.1) j hj
theorem VMo_a12 {o : Nat} {M : Mm} {S : ST} (hM : VM o M S) {j : Nat} (hj : j < S 0 2) : M.1 137 (o + 12 + j) = nI (S 1 j) := (hM.2.2.2.2.2.2.2.1) j hj
theorem VMo_a18 {o : Nat} {M : Mm} {S : ST} (hM : VM o M S) {j : Nat} (hj : j < S 0 3) : M.1 137 (o + 18 + j) = nI (S 3 j) := (hM.2.2.2.2.2.2.2.2.1) j hj
theorem VMo_a28 {o : Nat} {M : Mm} {S : ST} (hM : VM o M S) {j : Nat} (hj : j < S 0 3) : M.1 137 (o + 28 + j) = nI (S 4 j) := (hM.2.2.2.2.2.2.2.2.2.1) j hj
theorem VMo_a38 {o : Nat} {M : Mm} {S : ST} (hM : VM o M S) {j : Nat} (hj : j < S 0 4) : M.1 137 (o + 38 + j) = nI (S 5 j) := (hM.2.2.2.2.2.2.2.2.2.2.1) j hj
theorem VMo_a45 {o : Nat} {M : Mm} {S : ST} (hM : VM o M S) {j : Nat} (hj : j < S 0 4) : M.1 137 (o + 45 + j) = nI (S 6 j) := (hM.2.2.2.2.2.2.2.2.2.2.2.1) j hj
theorem VMo_a52 {o : Nat} {M : Mm} {S : ST} (hM : VM o M S) {j : Nat} (hj : j < S 0 4) : M.1 137 (o + 52 + j) = nI (S 7 j) := (hM.2.2.2.2.2.2.2.2.2.2.2.2.1) j hj
theorem VMo_a59 {o : Nat} {M : Mm} {S : ST} (hM : VM o M S) {j : Nat} (hj : j < S 0 4) : M.1 137 (o + 59 + j) = nI (S 8 j) := (hM.2.2.2.2.2.2.2.2.2.2.2.2.2.1) j hj
theorem VMo_a66 {o : Nat} {M : Mm} {S : ST} (hM : VM o M S) {j : Nat} (hj : j < S 0 5) : M.1 137 (o + 66 + j) = nI (S 9 j) := (hM.2.2.2.2.2.2.2.2.2.2.2.2.2.2.1) j hj
theorem VMo_a74 {o : Nat} {M : Mm} {S : ST} (hM : VM o M S) {j : Nat} (hj : j < S 0 5) : M.1 137 (o + 74 + j) = nI (S 10 j) := (hM.2.2.2.2.2.2.2.2.2.2.2.2.2.2.2.1) j hj
theorem VMo_a82 {o : Nat} {M : Mm} {S : ST} (hM : VM o M S) {j : Nat} (hj : j < S 0 5) : M.1 137 (o + 82 + j) = nI (S 11 j) := (hM.2.2.2.2.2.2.2.2.2.2.2.2.2.2.2.2) j hj
set_option maxRecDepth 100000 in
set_option maxHeartbeats 800000 in
theorem c_X12_binds {b : Nat} (hb : b ≤ 4) {M : Mm} {S : ST} (hM : VM (362 * b) M S) (hF : WF S) {x y : Nat} (hx : S 0 3 < 10) {Q : Option Value → Mm → Prop} (hQ : VM (362 * b) (siM (siM (siM M 137 (362 * b + 18 + S 0 3) (nI x)) 137 (362 * b + 28 + S 0 3) (nI y)) 137 (362 * b + 1) (nI (S 0 3 + 1))) (addHN S x y) → Q none (siM (siM (siM M 137 (362 * b + 18 + S 0 3) (nI x)) 137 (362 * b + 28 + S 0 3) (nI y)) 137 (362 * b + 1) (nI (S 0 3 + 1)))) (d : Nat) : AMt miX12_binds (d) [.ref 132, .int (nI b), .int (nI x), .int (nI y)] M Q := by
  refine AMt.of (by decide) (Nat.le_of_ble_eq_true rfl) ?_
  show AW miX12_binds (d) (mxA Q) 0 [(0, some (.ref 132)), (1, some (.int (nI b))), (2, some (.int (nI x))), (3, some (.int (nI y)))] [] M
  have hm := WF_m hF
  have hh := WF_h hF
  have hs := WF_s hF
  have hn := WF_n hF
  refine n_sipush 362 rfl dX12_binds_0 ?_
  refine a_iload_n rfl dX12_binds_3 ?_
  refine n_imul dX12_binds_4 ?_
  refine a_istore (by decide) rfl dX12_binds_5 ?_
  refine a_aload_n rfl dX12_binds_7 ?_
  refine a_geta dX12_binds_8 fX12_35 (by decide) rfl rfl ?_
  refine a_iload rfl dX12_binds_11 ?_
  refine n_iconst 1 rfl dX12_binds_13 ?_
  refine n_iadd dX12_binds_14 ?_
  refine v_iald (by omega) (VMo_s1 hM) (by decide) rfl (by decide) dX12_binds_15 ?_
  refine a_istore (by decide) rfl dX12_binds_16 ?_
  refine a_aload_n rfl dX12_binds_18 ?_
  refine a_geta dX12_binds_19 fX12_35 (by decide) rfl rfl ?_
  refine a_iload rfl dX12_binds_22 ?_
  refine n_bipush 18 rfl dX12_binds_24 ?_
  refine n_iadd dX12_binds_26 ?_
  refine a_iload rfl dX12_binds_27 ?_
  refine n_iadd dX12_binds_29 ?_
  refine a_iload_n rfl dX12_binds_30 ?_
  refine n_iast (by omega) (by decide) rfl (by decide) dX12_binds_31 ?_
  refine a_aload_n rfl dX12_binds_32 ?_
  refine a_geta dX12_binds_33 fX12_35 (by decide) rfl rfl ?_
  refine a_iload rfl dX12_binds_36 ?_
  refine n_bipush 28 rfl dX12_binds_38 ?_
  refine n_iadd dX12_binds_40 ?_
  refine a_iload rfl dX12_binds_41 ?_
  refine n_iadd dX12_binds_43 ?_
  refine a_iload_n rfl dX12_binds_44 ?_
  refine n_iast (by omega) (by decide) rfl (by decide) dX12_binds_45 ?_
  refine a_aload_n rfl dX12_binds_46 ?_
  refine a_geta dX12_binds_47 fX12_35 (by decide) rfl rfl ?_
  refine a_iload rfl dX12_binds_50 ?_
  refine n_iconst 1 rfl dX12_binds_52 ?_
  refine n_iadd dX12_binds_53 ?_
  refine a_dup2i rfl rfl dX12_binds_54 ?_
  refine v_iald (by omega) (siN (siN (VMo_s1 hM) (by omega)) (by omega)) (by decide) rfl (by decide) dX12_binds_55 ?_
  refine n_iconst 1 rfl dX12_binds_56 ?_
  refine n_iadd dX12_binds_57 ?_
  refine n_iast (by omega) (by decide) rfl (by decide) dX12_binds_58 ?_
  refine a_vret dX12_binds_59 rfl ?_
  exact hQ (VMo_addH hM hF hx)

set_option maxRecDepth 100000 in
set_option maxHeartbeats 800000 in
theorem c_X12_hears {b : Nat} (hb : b ≤ 4) {M : Mm} {S : ST} (hM : VM (362 * b) M S) (hF : WF S) {x z : Nat} (hx : S 0 5 < 8) {Q : Option Value → Mm → Prop} (hQ : VM (362 * b) (siM (siM (siM (siM M 137 (362 * b + 66 + S 0 5) (nI x)) 137 (362 * b + 74 + S 0 5) (nI z)) 137 (362 * b + 82 + S 0 5) (nI 0)) 137 (362 * b + 3) (nI (S 0 5 + 1))) (addNN S x z) → Q none (siM (siM (siM (siM M 137 (362 * b + 66 + S 0 5) (nI x)) 137 (362 * b + 74 + S 0 5) (nI z)) 137 (362 * b + 82 + S 0 5) (nI 0)) 137 (362 * b + 3) (nI (S 0 5 + 1)))) (d : Nat) : AMt miX12_hears (d) [.ref 132, .int (nI b), .int (nI x), .int (nI z)] M Q := by
  refine AMt.of (by decide) (Nat.le_of_ble_eq_true rfl) ?_
  show AW miX12_hears (d) (mxA Q) 0 [(0, some (.ref 132)), (1, some (.int (nI b))), (2, some (.int (nI x))), (3, some (.int (nI z)))] [] M
  have hm := WF_m hF
  have hh := WF_h hF
  have hs := WF_s hF
  have hn := WF_n hF
  refine n_sipush 362 rfl dX12_hears_0 ?_
  refine a_iload_n rfl dX12_hears_3 ?_
  refine n_imul dX12_hears_4 ?_
  refine a_istore (by decide) rfl dX12_hears_5 ?_
  refine a_aload_n rfl dX12_hears_7 ?_
  refine a_geta dX12_hears_8 fX12_35 (by decide) rfl rfl ?_
  refine a_iload rfl dX12_hears_11 ?_
  refine n_iconst 3 rfl dX12_hears_13 ?_
  refine n_iadd dX12_hears_14 ?_
  refine v_iald (by omega) (VMo_s3 hM) (by decide) rfl (by decide) dX12_hears_15 ?_
  refine a_istore (by decide) rfl dX12_hears_16 ?_
  refine a_aload_n rfl dX12_hears_18 ?_
  refine a_geta dX12_hears_19 fX12_35 (by decide) rfl rfl ?_
  refine a_iload rfl dX12_hears_22 ?_
  refine n_bipush 66 rfl dX12_hears_24 ?_
  refine n_iadd dX12_hears_26 ?_
  refine a_iload rfl dX12_hears_27 ?_
  refine n_iadd dX12_hears_29 ?_
  refine a_iload_n rfl dX12_hears_30 ?_
  refine n_iast (by omega) (by decide) rfl (by decide) dX12_hears_31 ?_
  refine a_aload_n rfl dX12_hears_32 ?_
  refine a_geta dX12_hears_33 fX12_35 (by decide) rfl rfl ?_
  refine a_iload rfl dX12_hears_36 ?_
  refine n_bipush 74 rfl dX12_hears_38 ?_
  refine n_iadd dX12_hears_40 ?_
  refine a_iload rfl dX12_hears_41 ?_
  refine n_iadd dX12_hears_43 ?_
  refine a_iload_n rfl dX12_hears_44 ?_
  refine n_iast (by omega) (by decide) rfl (by decide) dX12_hears_45 ?_
  refine a_aload_n rfl dX12_hears_46 ?_
  refine a_geta dX12_hears_47 fX12_35 (by decide) rfl rfl ?_
  refine a_iload rfl dX12_hears_50 ?_
  refine n_bipush 82 rfl dX12_hears_52 ?_
  refine n_iadd dX12_hears_54 ?_
  refine a_iload rfl dX12_hears_55 ?_
  refine n_iadd dX12_hears_57 ?_
  refine n_iconst 0 rfl dX12_hears_58 ?_
  refine n_iast (by omega) (by decide) rfl (by decide) dX12_hears_59 ?_
  refine a_aload_n rfl dX12_hears_60 ?_
  refine a_geta dX12_hears_61 fX12_35 (by decide) rfl rfl ?_
  refine a_iload rfl dX12_hears_64 ?_
  refine n_iconst 3 rfl dX12_hears_66 ?_
  refine n_iadd dX12_hears_67 ?_
  refine a_dup2i rfl rfl dX12_hears_68 ?_
  refine v_iald (by omega) (siN (siN (siN (VMo_s3 hM) (by omega)) (by omega)) (by omega)) (by decide) rfl (by decide) dX12_hears_69 ?_
  refine n_iconst 1 rfl dX12_hears_70 ?_
  refine n_iadd dX12_hears_71 ?_
  refine n_iast (by omega) (by decide) rfl (by decide) dX12_hears_72 ?_
  refine a_vret dX12_hears_73 rfl ?_
  exact hQ (VMo_addN hM hF hx)

set_option maxRecDepth 100000 in
set_option maxHeartbeats 800000 in
theorem c_X12_sits {b : Nat} (hb : b ≤ 4) {M : Mm} {S : ST} (hM : VM (362 * b) M S) (hF : WF S) {p q r t : Nat} (hx : S 0 4 < 7) {Q : Option Value → Mm → Prop} (hQ : VM (362 * b) (siM (siM (siM (siM (siM M 137 (362 * b + 38 + S 0 4) (nI p)) 137 (362 * b + 45 + S 0 4) (nI q)) 137 (362 * b + 52 + S 0 4) (nI r)) 137 (362 * b + 59 + S 0 4) (nI t)) 137 (362 * b + 2) (nI (S 0 4 + 1))) (addSN S p q r t) → Q none (siM (siM (siM (siM (siM M 137 (362 * b + 38 + S 0 4) (nI p)) 137 (362 * b + 45 + S 0 4) (nI q)) 137 (362 * b + 52 + S 0 4) (nI r)) 137 (362 * b + 59 + S 0 4) (nI t)) 137 (362 * b + 2) (nI (S 0 4 + 1)))) (d : Nat) : AMt miX12_sits (d) [.ref 132, .int (nI b), .int (nI p), .int (nI q), .int (nI r), .int (nI t)] M Q := by
  refine AMt.of (by decide) (Nat.le_of_ble_eq_true rfl) ?_
  show AW miX12_sits (d) (mxA Q) 0 [(0, some (.ref 132)), (1, some (.int (nI b))), (2, some (.int (nI p))), (3, some (.int (nI q))), (4, some (.int (nI r))), (5, some (.int (nI t)))] [] M
  have hm := WF_m hF
  have hh := WF_h hF
  have hs := WF_s hF
  have hn := WF_n hF
  refine n_sipush 362 rfl dX12_sits_0 ?_
  refine a_iload_n rfl dX12_sits_3 ?_
  refine n_imul dX12_sits_4 ?_
  refine a_istore (by decide) rfl dX12_sits_5 ?_
  refine a_aload_n rfl dX12_sits_7 ?_
  refine a_geta dX12_sits_8 fX12_35 (by decide) rfl rfl ?_
  refine a_iload rfl dX12_sits_11 ?_
  refine n_iconst 2 rfl dX12_sits_13 ?_
  refine n_iadd dX12_sits_14 ?_
  refine v_iald (by omega) (VMo_s2 hM) (by decide) rfl (by decide) dX12_sits_15 ?_
  refine a_istore (by decide) rfl dX12_sits_16 ?_
  refine a_aload_n rfl dX12_sits_18 ?_
  refine a_geta dX12_sits_19 fX12_35 (by decide) rfl rfl ?_
  refine a_iload rfl dX12_sits_22 ?_
  refine n_bipush 38 rfl dX12_sits_24 ?_
  refine n_iadd dX12_sits_26 ?_
  refine a_iload rfl dX12_sits_27 ?_
  refine n_iadd dX12_sits_29 ?_
  refine a_iload_n rfl dX12_sits_30 ?_
  refine n_iast (by omega) (by decide) rfl (by decide) dX12_sits_31 ?_
  refine a_aload_n rfl dX12_sits_32 ?_
  refine a_geta dX12_sits_33 fX12_35 (by decide) rfl rfl ?_
  refine a_iload rfl dX12_sits_36 ?_
  refine n_bipush 45 rfl dX12_sits_38 ?_
  refine n_iadd dX12_sits_40 ?_
  refine a_iload rfl dX12_sits_41 ?_
  refine n_iadd dX12_sits_43 ?_
  refine a_iload_n rfl dX12_sits_44 ?_
  refine n_iast (by omega) (by decide) rfl (by decide) dX12_sits_45 ?_
  refine a_aload_n rfl dX12_sits_46 ?_
  refine a_geta dX12_sits_47 fX12_35 (by decide) rfl rfl ?_
  refine a_iload rfl dX12_sits_50 ?_
  refine n_bipush 52 rfl dX12_sits_52 ?_
  refine n_iadd dX12_sits_54 ?_
  refine a_iload rfl dX12_sits_55 ?_
  refine n_iadd dX12_sits_57 ?_
  refine a_iload rfl dX12_sits_58 ?_
  refine n_iast (by omega) (by decide) rfl (by decide) dX12_sits_60 ?_
  refine a_aload_n rfl dX12_sits_61 ?_
  refine a_geta dX12_sits_62 fX12_35 (by decide) rfl rfl ?_
  refine a_iload rfl dX12_sits_65 ?_
  refine n_bipush 59 rfl dX12_sits_67 ?_
  refine n_iadd dX12_sits_69 ?_
  refine a_iload rfl dX12_sits_70 ?_
  refine n_iadd dX12_sits_72 ?_
  refine a_iload rfl dX12_sits_73 ?_
  refine n_iast (by omega) (by decide) rfl (by decide) dX12_sits_75 ?_
  refine a_aload_n rfl dX12_sits_76 ?_
  refine a_geta dX12_sits_77 fX12_35 (by decide) rfl rfl ?_
  refine a_iload rfl dX12_sits_80 ?_
  refine n_iconst 2 rfl dX12_sits_82 ?_
  refine n_iadd dX12_sits_83 ?_
  refine a_dup2i rfl rfl dX12_sits_84 ?_
  refine v_iald (by omega) (siN (siN (siN (siN (VMo_s2 hM) (by omega)) (by omega)) (by omega)) (by omega)) (by decide) rfl (by decide) dX12_sits_85 ?_
  refine n_iconst 1 rfl dX12_sits_86 ?_
  refine n_iadd dX12_sits_87 ?_
  refine n_iast (by omega) (by decide) rfl (by decide) dX12_sits_88 ?_
  refine a_vret dX12_sits_89 rfl ?_
  exact hQ (VMo_addS hM hF hx)

set_option maxRecDepth 100000 in
set_option maxHeartbeats 800000 in
theorem c_X12_isBound {b : Nat} (hb : b ≤ 4) {M : Mm} {S : ST} (hM : VM (362 * b) M S) (hF : WF S) {x y : Nat} (hx : x < 6) (hy : y < 6) {Q : Option Value → Mm → Prop} (h1 : (∃ i, i < S 0 3 ∧ S 3 i = x ∧ S 4 i = y) → Q (some (.int (nI 1))) M) (h0 : (∀ i, i < S 0 3 → ¬ (S 3 i = x ∧ S 4 i = y)) → Q (some (.int (nI 0))) M) (d : Nat) : AMt miX12_isBound (d) [.ref 132, .int (nI b), .int (nI x), .int (nI y)] M Q := by
  refine AMt.of (by decide) (Nat.le_of_ble_eq_true rfl) ?_
  show AW miX12_isBound (d) (mxA Q) 0 [(0, some (.ref 132)), (1, some (.int (nI b))), (2, some (.int (nI x))), (3, some (.int (nI y)))] [] M
  have hm := WF_m hF
  have hh := WF_h hF
  have hs := WF_s hF
  have hn := WF_n hF
  refine n_sipush 362 rfl dX12_isBound_0 ?_
  refine a_iload_n rfl dX12_isBound_3 ?_
  refine n_imul dX12_isBound_4 ?_
  refine a_istore (by decide) rfl dX12_isBound_5 ?_
  refine n_iconst 0 rfl dX12_isBound_7 ?_
  refine a_istore (by decide) rfl dX12_isBound_8 ?_
  have loop_10 : ∀ i, i ≤ S 0 3 → (∀ j, j < i → ¬ (S 3 j = x ∧ S 4 j = y)) → AW miX12_isBound (d) (mxA Q) 10 [(0, some (.ref 132)), (1, some (.int (nI b))), (2, some (.int (nI x))), (3, some (.int (nI y))), (4, some (.int (nI (362 * b)))), (5, some (.int (nI i)))] [] M := by
    refine up (W := fun i => (∀ j, j < i → ¬ (S 3 j = x ∧ S 4 j = y)) → AW miX12_isBound (d) (mxA Q) 10 [(0, some (.ref 132)), (1, some (.int (nI b))), (2, some (.int (nI x))), (3, some (.int (nI y))), (4, some (.int (nI (362 * b)))), (5, some (.int (nI i)))] [] M) (S 0 3) (fun hI_10 => ?_) (fun i hi_10 ih_10 hI_10 => ?_)
    · refine a_iload rfl dX12_isBound_10 ?_
      refine a_aload_n rfl dX12_isBound_12 ?_
      refine a_geta dX12_isBound_13 fX12_35 (by decide) rfl rfl ?_
      refine a_iload rfl dX12_isBound_16 ?_
      refine n_iconst 1 rfl dX12_isBound_18 ?_
      refine n_iadd dX12_isBound_19 ?_
      refine v_iald (by omega) (VMo_s1 hM) (by decide) rfl (by decide) dX12_isBound_20 ?_
      refine n_icmp_ge 66 (by omega) (by omega) dX12_isBound_21 (by decide) (fun h_21 => ?_) (fun h_21 => absurd h_21 (by omega))
      refine n_iconst 0 rfl dX12_isBound_66 ?_
      refine a_zret dX12_isBound_67 rfl (Or.inl rfl) ?_
      exact h0 hI_10
    · have hq1 := WF_held hF i hi_10
      have hq2 := WF_by hF i hi_10
      refine a_iload rfl dX12_isBound_10 ?_
      refine a_aload_n rfl dX12_isBound_12 ?_
      refine a_geta dX12_isBound_13 fX12_35 (by decide) rfl rfl ?_
      refine a_iload rfl dX12_isBound_16 ?_
      refine n_iconst 1 rfl dX12_isBound_18 ?_
      refine n_iadd dX12_isBound_19 ?_
      refine v_iald (by omega) (VMo_s1 hM) (by decide) rfl (by decide) dX12_isBound_20 ?_
      refine n_icmp_ge 66 (by omega) (by omega) dX12_isBound_21 (by decide) (fun h_21 => absurd h_21 (by omega)) (fun h_21 => ?_)
      refine a_aload_n rfl dX12_isBound_24 ?_
      refine a_geta dX12_isBound_25 fX12_35 (by decide) rfl rfl ?_
      refine a_iload rfl dX12_isBound_28 ?_
      refine n_bipush 18 rfl dX12_isBound_30 ?_
      refine n_iadd dX12_isBound_32 ?_
      refine a_iload rfl dX12_isBound_33 ?_
      refine n_iadd dX12_isBound_35 ?_
      refine v_iald (by omega) (VMo_a18 hM (j := i) (by omega)) (by decide) rfl (by decide) dX12_isBound_36 ?_
      refine a_iload_n rfl dX12_isBound_37 ?_
      refine n_icmp_ne 60 (by omega) (by omega) dX12_isBound_38 (by decide) (fun h_38 => ?_) (fun h_38 => ?_)
      · refine n_iinc (c := 1) rfl rfl (by decide) rfl dX12_isBound_60 ?_
        refine a_goto 10 dX12_isBound_63 (by decide) ?_
        exact a_bk (ih_10 (fun j hj => by rcases (show j < i ∨ j = i by omega) with h | h; exact hI_10 j h; subst h; omega)) ⟨rfl, rfl, rfl, rfl, rfl, rfl, trivial⟩
      · refine a_aload_n rfl dX12_isBound_41 ?_
        refine a_geta dX12_isBound_42 fX12_35 (by decide) rfl rfl ?_
        refine a_iload rfl dX12_isBound_45 ?_
        refine n_bipush 28 rfl dX12_isBound_47 ?_
        refine n_iadd dX12_isBound_49 ?_
        refine a_iload rfl dX12_isBound_50 ?_
        refine n_iadd dX12_isBound_52 ?_
        refine v_iald (by omega) (VMo_a28 hM (j := i) (by omega)) (by decide) rfl (by decide) dX12_isBound_53 ?_
        refine a_iload_n rfl dX12_isBound_54 ?_
        refine n_icmp_ne 60 (by omega) (by omega) dX12_isBound_55 (by decide) (fun h_55 => ?_) (fun h_55 => ?_)
        · refine n_iinc (c := 1) rfl rfl (by decide) rfl dX12_isBound_60 ?_
          refine a_goto 10 dX12_isBound_63 (by decide) ?_
          exact a_bk (ih_10 (fun j hj => by rcases (show j < i ∨ j = i by omega) with h | h; exact hI_10 j h; subst h; omega)) ⟨rfl, rfl, rfl, rfl, rfl, rfl, trivial⟩
        · refine n_iconst 1 rfl dX12_isBound_58 ?_
          refine a_zret dX12_isBound_59 rfl (Or.inr rfl) ?_
          exact h1 ⟨i, hi_10, by omega, by omega⟩
  exact a_bk (loop_10 0 (by omega) (fun j hj => absurd hj (by omega))) ⟨rfl, rfl, rfl, rfl, rfl, rfl, trivial⟩

set_option maxRecDepth 100000 in
set_option maxHeartbeats 800000 in
theorem c_X12_clears {M : Mm} {k n c : Nat} (hk : k < 6) (hc : M.1 137 (6 + k) = nI c) (hc1 : c ≤ 100) (hn1 : n ≤ 100) {Q : Option Value → Mm → Prop} (hQ : Q none (siM M 137 (6 + k) (nI (min 100 (c + n))))) (d : Nat) : AMt miX12_clears (d) [.ref 132, .int (nI k), .int (nI n)] M Q := by
  refine AMt.of (by decide) (Nat.le_of_ble_eq_true rfl) ?_
  show AW miX12_clears (d) (mxA Q) 0 [(0, some (.ref 132)), (1, some (.int (nI k))), (2, some (.int (nI n)))] [] M
  refine a_aload_n rfl dX12_clears_0 ?_
  refine a_geta dX12_clears_1 fX12_35 (by decide) rfl rfl ?_
  refine n_bipush 6 rfl dX12_clears_4 ?_
  refine a_iload_n rfl dX12_clears_6 ?_
  refine n_iadd dX12_clears_7 ?_
  refine n_bipush 100 rfl dX12_clears_8 ?_
  refine a_aload_n rfl dX12_clears_10 ?_
  refine a_geta dX12_clears_11 fX12_35 (by decide) rfl rfl ?_
  refine n_bipush 6 rfl dX12_clears_14 ?_
  refine a_iload_n rfl dX12_clears_16 ?_
  refine n_iadd dX12_clears_17 ?_
  refine v_iald (by omega) hc (by decide) rfl (by decide) dX12_clears_18 ?_
  refine a_iload_n rfl dX12_clears_19 ?_
  refine n_iadd dX12_clears_20 ?_
  refine n_min (by omega) (by omega) dX12_clears_21 lX12_386 (Nat.le_of_ble_eq_true rfl) ?_
  refine n_iast (by omega) (by decide) rfl (by decide) dX12_clears_24 ?_
  refine a_vret dX12_clears_25 rfl ?_
  exact hQ

set_option maxRecDepth 100000 in
set_option maxHeartbeats 800000 in
theorem c_X12_clouds {M : Mm} {S : ST} (hM : VM 0 M S) (hF : WF S) {k n : Nat} (hk : k < S 0 2) (hn1 : n ≤ 100) {Q : Option Value → Mm → Prop} (h1 : S 2 k ≠ 0 → VM 0 (siM M 137 (6 + k) (nI (S 2 k - n))) (hupd S k (S 2 k - n)) → Q (some (.int (nI 1))) (siM M 137 (6 + k) (nI (S 2 k - n)))) (h0 : S 2 k = 0 → Q (some (.int (nI 0))) M) (d : Nat) : AMt miX12_clouds (d) [.ref 132, .int (nI k), .int (nI n)] M Q := by
  refine AMt.of (by decide) (Nat.le_of_ble_eq_true rfl) ?_
  show AW miX12_clouds (d) (mxA Q) 0 [(0, some (.ref 132)), (1, some (.int (nI k))), (2, some (.int (nI n)))] [] M
  have hm := WF_m hF
  have hh := WF_h hF
  have hs := WF_s hF
  have hn := WF_n hF
  have hc := WF_clear hF k hk
  refine a_aload_n rfl dX12_clouds_0 ?_
  refine a_geta dX12_clouds_1 fX12_35 (by decide) rfl rfl ?_
  refine n_bipush 6 rfl dX12_clouds_4 ?_
  refine a_iload_n rfl dX12_clouds_6 ?_
  refine n_iadd dX12_clouds_7 ?_
  refine v_iald (by omega) (VM_a6 hM (j := k) (by omega)) (by decide) rfl (by decide) dX12_clouds_8 ?_
  refine n_if_ne 14 (by omega) dX12_clouds_9 (by decide) (fun h_9 => ?_) (fun h_9 => ?_)
  · refine a_aload_n rfl dX12_clouds_14 ?_
    refine a_geta dX12_clouds_15 fX12_35 (by decide) rfl rfl ?_
    refine n_bipush 6 rfl dX12_clouds_18 ?_
    refine a_iload_n rfl dX12_clouds_20 ?_
    refine n_iadd dX12_clouds_21 ?_
    refine n_iconst 0 rfl dX12_clouds_22 ?_
    refine a_aload_n rfl dX12_clouds_23 ?_
    refine a_geta dX12_clouds_24 fX12_35 (by decide) rfl rfl ?_
    refine n_bipush 6 rfl dX12_clouds_27 ?_
    refine a_iload_n rfl dX12_clouds_29 ?_
    refine n_iadd dX12_clouds_30 ?_
    refine v_iald (by omega) (VM_a6 hM (j := k) (by omega)) (by decide) rfl (by decide) dX12_clouds_31 ?_
    refine a_iload_n rfl dX12_clouds_32 ?_
    refine a_isub dX12_clouds_33 ?_
    refine n_max0 (by omega) (by omega) dX12_clouds_34 lX12_247 (Nat.le_of_ble_eq_true rfl) ?_
    refine n_iast (by omega) (by decide) rfl (by decide) dX12_clouds_37 ?_
    refine n_iconst 1 rfl dX12_clouds_38 ?_
    refine a_zret dX12_clouds_39 rfl (Or.inr rfl) ?_
    exact h1 h_9 (VM_set2 hM hF hk)
  · refine n_iconst 0 rfl dX12_clouds_12 ?_
    refine a_zret dX12_clouds_13 rfl (Or.inl rfl) ?_
    exact h0 h_9

set_option maxRecDepth 100000 in
set_option maxHeartbeats 800000 in
theorem c_X12_becomes {M : Mm} {S : ST} (hM : VM 0 M S) (hF : WF S) {p k : Nat} (hp : p < S 0 4) (hk : k < S 0 2) {Q : Option Value → Mm → Prop} (h1 : S 7 p ≠ k → VM 0 (siM M 137 (52 + p) (nI k)) (upS2 S 7 p k) → Q (some (.int (nI 1))) (siM M 137 (52 + p) (nI k))) (h0 : S 7 p = k → Q (some (.int (nI 0))) M) (d : Nat) : AMt miX12_becomes (d) [.ref 132, .int (nI (52 + p)), .int (nI k)] M Q := by
  refine AMt.of (by decide) (Nat.le_of_ble_eq_true rfl) ?_
  show AW miX12_becomes (d) (mxA Q) 0 [(0, some (.ref 132)), (1, some (.int (nI (52 + p)))), (2, some (.int (nI k)))] [] M
  have hm := WF_m hF
  have hh := WF_h hF
  have hs := WF_s hF
  have hn := WF_n hF
  have hsf := WF_for hF p hp
  refine a_aload_n rfl dX12_becomes_0 ?_
  refine a_geta dX12_becomes_1 fX12_35 (by decide) rfl rfl ?_
  refine a_iload_n rfl dX12_becomes_4 ?_
  refine v_iald (by omega) (VM_a52 hM (j := p) (by omega)) (by decide) rfl (by decide) dX12_becomes_5 ?_
  refine a_iload_n rfl dX12_becomes_6 ?_
  refine n_icmp_ne 12 (by omega) (by omega) dX12_becomes_7 (by decide) (fun h_7 => ?_) (fun h_7 => ?_)
  · refine a_aload_n rfl dX12_becomes_12 ?_
    refine a_geta dX12_becomes_13 fX12_35 (by decide) rfl rfl ?_
    refine a_iload_n rfl dX12_becomes_16 ?_
    refine a_iload_n rfl dX12_becomes_17 ?_
    refine n_iast (by omega) (by decide) rfl (by decide) dX12_becomes_18 ?_
    refine n_iconst 1 rfl dX12_becomes_19 ?_
    refine a_zret dX12_becomes_20 rfl (Or.inr rfl) ?_
    exact h1 h_7 (VM_set7 hM hF hp)
  · refine n_iconst 0 rfl dX12_becomes_10 ?_
    refine a_zret dX12_becomes_11 rfl (Or.inl rfl) ?_
    exact h0 h_7

set_option maxRecDepth 100000 in
set_option maxHeartbeats 800000 in
theorem c_X12_canBring {M : Mm} {S : ST} (hM : VM 0 M S) (hF : WF S) {i : Nat} (hi31 : i < 2 ^ 20) {Q : Option Value → Mm → Prop} (h1 : i < S 0 5 → S 11 i = 0 → ¬ S 2 (S 9 i) = 100 → Q (some (.int (nI 1))) M) (h0 : ¬ (i < S 0 5 ∧ S 11 i = 0 ∧ ¬ S 2 (S 9 i) = 100) → Q (some (.int (nI 0))) M) (d : Nat) : AMt miX12_canBring (d + 2) [.ref 132, .int (nI i)] M Q := by
  refine AMt.of (by decide) (Nat.le_of_ble_eq_true rfl) ?_
  show AW miX12_canBring (d + 2) (mxA Q) 0 [(0, some (.ref 132)), (1, some (.int (nI i)))] [] M
  have hm := WF_m hF
  have hh := WF_h hF
  have hs := WF_s hF
  have hn := WF_n hF
  refine a_aload_n rfl dX12_canBring_0 ?_
  refine a_iload_n rfl dX12_canBring_1 ?_
  refine n_callV (mi' := miX12_isNewsAt) dX12_canBring_2 lX12_374 mX12_isNewsAt (by decide) rfl rfl rfl (c_X12_isNewsAtN hM hF (by omega) (fun h_2 => ?_) (fun h_2 => ?_) d) rfl rfl (by omega) (by decide) (Nat.le_of_ble_eq_true rfl)
  · show AW _ _ _ _ _ _ _
    refine n_if_eq 40 (by decide) dX12_canBring_5 (by decide) (fun h => absurd h (by decide)) (fun _ => ?_)
    have hc := WF_came hF i h_2
    have ha := WF_about hF i h_2
    refine a_aload_n rfl dX12_canBring_8 ?_
    refine a_geta dX12_canBring_9 fX12_35 (by decide) rfl rfl ?_
    refine n_bipush 82 rfl dX12_canBring_12 ?_
    refine a_iload_n rfl dX12_canBring_14 ?_
    refine n_iadd dX12_canBring_15 ?_
    refine v_iald (by omega) (VM_a82 hM (j := i) (by omega)) (by decide) rfl (by decide) dX12_canBring_16 ?_
    refine n_if_ne 40 (by omega) dX12_canBring_17 (by decide) (fun h_17 => ?_) (fun h_17 => ?_)
    · refine n_iconst 0 rfl dX12_canBring_40 ?_
      refine a_zret dX12_canBring_41 rfl (Or.inl rfl) ?_
      exact h0 (fun ⟨a1, a2, a3⟩ => by omega)
    · refine a_aload_n rfl dX12_canBring_20 ?_
      refine a_aload_n rfl dX12_canBring_21 ?_
      refine a_geta dX12_canBring_22 fX12_35 (by decide) rfl rfl ?_
      refine n_bipush 66 rfl dX12_canBring_25 ?_
      refine a_iload_n rfl dX12_canBring_27 ?_
      refine n_iadd dX12_canBring_28 ?_
      refine v_iald (by omega) (VM_a66 hM (j := i) (by omega)) (by decide) rfl (by decide) dX12_canBring_29 ?_
      refine n_callV (mi' := miX12_isSettled) dX12_canBring_30 lX12_328 mX12_isSettled (by decide) rfl rfl rfl (c_X12_isSettled hM hF (by omega) (fun h_30 => ?_) (fun h_30 => ?_) d) rfl rfl (by omega) (by decide) (Nat.le_of_ble_eq_true rfl)
      · show AW _ _ _ _ _ _ _
        refine n_if_ne 40 (by decide) dX12_canBring_33 (by decide) (fun _ => ?_) (fun h => absurd h (by decide))
        refine n_iconst 0 rfl dX12_canBring_40 ?_
        refine a_zret dX12_canBring_41 rfl (Or.inl rfl) ?_
        exact h0 (fun ⟨a1, a2, a3⟩ => by omega)
      · show AW _ _ _ _ _ _ _
        refine n_if_ne 40 (by decide) dX12_canBring_33 (by decide) (fun h => absurd h (by decide)) (fun _ => ?_)
        refine n_iconst 1 rfl dX12_canBring_36 ?_
        refine a_goto 41 dX12_canBring_37 (by decide) ?_
        refine a_zret dX12_canBring_41 rfl (Or.inr rfl) ?_
        exact h1 h_2 h_17 h_30
  · show AW _ _ _ _ _ _ _
    refine n_if_eq 40 (by decide) dX12_canBring_5 (by decide) (fun _ => ?_) (fun h => absurd h (by decide))
    refine n_iconst 0 rfl dX12_canBring_40 ?_
    refine a_zret dX12_canBring_41 rfl (Or.inl rfl) ?_
    exact h0 (fun ⟨a1, a2, a3⟩ => by omega)

set_option maxRecDepth 100000 in
set_option maxHeartbeats 800000 in
theorem c_X12_brings {M : Mm} {S : ST} (hM : VM 0 M S) (hF : WF S) {i : Nat} (hi31 : i < 2 ^ 20) {Q : Option Value → Mm → Prop} (h1 : i < S 0 5 → S 11 i = 0 → ¬ S 2 (S 9 i) = 100 → VM 0 (siM (siM M 137 (82 + i) (nI 1)) 137 (6 + S 9 i) (nI (min 100 (S 2 (S 9 i) + S 10 i)))) (comeN S i) → Q (some (.int (nI 1))) (siM (siM M 137 (82 + i) (nI 1)) 137 (6 + S 9 i) (nI (min 100 (S 2 (S 9 i) + S 10 i))))) (h0 : ¬ (i < S 0 5 ∧ S 11 i = 0 ∧ ¬ S 2 (S 9 i) = 100) → Q (some (.int (nI 0))) M) (d : Nat) : AMt miX12_brings (d + 3) [.ref 132, .int (nI i)] M Q := by
  refine AMt.of (by decide) (Nat.le_of_ble_eq_true rfl) ?_
  show AW miX12_brings (d + 3) (mxA Q) 0 [(0, some (.ref 132)), (1, some (.int (nI i)))] [] M
  have hm := WF_m hF
  have hh := WF_h hF
  have hs := WF_s hF
  have hn := WF_n hF
  refine a_aload_n rfl dX12_brings_0 ?_
  refine a_iload_n rfl dX12_brings_1 ?_
  refine n_callV (mi' := miX12_canBring) dX12_brings_2 lX12_397 mX12_canBring (by decide) rfl rfl rfl (c_X12_canBring hM hF (by omega) (fun h_2 ha_2 hb_2 => ?_) (fun h_2 => ?_) d) rfl rfl (by omega) (by decide) (Nat.le_of_ble_eq_true rfl)
  · show AW _ _ _ _ _ _ _
    refine n_if_ne 10 (by decide) dX12_brings_5 (by decide) (fun _ => ?_) (fun h => absurd h (by decide))
    have hab := WF_about hF i (by omega)
    have hsz := WF_size hF i (by omega)
    refine a_aload_n rfl dX12_brings_10 ?_
    refine a_geta dX12_brings_11 fX12_35 (by decide) rfl rfl ?_
    refine n_bipush 82 rfl dX12_brings_14 ?_
    refine a_iload_n rfl dX12_brings_16 ?_
    refine n_iadd dX12_brings_17 ?_
    refine n_iconst 1 rfl dX12_brings_18 ?_
    refine n_iast (by omega) (by decide) rfl (by decide) dX12_brings_19 ?_
    refine a_aload_n rfl dX12_brings_20 ?_
    refine a_aload_n rfl dX12_brings_21 ?_
    refine a_geta dX12_brings_22 fX12_35 (by decide) rfl rfl ?_
    refine n_bipush 66 rfl dX12_brings_25 ?_
    refine a_iload_n rfl dX12_brings_27 ?_
    refine n_iadd dX12_brings_28 ?_
    refine v_iald (by omega) (siN (VM_a66 hM (j := i) (by omega)) (by omega)) (by decide) rfl (by decide) dX12_brings_29 ?_
    refine a_aload_n rfl dX12_brings_30 ?_
    refine a_geta dX12_brings_31 fX12_35 (by decide) rfl rfl ?_
    refine n_bipush 74 rfl dX12_brings_34 ?_
    refine a_iload_n rfl dX12_brings_36 ?_
    refine n_iadd dX12_brings_37 ?_
    refine v_iald (by omega) (siN (VM_a74 hM (j := i) (by omega)) (by omega)) (by decide) rfl (by decide) dX12_brings_38 ?_
    refine n_callV (mi' := miX12_clears) dX12_brings_39 lX12_389 mX12_clears (by decide) rfl rfl rfl (c_X12_clears (by omega) (siN (VM_a6 hM (j := S 9 i) (by omega)) (by omega)) (WF_clear hF _ (by omega)) (WF_size hF i (by omega)).2 ?_ d) rfl rfl (by omega) (by decide) (Nat.le_of_ble_eq_true rfl)
    show AW _ _ _ _ _ _ _
    refine n_iconst 1 rfl dX12_brings_42 ?_
    refine a_zret dX12_brings_43 rfl (Or.inr rfl) ?_
    exact h1 h_2 ha_2 hb_2 (VM_come hM hF h_2 hab)
  · show AW _ _ _ _ _ _ _
    refine n_if_ne 10 (by decide) dX12_brings_5 (by decide) (fun h => absurd h (by decide)) (fun _ => ?_)
    refine n_iconst 0 rfl dX12_brings_8 ?_
    refine a_zret dX12_brings_9 rfl (Or.inl rfl) ?_
    exact h0 h_2

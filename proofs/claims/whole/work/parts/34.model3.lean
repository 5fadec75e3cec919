theorem VM_set2 {M : Mm} {S : ST} (hM : VM 0 M S) (hF : WF S) {k v : Nat} (hk : k < S 0 2) : VM 0 (siM M 137 (6 + k) (nI v)) (hupd S k v) := by
  obtain ⟨h0, h1, h2, h3, h4, h5, b2, b1, b3, b4, b5, b6, b7, b8, b9, b10, b11⟩ := VM_elim hM
  have hm := WF_m hF
  have hh := WF_h hF
  have hs := WF_s hF
  have hn := WF_n hF
  exact VM_intro (by exact (siN h0 (by omega)))
    (by exact (siN h1 (by omega)))
    (by exact (siN h2 (by omega)))
    (by exact (siN h3 (by omega)))
    (by exact (siN h4 (by omega)))
    (by exact (siN h5 (by omega)))
    (fun j hj => by
    have hj : j < S 0 2 := hj
    by_cases e : j = k
    · rw [e]; exact (siS).trans (congrArg nI (by simp [hupd]))
    · exact ((siN (b2 j (by omega)) (by omega))).trans (congrArg nI (by simp [hupd, e])))
    (fun j hj => by
    have hj : j < S 0 2 := hj
    exact (siN (b1 j hj) (by omega)))
    (fun j hj => by
    have hj : j < S 0 3 := hj
    exact (siN (b3 j hj) (by omega)))
    (fun j hj => by
    have hj : j < S 0 3 := hj
    exact (siN (b4 j hj) (by omega)))
    (fun j hj => by
    have hj : j < S 0 4 := hj
    exact (siN (b5 j hj) (by omega)))
    (fun j hj => by
    have hj : j < S 0 4 := hj
    exact (siN (b6 j hj) (by omega)))
    (fun j hj => by
    have hj : j < S 0 4 := hj
    exact (siN (b7 j hj) (by omega)))
    (fun j hj => by
    have hj : j < S 0 4 := hj
    exact (siN (b8 j hj) (by omega)))
    (fun j hj => by
    have hj : j < S 0 5 := hj
    exact (siN (b9 j hj) (by omega)))
    (fun j hj => by
    have hj : j < S 0 5 := hj
    exact (siN (b10 j hj) (by omega)))
    (fun j hj => by
    have hj : j < S 0 5 := hj
    exact (siN (b11 j hj) (by omega)))

theorem VM_set1 {M : Mm} {S : ST} (hM : VM 0 M S) (hF : WF S) {k v : Nat} (hk : k < S 0 2) : VM 0 (siM M 137 (12 + k) (nI v)) (upS2 S 1 k v) := by
  obtain ⟨h0, h1, h2, h3, h4, h5, b2, b1, b3, b4, b5, b6, b7, b8, b9, b10, b11⟩ := VM_elim hM
  have hm := WF_m hF
  have hh := WF_h hF
  have hs := WF_s hF
  have hn := WF_n hF
  exact VM_intro (by exact (siN h0 (by omega)))
    (by exact (siN h1 (by omega)))
    (by exact (siN h2 (by omega)))
    (by exact (siN h3 (by omega)))
    (by exact (siN h4 (by omega)))
    (by exact (siN h5 (by omega)))
    (fun j hj => by
    have hj : j < S 0 2 := hj
    exact (siN (b2 j hj) (by omega)))
    (fun j hj => by
    have hj : j < S 0 2 := hj
    by_cases e : j = k
    · rw [e]; exact (siS).trans (congrArg nI (by simp [upS2]))
    · exact ((siN (b1 j (by omega)) (by omega))).trans (congrArg nI (by simp [upS2, e])))
    (fun j hj => by
    have hj : j < S 0 3 := hj
    exact (siN (b3 j hj) (by omega)))
    (fun j hj => by
    have hj : j < S 0 3 := hj
    exact (siN (b4 j hj) (by omega)))
    (fun j hj => by
    have hj : j < S 0 4 := hj
    exact (siN (b5 j hj) (by omega)))
    (fun j hj => by
    have hj : j < S 0 4 := hj
    exact (siN (b6 j hj) (by omega)))
    (fun j hj => by
    have hj : j < S 0 4 := hj
    exact (siN (b7 j hj) (by omega)))
    (fun j hj => by
    have hj : j < S 0 4 := hj
    exact (siN (b8 j hj) (by omega)))
    (fun j hj => by
    have hj : j < S 0 5 := hj
    exact (siN (b9 j hj) (by omega)))
    (fun j hj => by
    have hj : j < S 0 5 := hj
    exact (siN (b10 j hj) (by omega)))
    (fun j hj => by
    have hj : j < S 0 5 := hj
    exact (siN (b11 j hj) (by omega)))

theorem VM_set7 {M : Mm} {S : ST} (hM : VM 0 M S) (hF : WF S) {k v : Nat} (hk : k < S 0 4) : VM 0 (siM M 137 (52 + k) (nI v)) (upS2 S 7 k v) := by
  obtain ⟨h0, h1, h2, h3, h4, h5, b2, b1, b3, b4, b5, b6, b7, b8, b9, b10, b11⟩ := VM_elim hM
  have hm := WF_m hF
  have hh := WF_h hF
  have hs := WF_s hF
  have hn := WF_n hF
  exact VM_intro (by exact (siN h0 (by omega)))
    (by exact (siN h1 (by omega)))
    (by exact (siN h2 (by omega)))
    (by exact (siN h3 (by omega)))
    (by exact (siN h4 (by omega)))
    (by exact (siN h5 (by omega)))
    (fun j hj => by
    have hj : j < S 0 2 := hj
    exact (siN (b2 j hj) (by omega)))
    (fun j hj => by
    have hj : j < S 0 2 := hj
    exact (siN (b1 j hj) (by omega)))
    (fun j hj => by
    have hj : j < S 0 3 := hj
    exact (siN (b3 j hj) (by omega)))
    (fun j hj => by
    have hj : j < S 0 3 := hj
    exact (siN (b4 j hj) (by omega)))
    (fun j hj => by
    have hj : j < S 0 4 := hj
    exact (siN (b5 j hj) (by omega)))
    (fun j hj => by
    have hj : j < S 0 4 := hj
    exact (siN (b6 j hj) (by omega)))
    (fun j hj => by
    have hj : j < S 0 4 := hj
    by_cases e : j = k
    · rw [e]; exact (siS).trans (congrArg nI (by simp [upS2]))
    · exact ((siN (b7 j (by omega)) (by omega))).trans (congrArg nI (by simp [upS2, e])))
    (fun j hj => by
    have hj : j < S 0 4 := hj
    exact (siN (b8 j hj) (by omega)))
    (fun j hj => by
    have hj : j < S 0 5 := hj
    exact (siN (b9 j hj) (by omega)))
    (fun j hj => by
    have hj : j < S 0 5 := hj
    exact (siN (b10 j hj) (by omega)))
    (fun j hj => by
    have hj : j < S 0 5 := hj
    exact (siN (b11 j hj) (by omega)))

theorem VM_set0 {M : Mm} {S : ST} (hM : VM 0 M S) (hF : WF S) {v : Nat} : VM 0 (siM M 137 4 (nI v)) (upS2 S 0 0 v) := by
  obtain ⟨h0, h1, h2, h3, h4, h5, b2, b1, b3, b4, b5, b6, b7, b8, b9, b10, b11⟩ := VM_elim hM
  have hm := WF_m hF
  have hh := WF_h hF
  have hs := WF_s hF
  have hn := WF_n hF
  exact VM_intro (by exact (siN h0 (by omega)))
    (by exact (siN h1 (by omega)))
    (by exact (siN h2 (by omega)))
    (by exact (siN h3 (by omega)))
    (by exact siS)
    (by exact (siN h5 (by omega)))
    (fun j hj => by
    have hj : j < S 0 2 := hj
    exact (siN (b2 j hj) (by omega)))
    (fun j hj => by
    have hj : j < S 0 2 := hj
    exact (siN (b1 j hj) (by omega)))
    (fun j hj => by
    have hj : j < S 0 3 := hj
    exact (siN (b3 j hj) (by omega)))
    (fun j hj => by
    have hj : j < S 0 3 := hj
    exact (siN (b4 j hj) (by omega)))
    (fun j hj => by
    have hj : j < S 0 4 := hj
    exact (siN (b5 j hj) (by omega)))
    (fun j hj => by
    have hj : j < S 0 4 := hj
    exact (siN (b6 j hj) (by omega)))
    (fun j hj => by
    have hj : j < S 0 4 := hj
    exact (siN (b7 j hj) (by omega)))
    (fun j hj => by
    have hj : j < S 0 4 := hj
    exact (siN (b8 j hj) (by omega)))
    (fun j hj => by
    have hj : j < S 0 5 := hj
    exact (siN (b9 j hj) (by omega)))
    (fun j hj => by
    have hj : j < S 0 5 := hj
    exact (siN (b10 j hj) (by omega)))
    (fun j hj => by
    have hj : j < S 0 5 := hj
    exact (siN (b11 j hj) (by omega)))

theorem VM_come {M : Mm} {S : ST} (hM : VM 0 M S) (hF : WF S) {i : Nat} (hi : i < S 0 5) (ha : S 9 i < S 0 2) : VM 0 (siM (siM M 137 (82 + i) (nI 1)) 137 (6 + S 9 i) (nI (min 100 (S 2 (S 9 i) + S 10 i)))) (comeN S i) := by
  obtain ⟨h0, h1, h2, h3, h4, h5, b2, b1, b3, b4, b5, b6, b7, b8, b9, b10, b11⟩ := VM_elim hM
  have hm := WF_m hF
  have hh := WF_h hF
  have hs := WF_s hF
  have hn := WF_n hF
  exact VM_intro (by exact (siN (siN h0 (by omega)) (by omega)))
    (by exact (siN (siN h1 (by omega)) (by omega)))
    (by exact (siN (siN h2 (by omega)) (by omega)))
    (by exact (siN (siN h3 (by omega)) (by omega)))
    (by exact (siN (siN h4 (by omega)) (by omega)))
    (by exact (siN (siN h5 (by omega)) (by omega)))
    (fun j hj => by
    have hj : j < S 0 2 := hj
    by_cases e : j = S 9 i
    · rw [e]; exact (siS).trans (congrArg nI (by simp [comeN]))
    · exact ((siN (siN (b2 j (by omega)) (by omega)) (by omega))).trans (congrArg nI (by simp [comeN, e])))
    (fun j hj => by
    have hj : j < S 0 2 := hj
    exact (siN (siN (b1 j hj) (by omega)) (by omega)))
    (fun j hj => by
    have hj : j < S 0 3 := hj
    exact (siN (siN (b3 j hj) (by omega)) (by omega)))
    (fun j hj => by
    have hj : j < S 0 3 := hj
    exact (siN (siN (b4 j hj) (by omega)) (by omega)))
    (fun j hj => by
    have hj : j < S 0 4 := hj
    exact (siN (siN (b5 j hj) (by omega)) (by omega)))
    (fun j hj => by
    have hj : j < S 0 4 := hj
    exact (siN (siN (b6 j hj) (by omega)) (by omega)))
    (fun j hj => by
    have hj : j < S 0 4 := hj
    exact (siN (siN (b7 j hj) (by omega)) (by omega)))
    (fun j hj => by
    have hj : j < S 0 4 := hj
    exact (siN (siN (b8 j hj) (by omega)) (by omega)))
    (fun j hj => by
    have hj : j < S 0 5 := hj
    exact (siN (siN (b9 j hj) (by omega)) (by omega)))
    (fun j hj => by
    have hj : j < S 0 5 := hj
    exact (siN (siN (b10 j hj) (by omega)) (by omega)))
    (fun j hj => by
    have hj : j < S 0 5 := hj
    by_cases e : j = i
    · rw [e]; exact ((siN siS (by omega))).trans (congrArg nI (by simp [comeN]))
    · exact ((siN (siN (b11 j (by omega)) (by omega)) (by omega))).trans (congrArg nI (by simp [comeN, e])))

theorem VM_addH {M : Mm} {S : ST} (hM : VM 0 M S) (hF : WF S) {x y : Nat} (hx : S 0 3 < 10) : VM 0 (siM (siM (siM M 137 (18 + S 0 3) (nI x)) 137 (28 + S 0 3) (nI y)) 137 1 (nI (S 0 3 + 1))) (addHN S x y) := by
  obtain ⟨h0, h1, h2, h3, h4, h5, b2, b1, b3, b4, b5, b6, b7, b8, b9, b10, b11⟩ := VM_elim hM
  have hm := WF_m hF
  have hh := WF_h hF
  have hs := WF_s hF
  have hn := WF_n hF
  exact VM_intro (by exact (siN (siN (siN h0 (by omega)) (by omega)) (by omega)))
    (by exact siS)
    (by exact (siN (siN (siN h2 (by omega)) (by omega)) (by omega)))
    (by exact (siN (siN (siN h3 (by omega)) (by omega)) (by omega)))
    (by exact (siN (siN (siN h4 (by omega)) (by omega)) (by omega)))
    (by exact (siN (siN (siN h5 (by omega)) (by omega)) (by omega)))
    (fun j hj => by
    have hj : j < S 0 2 := hj
    exact (siN (siN (siN (b2 j hj) (by omega)) (by omega)) (by omega)))
    (fun j hj => by
    have hj : j < S 0 2 := hj
    exact (siN (siN (siN (b1 j hj) (by omega)) (by omega)) (by omega)))
    (fun j hj => by
    have hj : j < S 0 3 + 1 := hj
    by_cases e : j = S 0 3
    · rw [e]; exact ((siN (siN siS (by omega)) (by omega))).trans (congrArg nI (by simp [addHN]))
    · exact ((siN (siN (siN (b3 j (by omega)) (by omega)) (by omega)) (by omega))).trans (congrArg nI (by simp [addHN, e])))
    (fun j hj => by
    have hj : j < S 0 3 + 1 := hj
    by_cases e : j = S 0 3
    · rw [e]; exact ((siN siS (by omega))).trans (congrArg nI (by simp [addHN]))
    · exact ((siN (siN (siN (b4 j (by omega)) (by omega)) (by omega)) (by omega))).trans (congrArg nI (by simp [addHN, e])))
    (fun j hj => by
    have hj : j < S 0 4 := hj
    exact (siN (siN (siN (b5 j hj) (by omega)) (by omega)) (by omega)))
    (fun j hj => by
    have hj : j < S 0 4 := hj
    exact (siN (siN (siN (b6 j hj) (by omega)) (by omega)) (by omega)))
    (fun j hj => by
    have hj : j < S 0 4 := hj
    exact (siN (siN (siN (b7 j hj) (by omega)) (by omega)) (by omega)))
    (fun j hj => by
    have hj : j < S 0 4 := hj
    exact (siN (siN (siN (b8 j hj) (by omega)) (by omega)) (by omega)))
    (fun j hj => by
    have hj : j < S 0 5 := hj
    exact (siN (siN (siN (b9 j hj) (by omega)) (by omega)) (by omega)))
    (fun j hj => by
    have hj : j < S 0 5 := hj
    exact (siN (siN (siN (b10 j hj) (by omega)) (by omega)) (by omega)))
    (fun j hj => by
    have hj : j < S 0 5 := hj
    exact (siN (siN (siN (b11 j hj) (by omega)) (by omega)) (by omega)))

theorem VM_addN {M : Mm} {S : ST} (hM : VM 0 M S) (hF : WF S) {x z : Nat} (hx : S 0 5 < 8) : VM 0 (siM (siM (siM (siM M 137 (66 + S 0 5) (nI x)) 137 (74 + S 0 5) (nI z)) 137 (82 + S 0 5) (nI 0)) 137 3 (nI (S 0 5 + 1))) (addNN S x z) := by
  obtain ⟨h0, h1, h2, h3, h4, h5, b2, b1, b3, b4, b5, b6, b7, b8, b9, b10, b11⟩ := VM_elim hM
  have hm := WF_m hF
  have hh := WF_h hF
  have hs := WF_s hF
  have hn := WF_n hF
  exact VM_intro (by exact (siN (siN (siN (siN h0 (by omega)) (by omega)) (by omega)) (by omega)))
    (by exact (siN (siN (siN (siN h1 (by omega)) (by omega)) (by omega)) (by omega)))
    (by exact (siN (siN (siN (siN h2 (by omega)) (by omega)) (by omega)) (by omega)))
    (by exact siS)
    (by exact (siN (siN (siN (siN h4 (by omega)) (by omega)) (by omega)) (by omega)))
    (by exact (siN (siN (siN (siN h5 (by omega)) (by omega)) (by omega)) (by omega)))
    (fun j hj => by
    have hj : j < S 0 2 := hj
    exact (siN (siN (siN (siN (b2 j hj) (by omega)) (by omega)) (by omega)) (by omega)))
    (fun j hj => by
    have hj : j < S 0 2 := hj
    exact (siN (siN (siN (siN (b1 j hj) (by omega)) (by omega)) (by omega)) (by omega)))
    (fun j hj => by
    have hj : j < S 0 3 := hj
    exact (siN (siN (siN (siN (b3 j hj) (by omega)) (by omega)) (by omega)) (by omega)))
    (fun j hj => by
    have hj : j < S 0 3 := hj
    exact (siN (siN (siN (siN (b4 j hj) (by omega)) (by omega)) (by omega)) (by omega)))
    (fun j hj => by
    have hj : j < S 0 4 := hj
    exact (siN (siN (siN (siN (b5 j hj) (by omega)) (by omega)) (by omega)) (by omega)))
    (fun j hj => by
    have hj : j < S 0 4 := hj
    exact (siN (siN (siN (siN (b6 j hj) (by omega)) (by omega)) (by omega)) (by omega)))
    (fun j hj => by
    have hj : j < S 0 4 := hj
    exact (siN (siN (siN (siN (b7 j hj) (by omega)) (by omega)) (by omega)) (by omega)))
    (fun j hj => by
    have hj : j < S 0 4 := hj
    exact (siN (siN (siN (siN (b8 j hj) (by omega)) (by omega)) (by omega)) (by omega)))
    (fun j hj => by
    have hj : j < S 0 5 + 1 := hj
    by_cases e : j = S 0 5
    · rw [e]; exact ((siN (siN (siN siS (by omega)) (by omega)) (by omega))).trans (congrArg nI (by simp [addNN]))
    · exact ((siN (siN (siN (siN (b9 j (by omega)) (by omega)) (by omega)) (by omega)) (by omega))).trans (congrArg nI (by simp [addNN, e])))
    (fun j hj => by
    have hj : j < S 0 5 + 1 := hj
    by_cases e : j = S 0 5
    · rw [e]; exact ((siN (siN siS (by omega)) (by omega))).trans (congrArg nI (by simp [addNN]))
    · exact ((siN (siN (siN (siN (b10 j (by omega)) (by omega)) (by omega)) (by omega)) (by omega))).trans (congrArg nI (by simp [addNN, e])))
    (fun j hj => by
    have hj : j < S 0 5 + 1 := hj
    by_cases e : j = S 0 5
    · rw [e]; exact ((siN siS (by omega))).trans (congrArg nI (by simp [addNN]))
    · exact ((siN (siN (siN (siN (b11 j (by omega)) (by omega)) (by omega)) (by omega)) (by omega))).trans (congrArg nI (by simp [addNN, e])))

theorem VM_addS {M : Mm} {S : ST} (hM : VM 0 M S) (hF : WF S) {p q r t : Nat} (hx : S 0 4 < 7) : VM 0 (siM (siM (siM (siM (siM M 137 (38 + S 0 4) (nI p)) 137 (45 + S 0 4) (nI q)) 137 (52 + S 0 4) (nI r)) 137 (59 + S 0 4) (nI t)) 137 2 (nI (S 0 4 + 1))) (addSN S p q r t) := by
  obtain ⟨h0, h1, h2, h3, h4, h5, b2, b1, b3, b4, b5, b6, b7, b8, b9, b10, b11⟩ := VM_elim hM
  have hm := WF_m hF
  have hh := WF_h hF
  have hs := WF_s hF
  have hn := WF_n hF
  exact VM_intro (by exact (siN (siN (siN (siN (siN h0 (by omega)) (by omega)) (by omega)) (by omega)) (by omega)))
    (by exact (siN (siN (siN (siN (siN h1 (by omega)) (by omega)) (by omega)) (by omega)) (by omega)))
    (by exact siS)
    (by exact (siN (siN (siN (siN (siN h3 (by omega)) (by omega)) (by omega)) (by omega)) (by omega)))
    (by exact (siN (siN (siN (siN (siN h4 (by omega)) (by omega)) (by omega)) (by omega)) (by omega)))
    (by exact (siN (siN (siN (siN (siN h5 (by omega)) (by omega)) (by omega)) (by omega)) (by omega)))
    (fun j hj => by
    have hj : j < S 0 2 := hj
    exact (siN (siN (siN (siN (siN (b2 j hj) (by omega)) (by omega)) (by omega)) (by omega)) (by omega)))
    (fun j hj => by
    have hj : j < S 0 2 := hj
    exact (siN (siN (siN (siN (siN (b1 j hj) (by omega)) (by omega)) (by omega)) (by omega)) (by omega)))
    (fun j hj => by
    have hj : j < S 0 3 := hj
    exact (siN (siN (siN (siN (siN (b3 j hj) (by omega)) (by omega)) (by omega)) (by omega)) (by omega)))
    (fun j hj => by
    have hj : j < S 0 3 := hj
    exact (siN (siN (siN (siN (siN (b4 j hj) (by omega)) (by omega)) (by omega)) (by omega)) (by omega)))
    (fun j hj => by
    have hj : j < S 0 4 + 1 := hj
    by_cases e : j = S 0 4
    · rw [e]; exact ((siN (siN (siN (siN siS (by omega)) (by omega)) (by omega)) (by omega))).trans (congrArg nI (by simp [addSN]))
    · exact ((siN (siN (siN (siN (siN (b5 j (by omega)) (by omega)) (by omega)) (by omega)) (by omega)) (by omega))).trans (congrArg nI (by simp [addSN, e])))
    (fun j hj => by
    have hj : j < S 0 4 + 1 := hj
    by_cases e : j = S 0 4
    · rw [e]; exact ((siN (siN (siN siS (by omega)) (by omega)) (by omega))).trans (congrArg nI (by simp [addSN]))
    · exact ((siN (siN (siN (siN (siN (b6 j (by omega)) (by omega)) (by omega)) (by omega)) (by omega)) (by omega))).trans (congrArg nI (by simp [addSN, e])))
    (fun j hj => by
    have hj : j < S 0 4 + 1 := hj
    by_cases e : j = S 0 4
    · rw [e]; exact ((siN (siN siS (by omega)) (by omega))).trans (congrArg nI (by simp [addSN]))
    · exact ((siN (siN (siN (siN (siN (b7 j (by omega)) (by omega)) (by omega)) (by omega)) (by omega)) (by omega))).trans (congrArg nI (by simp [addSN, e])))
    (fun j hj => by
    have hj : j < S 0 4 + 1 := hj
    by_cases e : j = S 0 4
    · rw [e]; exact ((siN siS (by omega))).trans (congrArg nI (by simp [addSN]))
    · exact ((siN (siN (siN (siN (siN (b8 j (by omega)) (by omega)) (by omega)) (by omega)) (by omega)) (by omega))).trans (congrArg nI (by simp [addSN, e])))
    (fun j hj => by
    have hj : j < S 0 5 := hj
    exact (siN (siN (siN (siN (siN (b9 j hj) (by omega)) (by omega)) (by omega)) (by omega)) (by omega)))
    (fun j hj => by
    have hj : j < S 0 5 := hj
    exact (siN (siN (siN (siN (siN (b10 j hj) (by omega)) (by omega)) (by omega)) (by omega)) (by omega)))
    (fun j hj => by
    have hj : j < S 0 5 := hj
    exact (siN (siN (siN (siN (siN (b11 j hj) (by omega)) (by omega)) (by omega)) (by omega)) (by omega)))

/-! ===== the layout: which cell is what (numbers by the order of making) ===== -/
abbrev LC : Type := (Nat × List (Nat × Nat)) ⊕ (Nat × Nat × (Nat → Nat))
abbrev GG : Type := va_G × (Nat → ClassId) × (Nat → Nat)
def nC : Nat := 147
def woodC (w : Nat) : List LC := [.inl (6, [(0, 0), (0, 0), (0, 0), (0, 0), (0, 0), (0, 0), (0, 0), (2, w + 1), (2, w + 2), (2, w + 3), (2, w + 4), (2, w + 5), (2, w + 6), (2, w + 7), (2, w + 8), (2, w + 9), (2, w + 10), (2, w + 11), (2, w + 12), (2, w + 13)]), .inr (2, 6, fun _ => 0), .inr (0, 6, fun _ => 0), .inr (0, 6, fun _ => 0), .inr (0, 10, fun _ => 0), .inr (0, 10, fun _ => 0), .inr (2, 7, fun _ => 0), .inr (0, 7, fun _ => 0), .inr (0, 7, fun _ => 0), .inr (0, 7, fun _ => 0), .inr (0, 7, fun _ => 0), .inr (0, 8, fun _ => 0), .inr (0, 8, fun _ => 0), .inl (8, [(0, 0), (0, 0), (0, 0), (2, w + 14), (2, w + 15), (2, w + 16), (2, w + 17), (2, w + 18), (2, w + 19)]), .inr (0, 60, fun _ => 0), .inr (0, 60, fun _ => 0), .inr (0, 60, fun _ => 0), .inr (0, 60, fun _ => 0), .inr (0, 60, fun _ => 0), .inr (0, 60, fun _ => 0)]
def layL_0 : List LC := [.inl (10, [(0, 0), (1, 0), (1, 0), (2, 1), (0, 0), (2, 2), (2, 10), (2, 14), (2, 15), (2, 17), (2, 37), (2, 57), (0, 0), (2, 118), (2, 120), (0, 0), (2, 121), (2, 123), (2, 130)]), .inr (1, 900, fun _ => 0), .inl (5, [(2, 3), (2, 8), (2, 9)]), .inr (3, 4, fun j => 4 + j), .inr (2, 60, fun _ => 0), .inr (2, 60, fun _ => 0), .inr (2, 60, fun _ => 0), .inr (2, 60, fun _ => 0), .inr (0, 4, fun _ => 0), .inr (0, 4, fun _ => 0), .inl (4, [(2, 11), (2, 12), (2, 13), (0, 0), (0, 0), (0, 0), (0, 0)]), .inr (0, 901, fun _ => 0), .inr (0, 901, fun _ => 0), .inr (2, 901, fun _ => 0), .inl (7, [(0, 0)]), .inl (9, [(2, 16), (0, 0)]), .inr (0, 3, fun _ => 0)]
def layL_3 : List LC := [.inr (4, 3, fun j => 58 + 20 * j)]
def layL_7 : List LC := [.inl (2, [(0, 0), (0, 0), (2, 119), (0, 0), (0, 0), (0, 0), (0, 0), (0, 0), (0, 0)]), .inr (0, 60, fun _ => 0), .inr (0, 5, fun _ => 0), .inl (0, [(2, 122)]), .inr (0, 6, fun _ => 0), .inl (3, [(2, 124), (2, 125), (2, 126), (2, 127), (2, 128), (2, 129)]), .inr (0, 6, fun _ => 0), .inr (0, 6, fun _ => 0), .inr (0, 6, fun _ => 0), .inr (0, 6, fun _ => 0), .inr (0, 64, fun _ => 0), .inr (0, 896, fun _ => 0), .inl (1, [(2, 131), (0, 0), (0, 0)]), .inr (0, 6, fun _ => 0), .inl (11, [(0, 0), (0, 0), (1, 0), (1, 0), (2, 133), (2, 134), (2, 135), (2, 136), (0, 0), (0, 0), (0, 0), (0, 0), (0, 0), (0, 0), (0, 0), (0, 0), (0, 0), (0, 0), (0, 0), (1, 0), (2, 137), (2, 138), (2, 139), (0, 0), (0, 0), (0, 0), (2, 140), (0, 0), (2, 141), (2, 142), (2, 143), (2, 144), (0, 0), (2, 145), (1, 0), (1, 0), (0, 0), (2, 146), (0, 0), (0, 0), (0, 0), (0, 0), (0, 0), (0, 0), (0, 0), (0, 0), (0, 0)]), .inr (0, 4, fun _ => 0), .inr (0, 4, fun _ => 0), .inr (2, 240, fun _ => 0), .inr (1, 900, fun _ => 0), .inr (0, 1810, fun _ => 0), .inr (0, 90, fun _ => 0), .inr (2, 65, fun _ => 0), .inr (0, 6, fun _ => 0), .inr (0, 6, fun _ => 0), .inr (0, 6, fun _ => 0), .inr (0, 7, fun _ => 0), .inr (0, 7, fun _ => 0), .inr (0, 246, fun _ => 0), .inr (0, 5, fun _ => 0)]
def layL : List LC := layL_0 ++ (woodC 17 ++ (woodC 37 ++ (layL_3 ++ (woodC 58 ++ (woodC 78 ++ (woodC 98 ++ (layL_7)))))))
def layC (k : Nat) : LC := layL.getD k (.inr (0, 0, fun _ => 0))
def isW (w : Nat) : Prop := w = 17 ∨ w = 37 ∨ w = 58 ∨ w = 78 ∨ w = 98
theorem isW_lt {w : Nat} (h : isW w) {i : Nat} (hi : i < 20) : w + i < nC := by unfold isW at h; unfold nC; omega
theorem layW_0 {w : Nat} (h : isW w) : layC w = .inl (6, [(0, 0), (0, 0), (0, 0), (0, 0), (0, 0), (0, 0), (0, 0), (2, w + 1), (2, w + 2), (2, w + 3), (2, w + 4), (2, w + 5), (2, w + 6), (2, w + 7), (2, w + 8), (2, w + 9), (2, w + 10), (2, w + 11), (2, w + 12), (2, w + 13)]) := by rcases h with rfl | rfl | rfl | rfl | rfl <;> rfl
theorem layW_1 {w : Nat} (h : isW w) : layC (w + 1) = .inr (2, 6, fun _ => 0) := by rcases h with rfl | rfl | rfl | rfl | rfl <;> rfl
theorem layW_2 {w : Nat} (h : isW w) : layC (w + 2) = .inr (0, 6, fun _ => 0) := by rcases h with rfl | rfl | rfl | rfl | rfl <;> rfl
theorem layW_3 {w : Nat} (h : isW w) : layC (w + 3) = .inr (0, 6, fun _ => 0) := by rcases h with rfl | rfl | rfl | rfl | rfl <;> rfl
theorem layW_4 {w : Nat} (h : isW w) : layC (w + 4) = .inr (0, 10, fun _ => 0) := by rcases h with rfl | rfl | rfl | rfl | rfl <;> rfl
theorem layW_5 {w : Nat} (h : isW w) : layC (w + 5) = .inr (0, 10, fun _ => 0) := by rcases h with rfl | rfl | rfl | rfl | rfl <;> rfl
theorem layW_6 {w : Nat} (h : isW w) : layC (w + 6) = .inr (2, 7, fun _ => 0) := by rcases h with rfl | rfl | rfl | rfl | rfl <;> rfl
theorem layW_7 {w : Nat} (h : isW w) : layC (w + 7) = .inr (0, 7, fun _ => 0) := by rcases h with rfl | rfl | rfl | rfl | rfl <;> rfl
theorem layW_8 {w : Nat} (h : isW w) : layC (w + 8) = .inr (0, 7, fun _ => 0) := by rcases h with rfl | rfl | rfl | rfl | rfl <;> rfl
theorem layW_9 {w : Nat} (h : isW w) : layC (w + 9) = .inr (0, 7, fun _ => 0) := by rcases h with rfl | rfl | rfl | rfl | rfl <;> rfl
theorem layW_10 {w : Nat} (h : isW w) : layC (w + 10) = .inr (0, 7, fun _ => 0) := by rcases h with rfl | rfl | rfl | rfl | rfl <;> rfl
theorem layW_11 {w : Nat} (h : isW w) : layC (w + 11) = .inr (0, 8, fun _ => 0) := by rcases h with rfl | rfl | rfl | rfl | rfl <;> rfl
theorem layW_12 {w : Nat} (h : isW w) : layC (w + 12) = .inr (0, 8, fun _ => 0) := by rcases h with rfl | rfl | rfl | rfl | rfl <;> rfl
theorem layW_13 {w : Nat} (h : isW w) : layC (w + 13) = .inl (8, [(0, 0), (0, 0), (0, 0), (2, w + 14), (2, w + 15), (2, w + 16), (2, w + 17), (2, w + 18), (2, w + 19)]) := by rcases h with rfl | rfl | rfl | rfl | rfl <;> rfl
theorem layW_14 {w : Nat} (h : isW w) : layC (w + 14) = .inr (0, 60, fun _ => 0) := by rcases h with rfl | rfl | rfl | rfl | rfl <;> rfl
theorem layW_15 {w : Nat} (h : isW w) : layC (w + 15) = .inr (0, 60, fun _ => 0) := by rcases h with rfl | rfl | rfl | rfl | rfl <;> rfl
theorem layW_16 {w : Nat} (h : isW w) : layC (w + 16) = .inr (0, 60, fun _ => 0) := by rcases h with rfl | rfl | rfl | rfl | rfl <;> rfl
theorem layW_17 {w : Nat} (h : isW w) : layC (w + 17) = .inr (0, 60, fun _ => 0) := by rcases h with rfl | rfl | rfl | rfl | rfl <;> rfl
theorem layW_18 {w : Nat} (h : isW w) : layC (w + 18) = .inr (0, 60, fun _ => 0) := by rcases h with rfl | rfl | rfl | rfl | rfl <;> rfl
theorem layW_19 {w : Nat} (h : isW w) : layC (w + 19) = .inr (0, 60, fun _ => 0) := by rcases h with rfl | rfl | rfl | rfl | rfl <;> rfl
def strT : String := "odds matter pace clear hold by sitter mile tall for weight news size day bring crisis turn any when down settled high loop end stop "
def strB : List Int32 := [111, 100, 100, 115, 32, 109, 97, 116, 116, 101, 114, 32, 112, 97, 99, 101, 32, 99, 108, 101, 97, 114, 32, 104, 111, 108, 100, 32, 98, 121, 32, 115, 105, 116, 116, 101, 114, 32, 109, 105, 108, 101, 32, 116, 97, 108, 108, 32, 102, 111, 114, 32, 119, 101, 105, 103, 104, 116, 32, 110, 101, 119, 115, 32, 115, 105, 122, 101, 32, 100, 97, 121, 32, 98, 114, 105, 110, 103, 32, 99, 114, 105, 115, 105, 115, 32, 116, 117, 114, 110, 32, 97, 110, 121, 32, 119, 104, 101, 110, 32, 100, 111, 119, 110, 32, 115, 101, 116, 116, 108, 101, 100, 32, 104, 105, 103, 104, 32, 108, 111, 111, 112, 32, 101, 110, 100, 32, 115, 116, 111, 112, 32]
/-- the one text that the class speaks of, and the JDK's own statics -/
def strA (G : GG) (A : Nat → Prop) (U : State) (H : Heap) : Prop := ∃ adV : Nat → Nat, vk_S 1 [132] [strB] (fun _ => G.2.2 nC) adV A U H ∧ vk_R "MossSeats$Words" 11 strT (G.2.2 nC) U ∧ va_Z "java/lang/String" "COMPACT_STRINGS" "Z" (.int 1) A U H ∧ va_Zq "jdk/internal/util/Preconditions" "SIOOBE_FORMATTER" "Ljava/util/function/BiFunction;" A U H
theorem va_Zq.go {C n d : String} {A B : Nat → Prop} {u U : State} {H H1 : Heap} (h : va_Zq C n d A u H) (hvm : u.vm.Alike U.vm) (hq : ∀ a : Nat, a < H.size → ¬ A a → H1[a]? = H[a]?) (hAB : ∀ q, B q → A q) : va_Zq C n d B U H1 := by
  rcases h with h | ⟨t, h⟩
  · exact Or.inl ((va_Z.moved hvm h).kept hq |>.narrow hAB)
  · exact Or.inr ⟨t, (va_Z.moved hvm h).kept hq |>.narrow hAB⟩
theorem strA.go {G : GG} {A B : Nat → Prop} {s U : State} {H0 H : Heap} (h : strA G A s H0) (hW : s.WarmedH U.vm) (hq : ∀ a : Nat, a < H0.size → ¬ A a → H[a]? = H0[a]?) (hAB : ∀ q, B q → A q) : strA G B U H := by
  obtain ⟨adV, h1, h2, h3, h4⟩ := h
  exact ⟨adV, ((vk_S.moved hW.alike h1).kept hq).narrow hAB, h2.warm hW, ((va_Z.moved hW.alike h3).kept hq).narrow hAB, h4.go hW.alike hq hAB⟩
theorem strA.calling {G : GG} {A : Nat → Prop} {U : State} {g : JFrame} {mk : MethodId} {a : Array Value} (h : strA G A U U.heap) : strA G A (U.calling g mk a) (U.calling g mk a).heap := by
  obtain ⟨adV, h1, h2, h3, h4⟩ := h
  exact ⟨adV, vk_S.moved (u := U) (U := U.calling g mk a) (Vm.Alike.refl U.vm) h1, vk_R.same (u := U) (U := U.calling g mk a) rfl h2, va_Z.moved (u := U) (U := U.calling g mk a) (Vm.Alike.refl U.vm) h3, h4.go (u := U) (U := U.calling g mk a) (Vm.Alike.refl U.vm) (fun _ _ _ => rfl) (fun _ h => h)⟩

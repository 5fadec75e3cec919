theorem itN_st {f : FN → FN} {k : Nat} {F : FN} (ho : ¬ (itN f k F).2.2.1 = 0) : ∀ n, k ≤ n → itN f n F = itN f k F
  | 0, h => by rw [show k = 0 by omega]
  | n + 1, h => by
    by_cases e : k = n + 1
    · rw [e]
    · have ih := itN_st ho n (by omega)
      rw [itN, if_neg (by rw [ih]; exact ho), ih]
theorem itN_1 {f : FN → FN} {k : Nat} {F : FN} (ho : (itN f k F).2.2.1 = 0) : itN f (k + 1) F = f (itN f k F) := by rw [itN, if_pos ho]
def hyP (w k j : Nat) : Prop := fyP w k j ∨ k = 118 ∨ k = 119
/-- the class in the midst of a run: at the item a, timesLeft tl -/
def CF (w d0 : Nat) (M0 M : Mm) (a : Nat) (tl : Nat → Int32) (F : FN) : Prop := RW w d0 M F.1 ∧ M.1 118 1 = nI a ∧ M.1 118 3 = nI F.2.1 ∧ M.1 118 8 = nI F.2.2.2 ∧ (∀ j, M.1 119 j = tl j) ∧ fr (hyP w) M0 M
/-- the class behind a run -/
def CE (w d0 : Nat) (M0 M : Mm) (F : FN) : Prop := RW w d0 M F.1 ∧ M.1 118 3 = nI F.2.1 ∧ M.1 118 8 = nI F.2.2.2 ∧ fr (hyP w) M0 M
theorem CF.e {w d0 : Nat} {M0 M : Mm} {a : Nat} {tl : Nat → Int32} {F : FN} (h : CF w d0 M0 M a tl F) : CE w d0 M0 M F := ⟨h.1, h.2.2.1, h.2.2.2.1, h.2.2.2.2.2⟩
abbrev HP (w d : Nat) (Q : Option Value → Mm → Prop) (i : Nat) (M : Mm) : Prop := AW miX2_runThrough (d + 7) (mxA Q) 48 [(0, some (.ref 118)), (1, some (.ref w)), (3, some (.ref (w + 13))), (4, some (.int (nI i)))] [] M
theorem YX_hy {w : Nat} {M0 M : Mm} {Y : YR} (hw : isW w) (h : YX (w + 13) M0 Y) (hf : fr (hyP w) M0 M) : YX (w + 13) M Y := YX_eq h (fun k a b => funext fun j => (hf k j (by unfold hyP fyP; unfold isW at hw; omega)).1)
theorem gy_hy {w k j : Nat} (h : gyP w k j) : hyP w k j := by
  rcases h with h | h | h
  · exact Or.inl h
  · exact Or.inr (Or.inl h.1)
  · exact Or.inr (Or.inr h)
theorem CF_of {w d0 n a a' : Nat} {M0 M M' : Mm} {tl tl' : Nat → Int32} {R R' : RN} (hw : isW w) (hC : CF w d0 M0 M a tl (R, n, 0, 0)) (r : RW w d0 M' R') (ha : M'.1 118 1 = nI a') (ht : ∀ j, M'.1 119 j = tl' j) (g : GY w (siM M 118 3 (nI (n + 1))) M') : CF w d0 M0 M' a' tl' (R', n + 1, 0, 0) :=
  ⟨r, ha, (g 118 3 (by unfold gyP fyP; unfold isW at hw; omega)).1.trans siS, (g 118 8 (by unfold gyP fyP; unfold isW at hw; omega)).1.trans ((siN rfl (by omega)).trans hC.2.2.2.1), ht, (hC.2.2.2.2.2.si (Or.inr (Or.inl rfl))).t (g.mo (fun _ _ h => gy_hy h))⟩
theorem CF_end {w d0 n a a' : Nat} {M0 M M' : Mm} {tl tl' : Nat → Int32} {R R' : RN} (hw : isW w) (hC : CF w d0 M0 M a tl (R, n, 0, 0)) (r : RW w d0 M' R') (ha : M'.1 118 1 = nI a') (ht : ∀ j, M'.1 119 j = tl' j) (g : GY w M M') : CF w d0 M0 M' a' tl' (R', n, 0, 0) :=
  ⟨r, ha, (g 118 3 (by unfold gyP fyP; unfold isW at hw; omega)).1.trans hC.2.2.1, (g 118 8 (by unfold gyP fyP; unfold isW at hw; omega)).1.trans hC.2.2.2.1, ht, hC.2.2.2.2.2.t (g.mo (fun _ _ h => gy_hy h))⟩

set_option maxRecDepth 100000 in
set_option maxHeartbeats 800000 in
theorem rt_do {w d i n a v len : Nat} {Q : Option Value → Mm → Prop} (hw : isW w) {M : Mm} (hat : M.1 118 1 = nI a) (hst : M.1 118 3 = nI n) (hcut : M.1 118 8 = nI 0) (hlen : M.1 (w + 13) 2 = nI len) (hl60 : len ≤ 60) (ha : a < len) (hyv : M.1 (w + 14) a = nI v) (hv : v ≤ 24) (hi : i < 1000000) (hv23 : v ≠ 23) (hn : n < 300) {P : Mm → Prop} (hA : ∀ {Q' : Option Value → Mm → Prop}, (∀ M', P M' → Q' none M') → ∀ d, AMt miX2_doStep (d + 6) [.ref 118, .ref w, .ref (w + 13)] (siM M 118 3 (nI (n + 1))) Q') (kk : ∀ M', P M' → HP w d Q (i + 1) M') : HP w d Q i M := by
  refine a_iload rfl dX2_runThrough_48 ?_
  refine a_ldc kX2_49 dX2_runThrough_50 ?_
  refine a_eqi (y := nI 1000000) rfl ?_
  refine n_icmp_ge 142 (by omega) (by omega) dX2_runThrough_52 (by decide) (fun h_52 => absurd h_52 (by omega)) (fun h_52 => ?_)
  refine a_aload_n rfl dX2_runThrough_55 ?_
  refine g_i hcut (by decide) rfl fX2_45 rfl dX2_runThrough_56 ?_
  refine n_if_ne 142 (by decide) dX2_runThrough_59 (by decide) (fun h => absurd h (by decide)) (fun _ => ?_)
  refine a_aload_n rfl dX2_runThrough_62 ?_
  refine g_i hat (by decide) rfl fX2_27 rfl dX2_runThrough_63 ?_
  refine n_if_lt (tgt := 142) (by omega) dX2_runThrough_66 (by decide) ?_
  refine a_aload_n rfl dX2_runThrough_69 ?_
  refine g_i hat (by decide) rfl fX2_27 rfl dX2_runThrough_70 ?_
  refine a_aload_n rfl dX2_runThrough_73 ?_
  refine g_i hlen (isW_lt hw (i := 13) (by decide)) (layW_13 hw) fX2_50 rfl dX2_runThrough_74 ?_
  refine n_icmp_ge 142 (by omega) (by omega) dX2_runThrough_77 (by decide) (fun h_77 => absurd h_77 (by omega)) (fun h_77 => ?_)
  refine a_aload_n rfl dX2_runThrough_80 ?_
  refine a_geta dX2_runThrough_81 fX2_53 (isW_lt hw (i := 13) (by decide)) (layW_13 hw) rfl ?_
  refine a_aload_n rfl dX2_runThrough_84 ?_
  refine g_i hat (by decide) rfl fX2_27 rfl dX2_runThrough_85 ?_
  refine v_iald (by omega) hyv (isW_lt hw (i := 14) (by decide)) (layW_14 hw) (by decide) dX2_runThrough_88 ?_
  refine n_bipush 23 rfl dX2_runThrough_89 ?_
  refine n_icmp_ne 102 (by omega) (by omega) dX2_runThrough_91 (by decide) (fun h_91 => ?_) (fun h_91 => absurd h_91 (by omega))
  refine a_aload_n rfl dX2_runThrough_102 ?_
  refine g_i hst (by decide) rfl fX2_30 rfl dX2_runThrough_103 ?_
  refine n_sipush 300 rfl dX2_runThrough_106 ?_
  refine n_icmp_lt 120 (by omega) (by omega) dX2_runThrough_109 (by decide) (fun h_109 => ?_) (fun h_109 => absurd h_109 (by omega))
  refine a_aload_n rfl dX2_runThrough_120 ?_
  refine a_dup rfl dX2_runThrough_121 ?_
  refine g_i hst (by decide) rfl fX2_30 rfl dX2_runThrough_122 ?_
  refine n_iconst 1 rfl dX2_runThrough_125 ?_
  refine n_iadd dX2_runThrough_126 ?_
  refine a_puti dX2_runThrough_127 pX2_30 (by decide) rfl rfl ?_
  refine a_aload_n rfl dX2_runThrough_130 ?_
  refine a_aload_n rfl dX2_runThrough_131 ?_
  refine a_aload_n rfl dX2_runThrough_132 ?_
  refine n_callV (mi' := miX2_doStep) dX2_runThrough_133 lX2_62 mX2_doStep (by decide) rfl rfl rfl (hA (fun M_133 hp_133 => ?_) d) rfl rfl (by omega) (by decide) (Nat.le_of_ble_eq_true rfl)
  show AW _ _ _ _ _ _ _
  refine n_iinc (c := 1) rfl rfl (by decide) rfl dX2_runThrough_136 ?_
  refine a_goto 48 dX2_runThrough_139 (by decide) ?_
  exact a_bk (kk _ hp_133) ⟨rfl, rfl, rfl, rfl, trivial⟩

set_option maxRecDepth 100000 in
set_option maxHeartbeats 800000 in
theorem rt_cut {w d i n a v len : Nat} {Q : Option Value → Mm → Prop} (hw : isW w) {M : Mm} (hat : M.1 118 1 = nI a) (hst : M.1 118 3 = nI n) (hcut : M.1 118 8 = nI 0) (hlen : M.1 (w + 13) 2 = nI len) (hl60 : len ≤ 60) (ha : a < len) (hyv : M.1 (w + 14) a = nI v) (hv : v ≤ 24) (hi : i < 1000000) (hv23 : v ≠ 23) (hn : n = 300) (kk : HP w d Q (i + 1) (siM M 118 8 (nI 1))) : HP w d Q i M := by
  refine a_iload rfl dX2_runThrough_48 ?_
  refine a_ldc kX2_49 dX2_runThrough_50 ?_
  refine a_eqi (y := nI 1000000) rfl ?_
  refine n_icmp_ge 142 (by omega) (by omega) dX2_runThrough_52 (by decide) (fun h_52 => absurd h_52 (by omega)) (fun h_52 => ?_)
  refine a_aload_n rfl dX2_runThrough_55 ?_
  refine g_i hcut (by decide) rfl fX2_45 rfl dX2_runThrough_56 ?_
  refine n_if_ne 142 (by decide) dX2_runThrough_59 (by decide) (fun h => absurd h (by decide)) (fun _ => ?_)
  refine a_aload_n rfl dX2_runThrough_62 ?_
  refine g_i hat (by decide) rfl fX2_27 rfl dX2_runThrough_63 ?_
  refine n_if_lt (tgt := 142) (by omega) dX2_runThrough_66 (by decide) ?_
  refine a_aload_n rfl dX2_runThrough_69 ?_
  refine g_i hat (by decide) rfl fX2_27 rfl dX2_runThrough_70 ?_
  refine a_aload_n rfl dX2_runThrough_73 ?_
  refine g_i hlen (isW_lt hw (i := 13) (by decide)) (layW_13 hw) fX2_50 rfl dX2_runThrough_74 ?_
  refine n_icmp_ge 142 (by omega) (by omega) dX2_runThrough_77 (by decide) (fun h_77 => absurd h_77 (by omega)) (fun h_77 => ?_)
  refine a_aload_n rfl dX2_runThrough_80 ?_
  refine a_geta dX2_runThrough_81 fX2_53 (isW_lt hw (i := 13) (by decide)) (layW_13 hw) rfl ?_
  refine a_aload_n rfl dX2_runThrough_84 ?_
  refine g_i hat (by decide) rfl fX2_27 rfl dX2_runThrough_85 ?_
  refine v_iald (by omega) hyv (isW_lt hw (i := 14) (by decide)) (layW_14 hw) (by decide) dX2_runThrough_88 ?_
  refine n_bipush 23 rfl dX2_runThrough_89 ?_
  refine n_icmp_ne 102 (by omega) (by omega) dX2_runThrough_91 (by decide) (fun h_91 => ?_) (fun h_91 => absurd h_91 (by omega))
  refine a_aload_n rfl dX2_runThrough_102 ?_
  refine g_i hst (by decide) rfl fX2_30 rfl dX2_runThrough_103 ?_
  refine n_sipush 300 rfl dX2_runThrough_106 ?_
  refine n_icmp_lt 120 (by omega) (by omega) dX2_runThrough_109 (by decide) (fun h_109 => absurd h_109 (by omega)) (fun h_109 => ?_)
  refine a_aload_n rfl dX2_runThrough_112 ?_
  refine n_iconst 1 rfl dX2_runThrough_113 ?_
  refine a_putz dX2_runThrough_114 pX2_45 (by decide) rfl rfl (Or.inr rfl) ?_
  refine a_goto 136 dX2_runThrough_117 (by decide) ?_
  refine n_iinc (c := 1) rfl rfl (by decide) rfl dX2_runThrough_136 ?_
  refine a_goto 48 dX2_runThrough_139 (by decide) ?_
  exact a_bk kk ⟨rfl, rfl, rfl, rfl, trivial⟩

set_option maxRecDepth 100000 in
set_option maxHeartbeats 800000 in
theorem rt_end {w d i n a v len : Nat} {Q : Option Value → Mm → Prop} (hw : isW w) {M : Mm} (hat : M.1 118 1 = nI a) (hst : M.1 118 3 = nI n) (hcut : M.1 118 8 = nI 0) (hlen : M.1 (w + 13) 2 = nI len) (hl60 : len ≤ 60) (ha : a < len) (hyv : M.1 (w + 14) a = nI v) (hv : v ≤ 24) (hi : i < 1000000) (hv23 : v = 23) {P : Mm → Prop} (hA : ∀ {Q' : Option Value → Mm → Prop}, (∀ M', P M' → Q' none M') → ∀ d, AMt miX2_passEnd (d + 1) [.ref 118, .ref (w + 13)] M Q') (kk : ∀ M', P M' → HP w d Q (i + 1) M') : HP w d Q i M := by
  refine a_iload rfl dX2_runThrough_48 ?_
  refine a_ldc kX2_49 dX2_runThrough_50 ?_
  refine a_eqi (y := nI 1000000) rfl ?_
  refine n_icmp_ge 142 (by omega) (by omega) dX2_runThrough_52 (by decide) (fun h_52 => absurd h_52 (by omega)) (fun h_52 => ?_)
  refine a_aload_n rfl dX2_runThrough_55 ?_
  refine g_i hcut (by decide) rfl fX2_45 rfl dX2_runThrough_56 ?_
  refine n_if_ne 142 (by decide) dX2_runThrough_59 (by decide) (fun h => absurd h (by decide)) (fun _ => ?_)
  refine a_aload_n rfl dX2_runThrough_62 ?_
  refine g_i hat (by decide) rfl fX2_27 rfl dX2_runThrough_63 ?_
  refine n_if_lt (tgt := 142) (by omega) dX2_runThrough_66 (by decide) ?_
  refine a_aload_n rfl dX2_runThrough_69 ?_
  refine g_i hat (by decide) rfl fX2_27 rfl dX2_runThrough_70 ?_
  refine a_aload_n rfl dX2_runThrough_73 ?_
  refine g_i hlen (isW_lt hw (i := 13) (by decide)) (layW_13 hw) fX2_50 rfl dX2_runThrough_74 ?_
  refine n_icmp_ge 142 (by omega) (by omega) dX2_runThrough_77 (by decide) (fun h_77 => absurd h_77 (by omega)) (fun h_77 => ?_)
  refine a_aload_n rfl dX2_runThrough_80 ?_
  refine a_geta dX2_runThrough_81 fX2_53 (isW_lt hw (i := 13) (by decide)) (layW_13 hw) rfl ?_
  refine a_aload_n rfl dX2_runThrough_84 ?_
  refine g_i hat (by decide) rfl fX2_27 rfl dX2_runThrough_85 ?_
  refine v_iald (by omega) hyv (isW_lt hw (i := 14) (by decide)) (layW_14 hw) (by decide) dX2_runThrough_88 ?_
  refine n_bipush 23 rfl dX2_runThrough_89 ?_
  refine n_icmp_ne 102 (by omega) (by omega) dX2_runThrough_91 (by decide) (fun h_91 => absurd h_91 (by omega)) (fun h_91 => ?_)
  refine a_aload_n rfl dX2_runThrough_94 ?_
  refine a_aload_n rfl dX2_runThrough_95 ?_
  refine n_callV (mi' := miX2_passEnd) dX2_runThrough_96 lX2_58 mX2_passEnd (by decide) rfl rfl rfl (hA (fun M_96 hp_96 => ?_) d) rfl rfl (by omega) (by decide) (Nat.le_of_ble_eq_true rfl)
  show AW _ _ _ _ _ _ _
  refine a_goto 136 dX2_runThrough_99 (by decide) ?_
  refine n_iinc (c := 1) rfl rfl (by decide) rfl dX2_runThrough_136 ?_
  refine a_goto 48 dX2_runThrough_139 (by decide) ?_
  exact a_bk (kk _ hp_96) ⟨rfl, rfl, rfl, rfl, trivial⟩

set_option maxRecDepth 100000 in
set_option maxHeartbeats 800000 in
theorem rt_x1 {w d i : Nat} {Q : Option Value → Mm → Prop} (hw : isW w) {M : Mm} (hcut : M.1 118 8 = nI 1) (hi : i < 1000001) (hQ : Q none M) : HP w d Q i M := by
  refine a_iload rfl dX2_runThrough_48 ?_
  refine a_ldc kX2_49 dX2_runThrough_50 ?_
  refine a_eqi (y := nI 1000000) rfl ?_
  refine n_icmp_ge 142 (by omega) (by omega) dX2_runThrough_52 (by decide) (fun h_52 => ?_) (fun h_52 => ?_)
  · refine a_vret dX2_runThrough_142 rfl ?_
    exact hQ
  · refine a_aload_n rfl dX2_runThrough_55 ?_
    refine g_i hcut (by decide) rfl fX2_45 rfl dX2_runThrough_56 ?_
    refine n_if_ne 142 (by decide) dX2_runThrough_59 (by decide) (fun _ => ?_) (fun h => absurd h (by decide))
    refine a_vret dX2_runThrough_142 rfl ?_
    exact hQ

set_option maxRecDepth 100000 in
set_option maxHeartbeats 800000 in
theorem rt_x2 {w d i a len : Nat} {Q : Option Value → Mm → Prop} (hw : isW w) {M : Mm} (hat : M.1 118 1 = nI a) (hcut : M.1 118 8 = nI 0) (hlen : M.1 (w + 13) 2 = nI len) (hl60 : len ≤ 60) (ha : len ≤ a) (ha6 : a ≤ 60) (hi : i < 1000001) (hQ : Q none M) : HP w d Q i M := by
  refine a_iload rfl dX2_runThrough_48 ?_
  refine a_ldc kX2_49 dX2_runThrough_50 ?_
  refine a_eqi (y := nI 1000000) rfl ?_
  refine n_icmp_ge 142 (by omega) (by omega) dX2_runThrough_52 (by decide) (fun h_52 => ?_) (fun h_52 => ?_)
  · refine a_vret dX2_runThrough_142 rfl ?_
    exact hQ
  · refine a_aload_n rfl dX2_runThrough_55 ?_
    refine g_i hcut (by decide) rfl fX2_45 rfl dX2_runThrough_56 ?_
    refine n_if_ne 142 (by decide) dX2_runThrough_59 (by decide) (fun h => absurd h (by decide)) (fun _ => ?_)
    refine a_aload_n rfl dX2_runThrough_62 ?_
    refine g_i hat (by decide) rfl fX2_27 rfl dX2_runThrough_63 ?_
    refine n_if_lt (tgt := 142) (by omega) dX2_runThrough_66 (by decide) ?_
    refine a_aload_n rfl dX2_runThrough_69 ?_
    refine g_i hat (by decide) rfl fX2_27 rfl dX2_runThrough_70 ?_
    refine a_aload_n rfl dX2_runThrough_73 ?_
    refine g_i hlen (isW_lt hw (i := 13) (by decide)) (layW_13 hw) fX2_50 rfl dX2_runThrough_74 ?_
    refine n_icmp_ge 142 (by omega) (by omega) dX2_runThrough_77 (by decide) (fun h_77 => ?_) (fun h_77 => absurd h_77 (by omega))
    refine a_vret dX2_runThrough_142 rfl ?_
    exact hQ

set_option maxHeartbeats 400000 in
theorem rt_in13 {w d i : Nat} {Q : Option Value → Mm → Prop} (hw : isW w) {M0 M : Mm} {S0 S : ST} {Y : YR} {tl : Nat → Int32} {a dr mi br cr n : Nat} (hY0 : YX (w + 13) M0 Y) (hWY : WFY S0 Y) (ha : a < Y.2.1) (hC : CF w (S0 0 1) M0 M a tl ((S, dr, mi, br, cr), n, 0, 0)) (hG : GF S0 ((S, dr, mi, br, cr), n, 0, 0)) (hn : ¬ n = 300) (e : Y.2.2 a 0 = 13) (hi : i < 1000000) (kk : ∀ M', CF w (S0 0 1) M0 M' (a + 1) tl (rDay (Y.2.2 a 2) (S, dr, mi, br, cr), n + 1, 0, 0) → HP w d Q (i + 1) M') : HP w d Q i M := by
  obtain ⟨hF, hd9, hd0, hdr, z2, z4, z5⟩ : WF S ∧ S 0 1 ≤ 9999 ∧ S0 0 1 ≤ S 0 1 ∧ dr < 65536 ∧ S 0 2 = S0 0 2 ∧ S 0 4 = S0 0 4 ∧ S 0 5 = S0 0 5 := hG.1
  have hn3 : n ≤ 300 := hG.2.2.1
  obtain ⟨y0, y1, y2, y3⟩ := YX_hy hw hY0 hC.2.2.2.2.2
  obtain ⟨u0, u1, u2, u3, u4⟩ := y3 a ha
  have hl6 := hWY.2.1
  have hww : w = 17 ∨ w = 37 ∨ w = 58 ∨ w = 78 ∨ w = 98 := hw
  have hR := RW_at (j := 3) (x := nI (n + 1)) hC.1 hw (Or.inr (Or.inl rfl))
  have a1 : (siM M 118 3 (nI (n + 1))).1 118 1 = nI a := siN hC.2.1 (by omega)
  have a2 : ∀ j, (siM M 118 3 (nI (n + 1))).1 119 j = tl j := fun j => siN (hC.2.2.2.2.1 j) (by omega)
  have a3 : (siM M 118 3 (nI (n + 1))).1 (w + 14) a = nI (Y.2.2 a 0) := siN u0 (by omega)
  have a4 : (siM M 118 3 (nI (n + 1))).1 (w + 18) a = nI (Y.2.2 a 2) := siN u2 (by omega)
  refine rt_do (n := n) (v := Y.2.2 a 0) (a := a) (len := Y.2.1) hw hC.2.1 hC.2.2.1 hC.2.2.2.1 y2 hl6 ha u0 (by omega) hi (by omega) (by omega) (P := fun M' => CF w (S0 0 1) M0 M' (a + 1) tl (rDay (Y.2.2 a 2) (S, dr, mi, br, cr), n + 1, 0, 0)) ?_ kk
  intro Q' hQ d
  refine c_doStep13 (s := Y.2.2 a) hw hR hF hd9 hd0 hdr (by omega) a1 a2 a3 a4 e ((hWY.2.2.2.2 a ha).2.2.2.1 e).2 (fun M' r p t g => ?_) d
  exact hQ M' (CF_of hw hC r p t g)

set_option maxHeartbeats 400000 in
theorem rt_in14 {w d i : Nat} {Q : Option Value → Mm → Prop} (hw : isW w) {M0 M : Mm} {S0 S : ST} {Y : YR} {tl : Nat → Int32} {a dr mi br cr n : Nat} (hY0 : YX (w + 13) M0 Y) (hWY : WFY S0 Y) (ha : a < Y.2.1) (hC : CF w (S0 0 1) M0 M a tl ((S, dr, mi, br, cr), n, 0, 0)) (hG : GF S0 ((S, dr, mi, br, cr), n, 0, 0)) (hn : ¬ n = 300) (e : Y.2.2 a 0 = 14) (hi : i < 1000000) (kk : ∀ M', CF w (S0 0 1) M0 M' (a + 1) tl (rBr (Y.2.2 a 2) (S, dr, mi, br, cr), n + 1, 0, 0) → HP w d Q (i + 1) M') : HP w d Q i M := by
  obtain ⟨hF, hd9, hd0, hdr, z2, z4, z5⟩ : WF S ∧ S 0 1 ≤ 9999 ∧ S0 0 1 ≤ S 0 1 ∧ dr < 65536 ∧ S 0 2 = S0 0 2 ∧ S 0 4 = S0 0 4 ∧ S 0 5 = S0 0 5 := hG.1
  have hn3 : n ≤ 300 := hG.2.2.1
  obtain ⟨y0, y1, y2, y3⟩ := YX_hy hw hY0 hC.2.2.2.2.2
  obtain ⟨u0, u1, u2, u3, u4⟩ := y3 a ha
  have hl6 := hWY.2.1
  have hww : w = 17 ∨ w = 37 ∨ w = 58 ∨ w = 78 ∨ w = 98 := hw
  have hR := RW_at (j := 3) (x := nI (n + 1)) hC.1 hw (Or.inr (Or.inl rfl))
  have a1 : (siM M 118 3 (nI (n + 1))).1 118 1 = nI a := siN hC.2.1 (by omega)
  have a2 : ∀ j, (siM M 118 3 (nI (n + 1))).1 119 j = tl j := fun j => siN (hC.2.2.2.2.1 j) (by omega)
  have a3 : (siM M 118 3 (nI (n + 1))).1 (w + 14) a = nI (Y.2.2 a 0) := siN u0 (by omega)
  have a4 : (siM M 118 3 (nI (n + 1))).1 (w + 18) a = nI (Y.2.2 a 2) := siN u2 (by omega)
  refine rt_do (n := n) (v := Y.2.2 a 0) (a := a) (len := Y.2.1) hw hC.2.1 hC.2.2.1 hC.2.2.2.1 y2 hl6 ha u0 (by omega) hi (by omega) (by omega) (P := fun M' => CF w (S0 0 1) M0 M' (a + 1) tl (rBr (Y.2.2 a 2) (S, dr, mi, br, cr), n + 1, 0, 0)) ?_ kk
  intro Q' hQ d
  refine c_doStep14 (s := Y.2.2 a) hw hR hF hd9 hd0 hdr (by omega) a1 a2 a3 a4 e ((hWY.2.2.2.2 a ha).2.2.2.2.1 e) (fun M' r p t g => ?_) d
  exact hQ M' (CF_of hw hC r p t g)

set_option maxHeartbeats 400000 in
theorem rt_in15 {w d i : Nat} {Q : Option Value → Mm → Prop} (hw : isW w) {M0 M : Mm} {S0 S : ST} {Y : YR} {tl : Nat → Int32} {a dr mi br cr n : Nat} (hY0 : YX (w + 13) M0 Y) (hWY : WFY S0 Y) (ha : a < Y.2.1) (hC : CF w (S0 0 1) M0 M a tl ((S, dr, mi, br, cr), n, 0, 0)) (hG : GF S0 ((S, dr, mi, br, cr), n, 0, 0)) (hn : ¬ n = 300) (e : Y.2.2 a 0 = 15) (hi : i < 1000000) (kk : ∀ M', CF w (S0 0 1) M0 M' (a + 1) tl (rCr (Y.2.2 a 1) (Y.2.2 a 2) (S, dr, mi, br, cr), n + 1, 0, 0) → HP w d Q (i + 1) M') : HP w d Q i M := by
  obtain ⟨hF, hd9, hd0, hdr, z2, z4, z5⟩ : WF S ∧ S 0 1 ≤ 9999 ∧ S0 0 1 ≤ S 0 1 ∧ dr < 65536 ∧ S 0 2 = S0 0 2 ∧ S 0 4 = S0 0 4 ∧ S 0 5 = S0 0 5 := hG.1
  have hn3 : n ≤ 300 := hG.2.2.1
  obtain ⟨y0, y1, y2, y3⟩ := YX_hy hw hY0 hC.2.2.2.2.2
  obtain ⟨u0, u1, u2, u3, u4⟩ := y3 a ha
  have hl6 := hWY.2.1
  have hww : w = 17 ∨ w = 37 ∨ w = 58 ∨ w = 78 ∨ w = 98 := hw
  have hR := RW_at (j := 3) (x := nI (n + 1)) hC.1 hw (Or.inr (Or.inl rfl))
  have a1 : (siM M 118 3 (nI (n + 1))).1 118 1 = nI a := siN hC.2.1 (by omega)
  have a2 : ∀ j, (siM M 118 3 (nI (n + 1))).1 119 j = tl j := fun j => siN (hC.2.2.2.2.1 j) (by omega)
  have a3 : (siM M 118 3 (nI (n + 1))).1 (w + 14) a = nI (Y.2.2 a 0) := siN u0 (by omega)
  have a4 : (siM M 118 3 (nI (n + 1))).1 (w + 18) a = nI (Y.2.2 a 2) := siN u2 (by omega)
  refine rt_do (n := n) (v := Y.2.2 a 0) (a := a) (len := Y.2.1) hw hC.2.1 hC.2.2.1 hC.2.2.2.1 y2 hl6 ha u0 (by omega) hi (by omega) (by omega) (P := fun M' => CF w (S0 0 1) M0 M' (a + 1) tl (rCr (Y.2.2 a 1) (Y.2.2 a 2) (S, dr, mi, br, cr), n + 1, 0, 0)) ?_ kk
  intro Q' hQ d
  refine c_doStep15 (s := Y.2.2 a) hw hR hF hd9 hd0 hdr (by omega) a1 a2 a3 a4 e (siN (u1 (Or.inl e)) (by omega)) (by rw [z2]; exact ((hWY.2.2.2.2 a ha).2.2.2.2.2.1 e).1) ((hWY.2.2.2.2 a ha).2.2.2.2.2.1 e).2.2 (fun M' r p t g => ?_) d
  exact hQ M' (CF_of hw hC r p t g)

set_option maxHeartbeats 400000 in
theorem rt_in16 {w d i : Nat} {Q : Option Value → Mm → Prop} (hw : isW w) {M0 M : Mm} {S0 S : ST} {Y : YR} {tl : Nat → Int32} {a dr mi br cr n : Nat} (hY0 : YX (w + 13) M0 Y) (hWY : WFY S0 Y) (ha : a < Y.2.1) (hC : CF w (S0 0 1) M0 M a tl ((S, dr, mi, br, cr), n, 0, 0)) (hG : GF S0 ((S, dr, mi, br, cr), n, 0, 0)) (hn : ¬ n = 300) (e : Y.2.2 a 0 = 16) (hi : i < 1000000) (kk : ∀ M', CF w (S0 0 1) M0 M' (a + 1) tl (rTu (Y.2.2 a 1) (Y.2.2 a 2) (S, dr, mi, br, cr), n + 1, 0, 0) → HP w d Q (i + 1) M') : HP w d Q i M := by
  obtain ⟨hF, hd9, hd0, hdr, z2, z4, z5⟩ : WF S ∧ S 0 1 ≤ 9999 ∧ S0 0 1 ≤ S 0 1 ∧ dr < 65536 ∧ S 0 2 = S0 0 2 ∧ S 0 4 = S0 0 4 ∧ S 0 5 = S0 0 5 := hG.1
  have hn3 : n ≤ 300 := hG.2.2.1
  obtain ⟨y0, y1, y2, y3⟩ := YX_hy hw hY0 hC.2.2.2.2.2
  obtain ⟨u0, u1, u2, u3, u4⟩ := y3 a ha
  have hl6 := hWY.2.1
  have hww : w = 17 ∨ w = 37 ∨ w = 58 ∨ w = 78 ∨ w = 98 := hw
  have hR := RW_at (j := 3) (x := nI (n + 1)) hC.1 hw (Or.inr (Or.inl rfl))
  have a1 : (siM M 118 3 (nI (n + 1))).1 118 1 = nI a := siN hC.2.1 (by omega)
  have a2 : ∀ j, (siM M 118 3 (nI (n + 1))).1 119 j = tl j := fun j => siN (hC.2.2.2.2.1 j) (by omega)
  have a3 : (siM M 118 3 (nI (n + 1))).1 (w + 14) a = nI (Y.2.2 a 0) := siN u0 (by omega)
  have a4 : (siM M 118 3 (nI (n + 1))).1 (w + 18) a = nI (Y.2.2 a 2) := siN u2 (by omega)
  refine rt_do (n := n) (v := Y.2.2 a 0) (a := a) (len := Y.2.1) hw hC.2.1 hC.2.2.1 hC.2.2.2.1 y2 hl6 ha u0 (by omega) hi (by omega) (by omega) (P := fun M' => CF w (S0 0 1) M0 M' (a + 1) tl (rTu (Y.2.2 a 1) (Y.2.2 a 2) (S, dr, mi, br, cr), n + 1, 0, 0)) ?_ kk
  intro Q' hQ d
  refine c_doStep16 (s := Y.2.2 a) hw hR hF hd9 hd0 hdr (by omega) a1 a2 a3 a4 e (siN (u1 (Or.inr (Or.inl e))) (by omega)) (by rw [z4]; exact ((hWY.2.2.2.2 a ha).2.2.2.2.2.2.1 e).1) (by rw [z2]; exact ((hWY.2.2.2.2 a ha).2.2.2.2.2.2.1 e).2) (fun M' r p t g => ?_) d
  exact hQ M' (CF_of hw hC r p t g)

set_option maxHeartbeats 400000 in
theorem rt_in17 {w d i : Nat} {Q : Option Value → Mm → Prop} (hw : isW w) {M0 M : Mm} {S0 S : ST} {Y : YR} {tl : Nat → Int32} {a dr mi br cr n : Nat} (hY0 : YX (w + 13) M0 Y) (hWY : WFY S0 Y) (ha : a < Y.2.1) (hC : CF w (S0 0 1) M0 M a tl ((S, dr, mi, br, cr), n, 0, 0)) (hG : GF S0 ((S, dr, mi, br, cr), n, 0, 0)) (hn : ¬ n = 300) (e : Y.2.2 a 0 = 17) (hi : i < 1000000) (kk : ∀ M', CF w (S0 0 1) M0 M' (a + 1) tl (rAny (S, dr, mi, br, cr), n + 1, 0, 0) → HP w d Q (i + 1) M') : HP w d Q i M := by
  obtain ⟨hF, hd9, hd0, hdr, z2, z4, z5⟩ : WF S ∧ S 0 1 ≤ 9999 ∧ S0 0 1 ≤ S 0 1 ∧ dr < 65536 ∧ S 0 2 = S0 0 2 ∧ S 0 4 = S0 0 4 ∧ S 0 5 = S0 0 5 := hG.1
  have hn3 : n ≤ 300 := hG.2.2.1
  obtain ⟨y0, y1, y2, y3⟩ := YX_hy hw hY0 hC.2.2.2.2.2
  obtain ⟨u0, u1, u2, u3, u4⟩ := y3 a ha
  have hl6 := hWY.2.1
  have hww : w = 17 ∨ w = 37 ∨ w = 58 ∨ w = 78 ∨ w = 98 := hw
  have hR := RW_at (j := 3) (x := nI (n + 1)) hC.1 hw (Or.inr (Or.inl rfl))
  have a1 : (siM M 118 3 (nI (n + 1))).1 118 1 = nI a := siN hC.2.1 (by omega)
  have a2 : ∀ j, (siM M 118 3 (nI (n + 1))).1 119 j = tl j := fun j => siN (hC.2.2.2.2.1 j) (by omega)
  have a3 : (siM M 118 3 (nI (n + 1))).1 (w + 14) a = nI (Y.2.2 a 0) := siN u0 (by omega)
  have a4 : (siM M 118 3 (nI (n + 1))).1 (w + 18) a = nI (Y.2.2 a 2) := siN u2 (by omega)
  refine rt_do (n := n) (v := Y.2.2 a 0) (a := a) (len := Y.2.1) hw hC.2.1 hC.2.2.1 hC.2.2.2.1 y2 hl6 ha u0 (by omega) hi (by omega) (by omega) (P := fun M' => CF w (S0 0 1) M0 M' (a + 1) tl (rAny (S, dr, mi, br, cr), n + 1, 0, 0)) ?_ kk
  intro Q' hQ d
  refine c_doStep17 (s := Y.2.2 a) hw hR hF hd9 hd0 hdr (by omega) a1 a2 a3 a4 e  (fun M' r p t g => ?_) d
  exact hQ M' (CF_of hw hC r p t g)

theorem rt_in {w d i : Nat} {Q : Option Value → Mm → Prop} (hw : isW w) {M0 M : Mm} {S0 S : ST} {Y : YR} {tl : Nat → Int32} {a dr mi br cr n : Nat} (hY0 : YX (w + 13) M0 Y) (hWY : WFY S0 Y) (ha : a < Y.2.1) (hC : CF w (S0 0 1) M0 M a tl ((S, dr, mi, br, cr), n, 0, 0)) (hG : GF S0 ((S, dr, mi, br, cr), n, 0, 0)) (hn : ¬ n = 300) (h17 : Y.2.2 a 0 ≤ 17) (hi : i < 1000000) (kk : ∀ M', CF w (S0 0 1) M0 M' (a + 1) tl (vIn (Y.2.2 a) (S, dr, mi, br, cr), n + 1, 0, 0) → HP w d Q (i + 1) M') : HP w d Q i M := by
  have v1 := (hWY.2.2.2.2 a ha).1
  rcases (show Y.2.2 a 0 = 13 ∨ Y.2.2 a 0 = 14 ∨ Y.2.2 a 0 = 15 ∨ Y.2.2 a 0 = 16 ∨ Y.2.2 a 0 = 17 by omega) with e | e | e | e | e
  · rw [show vIn (Y.2.2 a) (S, dr, mi, br, cr) = rDay (Y.2.2 a 2) (S, dr, mi, br, cr) from if_pos e] at kk
    exact rt_in13 hw hY0 hWY ha hC hG hn e hi kk
  · rw [show vIn (Y.2.2 a) (S, dr, mi, br, cr) = rBr (Y.2.2 a 2) (S, dr, mi, br, cr) from (if_neg (by omega)).trans (if_pos e)] at kk
    exact rt_in14 hw hY0 hWY ha hC hG hn e hi kk
  · rw [show vIn (Y.2.2 a) (S, dr, mi, br, cr) = rCr (Y.2.2 a 1) (Y.2.2 a 2) (S, dr, mi, br, cr) from (if_neg (by omega)).trans ((if_neg (by omega)).trans (if_pos e))] at kk
    exact rt_in15 hw hY0 hWY ha hC hG hn e hi kk
  · rw [show vIn (Y.2.2 a) (S, dr, mi, br, cr) = rTu (Y.2.2 a 1) (Y.2.2 a 2) (S, dr, mi, br, cr) from (if_neg (by omega)).trans ((if_neg (by omega)).trans ((if_neg (by omega)).trans (if_pos e)))] at kk
    exact rt_in16 hw hY0 hWY ha hC hG hn e hi kk
  · rw [show vIn (Y.2.2 a) (S, dr, mi, br, cr) = rAny (S, dr, mi, br, cr) from (if_neg (by omega)).trans ((if_neg (by omega)).trans ((if_neg (by omega)).trans (if_neg (by omega))))] at kk
    exact rt_in17 hw hY0 hWY ha hC hG hn e hi kk

theorem rt_18 {w d i : Nat} {Q : Option Value → Mm → Prop} (hw : isW w) {M0 M : Mm} {S0 S : ST} {Y : YR} {tl : Nat → Int32} {a dr mi br cr n : Nat} (hY0 : YX (w + 13) M0 Y) (hWY : WFY S0 Y) (ha : a < Y.2.1) (hC : CF w (S0 0 1) M0 M a tl ((S, dr, mi, br, cr), n, 0, 0)) (hG : GF S0 ((S, dr, mi, br, cr), n, 0, 0)) (hn : ¬ n = 300) (h18 : Y.2.2 a 0 = 18) (hi : i < 1000000) (kk : ∀ M', CF w (S0 0 1) M0 M' (if soN S (Y.2.2 a) = true then a + 1 else Y.2.2 a 5 + 1) tl ((S, dr, mi, br, cr), n + 1, 0, 0) → HP w d Q (i + 1) M') : HP w d Q i M := by
  obtain ⟨hF, hd9, hd0, hdr, z2, z4, z5⟩ : WF S ∧ S 0 1 ≤ 9999 ∧ S0 0 1 ≤ S 0 1 ∧ dr < 65536 ∧ S 0 2 = S0 0 2 ∧ S 0 4 = S0 0 4 ∧ S 0 5 = S0 0 5 := hG.1
  have hn3 : n ≤ 300 := hG.2.2.1
  obtain ⟨y0, y1, y2, y3⟩ := YX_hy hw hY0 hC.2.2.2.2.2
  obtain ⟨u0, u1, u2, u3, u4⟩ := y3 a ha
  obtain ⟨w1, w2, w3, w4, w5⟩ := (hWY.2.2.2.2 a ha).2.2.2.2.2.2.2.1 h18
  have hl6 := hWY.2.1
  have hww : w = 17 ∨ w = 37 ∨ w = 58 ∨ w = 78 ∨ w = 98 := hw
  have hR := RW_at (j := 3) (x := nI (n + 1)) hC.1 hw (Or.inr (Or.inl rfl))
  refine rt_do (n := n) hw hC.2.1 hC.2.2.1 hC.2.2.2.1 y2 hl6 ha u0 (by omega) hi (by omega) (show n < 300 by omega) (P := fun M' => CF w (S0 0 1) M0 M' (if soN S (Y.2.2 a) = true then a + 1 else Y.2.2 a 5 + 1) tl ((S, dr, mi, br, cr), n + 1, 0, 0)) ?_ kk
  intro Q' hQ d
  exact c_doStep18 hw hR hF hd9 hd0 hdr (by omega) (siN hC.2.1 (by omega)) (fun j => siN (hC.2.2.2.2.1 j) (by omega)) (siN u0 (by omega)) (siN u2 (by omega)) h18 (siN (u1 (Or.inr (Or.inr h18))) (by omega)) (siN (u4 h18).1 (by omega)) (siN (u4 h18).2 (by omega)) (siN u3 (by omega)) ⟨w1, w2⟩ (fun e => by rw [z2]; exact w3 e) (fun e => by rw [z4]; exact w4 e) (fun e => (w5 e).1) (fun e => (w5 e).2) (fun M' r p t g => hQ M' (CF_of hw hC r p t g)) d
theorem rt_22 {w d i : Nat} {Q : Option Value → Mm → Prop} (hw : isW w) {M0 M : Mm} {S0 S : ST} {Y : YR} {tl : Nat → Int32} {a dr mi br cr n : Nat} (hY0 : YX (w + 13) M0 Y) (hWY : WFY S0 Y) (ha : a < Y.2.1) (hC : CF w (S0 0 1) M0 M a tl ((S, dr, mi, br, cr), n, 0, 0)) (hG : GF S0 ((S, dr, mi, br, cr), n, 0, 0)) (hn : ¬ n = 300) (h22 : Y.2.2 a 0 = 22) (hi : i < 1000000) (kk : ∀ M', CF w (S0 0 1) M0 M' (a + 1) (upT tl a (nI (Y.2.2 a 2))) ((S, dr, mi, br, cr), n + 1, 0, 0) → HP w d Q (i + 1) M') : HP w d Q i M := by
  obtain ⟨hF, hd9, hd0, hdr, z2, z4, z5⟩ : WF S ∧ S 0 1 ≤ 9999 ∧ S0 0 1 ≤ S 0 1 ∧ dr < 65536 ∧ S 0 2 = S0 0 2 ∧ S 0 4 = S0 0 4 ∧ S 0 5 = S0 0 5 := hG.1
  have hn3 : n ≤ 300 := hG.2.2.1
  obtain ⟨y0, y1, y2, y3⟩ := YX_hy hw hY0 hC.2.2.2.2.2
  obtain ⟨u0, u1, u2, u3, u4⟩ := y3 a ha
  have hl6 := hWY.2.1
  have hww : w = 17 ∨ w = 37 ∨ w = 58 ∨ w = 78 ∨ w = 98 := hw
  have hR := RW_at (j := 3) (x := nI (n + 1)) hC.1 hw (Or.inr (Or.inl rfl))
  refine rt_do (n := n) hw hC.2.1 hC.2.2.1 hC.2.2.2.1 y2 hl6 ha u0 (by omega) hi (by omega) (show n < 300 by omega) (P := fun M' => CF w (S0 0 1) M0 M' (a + 1) (upT tl a (nI (Y.2.2 a 2))) ((S, dr, mi, br, cr), n + 1, 0, 0)) ?_ kk
  intro Q' hQ d
  exact c_doStep22 hw hR hF hd9 hd0 hdr (by omega) (siN hC.2.1 (by omega)) (fun j => siN (hC.2.2.2.2.1 j) (by omega)) (siN u0 (by omega)) (siN u2 (by omega)) h22 (fun M' r p t g => hQ M' (CF_of hw hC r p t g)) d
theorem rt_24 {w d i : Nat} {Q : Option Value → Mm → Prop} (hw : isW w) {M0 M : Mm} {S0 S : ST} {Y : YR} {tl : Nat → Int32} {a dr mi br cr n : Nat} (hY0 : YX (w + 13) M0 Y) (hWY : WFY S0 Y) (ha : a < Y.2.1) (hC : CF w (S0 0 1) M0 M a tl ((S, dr, mi, br, cr), n, 0, 0)) (hG : GF S0 ((S, dr, mi, br, cr), n, 0, 0)) (hn : ¬ n = 300) (h24 : Y.2.2 a 0 = 24) (hi : i < 1000000) (kx : ∀ M', CE w (S0 0 1) M0 M' ((S, dr, mi, br, cr), n + 1, 1, 0) → Q none M') : HP w d Q i M := by
  obtain ⟨hF, hd9, hd0, hdr, z2, z4, z5⟩ : WF S ∧ S 0 1 ≤ 9999 ∧ S0 0 1 ≤ S 0 1 ∧ dr < 65536 ∧ S 0 2 = S0 0 2 ∧ S 0 4 = S0 0 4 ∧ S 0 5 = S0 0 5 := hG.1
  have hn3 : n ≤ 300 := hG.2.2.1
  obtain ⟨y0, y1, y2, y3⟩ := YX_hy hw hY0 hC.2.2.2.2.2
  obtain ⟨u0, u1, u2, u3, u4⟩ := y3 a ha
  have hl6 := hWY.2.1
  have hww : w = 17 ∨ w = 37 ∨ w = 58 ∨ w = 78 ∨ w = 98 := hw
  have hR := RW_at (j := 3) (x := nI (n + 1)) hC.1 hw (Or.inr (Or.inl rfl))
  refine rt_do (n := n) hw hC.2.1 hC.2.2.1 hC.2.2.2.1 y2 hl6 ha u0 (by omega) hi (by omega) (show n < 300 by omega) (P := fun M' => CF w (S0 0 1) M0 M' Y.2.1 tl ((S, dr, mi, br, cr), n + 1, 0, 0)) ?_ (fun M' h => ?_)
  · intro Q' hQ d
    exact c_doStep24 hw hR hF hd9 hd0 hdr (by omega) (siN hC.2.1 (by omega)) (fun j => siN (hC.2.2.2.2.1 j) (by omega)) (siN u0 (by omega)) (siN u2 (by omega)) h24 (siN y2 (by omega)) (fun M' r p t g => hQ M' (CF_of hw hC r p t g)) d
  · exact rt_x2 hw h.2.1 h.2.2.2.1 (YX_hy hw hY0 h.2.2.2.2.2).2.2.1 hl6 (Nat.le_refl _) hl6 (by omega) (kx M' h.e)
theorem rt_300 {w d i : Nat} {Q : Option Value → Mm → Prop} (hw : isW w) {M0 M : Mm} {S0 S : ST} {Y : YR} {tl : Nat → Int32} {a dr mi br cr n : Nat} (hY0 : YX (w + 13) M0 Y) (hWY : WFY S0 Y) (ha : a < Y.2.1) (hv : Y.2.2 a 0 ≠ 23) (hC : CF w (S0 0 1) M0 M a tl ((S, dr, mi, br, cr), n, 0, 0)) (hn : n = 300) (hi : i < 1000000) (kx : ∀ M', CE w (S0 0 1) M0 M' ((S, dr, mi, br, cr), 300, 1, 1) → Q none M') : HP w d Q i M := by
  obtain ⟨y0, y1, y2, y3⟩ := YX_hy hw hY0 hC.2.2.2.2.2
  obtain ⟨u0, u1, u2, u3, u4⟩ := y3 a ha
  have v2 := (hWY.2.2.2.2 a ha).2.1
  have hl6 := hWY.2.1
  subst hn
  refine rt_cut hw hC.2.1 hC.2.2.1 hC.2.2.2.1 y2 hl6 ha u0 v2 hi hv rfl ?_
  exact rt_x1 hw siS (by omega) (kx _ ⟨RW_at hC.1 hw (Or.inr (Or.inr rfl)), siN hC.2.2.1 (by omega), siS, hC.2.2.2.2.2.si (Or.inr (Or.inl rfl))⟩)
theorem rt_e18 {w d i : Nat} {Q : Option Value → Mm → Prop} (hw : isW w) {M0 M : Mm} {S0 S : ST} {Y : YR} {tl : Nat → Int32} {a p dr mi br cr n : Nat} (hY0 : YX (w + 13) M0 Y) (hWY : WFY S0 Y) (ha : a < Y.2.1) (hC : CF w (S0 0 1) M0 M a tl ((S, dr, mi, br, cr), n, 0, 0)) (hG : GF S0 ((S, dr, mi, br, cr), n, 0, 0)) (h23 : Y.2.2 a 0 = 23) (hp : Y.2.2 a 5 = p) (hp18 : Y.2.2 p 0 = 18) (hpl : p < Y.2.1) (hi : i < 1000000) (kk : ∀ M', CF w (S0 0 1) M0 M' (a + 1) tl ((S, dr, mi, br, cr), n, 0, 0) → HP w d Q (i + 1) M') : HP w d Q i M := by
  obtain ⟨hF, hd9, hd0, hdr, z2, z4, z5⟩ : WF S ∧ S 0 1 ≤ 9999 ∧ S0 0 1 ≤ S 0 1 ∧ dr < 65536 ∧ S 0 2 = S0 0 2 ∧ S 0 4 = S0 0 4 ∧ S 0 5 = S0 0 5 := hG.1
  obtain ⟨y0, y1, y2, y3⟩ := YX_hy hw hY0 hC.2.2.2.2.2
  obtain ⟨u0, u1, u2, u3, u4⟩ := y3 a ha
  have hl6 := hWY.2.1
  have hww : w = 17 ∨ w = 37 ∨ w = 58 ∨ w = 78 ∨ w = 98 := hw
  refine rt_end hw hC.2.1 hC.2.2.1 hC.2.2.2.1 y2 hl6 ha u0 (by omega) hi h23 (P := fun M' => CF w (S0 0 1) M0 M' (a + 1) tl ((S, dr, mi, br, cr), n, 0, 0)) ?_ kk
  intro Q' hQ d
  exact c_passEnd18 hw hC.1 hF hd9 hd0 hdr (by omega) (by omega) hC.2.1 hC.2.2.2.2.1 (u3.trans (congrArg nI hp)) ((y3 p hpl).1.trans (congrArg nI hp18)) (fun M' r p t g => hQ M' (CF_end hw hC r p t g)) d
theorem rt_e22 {w d i : Nat} {Q : Option Value → Mm → Prop} (hw : isW w) {M0 M : Mm} {S0 S : ST} {Y : YR} {tl : Nat → Int32} {a p q dr mi br cr n : Nat} (hY0 : YX (w + 13) M0 Y) (hWY : WFY S0 Y) (ha : a < Y.2.1) (hC : CF w (S0 0 1) M0 M a tl ((S, dr, mi, br, cr), n, 0, 0)) (hG : GF S0 ((S, dr, mi, br, cr), n, 0, 0)) (h23 : Y.2.2 a 0 = 23) (hp : Y.2.2 a 5 = p) (hp22 : Y.2.2 p 0 = 22) (hpl : p < Y.2.1) (htq : tl p = nI q) (hq1 : 1 ≤ q) (hq9 : q ≤ 99) (hi : i < 1000000) (kk : ∀ M', CF w (S0 0 1) M0 M' (if q = 1 then a + 1 else p + 1) (upT tl p (nI (q - 1))) ((S, dr, mi, br, cr), n, 0, 0) → HP w d Q (i + 1) M') : HP w d Q i M := by
  obtain ⟨hF, hd9, hd0, hdr, z2, z4, z5⟩ : WF S ∧ S 0 1 ≤ 9999 ∧ S0 0 1 ≤ S 0 1 ∧ dr < 65536 ∧ S 0 2 = S0 0 2 ∧ S 0 4 = S0 0 4 ∧ S 0 5 = S0 0 5 := hG.1
  obtain ⟨y0, y1, y2, y3⟩ := YX_hy hw hY0 hC.2.2.2.2.2
  obtain ⟨u0, u1, u2, u3, u4⟩ := y3 a ha
  have hl6 := hWY.2.1
  have hww : w = 17 ∨ w = 37 ∨ w = 58 ∨ w = 78 ∨ w = 98 := hw
  refine rt_end hw hC.2.1 hC.2.2.1 hC.2.2.2.1 y2 hl6 ha u0 (by omega) hi h23 (P := fun M' => CF w (S0 0 1) M0 M' (if q = 1 then a + 1 else p + 1) (upT tl p (nI (q - 1))) ((S, dr, mi, br, cr), n, 0, 0)) ?_ kk
  intro Q' hQ d
  exact c_passEnd22 hw hC.1 hF hd9 hd0 hdr (by omega) (by omega) hC.2.1 hC.2.2.2.2.1 (u3.trans (congrArg nI hp)) ((y3 p hpl).1.trans (congrArg nI hp22)) htq hq1 hq9 (fun M' r p t g => hQ M' (CF_end hw hC r p t g)) d

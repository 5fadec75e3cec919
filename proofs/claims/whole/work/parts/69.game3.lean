def bI : Option (Nat × Nat) → Int32
  | none => nI 0
  | some r => gI r.1
def aI : Option (Nat × Nat) → Int32
  | none => -1
  | some r => nI r.2
theorem aA_n {u : Nat} {ok : Nat → Bool} {V : Nat → Nat} {k : Nat} (hk : k < 1000) (h : (aI (gA u ok V k)).toInt < 0) : gA u ok V k = none := by
  cases e : gA u ok V k with
  | none => rfl
  | some r =>
    exfalso
    rw [e] at h
    have h1 := (gA_in e).1
    have h2 : (nI r.2).toInt = (r.2 : Int) := nI_toInt (by omega)
    have h : (nI r.2).toInt < 0 := h
    omega
theorem aA_s {u : Nat} {ok : Nat → Bool} {V : Nat → Nat} {k : Nat} (h : ¬ (aI (gA u ok V k)).toInt < 0) : ∃ r, gA u ok V k = some r := by
  cases e : gA u ok V k with
  | none => rw [e] at h; exact absurd (show (-1 : Int32).toInt < 0 by decide) h
  | some r => exact ⟨r, rfl⟩
theorem bI_V (p q f u : Nat) (S : ST) : bI (gR p q f u S) = gI (gV p q (f + 1) u S) := by
  obtain ⟨r, hr⟩ := gA_ex (u := u) (ok := gOk S) (V := gX p q f u S) (gOk_0 S)
  rw [gV_s]
  unfold gR
  rw [hr]; rfl
theorem aI_V (p q f u : Nat) (S : ST) : aI (gR p q f u S) = nI (gAt (gR p q f u S)) := by
  obtain ⟨r, hr⟩ := gA_ex (u := u) (ok := gOk S) (V := gX p q f u S) (gOk_0 S)
  unfold gR
  rw [hr]; rfl
theorem gOk_f {S : ST} {i : Nat} (h1 : ¬ i = S 0 5) (h2 : ¬ (S 11 i = 0 ∧ S 2 (S 9 i) < 100)) : gOk S i = false := by
  unfold gOk canB
  rw [decide_eq_false h1, Bool.false_or]
  by_cases a : S 11 i = 0
  · rw [decide_eq_false (show ¬ S 2 (S 9 i) < 100 from fun q => h2 ⟨a, q⟩), Bool.and_false]
  · rw [decide_eq_false a, Bool.false_and]
theorem gOk_t {S : ST} {i : Nat} (h1 : S 11 i = 0) (h2 : S 2 (S 9 i) < 100) : gOk S i = true := by
  unfold gOk canB
  rw [decide_eq_true h1, decide_eq_true h2, Bool.and_true, Bool.or_true]
theorem bet_1 {u v w : Nat} (hu : ¬ u = 0) (h1 : u ≤ 1) (h : w < v) : bet u v w = true := by unfold bet; rw [if_pos (by omega)]; exact decide_eq_true h
theorem bet_1n {u v w : Nat} (hu : ¬ u = 0) (h1 : u ≤ 1) (h : ¬ w < v) : ¬ bet u v w = true := by unfold bet; rw [if_pos (by omega)]; exact fun q => h (of_decide_eq_true q)
theorem bet_0 {u v w : Nat} (hu : u = 0) (h : v < w) : bet u v w = true := by unfold bet; rw [if_neg (by omega)]; exact decide_eq_true h
theorem bet_0n {u v w : Nat} (hu : u = 0) (h : ¬ v < w) : ¬ bet u v w = true := by unfold bet; rw [if_neg (by omega)]; exact fun q => h (of_decide_eq_true q)
theorem siM_un2 {M : Mm} {k a b : Nat} {x y v w : Int32} (hne : a ≠ b) (ha : M.1 k a = v) (hb : M.1 k b = w) : siM (siM (siM (siM M k a x) k b y) k a v) k b w = M := by
  refine Prod.ext (funext fun i => funext fun j => ?_) rfl
  show (if i = k ∧ j = b then w else if i = k ∧ j = a then v else if i = k ∧ j = b then y else if i = k ∧ j = a then x else M.1 i j) = M.1 i j
  by_cases e : i = k ∧ j = b
  · rw [if_pos e, e.1, e.2, hb]
  · rw [if_neg e, if_neg e]
    by_cases e2 : i = k ∧ j = a
    · rw [if_pos e2, e2.1, e2.2, ha]
    · rw [if_neg e2, if_neg e2]
def whyG (T : TT) (p q n : Int32) (l : Nat) : Nat := if inN p (tS T 0 4) ∧ inN q (tS T 0 4) then (if ¬ idx p = idx q ∧ (l : Int) ≤ n.toInt ∧ n.toInt ≤ 4 then 0 else 5) else 2
theorem whyG_le (T : TT) (p q n : Int32) (l : Nat) : whyG T p q n l ≤ 5 := by unfold whyG; split <;> (try split) <;> omega
theorem whyG_0 {T : TT} {p q n : Int32} {l : Nat} (h : whyG T p q n l = 0) : inN p (tS T 0 4) ∧ inN q (tS T 0 4) ∧ ¬ idx p = idx q ∧ (l : Int) ≤ n.toInt ∧ n.toInt ≤ 4 := by
  unfold whyG at h
  by_cases a : inN p (tS T 0 4) ∧ inN q (tS T 0 4)
  · rw [if_pos a] at h
    by_cases b : ¬ idx p = idx q ∧ (l : Int) ≤ n.toInt ∧ n.toInt ≤ 4
    · exact ⟨a.1, a.2, b⟩
    · rw [if_neg b] at h; omega
  · rw [if_neg a] at h; omega
theorem game_no {T : TT} {p q n : Int32} (h : ¬ whyG T p q n 0 = 0) : sp_game p q n T = (-1, st' T (whyG T p q n 0)) := by
  unfold whyG at h ⊢; unfold sp_game
  by_cases a : inN p (tS T 0 4) ∧ inN q (tS T 0 4)
  · rw [if_pos a] at h ⊢; rw [if_pos a]
    by_cases b : ¬ idx p = idx q ∧ 0 ≤ n.toInt ∧ n.toInt ≤ 4
    · exact absurd (if_pos b) h
    · rw [if_neg b]; exact congrArg (fun k => ((-1 : Int32), st' T k)) (if_neg b).symm
  · rw [if_neg a]; rw [if_neg a]
theorem move_no {T : TT} {p q n : Int32} (h : ¬ whyG T p q n 1 = 0) : sp_moveOf p q n T = (-1, st' T (whyG T p q n 1)) := by
  unfold whyG at h ⊢; unfold sp_moveOf
  by_cases a : inN p (tS T 0 4) ∧ inN q (tS T 0 4)
  · rw [if_pos a] at h ⊢; rw [if_pos a]
    by_cases b : ¬ idx p = idx q ∧ 1 ≤ n.toInt ∧ n.toInt ≤ 4
    · exact absurd (if_pos b) h
    · rw [if_neg b]; exact congrArg (fun k => ((-1 : Int32), st' T k)) (if_neg b).symm
  · rw [if_neg a]; rw [if_neg a]
theorem l64_1 {l : Nat} (h : l ≤ 1) : (nI l).toInt64.toInt = (l : Int) := by rw [i64_i32, nI_toInt (by omega)]

theorem gAt_le (p q f : Nat) (S : ST) : gAt (gR p q f 1 S) ≤ S 0 5 := by
  obtain ⟨r, hr⟩ := gA_ex (u := 1) (ok := gOk S) (V := gX p q f 1 S) (gOk_0 S)
  have r1 := (gA_in hr).1
  unfold gR
  rw [hr]
  exact Nat.le_of_lt_succ r1

set_option maxRecDepth 100000 in
set_option maxHeartbeats 800000 in
theorem c_pl0 {M : Mm} {S : ST} (hM : VM 0 M S) (hF : WF S) {p q : Nat} (hp : p < S 0 4) (hq : q < S 0 4) {t n : Nat} (ht : t = n) (htl : t < 100) {Q : Option Value → Mm → Prop} (hQ : Q (some (.int (gI (gV p q 0 0 S)))) M) (d : Nat) : AMt miX12_plays (d + 4) [.ref 132, .int (nI p), .int (nI q), .int (nI t), .int (nI n)] M Q := by
  refine AMt.of (by decide) (Nat.le_of_ble_eq_true rfl) ?_
  show AW miX12_plays (d + 4) (mxA Q) 0 [(0, some (.ref 132)), (1, some (.int (nI p))), (2, some (.int (nI q))), (3, some (.int (nI t))), (4, some (.int (nI n)))] [] M
  have hm := WF_m hF
  have hh := WF_h hF
  have hs := WF_s hF
  have hn := WF_n hF
  have h1p := hgt_le (S 6 p) (S 2 (S 7 p))
  have h1q := hgt_le (S 6 q) (S 2 (S 7 q))
  have h2p := WF_tall hF p (by omega)
  have h2q := WF_tall hF q (by omega)
  refine a_iload_n rfl dX12_plays_0 ?_
  refine a_iload rfl dX12_plays_1 ?_
  refine n_icmp_ne 18 (by omega) (by omega) dX12_plays_3 (by decide) (fun h_3 => absurd h_3 (by omega)) (fun h_3 => ?_)
  refine a_aload_n rfl dX12_plays_6 ?_
  refine a_iload_n rfl dX12_plays_7 ?_
  refine n_callV (mi' := miX12_heightOf) dX12_plays_8 lX12_340 mX12_heightOf (by decide) rfl rfl rfl (c_X12_heightOf hM hF (by omega) ?_ d) rfl rfl (by omega) (by decide) (Nat.le_of_ble_eq_true rfl)
  show AW _ _ _ _ _ _ _
  refine a_aload_n rfl dX12_plays_11 ?_
  refine a_iload_n rfl dX12_plays_12 ?_
  refine n_callV (mi' := miX12_heightOf) dX12_plays_13 lX12_340 mX12_heightOf (by decide) rfl rfl rfl (c_X12_heightOf hM hF (by omega) ?_ d) rfl rfl (by omega) (by decide) (Nat.le_of_ble_eq_true rfl)
  show AW _ _ _ _ _ _ _
  refine a_isub dX12_plays_16 ?_
  refine a_iret dX12_plays_17 rfl ?_
  show Q (some (.int (nI (hgP S q) - nI (hgP S p)))) M
  rw [gI_e (x := gV p q 0 0 S) (show hgP S q ≤ 99 by unfold hgP; omega) (show hgP S p ≤ 99 by unfold hgP; omega) (by show 99 + hgP S q - hgP S p + hgP S p = 99 + hgP S q; unfold hgP; omega)]
  exact hQ

set_option maxRecDepth 100000 in
set_option maxHeartbeats 800000 in
theorem c_plS {M : Mm} {S : ST} (hM : VM 0 M S) (hF : WF S) {p q : Nat} (hp : p < S 0 4) (hq : q < S 0 4) {t n f u : Nat} (ht : t + (f + 1) = n) (hn9 : n < 100) (hu : u ≤ 1) (hut : u = 1 - t % 2) (ih : ∀ {M : Mm} {S : ST}, VM 0 M S → WF S → p < S 0 4 → q < S 0 4 → ∀ {Q : Option Value → Mm → Prop}, Q (some (.int (gI (gV p q f (1 - u) S)))) M → ∀ d, AMt miX12_plays (d + f + 4) [.ref 132, .int (nI p), .int (nI q), .int (nI (t + 1)), .int (nI n)] M Q) {Q : Option Value → Mm → Prop} (h0 : t = 0 → Q (some (.int (gI (gV p q (f + 1) u S)))) (siM M 132 36 (nI (gAt (gR p q f u S))))) (hN : ¬ t = 0 → Q (some (.int (gI (gV p q (f + 1) u S)))) M) (d : Nat) : AMt miX12_plays (d + (f + 1) + 4) [.ref 132, .int (nI p), .int (nI q), .int (nI t), .int (nI n)] M Q := by
  refine AMt.of (by decide) (Nat.le_of_ble_eq_true rfl) ?_
  show AW miX12_plays (d + (f + 1) + 4) (mxA Q) 0 [(0, some (.ref 132)), (1, some (.int (nI p))), (2, some (.int (nI q))), (3, some (.int (nI t))), (4, some (.int (nI n)))] [] M
  have hm := WF_m hF
  have hh := WF_h hF
  have hs := WF_s hF
  have hn := WF_n hF
  have hfo := WF_for hF p hp
  refine a_iload_n rfl dX12_plays_0 ?_
  refine a_iload rfl dX12_plays_1 ?_
  refine n_icmp_ne 18 (by omega) (by omega) dX12_plays_3 (by decide) (fun h_3 => ?_) (fun h_3 => absurd h_3 (by omega))
  refine a_iload_n rfl dX12_plays_18 ?_
  refine n_iconst 2 rfl dX12_plays_19 ?_
  refine n_irem (by omega) (by omega) (by omega) dX12_plays_20 ?_
  refine n_if_ne 28 (by omega) dX12_plays_21 (by decide) (fun h_21 => ?_) (fun h_21 => ?_)
  · refine n_iconst 0 rfl dX12_plays_28 ?_
    refine a_eqi (y := nI u) (congrArg nI (by omega)) ?_
    refine a_istore (by decide) rfl dX12_plays_29 ?_
    refine n_iconst 0 rfl dX12_plays_31 ?_
    refine a_istore (by decide) rfl dX12_plays_32 ?_
    refine a_iconst (-1) rfl dX12_plays_34 ?_
    refine a_istore (by decide) rfl dX12_plays_35 ?_
    refine n_iconst 0 rfl dX12_plays_37 ?_
    refine a_istore (by decide) rfl dX12_plays_38 ?_
    have loop_40 : ∀ i, i ≤ S 0 5 + 1 → AW miX12_plays (d + (f + 1) + 4) (mxA Q) 40 [(0, some (.ref 132)), (1, some (.int (nI p))), (2, some (.int (nI q))), (3, some (.int (nI t))), (4, some (.int (nI n))), (5, some (.int (nI u))), (6, some (.int ((bI (gA u (gOk S) (gX p q f u S) i))))), (7, some (.int ((aI (gA u (gOk S) (gX p q f u S) i))))), (8, some (.int (nI i)))] [] M := by
      refine up (S 0 5 + 1) ?_ (fun i hi_40 ih_40 => ?_)
      · refine a_iload rfl dX12_plays_40 ?_
        refine a_aload_n rfl dX12_plays_42 ?_
        refine a_geta dX12_plays_43 fX12_35 (by decide) rfl rfl ?_
        refine n_iconst 3 rfl dX12_plays_46 ?_
        refine v_iald (by omega) (VM_s3 hM) (by decide) rfl (by decide) dX12_plays_47 ?_
        refine n_icmp_gt 204 (by omega) (by omega) dX12_plays_48 (by decide) (fun h_48 => ?_) (fun h_48 => absurd h_48 (by omega))
        refine a_iload_n rfl dX12_plays_204 ?_
        refine n_if_ne 214 (by omega) dX12_plays_205 (by decide) (fun h_205 => ?_) (fun h_205 => ?_)
        · refine a_iload rfl dX12_plays_214 ?_
          refine a_iret dX12_plays_216 rfl ?_
          rw [show bI (gA u (gOk S) (gX p q f u S) (S 0 5 + 1)) = gI (gV p q (f + 1) u S) from bI_V p q f u S]
          exact hN h_205
        · refine a_aload_n rfl dX12_plays_208 ?_
          refine a_iload rfl dX12_plays_209 ?_
          refine a_puti dX12_plays_211 pX12_521 (by decide) rfl rfl ?_
          refine a_iload rfl dX12_plays_214 ?_
          refine a_iret dX12_plays_216 rfl ?_
          rw [show bI (gA u (gOk S) (gX p q f u S) (S 0 5 + 1)) = gI (gV p q (f + 1) u S) from bI_V p q f u S, show aI (gA u (gOk S) (gX p q f u S) (S 0 5 + 1)) = nI (gAt (gR p q f u S)) from aI_V p q f u S]
          exact h0 h_205
      · refine a_iload rfl dX12_plays_40 ?_
        refine a_aload_n rfl dX12_plays_42 ?_
        refine a_geta dX12_plays_43 fX12_35 (by decide) rfl rfl ?_
        refine n_iconst 3 rfl dX12_plays_46 ?_
        refine v_iald (by omega) (VM_s3 hM) (by decide) rfl (by decide) dX12_plays_47 ?_
        refine n_icmp_gt 204 (by omega) (by omega) dX12_plays_48 (by decide) (fun h_48 => absurd h_48 (by omega)) (fun h_48 => ?_)
        refine a_iload rfl dX12_plays_51 ?_
        refine a_aload_n rfl dX12_plays_53 ?_
        refine a_geta dX12_plays_54 fX12_35 (by decide) rfl rfl ?_
        refine n_iconst 3 rfl dX12_plays_57 ?_
        refine v_iald (by omega) (VM_s3 hM) (by decide) rfl (by decide) dX12_plays_58 ?_
        refine n_icmp_ne 66 (by omega) (by omega) dX12_plays_59 (by decide) (fun h_59 => ?_) (fun h_59 => ?_)
        · refine n_iconst 0 rfl dX12_plays_66 ?_
          refine a_istore (by decide) rfl dX12_plays_67 ?_
          refine a_iload rfl dX12_plays_69 ?_
          refine n_if_eq 78 (by decide) dX12_plays_71 (by decide) (fun _ => ?_) (fun h => absurd h (by decide))
          refine a_aload_n rfl dX12_plays_78 ?_
          refine a_geta dX12_plays_79 fX12_35 (by decide) rfl rfl ?_
          refine n_bipush 66 rfl dX12_plays_82 ?_
          refine a_iload rfl dX12_plays_84 ?_
          have hab := WF_about hF i (by omega)
          have hc100 := WF_clear hF _ hab
          refine n_iadd dX12_plays_86 ?_
          refine v_iald (by omega) (VM_a66 hM (j := i) (by omega)) (by decide) rfl (by decide) dX12_plays_87 ?_
          refine a_istore (by decide) rfl dX12_plays_88 ?_
          refine a_aload_n rfl dX12_plays_90 ?_
          refine a_geta dX12_plays_91 fX12_35 (by decide) rfl rfl ?_
          refine n_bipush 6 rfl dX12_plays_94 ?_
          refine a_iload rfl dX12_plays_96 ?_
          refine n_iadd dX12_plays_98 ?_
          refine v_iald (by omega) (VM_a6 hM (j := (S 9 i)) (by omega)) (by decide) rfl (by decide) dX12_plays_99 ?_
          refine a_istore (by decide) rfl dX12_plays_100 ?_
          refine a_iload rfl dX12_plays_102 ?_
          refine n_if_ne 119 (by decide) dX12_plays_104 (by decide) (fun h => absurd h (by decide)) (fun _ => ?_)
          refine a_aload_n rfl dX12_plays_107 ?_
          refine a_iload rfl dX12_plays_108 ?_
          refine n_callV (mi' := miX12_brings) dX12_plays_110 lX12_400 mX12_brings (by decide) rfl rfl rfl (c_X12_brings hM hF (by omega) (fun h_110 ha_110 hb_110 hV_110 => ?_) (fun h_110 => ?_) d) rfl rfl (by omega) (by decide) (Nat.le_of_ble_eq_true rfl)
          · show AW _ _ _ _ _ _ _
            refine n_if_ne 119 (by decide) dX12_plays_113 (by decide) (fun _ => ?_) (fun h => absurd h (by decide))
            refine a_aload_n rfl dX12_plays_119 ?_
            refine a_iload_n rfl dX12_plays_120 ?_
            refine a_iload_n rfl dX12_plays_121 ?_
            refine a_iload_n rfl dX12_plays_122 ?_
            refine n_iconst 1 rfl dX12_plays_123 ?_
            refine n_iadd dX12_plays_124 ?_
            refine a_iload rfl dX12_plays_125 ?_
            refine n_callV (mi' := miX12_plays) dX12_plays_127 lX12_518 mX12_plays (by decide) rfl rfl rfl (ih hV_110 (WF_comeN hF) hp hq ?_ d) rfl rfl (by omega) (by decide) (Nat.le_of_ble_eq_true rfl)
            show AW _ _ _ _ _ _ _
            refine a_eqi (y := gI (gX p q f u S i)) (congrArg (fun v => gI v) (show _ = gX p q f u S i by unfold gX; rw [if_neg h_59])) ?_
            refine a_istore (by decide) rfl dX12_plays_130 ?_
            refine a_iload rfl dX12_plays_132 ?_
            refine n_if_ne 148 (by decide) dX12_plays_134 (by decide) (fun h => absurd h (by decide)) (fun _ => ?_)
            refine a_aload_n rfl dX12_plays_137 ?_
            refine a_geta dX12_plays_138 fX12_35 (by decide) rfl rfl ?_
            refine n_bipush 82 rfl dX12_plays_141 ?_
            refine a_iload rfl dX12_plays_143 ?_
            refine n_iadd dX12_plays_145 ?_
            refine n_iconst 0 rfl dX12_plays_146 ?_
            refine n_iast (by omega) (by decide) rfl (by decide) dX12_plays_147 ?_
            refine a_aload_n rfl dX12_plays_148 ?_
            refine a_geta dX12_plays_149 fX12_35 (by decide) rfl rfl ?_
            refine n_bipush 6 rfl dX12_plays_152 ?_
            refine a_iload rfl dX12_plays_154 ?_
            refine n_iadd dX12_plays_156 ?_
            refine a_iload rfl dX12_plays_157 ?_
            refine n_iast (by omega) (by decide) rfl (by decide) dX12_plays_159 ?_
            rw [siM_un2 (show 82 + i ≠ 6 + S 9 i by omega) ((VM_a82 hM h_110).trans (congrArg nI ha_110)) (VM_a6 hM hab)]
            show AW _ _ _ _ _ _ M
            refine a_iload rfl dX12_plays_160 ?_
            refine r_if_lt 190 dX12_plays_162 (by decide) (fun h_162 => ?_) (fun h_162 => ?_)
            · refine a_iload rfl dX12_plays_190 ?_
              refine a_istore (by decide) rfl dX12_plays_192 ?_
              refine a_iload rfl dX12_plays_194 ?_
              refine a_istore (by decide) rfl dX12_plays_196 ?_
              refine n_iinc (c := 1) rfl rfl (by decide) rfl dX12_plays_198 ?_
              refine a_goto 40 dX12_plays_201 (by decide) ?_
              have hok : gOk S i = true := gOk_t ha_110 (by omega)
              rw [gA_n hok (aA_n (by omega) h_162)] at ih_40
              exact a_bk ih_40 ⟨rfl, rfl, rfl, rfl, rfl, rfl, rfl, rfl, rfl, trivial⟩
            · refine a_iload rfl dX12_plays_165 ?_
              refine n_if_eq 180 (by omega) dX12_plays_167 (by decide) (fun h_167 => ?_) (fun h_167 => ?_)
              · refine a_iload rfl dX12_plays_180 ?_
                refine a_iload rfl dX12_plays_182 ?_
                refine u_icmp_lt 190 dX12_plays_184 (by decide) (fun h_184 => ?_) (fun h_184 => ?_)
                · refine a_iload rfl dX12_plays_190 ?_
                  refine a_istore (by decide) rfl dX12_plays_192 ?_
                  refine a_iload rfl dX12_plays_194 ?_
                  refine a_istore (by decide) rfl dX12_plays_196 ?_
                  refine n_iinc (c := 1) rfl rfl (by decide) rfl dX12_plays_198 ?_
                  refine a_goto 40 dX12_plays_201 (by decide) ?_
                  have hok : gOk S i = true := gOk_t ha_110 (by omega)
                  obtain ⟨r, er⟩ := aA_s h_162
                  have hx := gI_t (gX_le (f := f) (u := u) hF hp hq i)
                  have hrr := gI_t (show r.1 ≤ 198 by rw [(gA_in er).2.2]; exact gX_le hF hp hq _)
                  rw [er] at h_184
                  have h_184 : (gI (gX p q f u S i)).toInt < (gI r.1).toInt := h_184
                  rw [gA_t hok er (bet_0 h_167 (by omega))] at ih_40
                  exact a_bk ih_40 ⟨rfl, rfl, rfl, rfl, rfl, rfl, rfl, rfl, rfl, trivial⟩
                · refine a_goto 198 dX12_plays_187 (by decide) ?_
                  refine n_iinc (c := 1) rfl rfl (by decide) rfl dX12_plays_198 ?_
                  refine a_goto 40 dX12_plays_201 (by decide) ?_
                  have hok : gOk S i = true := gOk_t ha_110 (by omega)
                  obtain ⟨r, er⟩ := aA_s h_162
                  have hx := gI_t (gX_le (f := f) (u := u) hF hp hq i)
                  have hrr := gI_t (show r.1 ≤ 198 by rw [(gA_in er).2.2]; exact gX_le hF hp hq _)
                  rw [er] at h_184
                  have h_184 : ¬ (gI (gX p q f u S i)).toInt < (gI r.1).toInt := h_184
                  rw [gA_f hok er (bet_0n h_167 (by omega)), ← er] at ih_40
                  exact a_bk ih_40 ⟨rfl, rfl, rfl, rfl, rfl, rfl, rfl, rfl, rfl, trivial⟩
              · refine a_iload rfl dX12_plays_170 ?_
                refine a_iload rfl dX12_plays_172 ?_
                refine u_icmp_gt 190 dX12_plays_174 (by decide) (fun h_174 => ?_) (fun h_174 => ?_)
                · refine a_iload rfl dX12_plays_190 ?_
                  refine a_istore (by decide) rfl dX12_plays_192 ?_
                  refine a_iload rfl dX12_plays_194 ?_
                  refine a_istore (by decide) rfl dX12_plays_196 ?_
                  refine n_iinc (c := 1) rfl rfl (by decide) rfl dX12_plays_198 ?_
                  refine a_goto 40 dX12_plays_201 (by decide) ?_
                  have hok : gOk S i = true := gOk_t ha_110 (by omega)
                  obtain ⟨r, er⟩ := aA_s h_162
                  have hx := gI_t (gX_le (f := f) (u := u) hF hp hq i)
                  have hrr := gI_t (show r.1 ≤ 198 by rw [(gA_in er).2.2]; exact gX_le hF hp hq _)
                  rw [er] at h_174
                  have h_174 : (gI r.1).toInt < (gI (gX p q f u S i)).toInt := h_174
                  rw [gA_t hok er (bet_1 h_167 hu (by omega))] at ih_40
                  exact a_bk ih_40 ⟨rfl, rfl, rfl, rfl, rfl, rfl, rfl, rfl, rfl, trivial⟩
                · refine a_goto 198 dX12_plays_177 (by decide) ?_
                  refine n_iinc (c := 1) rfl rfl (by decide) rfl dX12_plays_198 ?_
                  refine a_goto 40 dX12_plays_201 (by decide) ?_
                  have hok : gOk S i = true := gOk_t ha_110 (by omega)
                  obtain ⟨r, er⟩ := aA_s h_162
                  have hx := gI_t (gX_le (f := f) (u := u) hF hp hq i)
                  have hrr := gI_t (show r.1 ≤ 198 by rw [(gA_in er).2.2]; exact gX_le hF hp hq _)
                  rw [er] at h_174
                  have h_174 : ¬ (gI r.1).toInt < (gI (gX p q f u S i)).toInt := h_174
                  rw [gA_f hok er (bet_1n h_167 hu (by omega)), ← er] at ih_40
                  exact a_bk ih_40 ⟨rfl, rfl, rfl, rfl, rfl, rfl, rfl, rfl, rfl, trivial⟩
          · show AW _ _ _ _ _ _ _
            refine n_if_ne 119 (by decide) dX12_plays_113 (by decide) (fun h => absurd h (by decide)) (fun _ => ?_)
            refine a_goto 198 dX12_plays_116 (by decide) ?_
            refine n_iinc (c := 1) rfl rfl (by decide) rfl dX12_plays_198 ?_
            refine a_goto 40 dX12_plays_201 (by decide) ?_
            rw [gA_0 (gOk_f h_59 (fun q => h_110 ⟨by omega, q.1, by omega⟩))] at ih_40
            exact a_bk ih_40 ⟨rfl, rfl, rfl, rfl, rfl, rfl, rfl, rfl, rfl, trivial⟩
        · refine n_iconst 1 rfl dX12_plays_62 ?_
          refine a_goto 67 dX12_plays_63 (by decide) ?_
          refine a_istore (by decide) rfl dX12_plays_67 ?_
          refine a_iload rfl dX12_plays_69 ?_
          refine n_if_eq 78 (by decide) dX12_plays_71 (by decide) (fun h => absurd h (by decide)) (fun _ => ?_)
          refine n_iconst 0 rfl dX12_plays_74 ?_
          refine a_goto 88 dX12_plays_75 (by decide) ?_
          refine a_istore (by decide) rfl dX12_plays_88 ?_
          refine a_aload_n rfl dX12_plays_90 ?_
          refine a_geta dX12_plays_91 fX12_35 (by decide) rfl rfl ?_
          refine n_bipush 6 rfl dX12_plays_94 ?_
          refine a_iload rfl dX12_plays_96 ?_
          refine n_iadd dX12_plays_98 ?_
          refine v_iald (by omega) (VM_a6 hM (j := 0) (by omega)) (by decide) rfl (by decide) dX12_plays_99 ?_
          refine a_istore (by decide) rfl dX12_plays_100 ?_
          refine a_iload rfl dX12_plays_102 ?_
          refine n_if_ne 119 (by decide) dX12_plays_104 (by decide) (fun _ => ?_) (fun h => absurd h (by decide))
          refine a_aload_n rfl dX12_plays_119 ?_
          refine a_iload_n rfl dX12_plays_120 ?_
          refine a_iload_n rfl dX12_plays_121 ?_
          refine a_iload_n rfl dX12_plays_122 ?_
          refine n_iconst 1 rfl dX12_plays_123 ?_
          refine n_iadd dX12_plays_124 ?_
          refine a_iload rfl dX12_plays_125 ?_
          refine n_callV (mi' := miX12_plays) dX12_plays_127 lX12_518 mX12_plays (by decide) rfl rfl rfl (ih hM hF hp hq ?_ d) rfl rfl (by omega) (by decide) (Nat.le_of_ble_eq_true rfl)
          show AW _ _ _ _ _ _ _
          refine a_eqi (y := gI (gX p q f u S i)) (congrArg (fun v => gI v) (show _ = gX p q f u S i by unfold gX; rw [if_pos h_59])) ?_
          refine a_istore (by decide) rfl dX12_plays_130 ?_
          refine a_iload rfl dX12_plays_132 ?_
          refine n_if_ne 148 (by decide) dX12_plays_134 (by decide) (fun _ => ?_) (fun h => absurd h (by decide))
          refine a_aload_n rfl dX12_plays_148 ?_
          refine a_geta dX12_plays_149 fX12_35 (by decide) rfl rfl ?_
          refine n_bipush 6 rfl dX12_plays_152 ?_
          refine a_iload rfl dX12_plays_154 ?_
          refine n_iadd dX12_plays_156 ?_
          refine a_iload rfl dX12_plays_157 ?_
          refine n_iast (by omega) (by decide) rfl (by decide) dX12_plays_159 ?_
          rw [siM_id (VM_a6 hM (j := 0) (by omega))]
          show AW _ _ _ _ _ _ M
          refine a_iload rfl dX12_plays_160 ?_
          refine r_if_lt 190 dX12_plays_162 (by decide) (fun h_162 => ?_) (fun h_162 => ?_)
          · refine a_iload rfl dX12_plays_190 ?_
            refine a_istore (by decide) rfl dX12_plays_192 ?_
            refine a_iload rfl dX12_plays_194 ?_
            refine a_istore (by decide) rfl dX12_plays_196 ?_
            refine n_iinc (c := 1) rfl rfl (by decide) rfl dX12_plays_198 ?_
            refine a_goto 40 dX12_plays_201 (by decide) ?_
            have hok : gOk S i = true := by rw [show i = S 0 5 from h_59]; exact gOk_0 S
            rw [gA_n hok (aA_n (by omega) h_162)] at ih_40
            exact a_bk ih_40 ⟨rfl, rfl, rfl, rfl, rfl, rfl, rfl, rfl, rfl, trivial⟩
          · refine a_iload rfl dX12_plays_165 ?_
            refine n_if_eq 180 (by omega) dX12_plays_167 (by decide) (fun h_167 => ?_) (fun h_167 => ?_)
            · refine a_iload rfl dX12_plays_180 ?_
              refine a_iload rfl dX12_plays_182 ?_
              refine u_icmp_lt 190 dX12_plays_184 (by decide) (fun h_184 => ?_) (fun h_184 => ?_)
              · refine a_iload rfl dX12_plays_190 ?_
                refine a_istore (by decide) rfl dX12_plays_192 ?_
                refine a_iload rfl dX12_plays_194 ?_
                refine a_istore (by decide) rfl dX12_plays_196 ?_
                refine n_iinc (c := 1) rfl rfl (by decide) rfl dX12_plays_198 ?_
                refine a_goto 40 dX12_plays_201 (by decide) ?_
                have hok : gOk S i = true := by rw [show i = S 0 5 from h_59]; exact gOk_0 S
                obtain ⟨r, er⟩ := aA_s h_162
                have hx := gI_t (gX_le (f := f) (u := u) hF hp hq i)
                have hrr := gI_t (show r.1 ≤ 198 by rw [(gA_in er).2.2]; exact gX_le hF hp hq _)
                rw [er] at h_184
                have h_184 : (gI (gX p q f u S i)).toInt < (gI r.1).toInt := h_184
                rw [gA_t hok er (bet_0 h_167 (by omega))] at ih_40
                exact a_bk ih_40 ⟨rfl, rfl, rfl, rfl, rfl, rfl, rfl, rfl, rfl, trivial⟩
              · refine a_goto 198 dX12_plays_187 (by decide) ?_
                refine n_iinc (c := 1) rfl rfl (by decide) rfl dX12_plays_198 ?_
                refine a_goto 40 dX12_plays_201 (by decide) ?_
                have hok : gOk S i = true := by rw [show i = S 0 5 from h_59]; exact gOk_0 S
                obtain ⟨r, er⟩ := aA_s h_162
                have hx := gI_t (gX_le (f := f) (u := u) hF hp hq i)
                have hrr := gI_t (show r.1 ≤ 198 by rw [(gA_in er).2.2]; exact gX_le hF hp hq _)
                rw [er] at h_184
                have h_184 : ¬ (gI (gX p q f u S i)).toInt < (gI r.1).toInt := h_184
                rw [gA_f hok er (bet_0n h_167 (by omega)), ← er] at ih_40
                exact a_bk ih_40 ⟨rfl, rfl, rfl, rfl, rfl, rfl, rfl, rfl, rfl, trivial⟩
            · refine a_iload rfl dX12_plays_170 ?_
              refine a_iload rfl dX12_plays_172 ?_
              refine u_icmp_gt 190 dX12_plays_174 (by decide) (fun h_174 => ?_) (fun h_174 => ?_)
              · refine a_iload rfl dX12_plays_190 ?_
                refine a_istore (by decide) rfl dX12_plays_192 ?_
                refine a_iload rfl dX12_plays_194 ?_
                refine a_istore (by decide) rfl dX12_plays_196 ?_
                refine n_iinc (c := 1) rfl rfl (by decide) rfl dX12_plays_198 ?_
                refine a_goto 40 dX12_plays_201 (by decide) ?_
                have hok : gOk S i = true := by rw [show i = S 0 5 from h_59]; exact gOk_0 S
                obtain ⟨r, er⟩ := aA_s h_162
                have hx := gI_t (gX_le (f := f) (u := u) hF hp hq i)
                have hrr := gI_t (show r.1 ≤ 198 by rw [(gA_in er).2.2]; exact gX_le hF hp hq _)
                rw [er] at h_174
                have h_174 : (gI r.1).toInt < (gI (gX p q f u S i)).toInt := h_174
                rw [gA_t hok er (bet_1 h_167 hu (by omega))] at ih_40
                exact a_bk ih_40 ⟨rfl, rfl, rfl, rfl, rfl, rfl, rfl, rfl, rfl, trivial⟩
              · refine a_goto 198 dX12_plays_177 (by decide) ?_
                refine n_iinc (c := 1) rfl rfl (by decide) rfl dX12_plays_198 ?_
                refine a_goto 40 dX12_plays_201 (by decide) ?_
                have hok : gOk S i = true := by rw [show i = S 0 5 from h_59]; exact gOk_0 S
                obtain ⟨r, er⟩ := aA_s h_162
                have hx := gI_t (gX_le (f := f) (u := u) hF hp hq i)
                have hrr := gI_t (show r.1 ≤ 198 by rw [(gA_in er).2.2]; exact gX_le hF hp hq _)
                rw [er] at h_174
                have h_174 : ¬ (gI r.1).toInt < (gI (gX p q f u S i)).toInt := h_174
                rw [gA_f hok er (bet_1n h_167 hu (by omega)), ← er] at ih_40
                exact a_bk ih_40 ⟨rfl, rfl, rfl, rfl, rfl, rfl, rfl, rfl, rfl, trivial⟩
    exact a_bk (loop_40 0 (by omega)) ⟨rfl, rfl, rfl, rfl, rfl, rfl, rfl, rfl, rfl, trivial⟩
  · refine n_iconst 1 rfl dX12_plays_24 ?_
    refine a_goto 29 dX12_plays_25 (by decide) ?_
    refine a_eqi (y := nI u) (congrArg nI (by omega)) ?_
    refine a_istore (by decide) rfl dX12_plays_29 ?_
    refine n_iconst 0 rfl dX12_plays_31 ?_
    refine a_istore (by decide) rfl dX12_plays_32 ?_
    refine a_iconst (-1) rfl dX12_plays_34 ?_
    refine a_istore (by decide) rfl dX12_plays_35 ?_
    refine n_iconst 0 rfl dX12_plays_37 ?_
    refine a_istore (by decide) rfl dX12_plays_38 ?_
    have loop_40 : ∀ i, i ≤ S 0 5 + 1 → AW miX12_plays (d + (f + 1) + 4) (mxA Q) 40 [(0, some (.ref 132)), (1, some (.int (nI p))), (2, some (.int (nI q))), (3, some (.int (nI t))), (4, some (.int (nI n))), (5, some (.int (nI u))), (6, some (.int ((bI (gA u (gOk S) (gX p q f u S) i))))), (7, some (.int ((aI (gA u (gOk S) (gX p q f u S) i))))), (8, some (.int (nI i)))] [] M := by
      refine up (S 0 5 + 1) ?_ (fun i hi_40 ih_40 => ?_)
      · refine a_iload rfl dX12_plays_40 ?_
        refine a_aload_n rfl dX12_plays_42 ?_
        refine a_geta dX12_plays_43 fX12_35 (by decide) rfl rfl ?_
        refine n_iconst 3 rfl dX12_plays_46 ?_
        refine v_iald (by omega) (VM_s3 hM) (by decide) rfl (by decide) dX12_plays_47 ?_
        refine n_icmp_gt 204 (by omega) (by omega) dX12_plays_48 (by decide) (fun h_48 => ?_) (fun h_48 => absurd h_48 (by omega))
        refine a_iload_n rfl dX12_plays_204 ?_
        refine n_if_ne 214 (by omega) dX12_plays_205 (by decide) (fun h_205 => ?_) (fun h_205 => ?_)
        · refine a_iload rfl dX12_plays_214 ?_
          refine a_iret dX12_plays_216 rfl ?_
          rw [show bI (gA u (gOk S) (gX p q f u S) (S 0 5 + 1)) = gI (gV p q (f + 1) u S) from bI_V p q f u S]
          exact hN h_205
        · refine a_aload_n rfl dX12_plays_208 ?_
          refine a_iload rfl dX12_plays_209 ?_
          refine a_puti dX12_plays_211 pX12_521 (by decide) rfl rfl ?_
          refine a_iload rfl dX12_plays_214 ?_
          refine a_iret dX12_plays_216 rfl ?_
          rw [show bI (gA u (gOk S) (gX p q f u S) (S 0 5 + 1)) = gI (gV p q (f + 1) u S) from bI_V p q f u S, show aI (gA u (gOk S) (gX p q f u S) (S 0 5 + 1)) = nI (gAt (gR p q f u S)) from aI_V p q f u S]
          exact h0 h_205
      · refine a_iload rfl dX12_plays_40 ?_
        refine a_aload_n rfl dX12_plays_42 ?_
        refine a_geta dX12_plays_43 fX12_35 (by decide) rfl rfl ?_
        refine n_iconst 3 rfl dX12_plays_46 ?_
        refine v_iald (by omega) (VM_s3 hM) (by decide) rfl (by decide) dX12_plays_47 ?_
        refine n_icmp_gt 204 (by omega) (by omega) dX12_plays_48 (by decide) (fun h_48 => absurd h_48 (by omega)) (fun h_48 => ?_)
        refine a_iload rfl dX12_plays_51 ?_
        refine a_aload_n rfl dX12_plays_53 ?_
        refine a_geta dX12_plays_54 fX12_35 (by decide) rfl rfl ?_
        refine n_iconst 3 rfl dX12_plays_57 ?_
        refine v_iald (by omega) (VM_s3 hM) (by decide) rfl (by decide) dX12_plays_58 ?_
        refine n_icmp_ne 66 (by omega) (by omega) dX12_plays_59 (by decide) (fun h_59 => ?_) (fun h_59 => ?_)
        · refine n_iconst 0 rfl dX12_plays_66 ?_
          refine a_istore (by decide) rfl dX12_plays_67 ?_
          refine a_iload rfl dX12_plays_69 ?_
          refine n_if_eq 78 (by decide) dX12_plays_71 (by decide) (fun _ => ?_) (fun h => absurd h (by decide))
          refine a_aload_n rfl dX12_plays_78 ?_
          refine a_geta dX12_plays_79 fX12_35 (by decide) rfl rfl ?_
          refine n_bipush 66 rfl dX12_plays_82 ?_
          refine a_iload rfl dX12_plays_84 ?_
          have hab := WF_about hF i (by omega)
          have hc100 := WF_clear hF _ hab
          refine n_iadd dX12_plays_86 ?_
          refine v_iald (by omega) (VM_a66 hM (j := i) (by omega)) (by decide) rfl (by decide) dX12_plays_87 ?_
          refine a_istore (by decide) rfl dX12_plays_88 ?_
          refine a_aload_n rfl dX12_plays_90 ?_
          refine a_geta dX12_plays_91 fX12_35 (by decide) rfl rfl ?_
          refine n_bipush 6 rfl dX12_plays_94 ?_
          refine a_iload rfl dX12_plays_96 ?_
          refine n_iadd dX12_plays_98 ?_
          refine v_iald (by omega) (VM_a6 hM (j := (S 9 i)) (by omega)) (by decide) rfl (by decide) dX12_plays_99 ?_
          refine a_istore (by decide) rfl dX12_plays_100 ?_
          refine a_iload rfl dX12_plays_102 ?_
          refine n_if_ne 119 (by decide) dX12_plays_104 (by decide) (fun h => absurd h (by decide)) (fun _ => ?_)
          refine a_aload_n rfl dX12_plays_107 ?_
          refine a_iload rfl dX12_plays_108 ?_
          refine n_callV (mi' := miX12_brings) dX12_plays_110 lX12_400 mX12_brings (by decide) rfl rfl rfl (c_X12_brings hM hF (by omega) (fun h_110 ha_110 hb_110 hV_110 => ?_) (fun h_110 => ?_) d) rfl rfl (by omega) (by decide) (Nat.le_of_ble_eq_true rfl)
          · show AW _ _ _ _ _ _ _
            refine n_if_ne 119 (by decide) dX12_plays_113 (by decide) (fun _ => ?_) (fun h => absurd h (by decide))
            refine a_aload_n rfl dX12_plays_119 ?_
            refine a_iload_n rfl dX12_plays_120 ?_
            refine a_iload_n rfl dX12_plays_121 ?_
            refine a_iload_n rfl dX12_plays_122 ?_
            refine n_iconst 1 rfl dX12_plays_123 ?_
            refine n_iadd dX12_plays_124 ?_
            refine a_iload rfl dX12_plays_125 ?_
            refine n_callV (mi' := miX12_plays) dX12_plays_127 lX12_518 mX12_plays (by decide) rfl rfl rfl (ih hV_110 (WF_comeN hF) hp hq ?_ d) rfl rfl (by omega) (by decide) (Nat.le_of_ble_eq_true rfl)
            show AW _ _ _ _ _ _ _
            refine a_eqi (y := gI (gX p q f u S i)) (congrArg (fun v => gI v) (show _ = gX p q f u S i by unfold gX; rw [if_neg h_59])) ?_
            refine a_istore (by decide) rfl dX12_plays_130 ?_
            refine a_iload rfl dX12_plays_132 ?_
            refine n_if_ne 148 (by decide) dX12_plays_134 (by decide) (fun h => absurd h (by decide)) (fun _ => ?_)
            refine a_aload_n rfl dX12_plays_137 ?_
            refine a_geta dX12_plays_138 fX12_35 (by decide) rfl rfl ?_
            refine n_bipush 82 rfl dX12_plays_141 ?_
            refine a_iload rfl dX12_plays_143 ?_
            refine n_iadd dX12_plays_145 ?_
            refine n_iconst 0 rfl dX12_plays_146 ?_
            refine n_iast (by omega) (by decide) rfl (by decide) dX12_plays_147 ?_
            refine a_aload_n rfl dX12_plays_148 ?_
            refine a_geta dX12_plays_149 fX12_35 (by decide) rfl rfl ?_
            refine n_bipush 6 rfl dX12_plays_152 ?_
            refine a_iload rfl dX12_plays_154 ?_
            refine n_iadd dX12_plays_156 ?_
            refine a_iload rfl dX12_plays_157 ?_
            refine n_iast (by omega) (by decide) rfl (by decide) dX12_plays_159 ?_
            rw [siM_un2 (show 82 + i ≠ 6 + S 9 i by omega) ((VM_a82 hM h_110).trans (congrArg nI ha_110)) (VM_a6 hM hab)]
            show AW _ _ _ _ _ _ M
            refine a_iload rfl dX12_plays_160 ?_
            refine r_if_lt 190 dX12_plays_162 (by decide) (fun h_162 => ?_) (fun h_162 => ?_)
            · refine a_iload rfl dX12_plays_190 ?_
              refine a_istore (by decide) rfl dX12_plays_192 ?_
              refine a_iload rfl dX12_plays_194 ?_
              refine a_istore (by decide) rfl dX12_plays_196 ?_
              refine n_iinc (c := 1) rfl rfl (by decide) rfl dX12_plays_198 ?_
              refine a_goto 40 dX12_plays_201 (by decide) ?_
              have hok : gOk S i = true := gOk_t ha_110 (by omega)
              rw [gA_n hok (aA_n (by omega) h_162)] at ih_40
              exact a_bk ih_40 ⟨rfl, rfl, rfl, rfl, rfl, rfl, rfl, rfl, rfl, trivial⟩
            · refine a_iload rfl dX12_plays_165 ?_
              refine n_if_eq 180 (by omega) dX12_plays_167 (by decide) (fun h_167 => ?_) (fun h_167 => ?_)
              · refine a_iload rfl dX12_plays_180 ?_
                refine a_iload rfl dX12_plays_182 ?_
                refine u_icmp_lt 190 dX12_plays_184 (by decide) (fun h_184 => ?_) (fun h_184 => ?_)
                · refine a_iload rfl dX12_plays_190 ?_
                  refine a_istore (by decide) rfl dX12_plays_192 ?_
                  refine a_iload rfl dX12_plays_194 ?_
                  refine a_istore (by decide) rfl dX12_plays_196 ?_
                  refine n_iinc (c := 1) rfl rfl (by decide) rfl dX12_plays_198 ?_
                  refine a_goto 40 dX12_plays_201 (by decide) ?_
                  have hok : gOk S i = true := gOk_t ha_110 (by omega)
                  obtain ⟨r, er⟩ := aA_s h_162
                  have hx := gI_t (gX_le (f := f) (u := u) hF hp hq i)
                  have hrr := gI_t (show r.1 ≤ 198 by rw [(gA_in er).2.2]; exact gX_le hF hp hq _)
                  rw [er] at h_184
                  have h_184 : (gI (gX p q f u S i)).toInt < (gI r.1).toInt := h_184
                  rw [gA_t hok er (bet_0 h_167 (by omega))] at ih_40
                  exact a_bk ih_40 ⟨rfl, rfl, rfl, rfl, rfl, rfl, rfl, rfl, rfl, trivial⟩
                · refine a_goto 198 dX12_plays_187 (by decide) ?_
                  refine n_iinc (c := 1) rfl rfl (by decide) rfl dX12_plays_198 ?_
                  refine a_goto 40 dX12_plays_201 (by decide) ?_
                  have hok : gOk S i = true := gOk_t ha_110 (by omega)
                  obtain ⟨r, er⟩ := aA_s h_162
                  have hx := gI_t (gX_le (f := f) (u := u) hF hp hq i)
                  have hrr := gI_t (show r.1 ≤ 198 by rw [(gA_in er).2.2]; exact gX_le hF hp hq _)
                  rw [er] at h_184
                  have h_184 : ¬ (gI (gX p q f u S i)).toInt < (gI r.1).toInt := h_184
                  rw [gA_f hok er (bet_0n h_167 (by omega)), ← er] at ih_40
                  exact a_bk ih_40 ⟨rfl, rfl, rfl, rfl, rfl, rfl, rfl, rfl, rfl, trivial⟩
              · refine a_iload rfl dX12_plays_170 ?_
                refine a_iload rfl dX12_plays_172 ?_
                refine u_icmp_gt 190 dX12_plays_174 (by decide) (fun h_174 => ?_) (fun h_174 => ?_)
                · refine a_iload rfl dX12_plays_190 ?_
                  refine a_istore (by decide) rfl dX12_plays_192 ?_
                  refine a_iload rfl dX12_plays_194 ?_
                  refine a_istore (by decide) rfl dX12_plays_196 ?_
                  refine n_iinc (c := 1) rfl rfl (by decide) rfl dX12_plays_198 ?_
                  refine a_goto 40 dX12_plays_201 (by decide) ?_
                  have hok : gOk S i = true := gOk_t ha_110 (by omega)
                  obtain ⟨r, er⟩ := aA_s h_162
                  have hx := gI_t (gX_le (f := f) (u := u) hF hp hq i)
                  have hrr := gI_t (show r.1 ≤ 198 by rw [(gA_in er).2.2]; exact gX_le hF hp hq _)
                  rw [er] at h_174
                  have h_174 : (gI r.1).toInt < (gI (gX p q f u S i)).toInt := h_174
                  rw [gA_t hok er (bet_1 h_167 hu (by omega))] at ih_40
                  exact a_bk ih_40 ⟨rfl, rfl, rfl, rfl, rfl, rfl, rfl, rfl, rfl, trivial⟩
                · refine a_goto 198 dX12_plays_177 (by decide) ?_
                  refine n_iinc (c := 1) rfl rfl (by decide) rfl dX12_plays_198 ?_
                  refine a_goto 40 dX12_plays_201 (by decide) ?_
                  have hok : gOk S i = true := gOk_t ha_110 (by omega)
                  obtain ⟨r, er⟩ := aA_s h_162
                  have hx := gI_t (gX_le (f := f) (u := u) hF hp hq i)
                  have hrr := gI_t (show r.1 ≤ 198 by rw [(gA_in er).2.2]; exact gX_le hF hp hq _)
                  rw [er] at h_174
                  have h_174 : ¬ (gI r.1).toInt < (gI (gX p q f u S i)).toInt := h_174
                  rw [gA_f hok er (bet_1n h_167 hu (by omega)), ← er] at ih_40
                  exact a_bk ih_40 ⟨rfl, rfl, rfl, rfl, rfl, rfl, rfl, rfl, rfl, trivial⟩
          · show AW _ _ _ _ _ _ _
            refine n_if_ne 119 (by decide) dX12_plays_113 (by decide) (fun h => absurd h (by decide)) (fun _ => ?_)
            refine a_goto 198 dX12_plays_116 (by decide) ?_
            refine n_iinc (c := 1) rfl rfl (by decide) rfl dX12_plays_198 ?_
            refine a_goto 40 dX12_plays_201 (by decide) ?_
            rw [gA_0 (gOk_f h_59 (fun q => h_110 ⟨by omega, q.1, by omega⟩))] at ih_40
            exact a_bk ih_40 ⟨rfl, rfl, rfl, rfl, rfl, rfl, rfl, rfl, rfl, trivial⟩
        · refine n_iconst 1 rfl dX12_plays_62 ?_
          refine a_goto 67 dX12_plays_63 (by decide) ?_
          refine a_istore (by decide) rfl dX12_plays_67 ?_
          refine a_iload rfl dX12_plays_69 ?_
          refine n_if_eq 78 (by decide) dX12_plays_71 (by decide) (fun h => absurd h (by decide)) (fun _ => ?_)
          refine n_iconst 0 rfl dX12_plays_74 ?_
          refine a_goto 88 dX12_plays_75 (by decide) ?_
          refine a_istore (by decide) rfl dX12_plays_88 ?_
          refine a_aload_n rfl dX12_plays_90 ?_
          refine a_geta dX12_plays_91 fX12_35 (by decide) rfl rfl ?_
          refine n_bipush 6 rfl dX12_plays_94 ?_
          refine a_iload rfl dX12_plays_96 ?_
          refine n_iadd dX12_plays_98 ?_
          refine v_iald (by omega) (VM_a6 hM (j := 0) (by omega)) (by decide) rfl (by decide) dX12_plays_99 ?_
          refine a_istore (by decide) rfl dX12_plays_100 ?_
          refine a_iload rfl dX12_plays_102 ?_
          refine n_if_ne 119 (by decide) dX12_plays_104 (by decide) (fun _ => ?_) (fun h => absurd h (by decide))
          refine a_aload_n rfl dX12_plays_119 ?_
          refine a_iload_n rfl dX12_plays_120 ?_
          refine a_iload_n rfl dX12_plays_121 ?_
          refine a_iload_n rfl dX12_plays_122 ?_
          refine n_iconst 1 rfl dX12_plays_123 ?_
          refine n_iadd dX12_plays_124 ?_
          refine a_iload rfl dX12_plays_125 ?_
          refine n_callV (mi' := miX12_plays) dX12_plays_127 lX12_518 mX12_plays (by decide) rfl rfl rfl (ih hM hF hp hq ?_ d) rfl rfl (by omega) (by decide) (Nat.le_of_ble_eq_true rfl)
          show AW _ _ _ _ _ _ _
          refine a_eqi (y := gI (gX p q f u S i)) (congrArg (fun v => gI v) (show _ = gX p q f u S i by unfold gX; rw [if_pos h_59])) ?_
          refine a_istore (by decide) rfl dX12_plays_130 ?_
          refine a_iload rfl dX12_plays_132 ?_
          refine n_if_ne 148 (by decide) dX12_plays_134 (by decide) (fun _ => ?_) (fun h => absurd h (by decide))
          refine a_aload_n rfl dX12_plays_148 ?_
          refine a_geta dX12_plays_149 fX12_35 (by decide) rfl rfl ?_
          refine n_bipush 6 rfl dX12_plays_152 ?_
          refine a_iload rfl dX12_plays_154 ?_
          refine n_iadd dX12_plays_156 ?_
          refine a_iload rfl dX12_plays_157 ?_
          refine n_iast (by omega) (by decide) rfl (by decide) dX12_plays_159 ?_
          rw [siM_id (VM_a6 hM (j := 0) (by omega))]
          show AW _ _ _ _ _ _ M
          refine a_iload rfl dX12_plays_160 ?_
          refine r_if_lt 190 dX12_plays_162 (by decide) (fun h_162 => ?_) (fun h_162 => ?_)
          · refine a_iload rfl dX12_plays_190 ?_
            refine a_istore (by decide) rfl dX12_plays_192 ?_
            refine a_iload rfl dX12_plays_194 ?_
            refine a_istore (by decide) rfl dX12_plays_196 ?_
            refine n_iinc (c := 1) rfl rfl (by decide) rfl dX12_plays_198 ?_
            refine a_goto 40 dX12_plays_201 (by decide) ?_
            have hok : gOk S i = true := by rw [show i = S 0 5 from h_59]; exact gOk_0 S
            rw [gA_n hok (aA_n (by omega) h_162)] at ih_40
            exact a_bk ih_40 ⟨rfl, rfl, rfl, rfl, rfl, rfl, rfl, rfl, rfl, trivial⟩
          · refine a_iload rfl dX12_plays_165 ?_
            refine n_if_eq 180 (by omega) dX12_plays_167 (by decide) (fun h_167 => ?_) (fun h_167 => ?_)
            · refine a_iload rfl dX12_plays_180 ?_
              refine a_iload rfl dX12_plays_182 ?_
              refine u_icmp_lt 190 dX12_plays_184 (by decide) (fun h_184 => ?_) (fun h_184 => ?_)
              · refine a_iload rfl dX12_plays_190 ?_
                refine a_istore (by decide) rfl dX12_plays_192 ?_
                refine a_iload rfl dX12_plays_194 ?_
                refine a_istore (by decide) rfl dX12_plays_196 ?_
                refine n_iinc (c := 1) rfl rfl (by decide) rfl dX12_plays_198 ?_
                refine a_goto 40 dX12_plays_201 (by decide) ?_
                have hok : gOk S i = true := by rw [show i = S 0 5 from h_59]; exact gOk_0 S
                obtain ⟨r, er⟩ := aA_s h_162
                have hx := gI_t (gX_le (f := f) (u := u) hF hp hq i)
                have hrr := gI_t (show r.1 ≤ 198 by rw [(gA_in er).2.2]; exact gX_le hF hp hq _)
                rw [er] at h_184
                have h_184 : (gI (gX p q f u S i)).toInt < (gI r.1).toInt := h_184
                rw [gA_t hok er (bet_0 h_167 (by omega))] at ih_40
                exact a_bk ih_40 ⟨rfl, rfl, rfl, rfl, rfl, rfl, rfl, rfl, rfl, trivial⟩
              · refine a_goto 198 dX12_plays_187 (by decide) ?_
                refine n_iinc (c := 1) rfl rfl (by decide) rfl dX12_plays_198 ?_
                refine a_goto 40 dX12_plays_201 (by decide) ?_
                have hok : gOk S i = true := by rw [show i = S 0 5 from h_59]; exact gOk_0 S
                obtain ⟨r, er⟩ := aA_s h_162
                have hx := gI_t (gX_le (f := f) (u := u) hF hp hq i)
                have hrr := gI_t (show r.1 ≤ 198 by rw [(gA_in er).2.2]; exact gX_le hF hp hq _)
                rw [er] at h_184
                have h_184 : ¬ (gI (gX p q f u S i)).toInt < (gI r.1).toInt := h_184
                rw [gA_f hok er (bet_0n h_167 (by omega)), ← er] at ih_40
                exact a_bk ih_40 ⟨rfl, rfl, rfl, rfl, rfl, rfl, rfl, rfl, rfl, trivial⟩
            · refine a_iload rfl dX12_plays_170 ?_
              refine a_iload rfl dX12_plays_172 ?_
              refine u_icmp_gt 190 dX12_plays_174 (by decide) (fun h_174 => ?_) (fun h_174 => ?_)
              · refine a_iload rfl dX12_plays_190 ?_
                refine a_istore (by decide) rfl dX12_plays_192 ?_
                refine a_iload rfl dX12_plays_194 ?_
                refine a_istore (by decide) rfl dX12_plays_196 ?_
                refine n_iinc (c := 1) rfl rfl (by decide) rfl dX12_plays_198 ?_
                refine a_goto 40 dX12_plays_201 (by decide) ?_
                have hok : gOk S i = true := by rw [show i = S 0 5 from h_59]; exact gOk_0 S
                obtain ⟨r, er⟩ := aA_s h_162
                have hx := gI_t (gX_le (f := f) (u := u) hF hp hq i)
                have hrr := gI_t (show r.1 ≤ 198 by rw [(gA_in er).2.2]; exact gX_le hF hp hq _)
                rw [er] at h_174
                have h_174 : (gI r.1).toInt < (gI (gX p q f u S i)).toInt := h_174
                rw [gA_t hok er (bet_1 h_167 hu (by omega))] at ih_40
                exact a_bk ih_40 ⟨rfl, rfl, rfl, rfl, rfl, rfl, rfl, rfl, rfl, trivial⟩
              · refine a_goto 198 dX12_plays_177 (by decide) ?_
                refine n_iinc (c := 1) rfl rfl (by decide) rfl dX12_plays_198 ?_
                refine a_goto 40 dX12_plays_201 (by decide) ?_
                have hok : gOk S i = true := by rw [show i = S 0 5 from h_59]; exact gOk_0 S
                obtain ⟨r, er⟩ := aA_s h_162
                have hx := gI_t (gX_le (f := f) (u := u) hF hp hq i)
                have hrr := gI_t (show r.1 ≤ 198 by rw [(gA_in er).2.2]; exact gX_le hF hp hq _)
                rw [er] at h_174
                have h_174 : ¬ (gI r.1).toInt < (gI (gX p q f u S i)).toInt := h_174
                rw [gA_f hok er (bet_1n h_167 hu (by omega)), ← er] at ih_40
                exact a_bk ih_40 ⟨rfl, rfl, rfl, rfl, rfl, rfl, rfl, rfl, rfl, trivial⟩
    exact a_bk (loop_40 0 (by omega)) ⟨rfl, rfl, rfl, rfl, rfl, rfl, rfl, rfl, rfl, trivial⟩

theorem c_plN {p q n : Nat} (hn9 : n < 100) : ∀ (f t u : Nat), ¬ t = 0 → t + f = n → u ≤ 1 → u = 1 - t % 2 → ∀ {M : Mm} {S : ST}, VM 0 M S → WF S → p < S 0 4 → q < S 0 4 → ∀ {Q : Option Value → Mm → Prop}, Q (some (.int (gI (gV p q f u S)))) M → ∀ d, AMt miX12_plays (d + f + 4) [.ref 132, .int (nI p), .int (nI q), .int (nI t), .int (nI n)] M Q
  | 0, t, u, h0, ht, hu, hut, M, S, hM, hF, hp, hq, Q, hQ, d => c_pl0 hM hF hp hq ht (by omega) hQ d
  | f + 1, t, u, h0, ht, hu, hut, M, S, hM, hF, hp, hq, Q, hQ, d => c_plS (f := f) hM hF hp hq ht hn9 hu hut (fun {_ _} a b e g {_} k d => c_plN hn9 f (t + 1) (1 - u) (by omega) (by omega) (by omega) (by omega) a b e g k d) (fun z => absurd z h0) (fun _ => hQ) d
theorem c_plT {p q n : Nat} (hn9 : n ≤ 4) {M : Mm} {S : ST} (hM : VM 0 M S) (hF : WF S) (hp : p < S 0 4) (hq : q < S 0 4) {Q : Option Value → Mm → Prop} (hQ : ∀ M', fr (fun k j => k = 132 ∧ j = 36) M M' → (∀ f, n = f + 1 → M'.1 132 36 = nI (gAt (gR p q f 1 S))) → Q (some (.int (gI (gV p q n 1 S)))) M') (d : Nat) : AMt miX12_plays (d + n + 4) [.ref 132, .int (nI p), .int (nI q), .int (nI 0), .int (nI n)] M Q := by
  cases n with
  | zero => exact c_pl0 hM hF hp hq rfl (by omega) (hQ M fr.r (fun f e => absurd e (by omega))) d
  | succ f =>
    exact c_plS (f := f) (u := 1) hM hF hp hq (by omega) (by omega) (by omega) (by omega) (fun {_ _} a b e g {_} k d => c_plN (by omega) f 1 0 (by omega) (by omega) (by omega) (by omega) a b e g k d) (fun _ => hQ _ (fr.r.si ⟨rfl, rfl⟩) (fun f2 e => by
      cases e; exact siS)) (fun z => absurd rfl z) d

set_option maxRecDepth 100000 in
set_option maxHeartbeats 800000 in
theorem c_X12_whyNoGame {M : Mm} {T : TT} (hM : VM 0 M (tS T)) (hF : WF (tS T)) {p q n : Int32} {l : Nat} (hl : l ≤ 1) {Q : Option Value → Mm → Prop} (hQ : Q (some (.int (nI (whyG T p q n l)))) M) (d : Nat) : AMt miX12_whyNoGame (d + 2) [.ref 132, .int p, .int q, .int n, .int (nI l)] M Q := by
  refine AMt.of (by decide) (Nat.le_of_ble_eq_true rfl) ?_
  show AW miX12_whyNoGame (d + 2) (mxA Q) 0 [(0, some (.ref 132)), (1, some (.int p)), (2, some (.int q)), (3, some (.int n)), (4, some (.int (nI l)))] [] M
  have hm : tS T 0 2 ≤ 6 := WF_m hF
  have hs : tS T 0 4 ≤ 7 := WF_s hF
  have hn : tS T 0 5 ≤ 8 := WF_n hF
  refine a_aload_n rfl dX12_whyNoGame_0 ?_
  refine a_iload_n rfl dX12_whyNoGame_1 ?_
  refine n_callV (mi' := miX12_isSitterAt) dX12_whyNoGame_2 lX12_371 mX12_isSitterAt (by decide) rfl rfl rfl (c_X12_isSitterAt hM hF (fun j_2 h_2 e_2 => ?_) (fun h_2 => ?_) d) rfl rfl (by omega) (by decide) (Nat.le_of_ble_eq_true rfl)
  · show AW _ _ _ _ _ _ _
    subst e_2
    have t_2 : (nI j_2).toInt = (j_2 : Int) := nI_toInt (by omega)
    refine n_if_eq 16 (by decide) dX12_whyNoGame_5 (by decide) (fun h => absurd h (by decide)) (fun _ => ?_)
    refine a_aload_n rfl dX12_whyNoGame_8 ?_
    refine a_iload_n rfl dX12_whyNoGame_9 ?_
    refine n_callV (mi' := miX12_isSitterAt) dX12_whyNoGame_10 lX12_371 mX12_isSitterAt (by decide) rfl rfl rfl (c_X12_isSitterAt hM hF (fun j_10 h_10 e_10 => ?_) (fun h_10 => ?_) d) rfl rfl (by omega) (by decide) (Nat.le_of_ble_eq_true rfl)
    · show AW _ _ _ _ _ _ _
      subst e_10
      have t_10 : (nI j_10).toInt = (j_10 : Int) := nI_toInt (by omega)
      refine n_if_ne 18 (by decide) dX12_whyNoGame_13 (by decide) (fun _ => ?_) (fun h => absurd h (by decide))
      refine a_iload_n rfl dX12_whyNoGame_18 ?_
      refine a_iload_n rfl dX12_whyNoGame_19 ?_
      refine n_icmp_eq 41 (by omega) (by omega) dX12_whyNoGame_20 (by decide) (fun h_20 => ?_) (fun h_20 => ?_)
      · refine n_iconst 5 rfl dX12_whyNoGame_41 ?_
        refine a_iret dX12_whyNoGame_42 rfl ?_
        rw [show whyG T (nI j_2) (nI j_10) n l = 5 by unfold whyG; rw [if_pos (by omega), if_neg (by rw [idx_nI (show j_2 < 2 ^ 31 by omega), idx_nI (show j_10 < 2 ^ 31 by omega)]; omega)]] at hQ
        exact hQ
      · refine a_iload_n rfl dX12_whyNoGame_23 ?_
        refine a_i2l dX12_whyNoGame_24 ?_
        refine a_iload rfl dX12_whyNoGame_25 ?_
        refine a_i2l dX12_whyNoGame_27 ?_
        refine a_ldc2 kX12_360 dX12_whyNoGame_28 ?_
        refine n_callS (mi' := miX12_isIn) dX12_whyNoGame_31 lX12_104 mX12_isIn (c_X12_isIn (fun h_31 => ?_) (fun h_31 => ?_) d) rfl rfl (by omega) (by decide) (Nat.le_of_ble_eq_true rfl)
        · show AW _ _ _ _ _ _ _
          have h_31 := isIn4 (x := n) (a := (l : Int)) (b := 4) (l64_1 hl) (by decide) h_31
          refine n_if_eq 41 (by decide) dX12_whyNoGame_34 (by decide) (fun h => absurd h (by decide)) (fun _ => ?_)
          refine n_iconst 0 rfl dX12_whyNoGame_37 ?_
          refine a_goto 42 dX12_whyNoGame_38 (by decide) ?_
          refine a_iret dX12_whyNoGame_42 rfl ?_
          rw [show whyG T (nI j_2) (nI j_10) n l = 0 by unfold whyG; rw [if_pos (by omega), if_pos (by rw [idx_nI (show j_2 < 2 ^ 31 by omega), idx_nI (show j_10 < 2 ^ 31 by omega)]; omega)]] at hQ
          exact hQ
        · show AW _ _ _ _ _ _ _
          have h_31 := isIn4n (x := n) (a := (l : Int)) (b := 4) (l64_1 hl) (by decide) h_31
          refine n_if_eq 41 (by decide) dX12_whyNoGame_34 (by decide) (fun _ => ?_) (fun h => absurd h (by decide))
          refine n_iconst 5 rfl dX12_whyNoGame_41 ?_
          refine a_iret dX12_whyNoGame_42 rfl ?_
          rw [show whyG T (nI j_2) (nI j_10) n l = 5 by unfold whyG; rw [if_pos (by omega), if_neg (by rw [idx_nI (show j_2 < 2 ^ 31 by omega), idx_nI (show j_10 < 2 ^ 31 by omega)]; omega)]] at hQ
          exact hQ
    · show AW _ _ _ _ _ _ _
      have h_10 := not_inR h_10 (by omega)
      refine n_if_ne 18 (by decide) dX12_whyNoGame_13 (by decide) (fun h => absurd h (by decide)) (fun _ => ?_)
      refine n_iconst 2 rfl dX12_whyNoGame_16 ?_
      refine a_iret dX12_whyNoGame_17 rfl ?_
      rw [show whyG T (nI j_2) q n l = 2 by unfold whyG; rw [if_neg (by omega)]] at hQ
      exact hQ
  · show AW _ _ _ _ _ _ _
    have h_2 := not_inR h_2 (by omega)
    refine n_if_eq 16 (by decide) dX12_whyNoGame_5 (by decide) (fun _ => ?_) (fun h => absurd h (by decide))
    refine n_iconst 2 rfl dX12_whyNoGame_16 ?_
    refine a_iret dX12_whyNoGame_17 rfl ?_
    rw [show whyG T p q n l = 2 by unfold whyG; rw [if_neg (by omega)]] at hQ
    exact hQ

set_option maxRecDepth 100000 in
set_option maxHeartbeats 800000 in
theorem c_X12_game {M : Mm} {T : TT} (hI : IM M T) (hG : TG T) {p : Int32} {q : Int32} {n : Int32} {Q : Option Value → Mm → Prop} (hQ : ∀ M', IM M' (sp_game p q n T).2 → keX M M' → Q (some (.int (sp_game p q n T).1)) M') (d : Nat) : AMt miX12_game (d + 14) [.ref 132, .int p, .int q, .int n] M Q := by
  refine AMt.of (by decide) (Nat.le_of_ble_eq_true rfl) ?_
  show AW miX12_game (d + 14) (mxA Q) 0 [(0, some (.ref 132)), (1, some (.int p)), (2, some (.int q)), (3, some (.int n))] [] M
  have hF : WF (tS T) := hG.1.1
  have hM : VM 0 M (tS T) := hI.1.1
  have hM1 := m0_VM hM hF
  have hm : tS T 0 2 ≤ 6 := WF_m hF
  have hh : tS T 0 3 ≤ 10 := WF_h hF
  have hs : tS T 0 4 ≤ 7 := WF_s hF
  have hn : tS T 0 5 ≤ 8 := WF_n hF
  have hd9 : tS T 0 1 ≤ 9999 := hG.1.2.2.2.2.1
  have hwg := whyG_le T p q n 0
  refine a_aload_n rfl dX12_game_0 ?_
  refine n_iconst 0 rfl dX12_game_1 ?_
  refine a_puti dX12_game_2 pX12_69 (by decide) rfl rfl ?_
  have hMt : VM 0 (siM M 132 1 (nI 0)) (tS T) := VM_e hM (fun j _ => siN rfl (by omega)) hF
  refine a_aload_n rfl dX12_game_5 ?_
  refine a_aload_n rfl dX12_game_6 ?_
  refine a_iload_n rfl dX12_game_7 ?_
  refine a_iload_n rfl dX12_game_8 ?_
  refine a_iload_n rfl dX12_game_9 ?_
  refine n_iconst 0 rfl dX12_game_10 ?_
  refine n_callV (mi' := miX12_whyNoGame) dX12_game_11 lX12_524 mX12_whyNoGame (by decide) rfl rfl rfl (c_X12_whyNoGame hMt hF (l := 0) (by omega) ?_ d) rfl rfl (by omega) (by decide) (Nat.le_of_ble_eq_true rfl)
  show AW _ _ _ _ _ _ _
  refine a_puti dX12_game_14 pX12_72 (by decide) rfl rfl ?_
  refine a_aload_n rfl dX12_game_17 ?_
  refine g_i siS (by decide) rfl fX12_72 rfl dX12_game_18 ?_
  refine n_if_le 28 (by omega) dX12_game_21 (by decide) (fun h_21 => ?_) (fun h_21 => ?_)
  · rw [h_21]
    show AW _ _ _ _ _ _ (m0 M)
    obtain ⟨hp0, hq0, hne0, hn0, hn4⟩ := whyG_0 h_21
    obtain ⟨a, ha, rfl⟩ := inR_of (x := p) (m := tS T 0 4) (by omega) (by omega) (by omega)
    have t_a : (nI a).toInt = (a : Int) := nI_toInt (by omega)
    have i_a : idx (nI a) = a := idx_nI (by omega)
    obtain ⟨b, hb, rfl⟩ := inR_of (x := q) (m := tS T 0 4) (by omega) (by omega) (by omega)
    have t_b : (nI b).toInt = (b : Int) := nI_toInt (by omega)
    have i_b : idx (nI b) = b := idx_nI (by omega)
    obtain ⟨t, ht, rfl⟩ := inR_of (x := n) (m := 5) (by omega) (by omega) (by omega)
    have t_t : (nI t).toInt = (t : Int) := nI_toInt (by omega)
    have i_t : idx (nI t) = t := idx_nI (by omega)
    rw [i_a, i_b] at hne0
    refine a_aload_n rfl dX12_game_28 ?_
    refine a_iload_n rfl dX12_game_29 ?_
    refine a_iload_n rfl dX12_game_30 ?_
    refine n_iconst 0 rfl dX12_game_31 ?_
    refine a_iload_n rfl dX12_game_32 ?_
    refine n_callV (mi' := miX12_plays) dX12_game_33 lX12_518 mX12_plays (by decide) rfl rfl rfl (c_plT (n := t) (by omega) hM1 hF ha hb (fun M_33 hf_33 hm_33 => ?_) d) rfl rfl (by omega) (by decide) (Nat.le_of_ble_eq_true rfl)
    show AW _ _ _ _ _ _ _
    have hM_33 : VM 0 M_33 (tS T) := VM_e hM1 (fun j _ => (hf_33 137 j (by omega)).1) hF
    refine a_iret dX12_game_36 rfl ?_
    exact fin_qM hQ hI hG (by unfold sp_game; rw [if_pos (by omega), if_pos (by rw [i_a, i_b]; omega), i_a, i_b, i_t]) (hf_33.i m0_s (by omega)) (m0_fr.t (hf_33.mo (fun k j h => by unfold scM coM; omega)))
  · refine a_iconst (-1) rfl dX12_game_24 ?_
    refine a_goto 36 dX12_game_25 (by decide) ?_
    refine a_iret dX12_game_36 rfl ?_
    exact fin_qM hQ hI hG (game_no h_21) siS ((fr.r.si (by unfold scM coM; omega)).si (by unfold scM coM; omega))

set_option maxRecDepth 100000 in
set_option maxHeartbeats 800000 in
theorem c_X12_moveOf {M : Mm} {T : TT} (hI : IM M T) (hG : TG T) {p : Int32} {q : Int32} {n : Int32} {Q : Option Value → Mm → Prop} (hQ : ∀ M', IM M' (sp_moveOf p q n T).2 → keX M M' → Q (some (.int (sp_moveOf p q n T).1)) M') (d : Nat) : AMt miX12_moveOf (d + 14) [.ref 132, .int p, .int q, .int n] M Q := by
  refine AMt.of (by decide) (Nat.le_of_ble_eq_true rfl) ?_
  show AW miX12_moveOf (d + 14) (mxA Q) 0 [(0, some (.ref 132)), (1, some (.int p)), (2, some (.int q)), (3, some (.int n))] [] M
  have hF : WF (tS T) := hG.1.1
  have hM : VM 0 M (tS T) := hI.1.1
  have hM1 := m0_VM hM hF
  have hm : tS T 0 2 ≤ 6 := WF_m hF
  have hh : tS T 0 3 ≤ 10 := WF_h hF
  have hs : tS T 0 4 ≤ 7 := WF_s hF
  have hn : tS T 0 5 ≤ 8 := WF_n hF
  have hd9 : tS T 0 1 ≤ 9999 := hG.1.2.2.2.2.1
  have hwg := whyG_le T p q n 1
  refine a_aload_n rfl dX12_moveOf_0 ?_
  refine n_iconst 0 rfl dX12_moveOf_1 ?_
  refine a_puti dX12_moveOf_2 pX12_69 (by decide) rfl rfl ?_
  have hMt : VM 0 (siM M 132 1 (nI 0)) (tS T) := VM_e hM (fun j _ => siN rfl (by omega)) hF
  refine a_aload_n rfl dX12_moveOf_5 ?_
  refine a_aload_n rfl dX12_moveOf_6 ?_
  refine a_iload_n rfl dX12_moveOf_7 ?_
  refine a_iload_n rfl dX12_moveOf_8 ?_
  refine a_iload_n rfl dX12_moveOf_9 ?_
  refine n_iconst 1 rfl dX12_moveOf_10 ?_
  refine n_callV (mi' := miX12_whyNoGame) dX12_moveOf_11 lX12_524 mX12_whyNoGame (by decide) rfl rfl rfl (c_X12_whyNoGame hMt hF (l := 1) (by omega) ?_ d) rfl rfl (by omega) (by decide) (Nat.le_of_ble_eq_true rfl)
  show AW _ _ _ _ _ _ _
  refine a_puti dX12_moveOf_14 pX12_72 (by decide) rfl rfl ?_
  refine a_aload_n rfl dX12_moveOf_17 ?_
  refine g_i siS (by decide) rfl fX12_72 rfl dX12_moveOf_18 ?_
  refine n_if_le 26 (by omega) dX12_moveOf_21 (by decide) (fun h_21 => ?_) (fun h_21 => ?_)
  · rw [h_21]
    show AW _ _ _ _ _ _ (m0 M)
    obtain ⟨hp0, hq0, hne0, hn0, hn4⟩ := whyG_0 h_21
    obtain ⟨a, ha, rfl⟩ := inR_of (x := p) (m := tS T 0 4) (by omega) (by omega) (by omega)
    have t_a : (nI a).toInt = (a : Int) := nI_toInt (by omega)
    have i_a : idx (nI a) = a := idx_nI (by omega)
    obtain ⟨b, hb, rfl⟩ := inR_of (x := q) (m := tS T 0 4) (by omega) (by omega) (by omega)
    have t_b : (nI b).toInt = (b : Int) := nI_toInt (by omega)
    have i_b : idx (nI b) = b := idx_nI (by omega)
    obtain ⟨t, ht, rfl⟩ := inR_of (x := n) (m := 5) (by omega) (by omega) (by omega)
    have t_t : (nI t).toInt = (t : Int) := nI_toInt (by omega)
    have i_t : idx (nI t) = t := idx_nI (by omega)
    rw [i_a, i_b] at hne0
    obtain ⟨f, rfl⟩ : ∃ f, t = f + 1 := ⟨t - 1, by omega⟩
    refine a_aload_n rfl dX12_moveOf_26 ?_
    refine a_iload_n rfl dX12_moveOf_27 ?_
    refine a_iload_n rfl dX12_moveOf_28 ?_
    refine n_iconst 0 rfl dX12_moveOf_29 ?_
    refine a_iload_n rfl dX12_moveOf_30 ?_
    refine n_callV (mi' := miX12_plays) dX12_moveOf_31 lX12_518 mX12_plays (by decide) rfl rfl rfl (c_plT (n := f + 1) (by omega) hM1 hF ha hb (fun M_31 hf_31 hm_31 => ?_) d) rfl rfl (by omega) (by decide) (Nat.le_of_ble_eq_true rfl)
    show AW _ _ _ _ _ _ _
    have hM_31 : VM 0 M_31 (tS T) := VM_e hM1 (fun j _ => (hf_31 137 j (by omega)).1) hF
    refine a_pop rfl dX12_moveOf_34 ?_
    refine a_aload_n rfl dX12_moveOf_35 ?_
    refine g_i (hm_31 f rfl) (by decide) rfl fX12_521 rfl dX12_moveOf_36 ?_
    have hgl : gAt (gR a b f 1 (tS T)) ≤ tS T 0 5 := gAt_le a b f (tS T)
    refine a_aload_n rfl dX12_moveOf_39 ?_
    refine a_geta dX12_moveOf_40 fX12_35 (by decide) rfl rfl ?_
    refine n_iconst 3 rfl dX12_moveOf_43 ?_
    refine v_iald (by omega) (VM_s3 hM_31) (by decide) rfl (by decide) dX12_moveOf_44 ?_
    refine n_icmp_ne 57 (by omega) (by omega) dX12_moveOf_45 (by decide) (fun h_45 => ?_) (fun h_45 => ?_)
    · refine a_aload_n rfl dX12_moveOf_57 ?_
      refine g_i (hm_31 f rfl) (by decide) rfl fX12_521 rfl dX12_moveOf_58 ?_
      refine a_iret dX12_moveOf_61 rfl ?_
      exact fin_qM hQ hI hG (by unfold sp_moveOf; rw [if_pos (by omega), if_pos (by rw [i_a, i_b]; omega), i_a, i_b, i_t, Nat.add_sub_cancel, show gMv a b f (tS T) = some _ from if_neg h_45]) (hf_31.i m0_s (by omega)) (m0_fr.t (hf_31.mo (fun k j h => by unfold scM coM; omega)))
    · refine a_aload_n rfl dX12_moveOf_48 ?_
      refine n_bipush 8 rfl dX12_moveOf_49 ?_
      refine n_callV (mi' := miX12_refuse) dX12_moveOf_51 lX12_345 mX12_refuse (by decide) rfl rfl rfl (c_X12_refuse ?_ d) rfl rfl (by omega) (by decide) (Nat.le_of_ble_eq_true rfl)
      show AW _ _ _ _ _ _ _
      refine a_goto 61 dX12_moveOf_54 (by decide) ?_
      refine a_iret dX12_moveOf_61 rfl ?_
      exact fin_qM hQ hI hG (by unfold sp_moveOf; rw [if_pos (by omega), if_pos (by rw [i_a, i_b]; omega), i_a, i_b, i_t, Nat.add_sub_cancel, show gMv a b f (tS T) = none from if_pos h_45]) siS ((m0_fr.t (hf_31.mo (fun k j h => by unfold scM coM; omega))).si (by unfold scM coM; omega))
  · refine a_iconst (-1) rfl dX12_moveOf_24 ?_
    refine a_iret dX12_moveOf_25 rfl ?_
    exact fin_qM hQ hI hG (move_no h_21) siS ((fr.r.si (by unfold scM coM; omega)).si (by unfold scM coM; omega))

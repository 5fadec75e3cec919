theorem n_abs {mi : MI} {d : Nat} {X : CX} {pc : Nat} {L : List (Nat × Option Value)} {st : List Value} {M : Mm} {a b idx : Nat} (ha : a < 2 ^ 30) (hb : b < 2 ^ 30) (hd : decode mi.2.1 pc = .ok (.invokestatic idx, 3)) (h1 : Cond.methodLink mi.1.cls idx Lib.Math.abs.name ∈ TB) (hcat : (st.map fun v => v.category).sum ≤ 8) (kk : AW mi d X (pc + 3) L (.int (nI (dst a b)) :: st) M) : AW mi d X pc L (.int (nI a - nI b) :: st) M := by
  refine a_abs hd h1 hcat ?_
  have e := pk_sub_toInt ha hb
  by_cases h : b ≤ a
  · rw [if_pos (by rw [Int32.le_iff_toInt_le, e, show (0 : Int32).toInt = 0 by decide]; omega), pk_sub h, show a - b = dst a b by unfold dst; omega]
    exact kk
  · rw [if_neg (by rw [Int32.le_iff_toInt_le, e, show (0 : Int32).toInt = 0 by decide]; omega)]
    rw [show (0 : Int32) - (nI a - nI b) = nI (dst a b) by
      apply Int32.toInt_inj.mp
      rw [i32_sub (by rw [e, show (0 : Int32).toInt = 0 by decide]; omega) (by rw [e, show (0 : Int32).toInt = 0 by decide]; omega), e, nI_toInt (by unfold dst; omega), show (0 : Int32).toInt = 0 by decide]
      unfold dst; omega]
    exact kk
theorem up_all {M : Mm} {f : Nat → Nat} {q v : Nat} (h : ∀ i, i < 896 → M.1 129 i = nI (f i)) : ∀ i, i < 896 → (siM M 129 q (nI v)).1 129 i = nI (updN f q v i) := by
  intro i hi
  unfold updN
  by_cases e : i = q
  · subst e; rw [siS, if_pos rfl]
  · rw [siN (h i hi) (by omega), if_neg e]
theorem go_a {all m : Nat} {mi w : Nat → Nat} {set l : Nat} (i : Nat) : goN all m mi w set l i ≤ w i := by
  unfold goN
  split
  · exact Nat.le_refl _
  · exact rx_a _ _
theorem ls_a {all m : Nat} {mi w : Nat → Nat} {set : Nat} : ∀ (j i : Nat), lsF all m mi w set j i ≤ w i
  | 0, i => Nat.le_refl _
  | j + 1, i => Nat.le_trans (go_a i) (ls_a j i)
theorem sv_a {all m : Nat} {mi w : Nat → Nat} : ∀ (j i : Nat), svF all m mi w j i ≤ w i
  | 0, i => Nat.le_refl _
  | j + 1, i => Nat.le_trans (ls_a _ i) (sv_a j i)
theorem in_far {all m : Nat} {mi : Nat → Nat} {mile : Nat} (hB : MB mi m) (hmi : mile ≤ 59) : ∀ {j : Nat}, j ≤ m → ∀ i, inW all mi mile j i ≤ 1000000 := by
  intro j hj i
  rcases in_d (all := all) (mi := mi) (mile := mile) j i with e | ⟨k, hk, _, _, e⟩
  · rw [e]; exact Nat.le_refl _
  · rw [e]
    have := hB.2 k (by omega)
    have h1 : dst mile (mi k) ≤ 59 := by unfold dst; omega
    have h2 := Nat.mul_le_mul h1 (szN_le all)
    omega
def ndS (S : ST) : Nat := (2 ^ S 0 4 - 1) ^^^ ((2 ^ S 0 4 - 1) &&& downN S)
theorem nd_lt (S : ST) : ndS S < 2 ^ S 0 4 := cS_lt (by have := Nat.two_pow_pos (S 0 4); omega)
/-- ROUND from a MILE -/
def roN (S : ST) (mile : Nat) : Nat := rF (S 5) (S 0 4) (cnP (S 0 4) (fun p => (ndS S).testBit p)) (fun p => (ndS S).testBit p) mile
def sp_round (x : Int32) (T : TT) : AN := if inN x 60 then (nI (roN (tS T) (idx x)), st' T 0) else (-1, st' T 5)
theorem WF_MB {S : ST} (hF : WF S) : MB (S 5) (S 0 4) := ⟨WF_s hF, WF_mile hF⟩
theorem go_lt {all m : Nat} {mi w : Nat → Nat} {set l : Nat} (h : ¬ FAR ≤ w (set * 7 + l)) : goN all m mi w set l = rxN all mi w set l (w (set * 7 + l)) (szN (all ^^^ (all &&& set))) m := by unfold goN; rw [if_neg h]

set_option maxRecDepth 100000 in
set_option maxHeartbeats 800000 in
theorem c_X3_wayTo {M : Mm} {a b : Nat} {Q : Option Value → Mm → Prop} (hQ : Q (some (.int (nI (a * 7 + b)))) M) (d : Nat) : AMt miX3_wayTo (d) [.int (nI a), .int (nI b)] M Q := by
  refine AMt.of (by decide) (Nat.le_of_ble_eq_true rfl) ?_
  show AW miX3_wayTo (d) (mxA Q) 0 [(0, some (.int (nI a))), (1, some (.int (nI b)))] [] M
  refine a_iload_n rfl dX3_wayTo_0 ?_
  refine n_bipush 7 rfl dX3_wayTo_1 ?_
  refine n_imul dX3_wayTo_3 ?_
  refine a_iload_n rfl dX3_wayTo_4 ?_
  refine n_iadd dX3_wayTo_5 ?_
  refine a_iret dX3_wayTo_6 rfl ?_
  exact hQ

set_option maxRecDepth 100000 in
set_option maxHeartbeats 800000 in
theorem c_X3_goOn {M : Mm} {S : ST} (hV : VX 17 M S) (hF : WF S) {w : Nat → Nat} (hw : ∀ i, i < 896 → M.1 129 i = nI (w i)) (hwb : ∀ i, w i ≤ 1000000) {all set l : Nat} (hall : all < 2 ^ S 0 4) (hset : set < 2 ^ S 0 4) (hl : l < S 0 4) {Q : Option Value → Mm → Prop} (hQ : ∀ M', (∀ i, i < 896 → M'.1 129 i = nI (goN all (S 0 4) (S 5) w set l i)) → fr (fun k _ => k = 129) M M' → Q none M') (d : Nat) : AMt miX3_goOn (d + 1) [.ref 123, .ref 17, .int (nI all), .int (nI set), .int (nI l)] M Q := by
  refine AMt.of (by decide) (Nat.le_of_ble_eq_true rfl) ?_
  show AW miX3_goOn (d + 1) (mxA Q) 0 [(0, some (.ref 123)), (1, some (.ref 17)), (2, some (.int (nI all))), (3, some (.int (nI set))), (4, some (.int (nI l)))] [] M
  have hm := WF_m hF
  have hh := WF_h hF
  have hs := WF_s hF
  have hn := WF_n hF
  have hk3 := pow_le hs
  have hk0 := Nat.two_pow_pos (S 0 4)
  have hrl : (all ^^^ (all &&& set)) < 2 ^ S 0 4 := cS_lt hall
  have hwl := hwb (set * 7 + l)
  have hszl := szN_le (all ^^^ (all &&& set))
  refine a_aload_n rfl dX3_goOn_0 ?_
  refine a_geta dX3_goOn_1 fX3_27 (by decide) rfl rfl ?_
  refine a_iload_n rfl dX3_goOn_4 ?_
  refine a_iload rfl dX3_goOn_5 ?_
  refine n_callS (mi' := miX3_wayTo) dX3_goOn_7 lX3_137 mX3_wayTo (c_X3_wayTo ?_ d) rfl rfl (by omega) (by decide) (Nat.le_of_ble_eq_true rfl)
  show AW _ _ _ _ _ _ _
  refine v_iald (by omega) (hw _ (by omega)) (by decide) rfl (by decide) dX3_goOn_10 ?_
  refine a_istore (by decide) rfl dX3_goOn_11 ?_
  refine a_iload rfl dX3_goOn_13 ?_
  refine a_ldc kX3_120 dX3_goOn_15 ?_
  refine a_eqi (y := nI 1000000) rfl ?_
  refine n_icmp_lt 21 (by omega) (by omega) dX3_goOn_17 (by decide) (fun h_17 => ?_) (fun h_17 => ?_)
  · refine a_iload_n rfl dX3_goOn_21 ?_
    refine a_iload_n rfl dX3_goOn_22 ?_
    refine a_iconst (-1) rfl dX3_goOn_23 ?_
    refine a_ixor dX3_goOn_24 ?_
    refine n_andc dX3_goOn_25 ?_
    refine n_callS (mi' := miJ6_bitCount_0f7a4) dX3_goOn_26 lX3_36 mJ6_bitCount_0f7a4 (c_J6_bitCount_0f7a4 (by omega) ?_ d) rfl rfl (by omega) (by decide) (Nat.le_of_ble_eq_true rfl)
    show AW _ _ _ _ _ _ _
    refine a_istore (by decide) rfl dX3_goOn_29 ?_
    refine n_iconst 0 rfl dX3_goOn_31 ?_
    refine a_istore (by decide) rfl dX3_goOn_32 ?_
    have loop_34 : ∀ j, j ≤ S 0 4 → ∀ M1, ((∀ i, i < 896 → (M1).1 129 i = nI (rxN all (S 5) w set l (w (set * 7 + l)) (szN (all ^^^ (all &&& set))) j i)) ∧ fr (fun k _ => k = 129) M M1) → AW miX3_goOn (d + 1) (mxA Q) 34 [(0, some (.ref 123)), (1, some (.ref 17)), (2, some (.int (nI all))), (3, some (.int (nI set))), (4, some (.int (nI l))), (5, some (.int (nI (w (set * 7 + l))))), (6, some (.int (nI (szN (all ^^^ (all &&& set)))))), (7, some (.int (nI j)))] [] M1 := by
      refine up (W := fun j => ∀ M1, ((∀ i, i < 896 → (M1).1 129 i = nI (rxN all (S 5) w set l (w (set * 7 + l)) (szN (all ^^^ (all &&& set))) j i)) ∧ fr (fun k _ => k = 129) M M1) → AW miX3_goOn (d + 1) (mxA Q) 34 [(0, some (.ref 123)), (1, some (.ref 17)), (2, some (.int (nI all))), (3, some (.int (nI set))), (4, some (.int (nI l))), (5, some (.int (nI (w (set * 7 + l))))), (6, some (.int (nI (szN (all ^^^ (all &&& set)))))), (7, some (.int (nI j)))] [] M1) (S 0 4) (fun M1 hI_34 => ?_) (fun j hi_34 ih_34 M1 hI_34 => ?_)
      · have hV_34 : VX 17 M1 S := VX_fr hV (fun k j a b => (hI_34.2 k j (by omega)).1)
        refine a_iload rfl dX3_goOn_34 ?_
        refine a_aload_n rfl dX3_goOn_36 ?_
        refine g_i (VX_4 hV_34) (by decide) rfl fX3_125 rfl dX3_goOn_37 ?_
        refine n_icmp_ge 120 (by omega) (by omega) dX3_goOn_40 (by decide) (fun h_40 => ?_) (fun h_40 => absurd h_40 (by omega))
        refine a_vret dX3_goOn_120 rfl ?_
        exact hQ _ (fun i hi => by rw [go_lt (show ¬ FAR ≤ w (set * 7 + l) by unfold FAR; omega)]; exact hI_34.1 i hi) hI_34.2
      · have hV_34 : VX 17 M1 S := VX_fr hV (fun k j a b => (hI_34.2 k j (by omega)).1)
        refine a_iload rfl dX3_goOn_34 ?_
        refine a_aload_n rfl dX3_goOn_36 ?_
        refine g_i (VX_4 hV_34) (by decide) rfl fX3_125 rfl dX3_goOn_37 ?_
        refine n_icmp_ge 120 (by omega) (by omega) dX3_goOn_40 (by decide) (fun h_40 => absurd h_40 (by omega)) (fun h_40 => ?_)
        refine a_iload_n rfl dX3_goOn_43 ?_
        refine a_iload_n rfl dX3_goOn_44 ?_
        refine a_iconst (-1) rfl dX3_goOn_45 ?_
        refine a_ixor dX3_goOn_46 ?_
        refine n_andc dX3_goOn_47 ?_
        refine a_iload rfl dX3_goOn_48 ?_
        refine n_callS (mi' := miX3_isIn) dX3_goOn_50 lX3_50 mX3_isIn (c_X3_isIn (by omega) (by omega) (fun h_50 => ?_) (fun h_50 => ?_) d) rfl rfl (by omega) (by decide) (Nat.le_of_ble_eq_true rfl)
        · show AW _ _ _ _ _ _ _
          refine n_if_eq 114 (by decide) dX3_goOn_53 (by decide) (fun h => absurd h (by decide)) (fun _ => ?_)
          have hol := or_lt2 hset hi_34
          have hm1 := WF_mile hF l hl
          have hm2 := WF_mile hF j hi_34
          have hds : dst (S 5 l) (S 5 j) ≤ 59 := by unfold dst; omega
          have hdm : dst (S 5 l) (S 5 j) * szN (all ^^^ (all &&& set)) ≤ 59 * 10 := Nat.mul_le_mul hds hszl
          have hrxb : rxN all (S 5) w set l (w (set * 7 + l)) (szN (all ^^^ (all &&& set))) j ((set ||| 2 ^ j) * 7 + j) ≤ 1000000 := Nat.le_trans (rx_a _ _) (hwb _)
          refine a_iload_n rfl dX3_goOn_56 ?_
          refine n_iconst 1 rfl dX3_goOn_57 ?_
          refine a_iload rfl dX3_goOn_58 ?_
          refine n_bit (by omega) dX3_goOn_60 ?_
          refine n_ior dX3_goOn_61 ?_
          refine a_iload rfl dX3_goOn_62 ?_
          refine n_callS (mi' := miX3_wayTo) dX3_goOn_64 lX3_137 mX3_wayTo (c_X3_wayTo ?_ d) rfl rfl (by omega) (by decide) (Nat.le_of_ble_eq_true rfl)
          show AW _ _ _ _ _ _ _
          refine a_istore (by decide) rfl dX3_goOn_67 ?_
          refine a_aload_n rfl dX3_goOn_69 ?_
          refine a_geta dX3_goOn_70 fX3_140 (by decide) rfl rfl ?_
          refine a_iload rfl dX3_goOn_73 ?_
          refine v_iald (by omega) (VX_a7 hV_34 (by omega)) (by decide) rfl (by decide) dX3_goOn_75 ?_
          refine a_aload_n rfl dX3_goOn_76 ?_
          refine a_geta dX3_goOn_77 fX3_140 (by decide) rfl rfl ?_
          refine a_iload rfl dX3_goOn_80 ?_
          refine v_iald (by omega) (VX_a7 hV_34 (by omega)) (by decide) rfl (by decide) dX3_goOn_82 ?_
          refine a_isub dX3_goOn_83 ?_
          refine n_abs (by omega) (by omega) dX3_goOn_84 lX3_143 (Nat.le_of_ble_eq_true rfl) ?_
          refine a_iload rfl dX3_goOn_87 ?_
          refine n_imul dX3_goOn_89 ?_
          refine a_istore (by decide) rfl dX3_goOn_90 ?_
          refine a_aload_n rfl dX3_goOn_92 ?_
          refine a_geta dX3_goOn_93 fX3_27 (by decide) rfl rfl ?_
          refine a_iload rfl dX3_goOn_96 ?_
          refine a_aload_n rfl dX3_goOn_98 ?_
          refine a_geta dX3_goOn_99 fX3_27 (by decide) rfl rfl ?_
          refine a_iload rfl dX3_goOn_102 ?_
          refine v_iald (by omega) (hI_34.1 _ (by omega)) (by decide) rfl (by decide) dX3_goOn_104 ?_
          refine a_iload rfl dX3_goOn_105 ?_
          refine a_iload rfl dX3_goOn_107 ?_
          refine n_iadd dX3_goOn_109 ?_
          refine n_min (by omega) (by omega) dX3_goOn_110 lX3_73 (Nat.le_of_ble_eq_true rfl) ?_
          refine n_iast (by omega) (by decide) rfl (by decide) dX3_goOn_113 ?_
          refine n_iinc (c := 1) rfl rfl (by decide) rfl dX3_goOn_114 ?_
          refine a_goto 34 dX3_goOn_117 (by decide) ?_
          exact a_bk (ih_34 _ ⟨fun i hi => by rw [rxN, if_pos (show cS all set j = true from h_50)]; exact up_all hI_34.1 i hi, hI_34.2.si rfl⟩) ⟨rfl, rfl, rfl, rfl, rfl, rfl, rfl, rfl, trivial⟩
        · show AW _ _ _ _ _ _ _
          refine n_if_eq 114 (by decide) dX3_goOn_53 (by decide) (fun _ => ?_) (fun h => absurd h (by decide))
          refine n_iinc (c := 1) rfl rfl (by decide) rfl dX3_goOn_114 ?_
          refine a_goto 34 dX3_goOn_117 (by decide) ?_
          exact a_bk (ih_34 _ ⟨fun i hi => by rw [rxN, if_neg (show ¬ cS all set j = true from fun q => by unfold cS at q; rw [h_50] at q; exact absurd q (by decide))]; exact hI_34.1 i hi, hI_34.2⟩) ⟨rfl, rfl, rfl, rfl, rfl, rfl, rfl, rfl, trivial⟩
    exact a_bk (loop_34 0 (by omega) _ ⟨hw, fr.r⟩) ⟨rfl, rfl, rfl, rfl, rfl, rfl, rfl, rfl, trivial⟩
  · refine a_vret dX3_goOn_20 rfl ?_
    exact hQ _ (fun i hi => by unfold goN; rw [if_pos (show FAR ≤ w (set * 7 + l) by unfold FAR; omega)]; exact hw i hi) fr.r

theorem bs_far (all : Nat) (w : Nat → Nat) : ∀ (j : Nat), bsF all w j ≤ 1000000
  | 0 => by unfold bsF; split; exact Nat.zero_le _; exact Nat.le_refl _
  | j + 1 => Nat.le_trans (Nat.min_le_left _ _) (bs_far all w j)

set_option maxRecDepth 100000 in
set_option maxHeartbeats 800000 in
theorem c_X3_shortestRound {M : Mm} {S : ST} (hV : VX 17 M S) (hF : WF S) {mile : Nat} (hmi : mile ≤ 59) {Q : Option Value → Mm → Prop} (hQ : ∀ M', fr (fun k _ => k = 129) M M' → Q (some (.int (nI (roN S mile)))) M') (d : Nat) : AMt miX3_shortestRound (d + 2) [.ref 123, .ref 17, .int (nI mile)] M Q := by
  refine AMt.of (by decide) (Nat.le_of_ble_eq_true rfl) ?_
  show AW miX3_shortestRound (d + 2) (mxA Q) 0 [(0, some (.ref 123)), (1, some (.ref 17)), (2, some (.int (nI mile)))] [] M
  have hm := WF_m hF
  have hh := WF_h hF
  have hs := WF_s hF
  have hn := WF_n hF
  have hk3 := pow_le hs
  have hk0 := Nat.two_pow_pos (S 0 4)
  have hnl := nd_lt S
  have hB := WF_MB hF
  refine n_iconst 1 rfl dX3_shortestRound_0 ?_
  refine a_aload_n rfl dX3_shortestRound_1 ?_
  refine g_i (VX_4 hV) (by decide) rfl fX3_125 rfl dX3_shortestRound_2 ?_
  refine n_bit (by omega) dX3_shortestRound_5 ?_
  refine n_iconst 1 rfl dX3_shortestRound_6 ?_
  refine n_isub (by omega) dX3_shortestRound_7 ?_
  refine a_aload_n rfl dX3_shortestRound_8 ?_
  refine a_aload_n rfl dX3_shortestRound_9 ?_
  refine a_geta dX3_shortestRound_10 fX3_58 (by decide) rfl rfl ?_
  refine n_callV (mi' := miX6_downSet) dX3_shortestRound_13 lX3_79 mX6_downSet (by decide) rfl rfl rfl (c_X6_downSet isW17 hV hF (f := S 2) (by decide) rfl (fun j hj => VX_a3 hV hj) (fun j hj => WF_clear hF j hj) ?_ d) rfl rfl (by omega) (by decide) (Nat.le_of_ble_eq_true rfl)
  show AW _ _ _ _ _ _ _
  refine a_iconst (-1) rfl dX3_shortestRound_16 ?_
  refine a_ixor dX3_shortestRound_17 ?_
  refine n_andc dX3_shortestRound_18 ?_
  refine a_eqi (y := nI (ndS S)) rfl ?_
  refine a_istore_n (by decide) rfl dX3_shortestRound_19 ?_
  refine a_iload_n rfl dX3_shortestRound_20 ?_
  refine n_if_ne 28 (by omega) dX3_shortestRound_21 (by decide) (fun h_21 => ?_) (fun h_21 => ?_)
  · refine a_ldc kX3_120 dX3_shortestRound_28 ?_
    refine a_eqi (y := nI 1000000) rfl ?_
    refine a_eqi (y := nI (bsF (ndS S) (svF (ndS S) (S 0 4) (S 5) (inW (ndS S) (S 5) mile (S 0 4)) (ndS S)) 0)) (congrArg nI (show 1000000 = (if ndS S = 0 then 0 else FAR) by rw [if_neg h_21])) ?_
    refine a_istore (by decide) rfl dX3_shortestRound_30 ?_
    refine a_aload_n rfl dX3_shortestRound_32 ?_
    refine a_geta dX3_shortestRound_33 fX3_27 (by decide) rfl rfl ?_
    refine a_ldc kX3_120 dX3_shortestRound_36 ?_
    refine a_eqi (y := nI 1000000) rfl ?_
    refine n_callS (mi' := miJ7_fill_53178) dX3_shortestRound_38 lX3_83 mJ7_fill_53178 (c_fill896 (by decide) rfl (fun M_38 hz_38 hf_38 => ?_) d) rfl rfl (by omega) (by decide) (Nat.le_of_ble_eq_true rfl)
    show AW _ _ _ _ _ _ _
    refine n_iconst 0 rfl dX3_shortestRound_41 ?_
    refine a_istore (by decide) rfl dX3_shortestRound_42 ?_
    have loop_44 : ∀ i, i ≤ S 0 4 → ∀ M1, ((∀ q, q < 896 → (M1).1 129 q = nI (inW (ndS S) (S 5) mile i q)) ∧ fr (fun k _ => k = 129) M M1) → AW miX3_shortestRound (d + 2) (mxA Q) 44 [(0, some (.ref 123)), (1, some (.ref 17)), (2, some (.int (nI mile))), (3, some (.int (nI (ndS S)))), (4, some (.int (nI (bsF (ndS S) (svF (ndS S) (S 0 4) (S 5) (inW (ndS S) (S 5) mile (S 0 4)) (ndS S)) 0)))), (5, some (.int (nI i)))] [] M1 := by
      refine up (W := fun i => ∀ M1, ((∀ q, q < 896 → (M1).1 129 q = nI (inW (ndS S) (S 5) mile i q)) ∧ fr (fun k _ => k = 129) M M1) → AW miX3_shortestRound (d + 2) (mxA Q) 44 [(0, some (.ref 123)), (1, some (.ref 17)), (2, some (.int (nI mile))), (3, some (.int (nI (ndS S)))), (4, some (.int (nI (bsF (ndS S) (svF (ndS S) (S 0 4) (S 5) (inW (ndS S) (S 5) mile (S 0 4)) (ndS S)) 0)))), (5, some (.int (nI i)))] [] M1) (S 0 4) (fun M1 hI_44 => ?_) (fun i hi_44 ih_44 M1 hI_44 => ?_)
      · have hV_44 : VX 17 M1 S := VX_fr hV (fun k j a b => (hI_44.2 k j (by omega)).1)
        refine a_iload rfl dX3_shortestRound_44 ?_
        refine a_aload_n rfl dX3_shortestRound_46 ?_
        refine g_i (VX_4 hV_44) (by decide) rfl fX3_125 rfl dX3_shortestRound_47 ?_
        refine n_icmp_ge 99 (by omega) (by omega) dX3_shortestRound_50 (by decide) (fun h_50 => ?_) (fun h_50 => absurd h_50 (by omega))
        refine n_iconst 1 rfl dX3_shortestRound_99 ?_
        refine a_istore (by decide) rfl dX3_shortestRound_100 ?_
        have loop_102 : ∀ i, i ≤ ndS S → ∀ M2, ((∀ q, q < 896 → (M2).1 129 q = nI (svF (ndS S) (S 0 4) (S 5) (inW (ndS S) (S 5) mile (S 0 4)) i q)) ∧ fr (fun k _ => k = 129) M M2) → AW miX3_shortestRound (d + 2) (mxA Q) 102 [(0, some (.ref 123)), (1, some (.ref 17)), (2, some (.int (nI mile))), (3, some (.int (nI (ndS S)))), (4, some (.int (nI (bsF (ndS S) (svF (ndS S) (S 0 4) (S 5) (inW (ndS S) (S 5) mile (S 0 4)) (ndS S)) 0)))), (5, some (.int (nI (i + 1))))] [] M2 := by
          refine up (W := fun i => ∀ M2, ((∀ q, q < 896 → (M2).1 129 q = nI (svF (ndS S) (S 0 4) (S 5) (inW (ndS S) (S 5) mile (S 0 4)) i q)) ∧ fr (fun k _ => k = 129) M M2) → AW miX3_shortestRound (d + 2) (mxA Q) 102 [(0, some (.ref 123)), (1, some (.ref 17)), (2, some (.int (nI mile))), (3, some (.int (nI (ndS S)))), (4, some (.int (nI (bsF (ndS S) (svF (ndS S) (S 0 4) (S 5) (inW (ndS S) (S 5) mile (S 0 4)) (ndS S)) 0)))), (5, some (.int (nI (i + 1))))] [] M2) (ndS S) (fun M2 hI_102 => ?_) (fun i hi_102 ih_102 M2 hI_102 => ?_)
          · have hV_102 : VX 17 M2 S := VX_fr hV (fun k j a b => (hI_102.2 k j (by omega)).1)
            refine a_iload rfl dX3_shortestRound_102 ?_
            refine a_iload_n rfl dX3_shortestRound_104 ?_
            refine n_icmp_gt 142 (by omega) (by omega) dX3_shortestRound_105 (by decide) (fun h_105 => ?_) (fun h_105 => absurd h_105 (by omega))
            refine n_iconst 0 rfl dX3_shortestRound_142 ?_
            refine a_istore (by decide) rfl dX3_shortestRound_143 ?_
            have loop_145 : ∀ j, j ≤ S 0 4 → AW miX3_shortestRound (d + 2) (mxA Q) 145 [(0, some (.ref 123)), (1, some (.ref 17)), (2, some (.int (nI mile))), (3, some (.int (nI (ndS S)))), (4, some (.int (nI (bsF (ndS S) (svF (ndS S) (S 0 4) (S 5) (inW (ndS S) (S 5) mile (S 0 4)) (ndS S)) j)))), (5, some (.int (nI j)))] [] M2 := by
              refine up (S 0 4) ?_ (fun j hi_145 ih_145 => ?_)
              · refine a_iload rfl dX3_shortestRound_145 ?_
                refine a_aload_n rfl dX3_shortestRound_147 ?_
                refine g_i (VX_4 hV_102) (by decide) rfl fX3_125 rfl dX3_shortestRound_148 ?_
                refine n_icmp_ge 178 (by omega) (by omega) dX3_shortestRound_151 (by decide) (fun h_151 => ?_) (fun h_151 => absurd h_151 (by omega))
                refine a_iload rfl dX3_shortestRound_178 ?_
                refine a_iret dX3_shortestRound_180 rfl ?_
                rw [bs_eq hB hnl hmi]
                exact hQ _ hI_102.2
              · have hbf : bsF (ndS S) (svF (ndS S) (S 0 4) (S 5) (inW (ndS S) (S 5) mile (S 0 4)) (ndS S)) j ≤ 1000000 := bs_far _ _ j
                refine a_iload rfl dX3_shortestRound_145 ?_
                refine a_aload_n rfl dX3_shortestRound_147 ?_
                refine g_i (VX_4 hV_102) (by decide) rfl fX3_125 rfl dX3_shortestRound_148 ?_
                refine n_icmp_ge 178 (by omega) (by omega) dX3_shortestRound_151 (by decide) (fun h_151 => absurd h_151 (by omega)) (fun h_151 => ?_)
                refine a_iload rfl dX3_shortestRound_154 ?_
                refine a_aload_n rfl dX3_shortestRound_156 ?_
                refine a_geta dX3_shortestRound_157 fX3_27 (by decide) rfl rfl ?_
                refine a_iload_n rfl dX3_shortestRound_160 ?_
                refine a_iload rfl dX3_shortestRound_161 ?_
                refine n_callS (mi' := miX3_wayTo) dX3_shortestRound_163 lX3_137 mX3_wayTo (c_X3_wayTo ?_ d) rfl rfl (by omega) (by decide) (Nat.le_of_ble_eq_true rfl)
                show AW _ _ _ _ _ _ _
                have hbw : svF (ndS S) (S 0 4) (S 5) (inW (ndS S) (S 5) mile (S 0 4)) (ndS S) (ndS S * 7 + j) ≤ 1000000 := Nat.le_trans (sv_a _ _) (in_far hB hmi (Nat.le_refl _) _)
                refine v_iald (by omega) (hI_102.1 _ (by omega)) (by decide) rfl (by decide) dX3_shortestRound_166 ?_
                refine n_min (by omega) (by omega) dX3_shortestRound_167 lX3_73 (Nat.le_of_ble_eq_true rfl) ?_
                refine a_istore (by decide) rfl dX3_shortestRound_170 ?_
                refine n_iinc (c := 1) rfl rfl (by decide) rfl dX3_shortestRound_172 ?_
                refine a_goto 145 dX3_shortestRound_175 (by decide) ?_
                exact a_bk ih_145 ⟨rfl, rfl, rfl, rfl, rfl, rfl, trivial⟩
            exact a_bk (loop_145 0 (by omega)) ⟨rfl, rfl, rfl, rfl, rfl, rfl, trivial⟩
          · have hV_102 : VX 17 M2 S := VX_fr hV (fun k j a b => (hI_102.2 k j (by omega)).1)
            refine a_iload rfl dX3_shortestRound_102 ?_
            refine a_iload_n rfl dX3_shortestRound_104 ?_
            refine n_icmp_gt 142 (by omega) (by omega) dX3_shortestRound_105 (by decide) (fun h_105 => absurd h_105 (by omega)) (fun h_105 => ?_)
            refine n_iconst 0 rfl dX3_shortestRound_108 ?_
            refine a_istore (by decide) rfl dX3_shortestRound_109 ?_
            have loop_111 : ∀ l, l ≤ S 0 4 → ∀ M3, ((∀ q, q < 896 → (M3).1 129 q = nI (lsF (ndS S) (S 0 4) (S 5) (svF (ndS S) (S 0 4) (S 5) (inW (ndS S) (S 5) mile (S 0 4)) i) (i + 1) l q)) ∧ fr (fun k _ => k = 129) M M3) → AW miX3_shortestRound (d + 2) (mxA Q) 111 [(0, some (.ref 123)), (1, some (.ref 17)), (2, some (.int (nI mile))), (3, some (.int (nI (ndS S)))), (4, some (.int (nI (bsF (ndS S) (svF (ndS S) (S 0 4) (S 5) (inW (ndS S) (S 5) mile (S 0 4)) (ndS S)) 0)))), (5, some (.int (nI (i + 1)))), (6, some (.int (nI l)))] [] M3 := by
              refine up (W := fun l => ∀ M3, ((∀ q, q < 896 → (M3).1 129 q = nI (lsF (ndS S) (S 0 4) (S 5) (svF (ndS S) (S 0 4) (S 5) (inW (ndS S) (S 5) mile (S 0 4)) i) (i + 1) l q)) ∧ fr (fun k _ => k = 129) M M3) → AW miX3_shortestRound (d + 2) (mxA Q) 111 [(0, some (.ref 123)), (1, some (.ref 17)), (2, some (.int (nI mile))), (3, some (.int (nI (ndS S)))), (4, some (.int (nI (bsF (ndS S) (svF (ndS S) (S 0 4) (S 5) (inW (ndS S) (S 5) mile (S 0 4)) (ndS S)) 0)))), (5, some (.int (nI (i + 1)))), (6, some (.int (nI l)))] [] M3) (S 0 4) (fun M3 hI_111 => ?_) (fun l hi_111 ih_111 M3 hI_111 => ?_)
              · have hV_111 : VX 17 M3 S := VX_fr hV (fun k j a b => (hI_111.2 k j (by omega)).1)
                refine a_iload rfl dX3_shortestRound_111 ?_
                refine a_aload_n rfl dX3_shortestRound_113 ?_
                refine g_i (VX_4 hV_111) (by decide) rfl fX3_125 rfl dX3_shortestRound_114 ?_
                refine n_icmp_ge 136 (by omega) (by omega) dX3_shortestRound_117 (by decide) (fun h_117 => ?_) (fun h_117 => absurd h_117 (by omega))
                refine n_iinc (c := 1) rfl rfl (by decide) rfl dX3_shortestRound_136 ?_
                refine a_goto 102 dX3_shortestRound_139 (by decide) ?_
                exact a_bk (ih_102 _ ⟨hI_111.1, hI_111.2⟩) ⟨rfl, rfl, rfl, rfl, rfl, rfl, trivial⟩
              · have hV_111 : VX 17 M3 S := VX_fr hV (fun k j a b => (hI_111.2 k j (by omega)).1)
                refine a_iload rfl dX3_shortestRound_111 ?_
                refine a_aload_n rfl dX3_shortestRound_113 ?_
                refine g_i (VX_4 hV_111) (by decide) rfl fX3_125 rfl dX3_shortestRound_114 ?_
                refine n_icmp_ge 136 (by omega) (by omega) dX3_shortestRound_117 (by decide) (fun h_117 => absurd h_117 (by omega)) (fun h_117 => ?_)
                refine a_aload_n rfl dX3_shortestRound_120 ?_
                refine a_aload_n rfl dX3_shortestRound_121 ?_
                refine a_iload_n rfl dX3_shortestRound_122 ?_
                refine a_iload rfl dX3_shortestRound_123 ?_
                refine a_iload rfl dX3_shortestRound_125 ?_
                refine n_callV (mi' := miX3_goOn) dX3_shortestRound_127 lX3_146 mX3_goOn (by decide) rfl rfl rfl (c_X3_goOn hV_111 hF (w := lsF (ndS S) (S 0 4) (S 5) (svF (ndS S) (S 0 4) (S 5) (inW (ndS S) (S 5) mile (S 0 4)) i) (i + 1) l) hI_111.1 (fun q => Nat.le_trans (ls_a _ _) (Nat.le_trans (sv_a _ _) (in_far hB hmi (Nat.le_refl _) q))) hnl (by omega) (by omega) (fun M_127 hg_127 hf_127 => ?_) d) rfl rfl (by omega) (by decide) (Nat.le_of_ble_eq_true rfl)
                show AW _ _ _ _ _ _ _
                refine n_iinc (c := 1) rfl rfl (by decide) rfl dX3_shortestRound_130 ?_
                refine a_goto 111 dX3_shortestRound_133 (by decide) ?_
                exact a_bk (ih_111 _ ⟨hg_127, hI_111.2.t hf_127⟩) ⟨rfl, rfl, rfl, rfl, rfl, rfl, rfl, trivial⟩
            exact a_bk (loop_111 0 (by omega) _ ⟨hI_102.1, hI_102.2⟩) ⟨rfl, rfl, rfl, rfl, rfl, rfl, rfl, trivial⟩
        exact a_bk (loop_102 0 (by omega) _ ⟨hI_44.1, hI_44.2⟩) ⟨rfl, rfl, rfl, rfl, rfl, rfl, trivial⟩
      · have hV_44 : VX 17 M1 S := VX_fr hV (fun k j a b => (hI_44.2 k j (by omega)).1)
        refine a_iload rfl dX3_shortestRound_44 ?_
        refine a_aload_n rfl dX3_shortestRound_46 ?_
        refine g_i (VX_4 hV_44) (by decide) rfl fX3_125 rfl dX3_shortestRound_47 ?_
        refine n_icmp_ge 99 (by omega) (by omega) dX3_shortestRound_50 (by decide) (fun h_50 => absurd h_50 (by omega)) (fun h_50 => ?_)
        refine a_iload_n rfl dX3_shortestRound_53 ?_
        refine a_iload rfl dX3_shortestRound_54 ?_
        refine n_callS (mi' := miX3_isIn) dX3_shortestRound_56 lX3_50 mX3_isIn (c_X3_isIn (by omega) (by omega) (fun h_56 => ?_) (fun h_56 => ?_) d) rfl rfl (by omega) (by decide) (Nat.le_of_ble_eq_true rfl)
        · show AW _ _ _ _ _ _ _
          refine n_if_eq 93 (by decide) dX3_shortestRound_59 (by decide) (fun h => absurd h (by decide)) (fun _ => ?_)
          have hms := WF_mile hF i hi_44
          have hds : dst mile (S 5 i) ≤ 59 := by unfold dst; omega
          have hszl := szN_le (ndS S)
          have hdm : dst mile (S 5 i) * szN (ndS S) ≤ 59 * 10 := Nat.mul_le_mul hds hszl
          have hp2 : 2 ^ i < 2 ^ S 0 4 := Nat.pow_lt_pow_right (by decide) hi_44
          refine a_aload_n rfl dX3_shortestRound_62 ?_
          refine a_geta dX3_shortestRound_63 fX3_27 (by decide) rfl rfl ?_
          refine n_iconst 1 rfl dX3_shortestRound_66 ?_
          refine a_iload rfl dX3_shortestRound_67 ?_
          refine n_bit (by omega) dX3_shortestRound_69 ?_
          refine a_iload rfl dX3_shortestRound_70 ?_
          refine n_callS (mi' := miX3_wayTo) dX3_shortestRound_72 lX3_137 mX3_wayTo (c_X3_wayTo ?_ d) rfl rfl (by omega) (by decide) (Nat.le_of_ble_eq_true rfl)
          show AW _ _ _ _ _ _ _
          refine a_iload_n rfl dX3_shortestRound_75 ?_
          refine a_aload_n rfl dX3_shortestRound_76 ?_
          refine a_geta dX3_shortestRound_77 fX3_140 (by decide) rfl rfl ?_
          refine a_iload rfl dX3_shortestRound_80 ?_
          refine v_iald (by omega) (VX_a7 hV_44 (by omega)) (by decide) rfl (by decide) dX3_shortestRound_82 ?_
          refine a_isub dX3_shortestRound_83 ?_
          refine n_abs (by omega) (by omega) dX3_shortestRound_84 lX3_143 (Nat.le_of_ble_eq_true rfl) ?_
          refine a_iload_n rfl dX3_shortestRound_87 ?_
          refine n_callS (mi' := miJ6_bitCount_0f7a4) dX3_shortestRound_88 lX3_36 mJ6_bitCount_0f7a4 (c_J6_bitCount_0f7a4 (by omega) ?_ d) rfl rfl (by omega) (by decide) (Nat.le_of_ble_eq_true rfl)
          show AW _ _ _ _ _ _ _
          refine n_imul dX3_shortestRound_91 ?_
          refine n_iast (by omega) (by decide) rfl (by decide) dX3_shortestRound_92 ?_
          refine n_iinc (c := 1) rfl rfl (by decide) rfl dX3_shortestRound_93 ?_
          refine a_goto 44 dX3_shortestRound_96 (by decide) ?_
          exact a_bk (ih_44 _ ⟨fun q hq => by rw [inW, if_pos h_56]; exact up_all hI_44.1 q hq, hI_44.2.si rfl⟩) ⟨rfl, rfl, rfl, rfl, rfl, rfl, trivial⟩
        · show AW _ _ _ _ _ _ _
          refine n_if_eq 93 (by decide) dX3_shortestRound_59 (by decide) (fun _ => ?_) (fun h => absurd h (by decide))
          refine n_iinc (c := 1) rfl rfl (by decide) rfl dX3_shortestRound_93 ?_
          refine a_goto 44 dX3_shortestRound_96 (by decide) ?_
          exact a_bk (ih_44 _ ⟨fun q hq => by rw [inW, if_neg (by rw [h_56]; exact Bool.false_ne_true)]; exact hI_44.1 q hq, hI_44.2⟩) ⟨rfl, rfl, rfl, rfl, rfl, rfl, trivial⟩
    exact a_bk (loop_44 0 (by omega) _ ⟨fun q hq => hz_38 q hq, hf_38⟩) ⟨rfl, rfl, rfl, rfl, rfl, rfl, trivial⟩
  · refine n_iconst 0 rfl dX3_shortestRound_24 ?_
    refine a_goto 30 dX3_shortestRound_25 (by decide) ?_
    refine a_eqi (y := nI (bsF (ndS S) (svF (ndS S) (S 0 4) (S 5) (inW (ndS S) (S 5) mile (S 0 4)) (ndS S)) 0)) (congrArg nI (show 0 = (if ndS S = 0 then 0 else FAR) by rw [if_pos h_21])) ?_
    refine a_istore (by decide) rfl dX3_shortestRound_30 ?_
    refine a_aload_n rfl dX3_shortestRound_32 ?_
    refine a_geta dX3_shortestRound_33 fX3_27 (by decide) rfl rfl ?_
    refine a_ldc kX3_120 dX3_shortestRound_36 ?_
    refine a_eqi (y := nI 1000000) rfl ?_
    refine n_callS (mi' := miJ7_fill_53178) dX3_shortestRound_38 lX3_83 mJ7_fill_53178 (c_fill896 (by decide) rfl (fun M_38 hz_38 hf_38 => ?_) d) rfl rfl (by omega) (by decide) (Nat.le_of_ble_eq_true rfl)
    show AW _ _ _ _ _ _ _
    refine n_iconst 0 rfl dX3_shortestRound_41 ?_
    refine a_istore (by decide) rfl dX3_shortestRound_42 ?_
    have loop_44 : ∀ i, i ≤ S 0 4 → ∀ M1, ((∀ q, q < 896 → (M1).1 129 q = nI (inW (ndS S) (S 5) mile i q)) ∧ fr (fun k _ => k = 129) M M1) → AW miX3_shortestRound (d + 2) (mxA Q) 44 [(0, some (.ref 123)), (1, some (.ref 17)), (2, some (.int (nI mile))), (3, some (.int (nI (ndS S)))), (4, some (.int (nI (bsF (ndS S) (svF (ndS S) (S 0 4) (S 5) (inW (ndS S) (S 5) mile (S 0 4)) (ndS S)) 0)))), (5, some (.int (nI i)))] [] M1 := by
      refine up (W := fun i => ∀ M1, ((∀ q, q < 896 → (M1).1 129 q = nI (inW (ndS S) (S 5) mile i q)) ∧ fr (fun k _ => k = 129) M M1) → AW miX3_shortestRound (d + 2) (mxA Q) 44 [(0, some (.ref 123)), (1, some (.ref 17)), (2, some (.int (nI mile))), (3, some (.int (nI (ndS S)))), (4, some (.int (nI (bsF (ndS S) (svF (ndS S) (S 0 4) (S 5) (inW (ndS S) (S 5) mile (S 0 4)) (ndS S)) 0)))), (5, some (.int (nI i)))] [] M1) (S 0 4) (fun M1 hI_44 => ?_) (fun i hi_44 ih_44 M1 hI_44 => ?_)
      · have hV_44 : VX 17 M1 S := VX_fr hV (fun k j a b => (hI_44.2 k j (by omega)).1)
        refine a_iload rfl dX3_shortestRound_44 ?_
        refine a_aload_n rfl dX3_shortestRound_46 ?_
        refine g_i (VX_4 hV_44) (by decide) rfl fX3_125 rfl dX3_shortestRound_47 ?_
        refine n_icmp_ge 99 (by omega) (by omega) dX3_shortestRound_50 (by decide) (fun h_50 => ?_) (fun h_50 => absurd h_50 (by omega))
        refine n_iconst 1 rfl dX3_shortestRound_99 ?_
        refine a_istore (by decide) rfl dX3_shortestRound_100 ?_
        have loop_102 : ∀ i, i ≤ ndS S → ∀ M2, ((∀ q, q < 896 → (M2).1 129 q = nI (svF (ndS S) (S 0 4) (S 5) (inW (ndS S) (S 5) mile (S 0 4)) i q)) ∧ fr (fun k _ => k = 129) M M2) → AW miX3_shortestRound (d + 2) (mxA Q) 102 [(0, some (.ref 123)), (1, some (.ref 17)), (2, some (.int (nI mile))), (3, some (.int (nI (ndS S)))), (4, some (.int (nI (bsF (ndS S) (svF (ndS S) (S 0 4) (S 5) (inW (ndS S) (S 5) mile (S 0 4)) (ndS S)) 0)))), (5, some (.int (nI (i + 1))))] [] M2 := by
          refine up (W := fun i => ∀ M2, ((∀ q, q < 896 → (M2).1 129 q = nI (svF (ndS S) (S 0 4) (S 5) (inW (ndS S) (S 5) mile (S 0 4)) i q)) ∧ fr (fun k _ => k = 129) M M2) → AW miX3_shortestRound (d + 2) (mxA Q) 102 [(0, some (.ref 123)), (1, some (.ref 17)), (2, some (.int (nI mile))), (3, some (.int (nI (ndS S)))), (4, some (.int (nI (bsF (ndS S) (svF (ndS S) (S 0 4) (S 5) (inW (ndS S) (S 5) mile (S 0 4)) (ndS S)) 0)))), (5, some (.int (nI (i + 1))))] [] M2) (ndS S) (fun M2 hI_102 => ?_) (fun i hi_102 ih_102 M2 hI_102 => ?_)
          · have hV_102 : VX 17 M2 S := VX_fr hV (fun k j a b => (hI_102.2 k j (by omega)).1)
            refine a_iload rfl dX3_shortestRound_102 ?_
            refine a_iload_n rfl dX3_shortestRound_104 ?_
            refine n_icmp_gt 142 (by omega) (by omega) dX3_shortestRound_105 (by decide) (fun h_105 => ?_) (fun h_105 => absurd h_105 (by omega))
            refine n_iconst 0 rfl dX3_shortestRound_142 ?_
            refine a_istore (by decide) rfl dX3_shortestRound_143 ?_
            have loop_145 : ∀ j, j ≤ S 0 4 → AW miX3_shortestRound (d + 2) (mxA Q) 145 [(0, some (.ref 123)), (1, some (.ref 17)), (2, some (.int (nI mile))), (3, some (.int (nI (ndS S)))), (4, some (.int (nI (bsF (ndS S) (svF (ndS S) (S 0 4) (S 5) (inW (ndS S) (S 5) mile (S 0 4)) (ndS S)) j)))), (5, some (.int (nI j)))] [] M2 := by
              refine up (S 0 4) ?_ (fun j hi_145 ih_145 => ?_)
              · refine a_iload rfl dX3_shortestRound_145 ?_
                refine a_aload_n rfl dX3_shortestRound_147 ?_
                refine g_i (VX_4 hV_102) (by decide) rfl fX3_125 rfl dX3_shortestRound_148 ?_
                refine n_icmp_ge 178 (by omega) (by omega) dX3_shortestRound_151 (by decide) (fun h_151 => ?_) (fun h_151 => absurd h_151 (by omega))
                refine a_iload rfl dX3_shortestRound_178 ?_
                refine a_iret dX3_shortestRound_180 rfl ?_
                rw [bs_eq hB hnl hmi]
                exact hQ _ hI_102.2
              · have hbf : bsF (ndS S) (svF (ndS S) (S 0 4) (S 5) (inW (ndS S) (S 5) mile (S 0 4)) (ndS S)) j ≤ 1000000 := bs_far _ _ j
                refine a_iload rfl dX3_shortestRound_145 ?_
                refine a_aload_n rfl dX3_shortestRound_147 ?_
                refine g_i (VX_4 hV_102) (by decide) rfl fX3_125 rfl dX3_shortestRound_148 ?_
                refine n_icmp_ge 178 (by omega) (by omega) dX3_shortestRound_151 (by decide) (fun h_151 => absurd h_151 (by omega)) (fun h_151 => ?_)
                refine a_iload rfl dX3_shortestRound_154 ?_
                refine a_aload_n rfl dX3_shortestRound_156 ?_
                refine a_geta dX3_shortestRound_157 fX3_27 (by decide) rfl rfl ?_
                refine a_iload_n rfl dX3_shortestRound_160 ?_
                refine a_iload rfl dX3_shortestRound_161 ?_
                refine n_callS (mi' := miX3_wayTo) dX3_shortestRound_163 lX3_137 mX3_wayTo (c_X3_wayTo ?_ d) rfl rfl (by omega) (by decide) (Nat.le_of_ble_eq_true rfl)
                show AW _ _ _ _ _ _ _
                have hbw : svF (ndS S) (S 0 4) (S 5) (inW (ndS S) (S 5) mile (S 0 4)) (ndS S) (ndS S * 7 + j) ≤ 1000000 := Nat.le_trans (sv_a _ _) (in_far hB hmi (Nat.le_refl _) _)
                refine v_iald (by omega) (hI_102.1 _ (by omega)) (by decide) rfl (by decide) dX3_shortestRound_166 ?_
                refine n_min (by omega) (by omega) dX3_shortestRound_167 lX3_73 (Nat.le_of_ble_eq_true rfl) ?_
                refine a_istore (by decide) rfl dX3_shortestRound_170 ?_
                refine n_iinc (c := 1) rfl rfl (by decide) rfl dX3_shortestRound_172 ?_
                refine a_goto 145 dX3_shortestRound_175 (by decide) ?_
                exact a_bk ih_145 ⟨rfl, rfl, rfl, rfl, rfl, rfl, trivial⟩
            exact a_bk (loop_145 0 (by omega)) ⟨rfl, rfl, rfl, rfl, rfl, rfl, trivial⟩
          · have hV_102 : VX 17 M2 S := VX_fr hV (fun k j a b => (hI_102.2 k j (by omega)).1)
            refine a_iload rfl dX3_shortestRound_102 ?_
            refine a_iload_n rfl dX3_shortestRound_104 ?_
            refine n_icmp_gt 142 (by omega) (by omega) dX3_shortestRound_105 (by decide) (fun h_105 => absurd h_105 (by omega)) (fun h_105 => ?_)
            refine n_iconst 0 rfl dX3_shortestRound_108 ?_
            refine a_istore (by decide) rfl dX3_shortestRound_109 ?_
            have loop_111 : ∀ l, l ≤ S 0 4 → ∀ M3, ((∀ q, q < 896 → (M3).1 129 q = nI (lsF (ndS S) (S 0 4) (S 5) (svF (ndS S) (S 0 4) (S 5) (inW (ndS S) (S 5) mile (S 0 4)) i) (i + 1) l q)) ∧ fr (fun k _ => k = 129) M M3) → AW miX3_shortestRound (d + 2) (mxA Q) 111 [(0, some (.ref 123)), (1, some (.ref 17)), (2, some (.int (nI mile))), (3, some (.int (nI (ndS S)))), (4, some (.int (nI (bsF (ndS S) (svF (ndS S) (S 0 4) (S 5) (inW (ndS S) (S 5) mile (S 0 4)) (ndS S)) 0)))), (5, some (.int (nI (i + 1)))), (6, some (.int (nI l)))] [] M3 := by
              refine up (W := fun l => ∀ M3, ((∀ q, q < 896 → (M3).1 129 q = nI (lsF (ndS S) (S 0 4) (S 5) (svF (ndS S) (S 0 4) (S 5) (inW (ndS S) (S 5) mile (S 0 4)) i) (i + 1) l q)) ∧ fr (fun k _ => k = 129) M M3) → AW miX3_shortestRound (d + 2) (mxA Q) 111 [(0, some (.ref 123)), (1, some (.ref 17)), (2, some (.int (nI mile))), (3, some (.int (nI (ndS S)))), (4, some (.int (nI (bsF (ndS S) (svF (ndS S) (S 0 4) (S 5) (inW (ndS S) (S 5) mile (S 0 4)) (ndS S)) 0)))), (5, some (.int (nI (i + 1)))), (6, some (.int (nI l)))] [] M3) (S 0 4) (fun M3 hI_111 => ?_) (fun l hi_111 ih_111 M3 hI_111 => ?_)
              · have hV_111 : VX 17 M3 S := VX_fr hV (fun k j a b => (hI_111.2 k j (by omega)).1)
                refine a_iload rfl dX3_shortestRound_111 ?_
                refine a_aload_n rfl dX3_shortestRound_113 ?_
                refine g_i (VX_4 hV_111) (by decide) rfl fX3_125 rfl dX3_shortestRound_114 ?_
                refine n_icmp_ge 136 (by omega) (by omega) dX3_shortestRound_117 (by decide) (fun h_117 => ?_) (fun h_117 => absurd h_117 (by omega))
                refine n_iinc (c := 1) rfl rfl (by decide) rfl dX3_shortestRound_136 ?_
                refine a_goto 102 dX3_shortestRound_139 (by decide) ?_
                exact a_bk (ih_102 _ ⟨hI_111.1, hI_111.2⟩) ⟨rfl, rfl, rfl, rfl, rfl, rfl, trivial⟩
              · have hV_111 : VX 17 M3 S := VX_fr hV (fun k j a b => (hI_111.2 k j (by omega)).1)
                refine a_iload rfl dX3_shortestRound_111 ?_
                refine a_aload_n rfl dX3_shortestRound_113 ?_
                refine g_i (VX_4 hV_111) (by decide) rfl fX3_125 rfl dX3_shortestRound_114 ?_
                refine n_icmp_ge 136 (by omega) (by omega) dX3_shortestRound_117 (by decide) (fun h_117 => absurd h_117 (by omega)) (fun h_117 => ?_)
                refine a_aload_n rfl dX3_shortestRound_120 ?_
                refine a_aload_n rfl dX3_shortestRound_121 ?_
                refine a_iload_n rfl dX3_shortestRound_122 ?_
                refine a_iload rfl dX3_shortestRound_123 ?_
                refine a_iload rfl dX3_shortestRound_125 ?_
                refine n_callV (mi' := miX3_goOn) dX3_shortestRound_127 lX3_146 mX3_goOn (by decide) rfl rfl rfl (c_X3_goOn hV_111 hF (w := lsF (ndS S) (S 0 4) (S 5) (svF (ndS S) (S 0 4) (S 5) (inW (ndS S) (S 5) mile (S 0 4)) i) (i + 1) l) hI_111.1 (fun q => Nat.le_trans (ls_a _ _) (Nat.le_trans (sv_a _ _) (in_far hB hmi (Nat.le_refl _) q))) hnl (by omega) (by omega) (fun M_127 hg_127 hf_127 => ?_) d) rfl rfl (by omega) (by decide) (Nat.le_of_ble_eq_true rfl)
                show AW _ _ _ _ _ _ _
                refine n_iinc (c := 1) rfl rfl (by decide) rfl dX3_shortestRound_130 ?_
                refine a_goto 111 dX3_shortestRound_133 (by decide) ?_
                exact a_bk (ih_111 _ ⟨hg_127, hI_111.2.t hf_127⟩) ⟨rfl, rfl, rfl, rfl, rfl, rfl, rfl, trivial⟩
            exact a_bk (loop_111 0 (by omega) _ ⟨hI_102.1, hI_102.2⟩) ⟨rfl, rfl, rfl, rfl, rfl, rfl, rfl, trivial⟩
        exact a_bk (loop_102 0 (by omega) _ ⟨hI_44.1, hI_44.2⟩) ⟨rfl, rfl, rfl, rfl, rfl, rfl, trivial⟩
      · have hV_44 : VX 17 M1 S := VX_fr hV (fun k j a b => (hI_44.2 k j (by omega)).1)
        refine a_iload rfl dX3_shortestRound_44 ?_
        refine a_aload_n rfl dX3_shortestRound_46 ?_
        refine g_i (VX_4 hV_44) (by decide) rfl fX3_125 rfl dX3_shortestRound_47 ?_
        refine n_icmp_ge 99 (by omega) (by omega) dX3_shortestRound_50 (by decide) (fun h_50 => absurd h_50 (by omega)) (fun h_50 => ?_)
        refine a_iload_n rfl dX3_shortestRound_53 ?_
        refine a_iload rfl dX3_shortestRound_54 ?_
        refine n_callS (mi' := miX3_isIn) dX3_shortestRound_56 lX3_50 mX3_isIn (c_X3_isIn (by omega) (by omega) (fun h_56 => ?_) (fun h_56 => ?_) d) rfl rfl (by omega) (by decide) (Nat.le_of_ble_eq_true rfl)
        · show AW _ _ _ _ _ _ _
          refine n_if_eq 93 (by decide) dX3_shortestRound_59 (by decide) (fun h => absurd h (by decide)) (fun _ => ?_)
          have hms := WF_mile hF i hi_44
          have hds : dst mile (S 5 i) ≤ 59 := by unfold dst; omega
          have hszl := szN_le (ndS S)
          have hdm : dst mile (S 5 i) * szN (ndS S) ≤ 59 * 10 := Nat.mul_le_mul hds hszl
          have hp2 : 2 ^ i < 2 ^ S 0 4 := Nat.pow_lt_pow_right (by decide) hi_44
          refine a_aload_n rfl dX3_shortestRound_62 ?_
          refine a_geta dX3_shortestRound_63 fX3_27 (by decide) rfl rfl ?_
          refine n_iconst 1 rfl dX3_shortestRound_66 ?_
          refine a_iload rfl dX3_shortestRound_67 ?_
          refine n_bit (by omega) dX3_shortestRound_69 ?_
          refine a_iload rfl dX3_shortestRound_70 ?_
          refine n_callS (mi' := miX3_wayTo) dX3_shortestRound_72 lX3_137 mX3_wayTo (c_X3_wayTo ?_ d) rfl rfl (by omega) (by decide) (Nat.le_of_ble_eq_true rfl)
          show AW _ _ _ _ _ _ _
          refine a_iload_n rfl dX3_shortestRound_75 ?_
          refine a_aload_n rfl dX3_shortestRound_76 ?_
          refine a_geta dX3_shortestRound_77 fX3_140 (by decide) rfl rfl ?_
          refine a_iload rfl dX3_shortestRound_80 ?_
          refine v_iald (by omega) (VX_a7 hV_44 (by omega)) (by decide) rfl (by decide) dX3_shortestRound_82 ?_
          refine a_isub dX3_shortestRound_83 ?_
          refine n_abs (by omega) (by omega) dX3_shortestRound_84 lX3_143 (Nat.le_of_ble_eq_true rfl) ?_
          refine a_iload_n rfl dX3_shortestRound_87 ?_
          refine n_callS (mi' := miJ6_bitCount_0f7a4) dX3_shortestRound_88 lX3_36 mJ6_bitCount_0f7a4 (c_J6_bitCount_0f7a4 (by omega) ?_ d) rfl rfl (by omega) (by decide) (Nat.le_of_ble_eq_true rfl)
          show AW _ _ _ _ _ _ _
          refine n_imul dX3_shortestRound_91 ?_
          refine n_iast (by omega) (by decide) rfl (by decide) dX3_shortestRound_92 ?_
          refine n_iinc (c := 1) rfl rfl (by decide) rfl dX3_shortestRound_93 ?_
          refine a_goto 44 dX3_shortestRound_96 (by decide) ?_
          exact a_bk (ih_44 _ ⟨fun q hq => by rw [inW, if_pos h_56]; exact up_all hI_44.1 q hq, hI_44.2.si rfl⟩) ⟨rfl, rfl, rfl, rfl, rfl, rfl, trivial⟩
        · show AW _ _ _ _ _ _ _
          refine n_if_eq 93 (by decide) dX3_shortestRound_59 (by decide) (fun _ => ?_) (fun h => absurd h (by decide))
          refine n_iinc (c := 1) rfl rfl (by decide) rfl dX3_shortestRound_93 ?_
          refine a_goto 44 dX3_shortestRound_96 (by decide) ?_
          exact a_bk (ih_44 _ ⟨fun q hq => by rw [inW, if_neg (by rw [h_56]; exact Bool.false_ne_true)]; exact hI_44.1 q hq, hI_44.2⟩) ⟨rfl, rfl, rfl, rfl, rfl, rfl, trivial⟩
    exact a_bk (loop_44 0 (by omega) _ ⟨fun q hq => hz_38 q hq, hf_38⟩) ⟨rfl, rfl, rfl, rfl, rfl, rfl, trivial⟩

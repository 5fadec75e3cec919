theorem fs_ok {S : ST} (hF : WF S) {n set : Nat} (h : wF S (n + 1) set < FAR) : fsN S n set < S 0 2 ∧ alwB S set (fsN S n set) = true ∧ wF S n (set ||| 2 ^ fsN S n set) < FAR ∧ stW S n set (fsN S n set) = wF S (n + 1) set ∧ ∀ j, j < fsN S n set → stW S n set j ≠ wF S (n + 1) set := by
  obtain ⟨k, hk, e⟩ := mn_at (show mnN (stW S n set) (S 0 2) < FAR from h)
  have e : stW S n set k = wF S (n + 1) set := e
  have key : ∃ v, fiN (fun k => stW S n set k == wF S (n + 1) set) (S 0 2) = some v := by
    cases q : fiN (fun k => stW S n set k == wF S (n + 1) set) (S 0 2) with
    | some v => exact ⟨v, rfl⟩
    | none => have := fiN_none q k hk; simp [e] at this
  obtain ⟨v, hv⟩ := key
  have ev : fsN S n set = v := by unfold fsN; rw [hv]; rfl
  have hlt := fiN_lt hv
  have hat : stW S n set v = wF S (n + 1) set := by
    rcases Nat.lt_or_ge v (S 0 2) with _ | _
    · have : ∀ m, fiN (fun k => stW S n set k == wF S (n + 1) set) m = some v → stW S n set v = wF S (n + 1) set := by
        intro m
        induction m with
        | zero => intro z; cases z
        | succ m ih =>
          intro z
          cases c : fiN (fun k => stW S n set k == wF S (n + 1) set) m with
          | some u => simp only [fiN, c] at z; cases z; exact ih c
          | none =>
            simp only [fiN, c] at z
            split at z
            · rename_i y; cases z; simpa using y
            · cases z
      exact this _ hv
    · omega
  have hno : ∀ j, j < v → stW S n set j ≠ wF S (n + 1) set := by
    have : ∀ m, fiN (fun k => stW S n set k == wF S (n + 1) set) m = some v → ∀ j, j < v → stW S n set j ≠ wF S (n + 1) set := by
      intro m
      induction m with
      | zero => intro z; cases z
      | succ m ih =>
        intro z j hj
        cases c : fiN (fun k => stW S n set k == wF S (n + 1) set) m with
        | some u => simp only [fiN, c] at z; cases z; exact ih c j hj
        | none =>
          simp only [fiN, c] at z
          split at z
          · cases z; have := fiN_none c j hj; simpa using this
          · cases z
    exact this _ hv
  rw [ev]
  have hal : alwB S set v = true := by
    cases c : alwB S set v with
    | true => rfl
    | false =>
      unfold stW stN at hat
      rw [c, if_neg Bool.false_ne_true] at hat
      omega
  refine ⟨hlt, hal, ?_, hat, hno⟩
  unfold stW stN at hat
  rw [if_pos hal] at hat
  have := wF_far S n (set ||| 2 ^ v)
  unfold FAR at *; omega
/-- the set behind i choices -/
def DDr (S : ST) : Nat → Nat → Nat → Nat
  | 0, _, set => set
  | i + 1, n, set => DDr S i (n - 1) (set ||| 2 ^ fsN S (n - 1) set)
def DD (S : ST) (n set i : Nat) : Nat := DDr S i n set
theorem og_DD {S : ST} : ∀ {i n set : Nat}, i < n → ogN S n set i = fsN S (n - 1 - i) (DD S n set i) ∧ DD S n set (i + 1) = DD S n set i ||| 2 ^ ogN S n set i
  | 0, n, set, h => by
    obtain ⟨q, rfl⟩ : ∃ q, n = q + 1 := ⟨n - 1, by omega⟩
    exact ⟨rfl, rfl⟩
  | i + 1, n, set, h => by
    obtain ⟨q, rfl⟩ : ∃ q, n = q + 1 := ⟨n - 1, by omega⟩
    have ih := og_DD (S := S) (i := i) (n := q) (set := set ||| 2 ^ fsN S q set) (by omega)
    refine ⟨?_, ih.2⟩
    show ogN S q (set ||| 2 ^ fsN S q set) i = fsN S (q + 1 - 1 - (i + 1)) (DD S q (set ||| 2 ^ fsN S q set) i)
    rw [ih.1, show q + 1 - 1 - (i + 1) = q - 1 - i by omega]
theorem DD_ok {S : ST} (hF : WF S) : ∀ {i n set : Nat}, i ≤ n → set < 2 ^ S 0 2 → cnN S set + n = S 0 2 → wF S n set < FAR → DD S n set i < 2 ^ S 0 2 ∧ cnN S (DD S n set i) + (n - i) = S 0 2 ∧ wF S (n - i) (DD S n set i) < FAR
  | 0, n, set, h, hs, hc, hw => ⟨hs, hc, hw⟩
  | i + 1, n, set, h, hs, hc, hw => by
    obtain ⟨q, rfl⟩ : ∃ q, n = q + 1 := ⟨n - 1, by omega⟩
    obtain ⟨f1, f2, f3, _, _⟩ := fs_ok hF hw
    have := DD_ok hF (i := i) (n := q) (set := set ||| 2 ^ fsN S q set) (by omega) (or_lt2 hs f1) (by rw [cn_add f1 (alw_b f2)]; omega) f3
    rw [show q + 1 - (i + 1) = q - i by omega]
    exact this
def ltI (S : ST) : Nat → Int32
  | 0 => -1
  | i + 1 => nI (ogN S (S 0 2) 0 i)

set_option maxRecDepth 100000 in
set_option maxHeartbeats 800000 in
theorem c_X3_nextDecided {M : Mm} {S : ST} (hV : VX 17 M S) (hF : WF S) (hlw : lwP S M) (hwt : wtP S 0 M) {n set : Nat} (hset : set < 2 ^ S 0 2) (hc : cnN S set + (n + 1) = S 0 2) (hw : wF S (n + 1) set < FAR) {Q : Option Value → Mm → Prop} (hQ : Q (some (.int (nI (fsN S n set)))) M) (d : Nat) : AMt miX3_nextDecided (d + 2) [.ref 123, .ref 17, .int (nI set)] M Q := by
  refine AMt.of (by decide) (Nat.le_of_ble_eq_true rfl) ?_
  show AW miX3_nextDecided (d + 2) (mxA Q) 0 [(0, some (.ref 123)), (1, some (.ref 17)), (2, some (.int (nI set)))] [] M
  have hm := WF_m hF
  have hh := WF_h hF
  have hs := WF_s hF
  have hn := WF_n hF
  have hk3 := pow_le hm
  have hk0 := Nat.two_pow_pos (S 0 2)
  have hws : M.1 128 set = nI (wF S (n + 1) set) := by rw [hwt _ (Nat.zero_le _) hset]; unfold WW; rw [show S 0 2 - cnN S set = n + 1 by omega]
  have hfs := fs_ok hF hw
  have hw2 : wF S (n + 1) set < 1000000 := hw
  refine n_iconst 0 rfl dX3_nextDecided_0 ?_
  refine a_istore_n (by decide) rfl dX3_nextDecided_1 ?_
  have loop_2 : ∀ i, i ≤ S 0 2 → (∀ j, j < i → stW S n set j ≠ wF S (n + 1) set) → AW miX3_nextDecided (d + 2) (mxA Q) 2 [(0, some (.ref 123)), (1, some (.ref 17)), (2, some (.int (nI set))), (3, some (.int (nI i)))] [] M := by
    refine up (W := fun i => (∀ j, j < i → stW S n set j ≠ wF S (n + 1) set) → AW miX3_nextDecided (d + 2) (mxA Q) 2 [(0, some (.ref 123)), (1, some (.ref 17)), (2, some (.int (nI set))), (3, some (.int (nI i)))] [] M) (S 0 2) (fun hI_2 => ?_) (fun i hi_2 ih_2 hI_2 => ?_)
    · refine a_iload_n rfl dX3_nextDecided_2 ?_
      refine a_aload_n rfl dX3_nextDecided_3 ?_
      refine g_i (VX_2 hV) (by decide) rfl fX3_98 rfl dX3_nextDecided_4 ?_
      refine n_icmp_ge 42 (by omega) (by omega) dX3_nextDecided_7 (by decide) (fun h_7 => ?_) (fun h_7 => absurd h_7 (by omega))
      refine a_iconst (-1) rfl dX3_nextDecided_42 ?_
      refine a_iret dX3_nextDecided_43 rfl ?_
      exact absurd hfs.2.2.2.1 (hI_2 _ hfs.1)
    · refine a_iload_n rfl dX3_nextDecided_2 ?_
      refine a_aload_n rfl dX3_nextDecided_3 ?_
      refine g_i (VX_2 hV) (by decide) rfl fX3_98 rfl dX3_nextDecided_4 ?_
      refine n_icmp_ge 42 (by omega) (by omega) dX3_nextDecided_7 (by decide) (fun h_7 => absurd h_7 (by omega)) (fun h_7 => ?_)
      refine a_iload_n rfl dX3_nextDecided_10 ?_
      refine a_iload_n rfl dX3_nextDecided_11 ?_
      refine n_callS (mi' := miX3_isIn) dX3_nextDecided_12 lX3_50 mX3_isIn (c_X3_isIn (by omega) (by omega) (fun h_12 => ?_) (fun h_12 => ?_) d) rfl rfl (by omega) (by decide) (Nat.le_of_ble_eq_true rfl)
      · show AW _ _ _ _ _ _ _
        refine n_if_ne 36 (by decide) dX3_nextDecided_15 (by decide) (fun _ => ?_) (fun h => absurd h (by decide))
        refine n_iinc (c := 1) rfl rfl (by decide) rfl dX3_nextDecided_36 ?_
        refine a_goto 2 dX3_nextDecided_39 (by decide) ?_
        exact a_bk (ih_2 (fun j hj => by
            rcases (show j < i ∨ j = i by omega) with h | h
            · exact hI_2 j h
            · subst h; intro e; unfold stW stN at e; rw [if_neg (show ¬ alwB S set j = true from fun q => by have := alw_b q; rw [h_12] at this; exact absurd this (by decide))] at e; omega)) ⟨rfl, rfl, rfl, rfl, trivial⟩
      · show AW _ _ _ _ _ _ _
        refine n_if_ne 36 (by decide) dX3_nextDecided_15 (by decide) (fun h => absurd h (by decide)) (fun _ => ?_)
        refine a_aload_n rfl dX3_nextDecided_18 ?_
        refine a_aload_n rfl dX3_nextDecided_19 ?_
        refine a_iload_n rfl dX3_nextDecided_20 ?_
        refine a_iload_n rfl dX3_nextDecided_21 ?_
        refine n_callV (mi' := miX3_waitsWith) dX3_nextDecided_22 lX3_121 mX3_waitsWith (by decide) rfl rfl rfl (c_X3_waitsWith hV hF hlw (w := wF S n (set ||| 2 ^ i)) (by omega) (by omega) (fun hb => by rw [hwt _ (Nat.zero_le _) (or_lt2 hset hi_2)]; unfold WW; rw [cn_add hi_2 hb, show S 0 2 - (cnN S set + 1) = n by omega]) (wF_far _ _ _) ?_ d) rfl rfl (by omega) (by decide) (Nat.le_of_ble_eq_true rfl)
        show AW _ _ _ _ _ _ _
        refine a_eqi (y := nI (stW S n set i)) rfl ?_
        refine a_aload_n rfl dX3_nextDecided_25 ?_
        refine a_geta dX3_nextDecided_26 fX3_24 (by decide) rfl rfl ?_
        refine a_iload_n rfl dX3_nextDecided_29 ?_
        have hsf : stW S n set i ≤ 1000000 := st_far _ _ _
        refine v_iald (by omega) hws (by decide) rfl (by decide) dX3_nextDecided_30 ?_
        refine n_icmp_ne 36 (by omega) (by omega) dX3_nextDecided_31 (by decide) (fun h_31 => ?_) (fun h_31 => ?_)
        · refine n_iinc (c := 1) rfl rfl (by decide) rfl dX3_nextDecided_36 ?_
          refine a_goto 2 dX3_nextDecided_39 (by decide) ?_
          exact a_bk (ih_2 (fun j hj => by
            rcases (show j < i ∨ j = i by omega) with h | h
            · exact hI_2 j h
            · subst h; exact h_31)) ⟨rfl, rfl, rfl, rfl, trivial⟩
        · refine a_iload_n rfl dX3_nextDecided_34 ?_
          refine a_iret dX3_nextDecided_35 rfl ?_
          rw [show fsN S n set = i by
              rcases Nat.lt_trichotomy (fsN S n set) i with h | h | h
              · exact absurd hfs.2.2.2.1 (hI_2 _ h)
              · exact h
              · exact absurd h_31 (hfs.2.2.2.2 i h)] at hQ
          exact hQ
  exact a_bk (loop_2 0 (by omega) (fun j hj => absurd hj (by omega))) ⟨rfl, rfl, rfl, rfl, trivial⟩

set_option maxRecDepth 100000 in
set_option maxHeartbeats 800000 in
theorem c_X3_decidedAt {M : Mm} {S : ST} (hV : VX 17 M S) (hF : WF S) (hlw : lwP S M) (hwt : wtP S 0 M) (hw : wF S (S 0 2) 0 < FAR) {k : Nat} (hk : k < S 0 2) {Q : Option Value → Mm → Prop} (hQ : Q (some (.int (nI (ogN S (S 0 2) 0 k)))) M) (d : Nat) : AMt miX3_decidedAt (d + 3) [.ref 123, .ref 17, .int (nI k)] M Q := by
  refine AMt.of (by decide) (Nat.le_of_ble_eq_true rfl) ?_
  show AW miX3_decidedAt (d + 3) (mxA Q) 0 [(0, some (.ref 123)), (1, some (.ref 17)), (2, some (.int (nI k)))] [] M
  have hm := WF_m hF
  have hh := WF_h hF
  have hs := WF_s hF
  have hn := WF_n hF
  have hk3 := pow_le hm
  have hk0 := Nat.two_pow_pos (S 0 2)
  refine n_iconst 0 rfl dX3_decidedAt_0 ?_
  refine a_istore_n (by decide) rfl dX3_decidedAt_1 ?_
  refine a_iconst (-1) rfl dX3_decidedAt_2 ?_
  refine a_istore (by decide) rfl dX3_decidedAt_3 ?_
  refine n_iconst 0 rfl dX3_decidedAt_5 ?_
  refine a_istore (by decide) rfl dX3_decidedAt_6 ?_
  have loop_8 : ∀ i, i ≤ k + 1 → AW miX3_decidedAt (d + 3) (mxA Q) 8 [(0, some (.ref 123)), (1, some (.ref 17)), (2, some (.int (nI k))), (3, some (.int (nI (DD S (S 0 2) 0 i)))), (4, some (.int ((ltI S i)))), (5, some (.int (nI i)))] [] M := by
    refine up (k + 1) ?_ (fun i hi_8 ih_8 => ?_)
    · refine a_iload rfl dX3_decidedAt_8 ?_
      refine a_iload_n rfl dX3_decidedAt_10 ?_
      refine n_icmp_gt 43 (by omega) (by omega) dX3_decidedAt_11 (by decide) (fun h_11 => ?_) (fun h_11 => absurd h_11 (by omega))
      refine a_iload rfl dX3_decidedAt_43 ?_
      refine a_iret dX3_decidedAt_45 rfl ?_
      exact hQ
    · have hdd := DD_ok hF (i := i) (n := S 0 2) (set := 0) (by omega) hk0 (by rw [cn_0]; omega) hw
      have hog := og_DD (S := S) (i := i) (n := S 0 2) (set := 0) (by omega)
      refine a_iload rfl dX3_decidedAt_8 ?_
      refine a_iload_n rfl dX3_decidedAt_10 ?_
      refine n_icmp_gt 43 (by omega) (by omega) dX3_decidedAt_11 (by decide) (fun h_11 => absurd h_11 (by omega)) (fun h_11 => ?_)
      refine a_aload_n rfl dX3_decidedAt_14 ?_
      refine a_aload_n rfl dX3_decidedAt_15 ?_
      refine a_iload_n rfl dX3_decidedAt_16 ?_
      refine n_callV (mi' := miX3_nextDecided) dX3_decidedAt_17 lX3_134 mX3_nextDecided (by decide) rfl rfl rfl (c_X3_nextDecided hV hF hlw hwt (n := S 0 2 - 1 - i) hdd.1 (by omega) (by have := hdd.2.2; rw [show S 0 2 - i = S 0 2 - 1 - i + 1 by omega] at this; exact this) ?_ d) rfl rfl (by omega) (by decide) (Nat.le_of_ble_eq_true rfl)
      show AW _ _ _ _ _ _ _
      refine a_eqi (y := nI (ogN S (S 0 2) 0 i)) (by rw [hog.1]) ?_
      have hol : ogN S (S 0 2) 0 i < S 0 2 := by rw [hog.1]; exact (fs_ok hF (by have := hdd.2.2; rw [show S 0 2 - i = S 0 2 - 1 - i + 1 by omega] at this; exact this)).1
      refine a_istore (by decide) rfl dX3_decidedAt_20 ?_
      refine a_iload rfl dX3_decidedAt_22 ?_
      refine a_iconst (-1) rfl dX3_decidedAt_24 ?_
      refine s_icmp_ne 30 (by omega) dX3_decidedAt_25 (by decide) (fun h_25 => ?_) (fun h_25 => absurd h_25 (by rw [show (-1 : Int32).toInt = -1 by decide]; omega))
      refine a_iload_n rfl dX3_decidedAt_30 ?_
      refine n_iconst 1 rfl dX3_decidedAt_31 ?_
      refine a_iload rfl dX3_decidedAt_32 ?_
      refine n_bit (by omega) dX3_decidedAt_34 ?_
      refine n_ior dX3_decidedAt_35 ?_
      refine a_istore_n (by decide) rfl dX3_decidedAt_36 ?_
      refine n_iinc (c := 1) rfl rfl (by decide) rfl dX3_decidedAt_37 ?_
      refine a_goto 8 dX3_decidedAt_40 (by decide) ?_
      rw [hog.2] at ih_8
      exact a_bk ih_8 ⟨rfl, rfl, rfl, rfl, rfl, rfl, trivial⟩
  exact a_bk (loop_8 0 (by omega)) ⟨rfl, rfl, rfl, rfl, rfl, rfl, trivial⟩

set_option maxRecDepth 100000 in
set_option maxHeartbeats 800000 in
theorem c_X11_waiting {M : Mm} {T : TT} (hI : IX M T) (hG : TG T)  {Q : Option Value → Mm → Prop} (hQ : ∀ M', IX M' (sp_waiting T).2 → keM M M' → Q (some (.int (sp_waiting T).1)) M') (d : Nat) : AMt miX11_waiting (d + 4) [.ref 0] M Q := by
  refine AMt.of (by decide) (Nat.le_of_ble_eq_true rfl) ?_
  show AW miX11_waiting (d + 4) (mxA Q) 0 [(0, some (.ref 0))] [] M
  have hV : VX 17 M (tS T) := hI.1.1
  have hF : WF (tS T) := hG.1.1
  have hm : tS T 0 2 ≤ 6 := WF_m hF
  have hh : tS T 0 3 ≤ 10 := WF_h hF
  have hs : tS T 0 4 ≤ 7 := WF_s hF
  have hn : tS T 0 5 ≤ 8 := WF_n hF
  refine a_aload_n rfl dX11_waiting_0 ?_
  refine a_aload_n rfl dX11_waiting_1 ?_
  refine a_geta dX11_waiting_2 fX11_97 (by decide) rfl rfl ?_
  refine a_aload_n rfl dX11_waiting_5 ?_
  refine a_geta dX11_waiting_6 fX11_58 (by decide) rfl rfl ?_
  refine n_callV (mi' := miX3_leastWaiting) dX11_waiting_9 lX11_352 mX3_leastWaiting (by decide) rfl rfl rfl (c_X3_leastWaiting hV hF (fun M_9 hlw_9 hwt_9 hoa_9 hw_9 hf_9 => ?_) (fun he_9 M_9 hf_9 => ?_) d) rfl rfl (by omega) (by decide) (Nat.le_of_ble_eq_true rfl)
  · show AW _ _ _ _ _ _ _
    have hw9 : wF (tS T) (tS T 0 2) 0 < 1000000 := hw_9
    refine n_callV (mi' := miX11_answerIfThere) dX11_waiting_12 lX11_247 mX11_answerIfThere (by decide) rfl rfl rfl (c_X11_answerIfThere (fun _ => ?_) (fun e => absurd e (nI_ne_m1 (by omega)))  d) rfl rfl (by omega) (by decide) (Nat.le_of_ble_eq_true rfl)
    show AW _ _ _ _ _ _ _
    refine a_iret dX11_waiting_15 rfl ?_
    exact fin_q hQ hI hG (by unfold sp_waiting; rw [show owN (tS T) = some (wF (tS T) (tS T 0 2) 0) from by unfold owN; rw [if_pos ⟨hoa_9, hw_9⟩]]) (hf_9.mo (fun k j h => by unfold scX coX; omega))
  · show AW _ _ _ _ _ _ _
    refine n_callV (mi' := miX11_answerIfThere) dX11_waiting_12 lX11_247 mX11_answerIfThere (by decide) rfl rfl rfl (c_X11_answerIfThere (fun e => absurd rfl e) (fun _ => ?_)  d) rfl rfl (by omega) (by decide) (Nat.le_of_ble_eq_true rfl)
    show AW _ _ _ _ _ _ _
    refine a_iret dX11_waiting_15 rfl ?_
    exact fin_q hQ hI hG (by unfold sp_waiting; rw [he_9]) (hf_9.mo (fun k j h => by unfold scX coX; omega))

set_option maxRecDepth 100000 in
set_option maxHeartbeats 800000 in
theorem c_X11_orderAt {M : Mm} {T : TT} (hI : IX M T) (hG : TG T) {k : Int32} {Q : Option Value → Mm → Prop} (hQ : ∀ M', IX M' (sp_orderAt k T).2 → keM M M' → Q (some (.int (sp_orderAt k T).1)) M') (d : Nat) : AMt miX11_orderAt (d + 5) [.ref 0, .int k] M Q := by
  refine AMt.of (by decide) (Nat.le_of_ble_eq_true rfl) ?_
  show AW miX11_orderAt (d + 5) (mxA Q) 0 [(0, some (.ref 0)), (1, some (.int k))] [] M
  have hV : VX 17 M (tS T) := hI.1.1
  have hF : WF (tS T) := hG.1.1
  have hm : tS T 0 2 ≤ 6 := WF_m hF
  have hh : tS T 0 3 ≤ 10 := WF_h hF
  have hs : tS T 0 4 ≤ 7 := WF_s hF
  have hn : tS T 0 5 ≤ 8 := WF_n hF
  refine a_aload_n rfl dX11_orderAt_0 ?_
  refine a_geta dX11_orderAt_1 fX11_97 (by decide) rfl rfl ?_
  refine a_aload_n rfl dX11_orderAt_4 ?_
  refine a_geta dX11_orderAt_5 fX11_58 (by decide) rfl rfl ?_
  refine n_callV (mi' := miX3_leastWaiting) dX11_orderAt_8 lX11_352 mX3_leastWaiting (by decide) rfl rfl rfl (c_X3_leastWaiting hV hF (fun M_8 hlw_8 hwt_8 hoa_8 hw_8 hf_8 => ?_) (fun he_8 M_8 hf_8 => ?_) d) rfl rfl (by omega) (by decide) (Nat.le_of_ble_eq_true rfl)
  · show AW _ _ _ _ _ _ _
    have hw9 : wF (tS T) (tS T 0 2) 0 < 1000000 := hw_8
    have hV8 : VX 17 M_8 (tS T) := VX_fr hV (fun k j a b => (hf_8 k j (by omega)).1)
    refine a_iconst (-1) rfl dX11_orderAt_11 ?_
    refine s_icmp_eq 30 (by omega) dX11_orderAt_12 (by decide) (fun h_12 => absurd h_12 (by rw [show (-1 : Int32).toInt = -1 by decide]; omega)) (fun h_12 => ?_)
    refine a_iload_n rfl dX11_orderAt_15 ?_
    refine r_if_lt 30 dX11_orderAt_16 (by decide) (fun h_16 => ?_) (fun h_16 => ?_)
    · refine a_aload_n rfl dX11_orderAt_30 ?_
      refine n_bipush 8 rfl dX11_orderAt_31 ?_
      refine n_callV (mi' := miX11_none) dX11_orderAt_33 lX11_131 mX11_none (by decide) rfl rfl rfl (c_X11_none ?_ d) rfl rfl (by omega) (by decide) (Nat.le_of_ble_eq_true rfl)
      show AW _ _ _ _ _ _ _
      refine a_iret dX11_orderAt_36 rfl ?_
      exact fin_q hQ hI hG (by unfold sp_orderAt; rw [if_neg (fun q => by have := q.2; omega)]) (hf_8.mo (fun k j h => by unfold scX coX; omega))
    · refine a_iload_n rfl dX11_orderAt_19 ?_
      refine a_aload_n rfl dX11_orderAt_20 ?_
      refine a_geta dX11_orderAt_21 fX11_58 (by decide) rfl rfl ?_
      refine g_i (VX_2 hV8) (by decide) rfl fX11_201 rfl dX11_orderAt_24 ?_
      refine r_icmp_lt 37 (by omega) dX11_orderAt_27 (by decide) (fun h_27 => ?_) (fun h_27 => ?_)
      · obtain ⟨q, hq, rfl⟩ := inR_of (x := k) (m := tS T 0 2) (by omega) (by omega) (by omega)
        have t_q : (nI q).toInt = (q : Int) := nI_toInt (by omega)
        have i_q : idx (nI q) = q := idx_nI (by omega)
        refine a_aload_n rfl dX11_orderAt_37 ?_
        refine a_aload_n rfl dX11_orderAt_38 ?_
        refine a_geta dX11_orderAt_39 fX11_97 (by decide) rfl rfl ?_
        refine a_aload_n rfl dX11_orderAt_42 ?_
        refine a_geta dX11_orderAt_43 fX11_58 (by decide) rfl rfl ?_
        refine a_iload_n rfl dX11_orderAt_46 ?_
        refine n_callV (mi' := miX3_decidedAt) dX11_orderAt_47 lX11_355 mX3_decidedAt (by decide) rfl rfl rfl (c_X3_decidedAt hV8 hF hlw_8 hwt_8 hw_8 (by omega) ?_ d) rfl rfl (by omega) (by decide) (Nat.le_of_ble_eq_true rfl)
        show AW _ _ _ _ _ _ _
        refine n_callV (mi' := miX11_answer) dX11_orderAt_50 lX11_177 mX11_answer (by decide) rfl rfl rfl (c_X11_answer ?_ d) rfl rfl (by omega) (by decide) (Nat.le_of_ble_eq_true rfl)
        show AW _ _ _ _ _ _ _
        refine a_iret dX11_orderAt_53 rfl ?_
        exact fin_q hQ hI hG (by unfold sp_orderAt; rw [if_pos ⟨by rw [show owN (tS T) = some (wF (tS T) (tS T 0 2) 0) from by unfold owN; rw [if_pos ⟨hoa_8, hw_8⟩]]; rfl, by omega⟩, i_q]) (hf_8.mo (fun k j h => by unfold scX coX; omega))
      · refine a_aload_n rfl dX11_orderAt_30 ?_
        refine n_bipush 8 rfl dX11_orderAt_31 ?_
        refine n_callV (mi' := miX11_none) dX11_orderAt_33 lX11_131 mX11_none (by decide) rfl rfl rfl (c_X11_none ?_ d) rfl rfl (by omega) (by decide) (Nat.le_of_ble_eq_true rfl)
        show AW _ _ _ _ _ _ _
        refine a_iret dX11_orderAt_36 rfl ?_
        exact fin_q hQ hI hG (by unfold sp_orderAt; rw [if_neg (fun q => by have := q.2; omega)]) (hf_8.mo (fun k j h => by unfold scX coX; omega))
  · show AW _ _ _ _ _ _ _
    refine a_iconst (-1) rfl dX11_orderAt_11 ?_
    refine u_icmp_eq 30 dX11_orderAt_12 (by decide) (fun h_12 => ?_) (fun h_12 => absurd rfl h_12)
    refine a_aload_n rfl dX11_orderAt_30 ?_
    refine n_bipush 8 rfl dX11_orderAt_31 ?_
    refine n_callV (mi' := miX11_none) dX11_orderAt_33 lX11_131 mX11_none (by decide) rfl rfl rfl (c_X11_none ?_ d) rfl rfl (by omega) (by decide) (Nat.le_of_ble_eq_true rfl)
    show AW _ _ _ _ _ _ _
    refine a_iret dX11_orderAt_36 rfl ?_
    exact fin_q hQ hI hG (by unfold sp_orderAt; rw [if_neg (fun q => by have := q.1; rw [he_8] at this; exact absurd this (by decide))]) (hf_8.mo (fun k j h => by unfold scX coX; omega))

abbrev kvX (x : Int32) (v : Nat) : Prop := (x.toInt = (v : Int) ∧ v < 25) ∨ (x.toInt = -1 ∧ v = 99)
theorem kv_e {x : Int32} {v : Nat} (h : kvX x v) (hv : v < 99) : x = nI v := Int32.toInt_inj.mp (by rw [nI_toInt (by omega)]; omega)
theorem c_kwv {M : Mm} {tk : Nat → TK} {n : Nat} {c : CC} (hK : TKG tk) (hT : TX M tk n) (hC : CU M n c) {Q : Option Value → Mm → Prop} (hQ : ∀ x, kvX x (yv tk c) → Q (some (.int x)) M) (d : Nat) : AMt miX4_keyword d [.ref 10] M Q :=
  c_X4_keyword hK hT hC (fun h1 h2 => hQ _ (Or.inl (by rw [show yv tk c = cd tk c from if_pos h1]; exact ⟨nI_toInt (by omega), h2⟩))) (fun h => hQ _ (Or.inr ⟨by decide, if_neg h⟩)) d
def adM (M : Mm) (L : Nat) (v a b : Int32) : Mm := siM (siM (siM (siM (siM (siM (siM M 51 L v) 52 L (-1)) 53 L a) 54 L (-1)) 55 L b) 56 L (nI L)) 50 2 (nI (L + 1))
def asM (M : Mm) (L n : Nat) (v a b : Int32) : Mm := siM (adM M L v a b) 50 1 (nI (n + 1))
def awM (M : Mm) (L n : Nat) (t a q b : Int32) : Mm := siM (siM (asM M L n (nI 18) a b) 52 L t) 54 L q
def aeM (M : Mm) (L p : Nat) : Mm := siM (siM (adM M L (nI 23) (-1) (nI 0)) 56 L (nI p)) 56 p (nI L)
abbrev yrP (k _ : Nat) : Prop := 50 ≤ k ∧ k < 57
theorem ad_fr {M : Mm} {L : Nat} {v a b : Int32} : fr yrP M (adM M L v a b) := by
  unfold adM
  exact (((((((fr.r.si (by omega)).si (by omega)).si (by omega)).si (by omega)).si (by omega)).si (by omega)).si (by omega))
theorem as_fr {M : Mm} {L n : Nat} {v a b : Int32} : fr yrP M (asM M L n v a b) := ad_fr.si (by omega)
theorem aw_fr {M : Mm} {L n : Nat} {t a q b : Int32} : fr yrP M (awM M L n t a q b) := (as_fr.si (by omega)).si (by omega)
theorem ae_fr {M : Mm} {L p : Nat} : fr yrP M (aeM M L p) := (ad_fr.si (by omega)).si (by omega)
theorem ad_s {M : Mm} {L : Nat} {v a b x : Int32} (h : M.1 50 1 = x) : (adM M L v a b).1 50 1 = x := by
  unfold adM
  exact siN (siN (siN (siN (siN (siN (siN h (by omega)) (by omega)) (by omega)) (by omega)) (by omega)) (by omega)) (by omega)
theorem ad_0 {M : Mm} {L : Nat} {v a b x : Int32} (h : M.1 50 0 = x) : (adM M L v a b).1 50 0 = x := by
  unfold adM
  exact siN (siN (siN (siN (siN (siN (siN h (by omega)) (by omega)) (by omega)) (by omega)) (by omega)) (by omega)) (by omega)
theorem ad_c {M : Mm} {L : Nat} {v a b : Int32} : (adM M L v a b).1 51 L = v ∧ (adM M L v a b).1 52 L = -1 ∧ (adM M L v a b).1 53 L = a ∧ (adM M L v a b).1 54 L = -1 ∧ (adM M L v a b).1 55 L = b ∧ (adM M L v a b).1 56 L = nI L ∧ (adM M L v a b).1 50 2 = nI (L + 1) := by
  unfold adM
  exact ⟨siN (siN (siN (siN (siN (siN siS (by omega)) (by omega)) (by omega)) (by omega)) (by omega)) (by omega), siN (siN (siN (siN (siN siS (by omega)) (by omega)) (by omega)) (by omega)) (by omega), siN (siN (siN (siN siS (by omega)) (by omega)) (by omega)) (by omega), siN (siN (siN siS (by omega)) (by omega)) (by omega), siN (siN siS (by omega)) (by omega), siN siS (by omega), siS⟩
theorem ad_n {M : Mm} {L : Nat} {v a b : Int32} {k i : Nat} (h1 : 51 ≤ k) (hi : i < L) : (adM M L v a b).1 k i = M.1 k i := by
  unfold adM
  exact siN (siN (siN (siN (siN (siN (siN rfl (by omega)) (by omega)) (by omega)) (by omega)) (by omega)) (by omega)) (by omega)
theorem sc_A {L v a b t q : Nat} {s : Nat → Nat → Nat} (hv : v ≠ 23) : scN (itA L s v a b t q) (L + 1) = scN s L + 1 := by
  show (if itA L s v a b t q L 0 = 23 then scN (itA L s v a b t q) L else scN (itA L s v a b t q) L + 1) = _
  rw [it_0.1, if_neg hv, sc_e (fun i hi => by rw [it_n i hi])]
theorem sc_E {L p : Nat} {s : Nat → Nat → Nat} : scN (itE L s p) (L + 1) = scN s L := by
  show (if itE L s p L 0 = 23 then scN (itE L s p) L else scN (itE L s p) L + 1) = _
  rw [show itE L s p L 0 = 23 from (if_pos rfl).trans (if_pos rfl), if_pos rfl]
  exact sc_e (fun i hi => (if_neg (show ¬ i = L by omega)).trans (if_neg (fun q => absurd q.2 (by decide))))
theorem YX_ad {M M' : Mm} {L v a b t q : Nat} {s : Nat → Nat → Nat} (h : YX 50 M (1, L, s)) (hv : v ≠ 23) (he : ∀ k i, 51 ≤ k → k ≤ 56 → i < L → M'.1 k i = M.1 k i) (h0 : M'.1 50 0 = nI 1) (h1 : M'.1 50 1 = nI (scN s L + 1)) (h2 : M'.1 50 2 = nI (L + 1)) (a0 : M'.1 51 L = nI v) (a1 : v = 15 ∨ v = 16 ∨ v = 18 → M'.1 53 L = nI a) (a2 : M'.1 55 L = nI b) (a5 : M'.1 56 L = nI L) (a3 : v = 18 → M'.1 52 L = nI t ∧ M'.1 54 L = if t = 21 then nI q else -1) : YX 50 M' (1, L + 1, itA L s v a b t q) := by
  refine ⟨h0, h1.trans (congrArg nI (sc_A hv).symm), h2, fun i hi => ?_⟩
  have hi : i < L + 1 := hi
  have e1 := it_n (L := L) (v := v) (a := a) (b := b) (t := t) (q := q) (s := s)
  have z := it_0 (L := L) (v := v) (a := a) (b := b) (t := t) (q := q) (s := s)
  show M'.1 51 i = nI (itA L s v a b t q i 0) ∧ ((itA L s v a b t q i 0 = 15 ∨ itA L s v a b t q i 0 = 16 ∨ itA L s v a b t q i 0 = 18) → M'.1 53 i = nI (itA L s v a b t q i 1)) ∧ M'.1 55 i = nI (itA L s v a b t q i 2) ∧ M'.1 56 i = nI (itA L s v a b t q i 5) ∧ (itA L s v a b t q i 0 = 18 → M'.1 52 i = nI (itA L s v a b t q i 3) ∧ M'.1 54 i = if itA L s v a b t q i 3 = 21 then nI (itA L s v a b t q i 4) else -1)
  generalize itA L s v a b t q = s' at e1 z ⊢
  rcases Nat.lt_or_ge i L with w | w
  · rw [e1 i w, he 51 i (by omega) (by omega) w, he 52 i (by omega) (by omega) w, he 53 i (by omega) (by omega) w, he 54 i (by omega) (by omega) w, he 55 i (by omega) (by omega) w, he 56 i (by omega) (by omega) w]
    exact h.2.2.2 i w
  · rw [show i = L by omega, z.1, z.2.1, z.2.2.1, z.2.2.2.1, z.2.2.2.2.1, z.2.2.2.2.2]
    exact ⟨a0, a1, a2, a5, a3⟩
theorem as_YX {M : Mm} {L v who num t q : Nat} {a b : Int32} {s : Nat → Nat → Nat} (h : YX 50 M (1, L, s)) (hv : v ≠ 23) (h18 : v ≠ 18) (ha : v = 15 ∨ v = 16 → a = nI who) (hb : b = nI num) : YX 50 (asM M L (scN s L) (nI v) a b) (1, L + 1, itA L s v who num t q) := by
  have c := ad_c (M := M) (L := L) (v := nI v) (a := a) (b := b)
  exact YX_ad h hv (fun k i h1 h2 hi => siN (ad_n h1 hi) (by omega)) (siN (ad_0 h.1) (by omega)) siS (siN c.2.2.2.2.2.2 (by omega)) (siN c.1 (by omega)) (fun w => siN (c.2.2.1.trans (ha (by omega))) (by omega)) (siN (c.2.2.2.2.1.trans hb) (by omega)) (siN c.2.2.2.2.2.1 (by omega)) (fun w => absurd w h18)
theorem aw_YX {M : Mm} {L who num t q : Nat} {x a y b : Int32} {s : Nat → Nat → Nat} (h : YX 50 M (1, L, s)) (hx : x = nI t) (ha : a = nI who) (hy : y = if t = 21 then nI q else -1) (hb : b = nI num) : YX 50 (awM M L (scN s L) x a y b) (1, L + 1, itA L s 18 who num t q) := by
  have c := ad_c (M := M) (L := L) (v := nI 18) (a := a) (b := b)
  exact YX_ad h (by decide) (fun k i h1 h2 hi => siN (siN (siN (ad_n h1 hi) (by omega)) (by omega)) (by omega)) (siN (siN (siN (ad_0 h.1) (by omega)) (by omega)) (by omega)) (siN (siN siS (by omega)) (by omega)) (siN (siN (siN c.2.2.2.2.2.2 (by omega)) (by omega)) (by omega)) (siN (siN (siN c.1 (by omega)) (by omega)) (by omega)) (fun _ => siN (siN (siN (c.2.2.1.trans ha) (by omega)) (by omega)) (by omega)) (siN (siN (siN (c.2.2.2.2.1.trans hb) (by omega)) (by omega)) (by omega)) (siN (siN (siN c.2.2.2.2.2.1 (by omega)) (by omega)) (by omega)) (fun _ => ⟨siN (siS.trans hx) (by omega), siS.trans hy⟩)
theorem ae_YX {M : Mm} {L p : Nat} {s : Nat → Nat → Nat} (h : YX 50 M (1, L, s)) (hp : p < L) : YX 50 (aeM M L p) (1, L + 1, itE L s p) := by
  have c := ad_c (M := M) (L := L) (v := nI 23) (a := -1) (b := nI 0)
  have he : ∀ k i, 51 ≤ k → i < L → ¬ (k = 56 ∧ i = p) → (aeM M L p).1 k i = M.1 k i := fun k i h1 hi hn => siN (siN (ad_n h1 hi) (by omega)) (by omega)
  have s0 : ∀ i j, i < L → ¬ (i = p ∧ j = 5) → itE L s p i j = s i j := fun i j hi hn => (if_neg (by omega)).trans (if_neg hn)
  have h5 : itE L s p p 5 = L := (if_neg (by omega)).trans (if_pos ⟨rfl, rfl⟩)
  have hL : itE L s p L 0 = 23 ∧ itE L s p L 1 = 0 ∧ itE L s p L 2 = 0 ∧ itE L s p L 5 = p := ⟨(if_pos rfl).trans rfl, (if_pos rfl).trans rfl, (if_pos rfl).trans rfl, (if_pos rfl).trans rfl⟩
  refine ⟨siN (siN (ad_0 h.1) (by omega)) (by omega), (siN (siN (ad_s h.2.1) (by omega)) (by omega) : (aeM M L p).1 50 1 = nI (scN s L)).trans (congrArg nI sc_E.symm), siN (siN c.2.2.2.2.2.2 (by omega)) (by omega), fun i hi => ?_⟩
  have hi : i < L + 1 := hi
  have ep : (aeM M L p).1 56 p = nI L := siS
  have eL : (aeM M L p).1 51 L = nI 23 ∧ (aeM M L p).1 55 L = nI 0 ∧ (aeM M L p).1 56 L = nI p := ⟨siN (siN c.1 (by omega)) (by omega), siN (siN c.2.2.2.2.1 (by omega)) (by omega), siN siS (by omega)⟩
  show (aeM M L p).1 51 i = nI (itE L s p i 0) ∧ ((itE L s p i 0 = 15 ∨ itE L s p i 0 = 16 ∨ itE L s p i 0 = 18) → (aeM M L p).1 53 i = nI (itE L s p i 1)) ∧ (aeM M L p).1 55 i = nI (itE L s p i 2) ∧ (aeM M L p).1 56 i = nI (itE L s p i 5) ∧ (itE L s p i 0 = 18 → (aeM M L p).1 52 i = nI (itE L s p i 3) ∧ (aeM M L p).1 54 i = if itE L s p i 3 = 21 then nI (itE L s p i 4) else -1)
  rcases Nat.lt_or_ge i L with w | w
  · have z := h.2.2.2 i w
    rw [s0 i 0 w (by omega), s0 i 1 w (by omega), s0 i 2 w (by omega), s0 i 3 w (by omega), s0 i 4 w (by omega), he 51 i (by omega) w (by omega), he 52 i (by omega) w (by omega), he 53 i (by omega) w (by omega), he 54 i (by omega) w (by omega), he 55 i (by omega) w (by omega)]
    refine ⟨z.1, z.2.1, z.2.2.1, ?_, z.2.2.2.2⟩
    by_cases e : i = p
    · rw [e, h5]; exact ep
    · rw [s0 i 5 w (by omega), he 56 i (by omega) w (by omega)]; exact z.2.2.2.1
  · rw [show i = L by omega, hL.1, hL.2.2.1, hL.2.2.2]
    exact ⟨eL.1, fun q => absurd q (by decide), eL.2.1, eL.2.2, fun q => absurd q (by decide)⟩
theorem YX_cu {M M' : Mm} {Y : YR} (h : YX 50 M Y) (hf : fr cuP M M') : YX 50 M' Y := YX_eq h (fun k a b => funext fun j => (hf k j (by unfold cuP; omega)).1)
theorem TX_cu {M M' : Mm} {tk : Nat → TK} {n : Nat} (h : TX M tk n) (hf : fr cuP M M') : TX M' tk n := TX_fr h hf (fun k j z => by unfold cuP; omega)
theorem CU_yr {M M' : Mm} {n : Nat} {c : CC} (h : CU M n c) (hf : fr yrP M M') : CU M' n c := CU_fr h hf (fun j a b => by omega)
def ryP (k j : Nat) : Prop := cuP k j ∨ (50 ≤ k ∧ k < 57) ∨ k = 15 ∨ k = 16

set_option maxRecDepth 100000 in
set_option maxHeartbeats 800000 in
theorem c_X9_add {M : Mm} {L : Nat} (hL : M.1 50 2 = nI L) (hl : L < 60) {v : Nat} {a b : Int32} {Q : Option Value → Mm → Prop} (hQ : Q none (adM M L (nI v) a b)) (d : Nat) : AMt miX9_add (d) [.ref 50, .int (nI v), .int a, .int b] M Q := by
  refine AMt.of (by decide) (Nat.le_of_ble_eq_true rfl) ?_
  show AW miX9_add (d) (mxA Q) 0 [(0, some (.ref 50)), (1, some (.int (nI v))), (2, some (.int a)), (3, some (.int b))] [] M
  refine a_aload_n rfl dX9_add_0 ?_
  refine g_i hL (by decide) rfl fX9_38 rfl dX9_add_1 ?_
  refine n_bipush 60 rfl dX9_add_4 ?_
  refine n_icmp_ge 82 (by omega) (by omega) dX9_add_6 (by decide) (fun h_6 => absurd h_6 (by omega)) (fun h_6 => ?_)
  refine a_aload_n rfl dX9_add_9 ?_
  refine a_geta dX9_add_10 fX9_11 (by decide) rfl rfl ?_
  refine a_aload_n rfl dX9_add_13 ?_
  refine g_i hL (by decide) rfl fX9_38 rfl dX9_add_14 ?_
  refine a_iload_n rfl dX9_add_17 ?_
  refine n_iast (by omega) (by decide) rfl (by decide) dX9_add_18 ?_
  refine a_aload_n rfl dX9_add_19 ?_
  refine a_geta dX9_add_20 fX9_15 (by decide) rfl rfl ?_
  refine a_aload_n rfl dX9_add_23 ?_
  refine g_i (siN hL (by omega)) (by decide) rfl fX9_38 rfl dX9_add_24 ?_
  refine a_iconst (-1) rfl dX9_add_27 ?_
  refine n_iast (by omega) (by decide) rfl (by decide) dX9_add_28 ?_
  refine a_aload_n rfl dX9_add_29 ?_
  refine a_geta dX9_add_30 fX9_18 (by decide) rfl rfl ?_
  refine a_aload_n rfl dX9_add_33 ?_
  refine g_i (siN (siN hL (by omega)) (by omega)) (by decide) rfl fX9_38 rfl dX9_add_34 ?_
  refine a_iload_n rfl dX9_add_37 ?_
  refine n_iast (by omega) (by decide) rfl (by decide) dX9_add_38 ?_
  refine a_aload_n rfl dX9_add_39 ?_
  refine a_geta dX9_add_40 fX9_21 (by decide) rfl rfl ?_
  refine a_aload_n rfl dX9_add_43 ?_
  refine g_i (siN (siN (siN hL (by omega)) (by omega)) (by omega)) (by decide) rfl fX9_38 rfl dX9_add_44 ?_
  refine a_iconst (-1) rfl dX9_add_47 ?_
  refine n_iast (by omega) (by decide) rfl (by decide) dX9_add_48 ?_
  refine a_aload_n rfl dX9_add_49 ?_
  refine a_geta dX9_add_50 fX9_24 (by decide) rfl rfl ?_
  refine a_aload_n rfl dX9_add_53 ?_
  refine g_i (siN (siN (siN (siN hL (by omega)) (by omega)) (by omega)) (by omega)) (by decide) rfl fX9_38 rfl dX9_add_54 ?_
  refine a_iload_n rfl dX9_add_57 ?_
  refine n_iast (by omega) (by decide) rfl (by decide) dX9_add_58 ?_
  refine a_aload_n rfl dX9_add_59 ?_
  refine a_geta dX9_add_60 fX9_27 (by decide) rfl rfl ?_
  refine a_aload_n rfl dX9_add_63 ?_
  refine g_i (siN (siN (siN (siN (siN hL (by omega)) (by omega)) (by omega)) (by omega)) (by omega)) (by decide) rfl fX9_38 rfl dX9_add_64 ?_
  refine a_aload_n rfl dX9_add_67 ?_
  refine g_i (siN (siN (siN (siN (siN hL (by omega)) (by omega)) (by omega)) (by omega)) (by omega)) (by decide) rfl fX9_38 rfl dX9_add_68 ?_
  refine n_iast (by omega) (by decide) rfl (by decide) dX9_add_71 ?_
  refine a_aload_n rfl dX9_add_72 ?_
  refine a_dup rfl dX9_add_73 ?_
  refine g_i (siN (siN (siN (siN (siN (siN hL (by omega)) (by omega)) (by omega)) (by omega)) (by omega)) (by omega)) (by decide) rfl fX9_38 rfl dX9_add_74 ?_
  refine n_iconst 1 rfl dX9_add_77 ?_
  refine n_iadd dX9_add_78 ?_
  refine a_puti dX9_add_79 pX9_38 (by decide) rfl rfl ?_
  refine a_vret dX9_add_82 rfl ?_
  exact hQ

set_option maxRecDepth 100000 in
set_option maxHeartbeats 800000 in
theorem c_X9_addStep {M : Mm} {L : Nat} (hL : M.1 50 2 = nI L) (hl : L < 60) {n : Nat} (hS : M.1 50 1 = nI n) (hn : n ≤ 60) {v : Nat} {a b : Int32} {Q : Option Value → Mm → Prop} (hQ : Q none (asM M L n (nI v) a b)) (d : Nat) : AMt miX9_addStep (d + 1) [.ref 50, .int (nI v), .int a, .int b] M Q := by
  refine AMt.of (by decide) (Nat.le_of_ble_eq_true rfl) ?_
  show AW miX9_addStep (d + 1) (mxA Q) 0 [(0, some (.ref 50)), (1, some (.int (nI v))), (2, some (.int a)), (3, some (.int b))] [] M
  refine a_aload_n rfl dX9_addStep_0 ?_
  refine a_iload_n rfl dX9_addStep_1 ?_
  refine a_iload_n rfl dX9_addStep_2 ?_
  refine a_iload_n rfl dX9_addStep_3 ?_
  refine n_callV (mi' := miX9_add) dX9_addStep_4 lX9_49 mX9_add (by decide) rfl rfl rfl (c_X9_add hL hl ?_ d) rfl rfl (by omega) (by decide) (Nat.le_of_ble_eq_true rfl)
  show AW _ _ _ _ _ _ _
  refine a_aload_n rfl dX9_addStep_7 ?_
  refine a_dup rfl dX9_addStep_8 ?_
  refine g_i (ad_s hS) (by decide) rfl fX9_34 rfl dX9_addStep_9 ?_
  refine n_iconst 1 rfl dX9_addStep_12 ?_
  refine n_iadd dX9_addStep_13 ?_
  refine a_puti dX9_addStep_14 pX9_34 (by decide) rfl rfl ?_
  refine a_vret dX9_addStep_17 rfl ?_
  exact hQ

set_option maxRecDepth 100000 in
set_option maxHeartbeats 800000 in
theorem c_X9_addWhen {M : Mm} {L : Nat} (hL : M.1 50 2 = nI L) (hl : L < 60) {n : Nat} (hS : M.1 50 1 = nI n) (hn : n ≤ 60) {t a q b : Int32} {Q : Option Value → Mm → Prop} (hQ : Q none (awM M L n t a q b)) (d : Nat) : AMt miX9_addWhen (d + 2) [.ref 50, .int t, .int a, .int q, .int b] M Q := by
  refine AMt.of (by decide) (Nat.le_of_ble_eq_true rfl) ?_
  show AW miX9_addWhen (d + 2) (mxA Q) 0 [(0, some (.ref 50)), (1, some (.int t)), (2, some (.int a)), (3, some (.int q)), (4, some (.int b))] [] M
  refine a_aload_n rfl dX9_addWhen_0 ?_
  refine g_i hL (by decide) rfl fX9_38 rfl dX9_addWhen_1 ?_
  refine a_istore (by decide) rfl dX9_addWhen_4 ?_
  refine a_aload_n rfl dX9_addWhen_6 ?_
  refine n_bipush 18 rfl dX9_addWhen_7 ?_
  refine a_iload_n rfl dX9_addWhen_9 ?_
  refine a_iload rfl dX9_addWhen_10 ?_
  refine n_callV (mi' := miX9_addStep) dX9_addWhen_12 lX9_53 mX9_addStep (by decide) rfl rfl rfl (c_X9_addStep (v := 18) hL hl hS hn ?_ d) rfl rfl (by omega) (by decide) (Nat.le_of_ble_eq_true rfl)
  show AW _ _ _ _ _ _ _
  refine a_iload rfl dX9_addWhen_15 ?_
  refine n_bipush 60 rfl dX9_addWhen_17 ?_
  refine n_icmp_ge 38 (by omega) (by omega) dX9_addWhen_19 (by decide) (fun h_19 => absurd h_19 (by omega)) (fun h_19 => ?_)
  refine a_aload_n rfl dX9_addWhen_22 ?_
  refine a_geta dX9_addWhen_23 fX9_15 (by decide) rfl rfl ?_
  refine a_iload rfl dX9_addWhen_26 ?_
  refine a_iload_n rfl dX9_addWhen_28 ?_
  refine n_iast (by omega) (by decide) rfl (by decide) dX9_addWhen_29 ?_
  refine a_aload_n rfl dX9_addWhen_30 ?_
  refine a_geta dX9_addWhen_31 fX9_21 (by decide) rfl rfl ?_
  refine a_iload rfl dX9_addWhen_34 ?_
  refine a_iload_n rfl dX9_addWhen_36 ?_
  refine n_iast (by omega) (by decide) rfl (by decide) dX9_addWhen_37 ?_
  refine a_vret dX9_addWhen_38 rfl ?_
  exact hQ

set_option maxRecDepth 100000 in
set_option maxHeartbeats 800000 in
theorem c_X9_addEnd {M : Mm} {L : Nat} (hL : M.1 50 2 = nI L) (hl : L < 60) {p : Nat} (hp : p < L) {Q : Option Value → Mm → Prop} (hQ : Q none (aeM M L p)) (d : Nat) : AMt miX9_addEnd (d + 1) [.ref 50, .int (nI p)] M Q := by
  refine AMt.of (by decide) (Nat.le_of_ble_eq_true rfl) ?_
  show AW miX9_addEnd (d + 1) (mxA Q) 0 [(0, some (.ref 50)), (1, some (.int (nI p)))] [] M
  refine a_aload_n rfl dX9_addEnd_0 ?_
  refine g_i hL (by decide) rfl fX9_38 rfl dX9_addEnd_1 ?_
  refine n_bipush 60 rfl dX9_addEnd_4 ?_
  refine n_icmp_ge 53 (by omega) (by omega) dX9_addEnd_6 (by decide) (fun h_6 => absurd h_6 (by omega)) (fun h_6 => ?_)
  refine a_iload_n rfl dX9_addEnd_9 ?_
  refine n_if_lt (tgt := 53) (by omega) dX9_addEnd_10 (by decide) ?_
  refine a_iload_n rfl dX9_addEnd_13 ?_
  refine a_aload_n rfl dX9_addEnd_14 ?_
  refine g_i hL (by decide) rfl fX9_38 rfl dX9_addEnd_15 ?_
  refine n_icmp_ge 53 (by omega) (by omega) dX9_addEnd_18 (by decide) (fun h_18 => absurd h_18 (by omega)) (fun h_18 => ?_)
  refine a_aload_n rfl dX9_addEnd_21 ?_
  refine n_bipush 23 rfl dX9_addEnd_22 ?_
  refine a_iconst (-1) rfl dX9_addEnd_24 ?_
  refine n_iconst 0 rfl dX9_addEnd_25 ?_
  refine n_callV (mi' := miX9_add) dX9_addEnd_26 lX9_49 mX9_add (by decide) rfl rfl rfl (c_X9_add (v := 23) hL hl ?_ d) rfl rfl (by omega) (by decide) (Nat.le_of_ble_eq_true rfl)
  show AW _ _ _ _ _ _ _
  refine a_aload_n rfl dX9_addEnd_29 ?_
  refine a_geta dX9_addEnd_30 fX9_27 (by decide) rfl rfl ?_
  refine a_aload_n rfl dX9_addEnd_33 ?_
  refine g_i ad_c.2.2.2.2.2.2 (by decide) rfl fX9_38 rfl dX9_addEnd_34 ?_
  refine n_iconst 1 rfl dX9_addEnd_37 ?_
  refine n_isub (by omega) dX9_addEnd_38 ?_
  refine a_iload_n rfl dX9_addEnd_39 ?_
  refine n_iast (by omega) (by decide) rfl (by decide) dX9_addEnd_40 ?_
  refine a_aload_n rfl dX9_addEnd_41 ?_
  refine a_geta dX9_addEnd_42 fX9_27 (by decide) rfl rfl ?_
  refine a_iload_n rfl dX9_addEnd_45 ?_
  refine a_aload_n rfl dX9_addEnd_46 ?_
  refine g_i (siN ad_c.2.2.2.2.2.2 (by omega)) (by decide) rfl fX9_38 rfl dX9_addEnd_47 ?_
  refine n_iconst 1 rfl dX9_addEnd_50 ?_
  refine n_isub (by omega) dX9_addEnd_51 ?_
  refine n_iast (by omega) (by decide) rfl (by decide) dX9_addEnd_52 ?_
  refine a_vret dX9_addEnd_53 rfl ?_
  exact hQ

set_option maxRecDepth 100000 in
set_option maxHeartbeats 800000 in
theorem c_X10_isStep {M : Mm} {x : Int32} {v : Nat} (hx : kvX x v) {Q : Option Value → Mm → Prop} (h1 : yStp v → Q (some (.int (nI 1))) M) (h0 : ¬ yStp v → Q (some (.int (nI 0))) M) (d : Nat) : AMt miX10_isStep (d) [.int x] M Q := by
  refine AMt.of (by decide) (Nat.le_of_ble_eq_true rfl) ?_
  show AW miX10_isStep (d) (mxA Q) 0 [(0, some (.int x))] [] M
  refine a_iload_n rfl dX10_isStep_0 ?_
  refine n_bipush 13 rfl dX10_isStep_1 ?_
  refine r_icmp_lt 12 (by omega) dX10_isStep_3 (by decide) (fun h_3 => ?_) (fun h_3 => ?_)
  · refine a_iload_n rfl dX10_isStep_12 ?_
    refine n_bipush 22 rfl dX10_isStep_13 ?_
    refine r_icmp_eq 24 (by omega) dX10_isStep_15 (by decide) (fun h_15 => ?_) (fun h_15 => ?_)
    · refine n_iconst 1 rfl dX10_isStep_24 ?_
      refine a_goto 29 dX10_isStep_25 (by decide) ?_
      refine a_zret dX10_isStep_29 rfl (Or.inr rfl) ?_
      exact h1 (by omega)
    · refine a_iload_n rfl dX10_isStep_18 ?_
      refine n_bipush 24 rfl dX10_isStep_19 ?_
      refine r_icmp_ne 28 (by omega) dX10_isStep_21 (by decide) (fun h_21 => ?_) (fun h_21 => ?_)
      · refine n_iconst 0 rfl dX10_isStep_28 ?_
        refine a_zret dX10_isStep_29 rfl (Or.inl rfl) ?_
        exact h0 (by omega)
      · refine n_iconst 1 rfl dX10_isStep_24 ?_
        refine a_goto 29 dX10_isStep_25 (by decide) ?_
        refine a_zret dX10_isStep_29 rfl (Or.inr rfl) ?_
        exact h1 (by omega)
  · refine a_iload_n rfl dX10_isStep_6 ?_
    refine n_bipush 18 rfl dX10_isStep_7 ?_
    refine r_icmp_le 24 (by omega) dX10_isStep_9 (by decide) (fun h_9 => ?_) (fun h_9 => ?_)
    · refine n_iconst 1 rfl dX10_isStep_24 ?_
      refine a_goto 29 dX10_isStep_25 (by decide) ?_
      refine a_zret dX10_isStep_29 rfl (Or.inr rfl) ?_
      exact h1 (by omega)
    · refine a_iload_n rfl dX10_isStep_12 ?_
      refine n_bipush 22 rfl dX10_isStep_13 ?_
      refine r_icmp_eq 24 (by omega) dX10_isStep_15 (by decide) (fun h_15 => ?_) (fun h_15 => ?_)
      · refine n_iconst 1 rfl dX10_isStep_24 ?_
        refine a_goto 29 dX10_isStep_25 (by decide) ?_
        refine a_zret dX10_isStep_29 rfl (Or.inr rfl) ?_
        exact h1 (by omega)
      · refine a_iload_n rfl dX10_isStep_18 ?_
        refine n_bipush 24 rfl dX10_isStep_19 ?_
        refine r_icmp_ne 28 (by omega) dX10_isStep_21 (by decide) (fun h_21 => ?_) (fun h_21 => ?_)
        · refine n_iconst 0 rfl dX10_isStep_28 ?_
          refine a_zret dX10_isStep_29 rfl (Or.inl rfl) ?_
          exact h0 (by omega)
        · refine n_iconst 1 rfl dX10_isStep_24 ?_
          refine a_goto 29 dX10_isStep_25 (by decide) ?_
          refine a_zret dX10_isStep_29 rfl (Or.inr rfl) ?_
          exact h1 (by omega)

set_option maxRecDepth 100000 in
set_option maxHeartbeats 800000 in
theorem c_X10_isOpening {M : Mm} {x : Int32} {v : Nat} (hx : kvX x v) {Q : Option Value → Mm → Prop} (h1 : yOp v → Q (some (.int (nI 1))) M) (h0 : ¬ yOp v → Q (some (.int (nI 0))) M) (d : Nat) : AMt miX10_isOpening (d) [.int x] M Q := by
  refine AMt.of (by decide) (Nat.le_of_ble_eq_true rfl) ?_
  show AW miX10_isOpening (d) (mxA Q) 0 [(0, some (.int x))] [] M
  refine a_iload_n rfl dX10_isOpening_0 ?_
  refine n_bipush 18 rfl dX10_isOpening_1 ?_
  refine r_icmp_eq 12 (by omega) dX10_isOpening_3 (by decide) (fun h_3 => ?_) (fun h_3 => ?_)
  · refine n_iconst 1 rfl dX10_isOpening_12 ?_
    refine a_goto 17 dX10_isOpening_13 (by decide) ?_
    refine a_zret dX10_isOpening_17 rfl (Or.inr rfl) ?_
    exact h1 (by omega)
  · refine a_iload_n rfl dX10_isOpening_6 ?_
    refine n_bipush 22 rfl dX10_isOpening_7 ?_
    refine r_icmp_ne 16 (by omega) dX10_isOpening_9 (by decide) (fun h_9 => ?_) (fun h_9 => ?_)
    · refine n_iconst 0 rfl dX10_isOpening_16 ?_
      refine a_zret dX10_isOpening_17 rfl (Or.inl rfl) ?_
      exact h0 (by omega)
    · refine n_iconst 1 rfl dX10_isOpening_12 ?_
      refine a_goto 17 dX10_isOpening_13 (by decide) ?_
      refine a_zret dX10_isOpening_17 rfl (Or.inr rfl) ?_
      exact h1 (by omega)

set_option maxRecDepth 100000 in
set_option maxHeartbeats 800000 in
theorem c_X10_begin {M : Mm} {tk : Nat → TK} {n : Nat} {c : CC} (hK : TKG tk) (hT : TX M tk n) (hC : CU M n c) {x : Int32} {v : Nat} (hx : kvX x v) {D n9 : Nat} (hD : M.1 15 1 = nI D) (hS : M.1 50 1 = nI n9) (hD3 : D ≤ 3) (hn : n9 ≤ 60) {Q : Option Value → Mm → Prop} (hQ : ∀ M', CU M' n (ybG tk v n9 D c) → fr cuP M M' → Q none M') (d : Nat) : AMt miX10_begin (d + 1) [.ref 15, .int x, .ref 50, .ref 10] M Q := by
  refine AMt.of (by decide) (Nat.le_of_ble_eq_true rfl) ?_
  show AW miX10_begin (d + 1) (mxA Q) 0 [(0, some (.ref 15)), (1, some (.int x)), (2, some (.ref 50)), (3, some (.ref 10))] [] M
  have hc1 := hC.1
  have hn1 := hT.2.1
  have hn9 := hT.2.2.1
  have hf7 := hC.2.2.2.2
  have hkd : kd tk c ≤ 6 := (hK c.1).1
  have hst := (hK c.1).2.1
  have htx := tx_kd hT hC
  refine a_iload_n rfl dX10_begin_0 ?_
  refine n_bipush 23 rfl dX10_begin_1 ?_
  refine r_icmp_ne 21 (by omega) dX10_begin_3 (by decide) (fun h_3 => ?_) (fun h_3 => ?_)
  · refine a_iload_n rfl dX10_begin_21 ?_
    refine n_callS (mi' := miX10_isStep) dX10_begin_22 lX10_58 mX10_isStep (c_X10_isStep hx (fun h_22 => ?_) (fun h_22 => ?_) d) rfl rfl (by omega) (by decide) (Nat.le_of_ble_eq_true rfl)
    · show AW _ _ _ _ _ _ _
      refine a_istore (by decide) rfl dX10_begin_25 ?_
      refine a_iload rfl dX10_begin_27 ?_
      refine n_if_ne 40 (by decide) dX10_begin_29 (by decide) (fun _ => ?_) (fun h => absurd h (by decide))
      refine a_iload_n rfl dX10_begin_40 ?_
      refine n_callS (mi' := miX10_isStep) dX10_begin_41 lX10_58 mX10_isStep (c_X10_isStep hx (fun h_41 => ?_) (fun h_41 => ?_) d) rfl rfl (by omega) (by decide) (Nat.le_of_ble_eq_true rfl)
      · show AW _ _ _ _ _ _ _
        refine n_if_eq 65 (by decide) dX10_begin_44 (by decide) (fun h => absurd h (by decide)) (fun _ => ?_)
        refine a_aload_n rfl dX10_begin_47 ?_
        refine g_i hS (by decide) rfl fX10_62 rfl dX10_begin_48 ?_
        refine n_bipush 30 rfl dX10_begin_51 ?_
        refine n_icmp_lt 65 (by omega) (by omega) dX10_begin_53 (by decide) (fun h_53 => ?_) (fun h_53 => ?_)
        · refine a_iload_n rfl dX10_begin_65 ?_
          refine n_callS (mi' := miX10_isOpening) dX10_begin_66 lX10_65 mX10_isOpening (c_X10_isOpening hx (fun h_66 => ?_) (fun h_66 => ?_) d) rfl rfl (by omega) (by decide) (Nat.le_of_ble_eq_true rfl)
          · show AW _ _ _ _ _ _ _
            refine n_if_eq 86 (by decide) dX10_begin_69 (by decide) (fun h => absurd h (by decide)) (fun _ => ?_)
            refine a_aload_n rfl dX10_begin_72 ?_
            refine g_i hD (by decide) rfl fX10_24 rfl dX10_begin_73 ?_
            refine n_iconst 3 rfl dX10_begin_76 ?_
            refine n_icmp_lt 86 (by omega) (by omega) dX10_begin_77 (by decide) (fun h_77 => ?_) (fun h_77 => ?_)
            · refine a_aload_n rfl dX10_begin_86 ?_
              refine n_callV (mi' := miX4_step) dX10_begin_87 lX10_68 mX4_step (by decide) rfl rfl rfl (c_X4_step hK hT hC (fun M_87 hc_87 hf_87 => ?_) d) rfl rfl (by omega) (by decide) (Nat.le_of_ble_eq_true rfl)
              show AW _ _ _ _ _ _ _
              refine a_vret dX10_begin_90 rfl ?_
              have e : ybG tk v n9 D c = spC tk (c) := congrArg (spC tk) ((if_neg (by omega)).trans ((if_neg (by omega)).trans (if_neg (by omega))))
              rw [e] at hQ
              exact hQ _ hc_87 hf_87
            · refine a_aload_n rfl dX10_begin_80 ?_
              refine n_bipush 7 rfl dX10_begin_81 ?_
              refine n_callV (mi' := miX4_fail) dX10_begin_83 lX10_52 mX4_fail (by decide) rfl rfl rfl (c_X4_fail (w := 7) hK hT hC (by omega) (fun M_83 hc_83 hf_83 => ?_) d) rfl rfl (by omega) (by decide) (Nat.le_of_ble_eq_true rfl)
              show AW _ _ _ _ _ _ _
              refine a_aload_n rfl dX10_begin_86 ?_
              refine n_callV (mi' := miX4_step) dX10_begin_87 lX10_68 mX4_step (by decide) rfl rfl rfl (c_X4_step hK (TX_cu hT hf_83) hc_83 (fun M_87 hc_87 hf_87 => ?_) d) rfl rfl (by omega) (by decide) (Nat.le_of_ble_eq_true rfl)
              show AW _ _ _ _ _ _ _
              refine a_vret dX10_begin_90 rfl ?_
              have e : ybG tk v n9 D c = spC tk (flC tk 7 c) := congrArg (spC tk) ((if_neg (by omega)).trans ((if_neg (by omega)).trans (if_pos (by omega))))
              rw [e] at hQ
              exact hQ _ hc_87 (hf_83.t hf_87)
          · show AW _ _ _ _ _ _ _
            refine n_if_eq 86 (by decide) dX10_begin_69 (by decide) (fun _ => ?_) (fun h => absurd h (by decide))
            refine a_aload_n rfl dX10_begin_86 ?_
            refine n_callV (mi' := miX4_step) dX10_begin_87 lX10_68 mX4_step (by decide) rfl rfl rfl (c_X4_step hK hT hC (fun M_87 hc_87 hf_87 => ?_) d) rfl rfl (by omega) (by decide) (Nat.le_of_ble_eq_true rfl)
            show AW _ _ _ _ _ _ _
            refine a_vret dX10_begin_90 rfl ?_
            have e : ybG tk v n9 D c = spC tk (c) := congrArg (spC tk) ((if_neg (by omega)).trans ((if_neg (by omega)).trans (if_neg (by omega))))
            rw [e] at hQ
            exact hQ _ hc_87 hf_87
        · refine a_aload_n rfl dX10_begin_56 ?_
          refine n_bipush 6 rfl dX10_begin_57 ?_
          refine n_callV (mi' := miX4_fail) dX10_begin_59 lX10_52 mX4_fail (by decide) rfl rfl rfl (c_X4_fail (w := 6) hK hT hC (by omega) (fun M_59 hc_59 hf_59 => ?_) d) rfl rfl (by omega) (by decide) (Nat.le_of_ble_eq_true rfl)
          show AW _ _ _ _ _ _ _
          refine a_goto 86 dX10_begin_62 (by decide) ?_
          refine a_aload_n rfl dX10_begin_86 ?_
          refine n_callV (mi' := miX4_step) dX10_begin_87 lX10_68 mX4_step (by decide) rfl rfl rfl (c_X4_step hK (TX_cu hT hf_59) hc_59 (fun M_87 hc_87 hf_87 => ?_) d) rfl rfl (by omega) (by decide) (Nat.le_of_ble_eq_true rfl)
          show AW _ _ _ _ _ _ _
          refine a_vret dX10_begin_90 rfl ?_
          have e : ybG tk v n9 D c = spC tk (flC tk 6 c) := congrArg (spC tk) ((if_neg (by omega)).trans (if_pos (by omega)))
          rw [e] at hQ
          exact hQ _ hc_87 (hf_59.t hf_87)
      · show AW _ _ _ _ _ _ _
        refine n_if_eq 65 (by decide) dX10_begin_44 (by decide) (fun _ => ?_) (fun h => absurd h (by decide))
        refine a_iload_n rfl dX10_begin_65 ?_
        refine n_callS (mi' := miX10_isOpening) dX10_begin_66 lX10_65 mX10_isOpening (c_X10_isOpening hx (fun h_66 => ?_) (fun h_66 => ?_) d) rfl rfl (by omega) (by decide) (Nat.le_of_ble_eq_true rfl)
        · show AW _ _ _ _ _ _ _
          refine n_if_eq 86 (by decide) dX10_begin_69 (by decide) (fun h => absurd h (by decide)) (fun _ => ?_)
          refine a_aload_n rfl dX10_begin_72 ?_
          refine g_i hD (by decide) rfl fX10_24 rfl dX10_begin_73 ?_
          refine n_iconst 3 rfl dX10_begin_76 ?_
          refine n_icmp_lt 86 (by omega) (by omega) dX10_begin_77 (by decide) (fun h_77 => ?_) (fun h_77 => ?_)
          · refine a_aload_n rfl dX10_begin_86 ?_
            refine n_callV (mi' := miX4_step) dX10_begin_87 lX10_68 mX4_step (by decide) rfl rfl rfl (c_X4_step hK hT hC (fun M_87 hc_87 hf_87 => ?_) d) rfl rfl (by omega) (by decide) (Nat.le_of_ble_eq_true rfl)
            show AW _ _ _ _ _ _ _
            refine a_vret dX10_begin_90 rfl ?_
            have e : ybG tk v n9 D c = spC tk (c) := congrArg (spC tk) ((if_neg (by omega)).trans ((if_neg (by omega)).trans (if_neg (by omega))))
            rw [e] at hQ
            exact hQ _ hc_87 hf_87
          · refine a_aload_n rfl dX10_begin_80 ?_
            refine n_bipush 7 rfl dX10_begin_81 ?_
            refine n_callV (mi' := miX4_fail) dX10_begin_83 lX10_52 mX4_fail (by decide) rfl rfl rfl (c_X4_fail (w := 7) hK hT hC (by omega) (fun M_83 hc_83 hf_83 => ?_) d) rfl rfl (by omega) (by decide) (Nat.le_of_ble_eq_true rfl)
            show AW _ _ _ _ _ _ _
            refine a_aload_n rfl dX10_begin_86 ?_
            refine n_callV (mi' := miX4_step) dX10_begin_87 lX10_68 mX4_step (by decide) rfl rfl rfl (c_X4_step hK (TX_cu hT hf_83) hc_83 (fun M_87 hc_87 hf_87 => ?_) d) rfl rfl (by omega) (by decide) (Nat.le_of_ble_eq_true rfl)
            show AW _ _ _ _ _ _ _
            refine a_vret dX10_begin_90 rfl ?_
            have e : ybG tk v n9 D c = spC tk (flC tk 7 c) := congrArg (spC tk) ((if_neg (by omega)).trans ((if_neg (by omega)).trans (if_pos (by omega))))
            rw [e] at hQ
            exact hQ _ hc_87 (hf_83.t hf_87)
        · show AW _ _ _ _ _ _ _
          refine n_if_eq 86 (by decide) dX10_begin_69 (by decide) (fun _ => ?_) (fun h => absurd h (by decide))
          refine a_aload_n rfl dX10_begin_86 ?_
          refine n_callV (mi' := miX4_step) dX10_begin_87 lX10_68 mX4_step (by decide) rfl rfl rfl (c_X4_step hK hT hC (fun M_87 hc_87 hf_87 => ?_) d) rfl rfl (by omega) (by decide) (Nat.le_of_ble_eq_true rfl)
          show AW _ _ _ _ _ _ _
          refine a_vret dX10_begin_90 rfl ?_
          have e : ybG tk v n9 D c = spC tk (c) := congrArg (spC tk) ((if_neg (by omega)).trans ((if_neg (by omega)).trans (if_neg (by omega))))
          rw [e] at hQ
          exact hQ _ hc_87 hf_87
    · show AW _ _ _ _ _ _ _
      refine a_istore (by decide) rfl dX10_begin_25 ?_
      refine a_iload rfl dX10_begin_27 ?_
      refine n_if_ne 40 (by decide) dX10_begin_29 (by decide) (fun h => absurd h (by decide)) (fun _ => ?_)
      refine a_aload_n rfl dX10_begin_32 ?_
      refine n_iconst 2 rfl dX10_begin_33 ?_
      refine n_callV (mi' := miX4_fail) dX10_begin_34 lX10_52 mX4_fail (by decide) rfl rfl rfl (c_X4_fail (w := 2) hK hT hC (by omega) (fun M_34 hc_34 hf_34 => ?_) d) rfl rfl (by omega) (by decide) (Nat.le_of_ble_eq_true rfl)
      show AW _ _ _ _ _ _ _
      refine a_goto 86 dX10_begin_37 (by decide) ?_
      refine a_aload_n rfl dX10_begin_86 ?_
      refine n_callV (mi' := miX4_step) dX10_begin_87 lX10_68 mX4_step (by decide) rfl rfl rfl (c_X4_step hK (TX_cu hT hf_34) hc_34 (fun M_87 hc_87 hf_87 => ?_) d) rfl rfl (by omega) (by decide) (Nat.le_of_ble_eq_true rfl)
      show AW _ _ _ _ _ _ _
      refine a_vret dX10_begin_90 rfl ?_
      have e : ybG tk v n9 D c = spC tk (flC tk 2 c) := congrArg (spC tk) (if_pos (by omega))
      rw [e] at hQ
      exact hQ _ hc_87 (hf_34.t hf_87)
  · refine a_aload_n rfl dX10_begin_6 ?_
    refine g_i hD (by decide) rfl fX10_24 rfl dX10_begin_7 ?_
    refine n_if_le 17 (by omega) dX10_begin_10 (by decide) (fun h_10 => ?_) (fun h_10 => ?_)
    · refine n_iconst 0 rfl dX10_begin_17 ?_
      refine a_goto 25 dX10_begin_18 (by decide) ?_
      refine a_istore (by decide) rfl dX10_begin_25 ?_
      refine a_iload rfl dX10_begin_27 ?_
      refine n_if_ne 40 (by decide) dX10_begin_29 (by decide) (fun h => absurd h (by decide)) (fun _ => ?_)
      refine a_aload_n rfl dX10_begin_32 ?_
      refine n_iconst 2 rfl dX10_begin_33 ?_
      refine n_callV (mi' := miX4_fail) dX10_begin_34 lX10_52 mX4_fail (by decide) rfl rfl rfl (c_X4_fail (w := 2) hK hT hC (by omega) (fun M_34 hc_34 hf_34 => ?_) d) rfl rfl (by omega) (by decide) (Nat.le_of_ble_eq_true rfl)
      show AW _ _ _ _ _ _ _
      refine a_goto 86 dX10_begin_37 (by decide) ?_
      refine a_aload_n rfl dX10_begin_86 ?_
      refine n_callV (mi' := miX4_step) dX10_begin_87 lX10_68 mX4_step (by decide) rfl rfl rfl (c_X4_step hK (TX_cu hT hf_34) hc_34 (fun M_87 hc_87 hf_87 => ?_) d) rfl rfl (by omega) (by decide) (Nat.le_of_ble_eq_true rfl)
      show AW _ _ _ _ _ _ _
      refine a_vret dX10_begin_90 rfl ?_
      have e : ybG tk v n9 D c = spC tk (flC tk 2 c) := congrArg (spC tk) (if_pos (by omega))
      rw [e] at hQ
      exact hQ _ hc_87 (hf_34.t hf_87)
    · refine n_iconst 1 rfl dX10_begin_13 ?_
      refine a_goto 25 dX10_begin_14 (by decide) ?_
      refine a_istore (by decide) rfl dX10_begin_25 ?_
      refine a_iload rfl dX10_begin_27 ?_
      refine n_if_ne 40 (by decide) dX10_begin_29 (by decide) (fun _ => ?_) (fun h => absurd h (by decide))
      refine a_iload_n rfl dX10_begin_40 ?_
      refine n_callS (mi' := miX10_isStep) dX10_begin_41 lX10_58 mX10_isStep (c_X10_isStep hx (fun h_41 => ?_) (fun h_41 => ?_) d) rfl rfl (by omega) (by decide) (Nat.le_of_ble_eq_true rfl)
      · show AW _ _ _ _ _ _ _
        refine n_if_eq 65 (by decide) dX10_begin_44 (by decide) (fun h => absurd h (by decide)) (fun _ => ?_)
        refine a_aload_n rfl dX10_begin_47 ?_
        refine g_i hS (by decide) rfl fX10_62 rfl dX10_begin_48 ?_
        refine n_bipush 30 rfl dX10_begin_51 ?_
        refine n_icmp_lt 65 (by omega) (by omega) dX10_begin_53 (by decide) (fun h_53 => ?_) (fun h_53 => ?_)
        · refine a_iload_n rfl dX10_begin_65 ?_
          refine n_callS (mi' := miX10_isOpening) dX10_begin_66 lX10_65 mX10_isOpening (c_X10_isOpening hx (fun h_66 => ?_) (fun h_66 => ?_) d) rfl rfl (by omega) (by decide) (Nat.le_of_ble_eq_true rfl)
          · show AW _ _ _ _ _ _ _
            refine n_if_eq 86 (by decide) dX10_begin_69 (by decide) (fun h => absurd h (by decide)) (fun _ => ?_)
            refine a_aload_n rfl dX10_begin_72 ?_
            refine g_i hD (by decide) rfl fX10_24 rfl dX10_begin_73 ?_
            refine n_iconst 3 rfl dX10_begin_76 ?_
            refine n_icmp_lt 86 (by omega) (by omega) dX10_begin_77 (by decide) (fun h_77 => ?_) (fun h_77 => ?_)
            · refine a_aload_n rfl dX10_begin_86 ?_
              refine n_callV (mi' := miX4_step) dX10_begin_87 lX10_68 mX4_step (by decide) rfl rfl rfl (c_X4_step hK hT hC (fun M_87 hc_87 hf_87 => ?_) d) rfl rfl (by omega) (by decide) (Nat.le_of_ble_eq_true rfl)
              show AW _ _ _ _ _ _ _
              refine a_vret dX10_begin_90 rfl ?_
              have e : ybG tk v n9 D c = spC tk (c) := congrArg (spC tk) ((if_neg (by omega)).trans ((if_neg (by omega)).trans (if_neg (by omega))))
              rw [e] at hQ
              exact hQ _ hc_87 hf_87
            · refine a_aload_n rfl dX10_begin_80 ?_
              refine n_bipush 7 rfl dX10_begin_81 ?_
              refine n_callV (mi' := miX4_fail) dX10_begin_83 lX10_52 mX4_fail (by decide) rfl rfl rfl (c_X4_fail (w := 7) hK hT hC (by omega) (fun M_83 hc_83 hf_83 => ?_) d) rfl rfl (by omega) (by decide) (Nat.le_of_ble_eq_true rfl)
              show AW _ _ _ _ _ _ _
              refine a_aload_n rfl dX10_begin_86 ?_
              refine n_callV (mi' := miX4_step) dX10_begin_87 lX10_68 mX4_step (by decide) rfl rfl rfl (c_X4_step hK (TX_cu hT hf_83) hc_83 (fun M_87 hc_87 hf_87 => ?_) d) rfl rfl (by omega) (by decide) (Nat.le_of_ble_eq_true rfl)
              show AW _ _ _ _ _ _ _
              refine a_vret dX10_begin_90 rfl ?_
              have e : ybG tk v n9 D c = spC tk (flC tk 7 c) := congrArg (spC tk) ((if_neg (by omega)).trans ((if_neg (by omega)).trans (if_pos (by omega))))
              rw [e] at hQ
              exact hQ _ hc_87 (hf_83.t hf_87)
          · show AW _ _ _ _ _ _ _
            refine n_if_eq 86 (by decide) dX10_begin_69 (by decide) (fun _ => ?_) (fun h => absurd h (by decide))
            refine a_aload_n rfl dX10_begin_86 ?_
            refine n_callV (mi' := miX4_step) dX10_begin_87 lX10_68 mX4_step (by decide) rfl rfl rfl (c_X4_step hK hT hC (fun M_87 hc_87 hf_87 => ?_) d) rfl rfl (by omega) (by decide) (Nat.le_of_ble_eq_true rfl)
            show AW _ _ _ _ _ _ _
            refine a_vret dX10_begin_90 rfl ?_
            have e : ybG tk v n9 D c = spC tk (c) := congrArg (spC tk) ((if_neg (by omega)).trans ((if_neg (by omega)).trans (if_neg (by omega))))
            rw [e] at hQ
            exact hQ _ hc_87 hf_87
        · refine a_aload_n rfl dX10_begin_56 ?_
          refine n_bipush 6 rfl dX10_begin_57 ?_
          refine n_callV (mi' := miX4_fail) dX10_begin_59 lX10_52 mX4_fail (by decide) rfl rfl rfl (c_X4_fail (w := 6) hK hT hC (by omega) (fun M_59 hc_59 hf_59 => ?_) d) rfl rfl (by omega) (by decide) (Nat.le_of_ble_eq_true rfl)
          show AW _ _ _ _ _ _ _
          refine a_goto 86 dX10_begin_62 (by decide) ?_
          refine a_aload_n rfl dX10_begin_86 ?_
          refine n_callV (mi' := miX4_step) dX10_begin_87 lX10_68 mX4_step (by decide) rfl rfl rfl (c_X4_step hK (TX_cu hT hf_59) hc_59 (fun M_87 hc_87 hf_87 => ?_) d) rfl rfl (by omega) (by decide) (Nat.le_of_ble_eq_true rfl)
          show AW _ _ _ _ _ _ _
          refine a_vret dX10_begin_90 rfl ?_
          have e : ybG tk v n9 D c = spC tk (flC tk 6 c) := congrArg (spC tk) ((if_neg (by omega)).trans (if_pos (by omega)))
          rw [e] at hQ
          exact hQ _ hc_87 (hf_59.t hf_87)
      · show AW _ _ _ _ _ _ _
        refine n_if_eq 65 (by decide) dX10_begin_44 (by decide) (fun _ => ?_) (fun h => absurd h (by decide))
        refine a_iload_n rfl dX10_begin_65 ?_
        refine n_callS (mi' := miX10_isOpening) dX10_begin_66 lX10_65 mX10_isOpening (c_X10_isOpening hx (fun h_66 => ?_) (fun h_66 => ?_) d) rfl rfl (by omega) (by decide) (Nat.le_of_ble_eq_true rfl)
        · show AW _ _ _ _ _ _ _
          refine n_if_eq 86 (by decide) dX10_begin_69 (by decide) (fun h => absurd h (by decide)) (fun _ => ?_)
          refine a_aload_n rfl dX10_begin_72 ?_
          refine g_i hD (by decide) rfl fX10_24 rfl dX10_begin_73 ?_
          refine n_iconst 3 rfl dX10_begin_76 ?_
          refine n_icmp_lt 86 (by omega) (by omega) dX10_begin_77 (by decide) (fun h_77 => ?_) (fun h_77 => ?_)
          · refine a_aload_n rfl dX10_begin_86 ?_
            refine n_callV (mi' := miX4_step) dX10_begin_87 lX10_68 mX4_step (by decide) rfl rfl rfl (c_X4_step hK hT hC (fun M_87 hc_87 hf_87 => ?_) d) rfl rfl (by omega) (by decide) (Nat.le_of_ble_eq_true rfl)
            show AW _ _ _ _ _ _ _
            refine a_vret dX10_begin_90 rfl ?_
            have e : ybG tk v n9 D c = spC tk (c) := congrArg (spC tk) ((if_neg (by omega)).trans ((if_neg (by omega)).trans (if_neg (by omega))))
            rw [e] at hQ
            exact hQ _ hc_87 hf_87
          · refine a_aload_n rfl dX10_begin_80 ?_
            refine n_bipush 7 rfl dX10_begin_81 ?_
            refine n_callV (mi' := miX4_fail) dX10_begin_83 lX10_52 mX4_fail (by decide) rfl rfl rfl (c_X4_fail (w := 7) hK hT hC (by omega) (fun M_83 hc_83 hf_83 => ?_) d) rfl rfl (by omega) (by decide) (Nat.le_of_ble_eq_true rfl)
            show AW _ _ _ _ _ _ _
            refine a_aload_n rfl dX10_begin_86 ?_
            refine n_callV (mi' := miX4_step) dX10_begin_87 lX10_68 mX4_step (by decide) rfl rfl rfl (c_X4_step hK (TX_cu hT hf_83) hc_83 (fun M_87 hc_87 hf_87 => ?_) d) rfl rfl (by omega) (by decide) (Nat.le_of_ble_eq_true rfl)
            show AW _ _ _ _ _ _ _
            refine a_vret dX10_begin_90 rfl ?_
            have e : ybG tk v n9 D c = spC tk (flC tk 7 c) := congrArg (spC tk) ((if_neg (by omega)).trans ((if_neg (by omega)).trans (if_pos (by omega))))
            rw [e] at hQ
            exact hQ _ hc_87 (hf_83.t hf_87)
        · show AW _ _ _ _ _ _ _
          refine n_if_eq 86 (by decide) dX10_begin_69 (by decide) (fun _ => ?_) (fun h => absurd h (by decide))
          refine a_aload_n rfl dX10_begin_86 ?_
          refine n_callV (mi' := miX4_step) dX10_begin_87 lX10_68 mX4_step (by decide) rfl rfl rfl (c_X4_step hK hT hC (fun M_87 hc_87 hf_87 => ?_) d) rfl rfl (by omega) (by decide) (Nat.le_of_ble_eq_true rfl)
          show AW _ _ _ _ _ _ _
          refine a_vret dX10_begin_90 rfl ?_
          have e : ybG tk v n9 D c = spC tk (c) := congrArg (spC tk) ((if_neg (by omega)).trans ((if_neg (by omega)).trans (if_neg (by omega))))
          rw [e] at hQ
          exact hQ _ hc_87 hf_87

set_option maxRecDepth 100000 in
set_option maxHeartbeats 800000 in
theorem c_X10_goIn {M : Mm} {L : Nat} (hL : M.1 50 2 = nI L) (hl : L < 60) {D : Nat} (hD : M.1 15 1 = nI D) (hd : D < 3) {Q : Option Value → Mm → Prop} (hQ : Q none (siM (siM M 16 D (nI L)) 15 1 (nI (D + 1)))) (d : Nat) : AMt miX10_goIn (d) [.ref 15, .ref 50] M Q := by
  refine AMt.of (by decide) (Nat.le_of_ble_eq_true rfl) ?_
  show AW miX10_goIn (d) (mxA Q) 0 [(0, some (.ref 15)), (1, some (.ref 50))] [] M
  refine a_aload_n rfl dX10_goIn_0 ?_
  refine g_i hD (by decide) rfl fX10_24 rfl dX10_goIn_1 ?_
  refine n_iconst 3 rfl dX10_goIn_4 ?_
  refine n_icmp_ge 31 (by omega) (by omega) dX10_goIn_5 (by decide) (fun h_5 => absurd h_5 (by omega)) (fun h_5 => ?_)
  refine a_aload_n rfl dX10_goIn_8 ?_
  refine a_geta dX10_goIn_9 fX10_11 (by decide) rfl rfl ?_
  refine a_aload_n rfl dX10_goIn_12 ?_
  refine g_i hD (by decide) rfl fX10_24 rfl dX10_goIn_13 ?_
  refine a_aload_n rfl dX10_goIn_16 ?_
  refine g_i hL (by decide) rfl fX10_97 rfl dX10_goIn_17 ?_
  refine n_iast (by omega) (by decide) rfl (by decide) dX10_goIn_20 ?_
  refine a_aload_n rfl dX10_goIn_21 ?_
  refine a_dup rfl dX10_goIn_22 ?_
  refine g_i (siN hD (by omega)) (by decide) rfl fX10_24 rfl dX10_goIn_23 ?_
  refine n_iconst 1 rfl dX10_goIn_26 ?_
  refine n_iadd dX10_goIn_27 ?_
  refine a_puti dX10_goIn_28 pX10_24 (by decide) rfl rfl ?_
  refine a_vret dX10_goIn_31 rfl ?_
  exact hQ

set_option maxRecDepth 100000 in
set_option maxHeartbeats 800000 in
theorem c_X10_goOut {M : Mm} {L : Nat} (hL : M.1 50 2 = nI L) (hl : L < 60) {D p : Nat} (hD : M.1 15 1 = nI D) (hd : 0 < D) (hd3 : D ≤ 3) (hO : M.1 16 (D - 1) = nI p) (hp : p < L) {Q : Option Value → Mm → Prop} (hQ : Q none (aeM (siM M 15 1 (nI (D - 1))) L p)) (d : Nat) : AMt miX10_goOut (d + 2) [.ref 15, .ref 50] M Q := by
  refine AMt.of (by decide) (Nat.le_of_ble_eq_true rfl) ?_
  show AW miX10_goOut (d + 2) (mxA Q) 0 [(0, some (.ref 15)), (1, some (.ref 50))] [] M
  refine a_aload_n rfl dX10_goOut_0 ?_
  refine g_i hD (by decide) rfl fX10_24 rfl dX10_goOut_1 ?_
  refine n_if_le 30 (by omega) dX10_goOut_4 (by decide) (fun h_4 => absurd h_4 (by omega)) (fun h_4 => ?_)
  refine a_aload_n rfl dX10_goOut_7 ?_
  refine a_dup rfl dX10_goOut_8 ?_
  refine g_i hD (by decide) rfl fX10_24 rfl dX10_goOut_9 ?_
  refine n_iconst 1 rfl dX10_goOut_12 ?_
  refine n_isub (by omega) dX10_goOut_13 ?_
  refine a_puti dX10_goOut_14 pX10_24 (by decide) rfl rfl ?_
  refine a_aload_n rfl dX10_goOut_17 ?_
  refine a_aload_n rfl dX10_goOut_18 ?_
  refine a_geta dX10_goOut_19 fX10_11 (by decide) rfl rfl ?_
  refine a_aload_n rfl dX10_goOut_22 ?_
  refine g_i siS (by decide) rfl fX10_24 rfl dX10_goOut_23 ?_
  refine v_iald (by omega) (siN hO (by omega)) (by decide) rfl (by decide) dX10_goOut_26 ?_
  refine n_callV (mi' := miX9_addEnd) dX10_goOut_27 lX10_100 mX9_addEnd (by decide) rfl rfl rfl (c_X9_addEnd (siN hL (by omega)) hl hp ?_ d) rfl rfl (by omega) (by decide) (Nat.le_of_ble_eq_true rfl)
  show AW _ _ _ _ _ _ _
  refine a_vret dX10_goOut_30 rfl ?_
  exact hQ

theorem RX_lay {M M1 : Mm} {R : TRY} (h : RX M R) (hG : RG R) {t a n : Nat} (ht : t < 4) (ha : a ≤ 3) (hn : n ≤ 60) (hz : ∀ j, j < 60 → M1.2 (4 + t) j = 0) (h1 : M1.1 8 t = nI a) (h2 : M1.1 9 t = nI n) (hf : fr (fun k j => k = 4 + t ∨ (8 ≤ k ∧ k ≤ 9 ∧ j = t)) M M1) : RX M1 (layR R t a n) := by
  refine RX_mk (RG_lay hG ha hn) (fun b hb => ?_) (fun b hb => ?_) (fun b j hb hj => ?_)
  · show _ = nI (if b = t then a else R.1 b)
    by_cases e : b = t
    · rw [if_pos e, e]; exact h1
    · rw [if_neg e]; exact hf.i (RX_sort h hb) (by omega)
  · show _ = (match (if b = t then some n else R.2.1 b) with | none => (-1 : Int) | some n => n)
    by_cases e : b = t
    · rw [if_pos e, e, h2, nI_toInt (by omega)]
    · rw [if_neg e, (hf 9 b (by omega)).1]; exact RX_len h hG hb
  · have hj : (j : Int) < (match (if b = t then some n else R.2.1 b) with | none => (-1 : Int) | some n => n) := hj
    show _ = if b = t then 0 else R.2.2 b j
    by_cases e : b = t
    · rw [if_pos e] at hj ⊢
      rw [e]
      have hj : (j : Int) < n := hj
      exact hz j (by omega)
    · rw [if_neg e] at hj ⊢
      exact hf.l (RX_dat h hb hj) (by omega)
theorem RM_fr {M M1 : Mm} {R : TRY} {P : Nat → Nat → Prop} (h : RM M R) (hf : fr P M M1) (hp : ∀ k j, 133 ≤ k → k ≤ 135 → ¬ P k j) : RM M1 R := by
  intro t ht
  refine ⟨hf.i (h t ht).1 (hp _ _ (by omega) (by omega)), fun e => hf.i ((h t ht).2.1 e) (hp _ _ (by omega) (by omega)), fun n e => ⟨hf.i ((h t ht).2.2 n e).1 (hp _ _ (by omega) (by omega)), fun j hj => hf.l (((h t ht).2.2 n e).2 j hj) (hp _ _ (by omega) (by omega))⟩⟩
theorem RX_fr {M M1 : Mm} {R : TRY} {P : Nat → Nat → Prop} (h : RX M R) (hf : fr P M M1) (hp : ∀ k j, 4 ≤ k → k ≤ 9 → ¬ P k j) : RX M1 R := by
  intro t ht
  refine ⟨hf.i (h t ht).1 (hp _ _ (by omega) (by omega)), fun e => hf.i ((h t ht).2.1 e) (hp _ _ (by omega) (by omega)), fun n e => ⟨hf.i ((h t ht).2.2 n e).1 (hp _ _ (by omega) (by omega)), fun j hj => hf.l (((h t ht).2.2 n e).2 j hj) (hp _ _ (by omega) (by omega))⟩⟩
theorem m0_fr2 {M : Mm} : fr (fun k j => k = 132 ∧ (j = 0 ∨ j = 1)) M (m0 M) := (fr.r.si (by omega)).si (by omega)
theorem RM_m0 {M : Mm} {R : TRY} (h : RM M R) : RM (m0 M) R := RM_fr h m0_fr2 (fun k j a b => by omega)
theorem i64_add (x y : Int32) : (x.toInt64 + y.toInt64).toInt = x.toInt + y.toInt := by
  have := Int32.toInt_lt x
  have := Int32.toInt_lt y
  have := Int32.le_toInt x
  have := Int32.le_toInt y
  rw [Int64.toInt_add, i64_i32, i64_i32, Int.bmod_eq_of_le (by omega) (by omega)]
theorem i64_mul2 (y : Int32) : ((2 : Int64) * y.toInt64).toInt = 2 * y.toInt := by
  have := Int32.toInt_lt y
  have := Int32.le_toInt y
  rw [Int64.toInt_mul, i64_i32, show (2 : Int64).toInt = 2 by decide, Int.bmod_eq_of_le (by omega) (by omega)]

set_option maxRecDepth 100000 in
set_option maxHeartbeats 800000 in
theorem c_X11_tray {M : Mm} {T : TT} (hI : IX M T) (hG : TG T) {x y z : Int32} {Q : Option Value → Mm → Prop} (hQ : ∀ M', IX M' (sp_tray x y z T).2 → keM M M' → Q (some (.int (sp_tray x y z T).1)) M') (d : Nat) : AMt miX11_tray (d + 3) [.ref 0, .int x, .int y, .int z] M Q := by
  refine AMt.of (by decide) (Nat.le_of_ble_eq_true rfl) ?_
  show AW miX11_tray (d + 3) (mxA Q) 0 [(0, some (.ref 0)), (1, some (.int x)), (2, some (.int y)), (3, some (.int z))] [] M
  refine a_iload_n rfl dX11_tray_0 ?_
  refine n_callS (mi' := miX5_isTray) dX11_tray_1 lX11_108 mX5_isTray (c_X5_isTray (fun ha_1 hb_1 => ?_) (fun h_1 => ?_) d) rfl rfl (by omega) (by decide) (Nat.le_of_ble_eq_true rfl)
  · show AW _ _ _ _ _ _ _
    refine n_if_eq 16 (by decide) dX11_tray_4 (by decide) (fun h => absurd h (by decide)) (fun _ => ?_)
    refine a_iload_n rfl dX11_tray_7 ?_
    refine r_if_lt 16 dX11_tray_8 (by decide) (fun h_8 => ?_) (fun h_8 => ?_)
    · refine a_aload_n rfl dX11_tray_16 ?_
      refine n_iconst 1 rfl dX11_tray_17 ?_
      refine n_callV (mi' := miX11_refuse) dX11_tray_18 lX11_112 mX11_refuse (by decide) rfl rfl rfl (c_X11_refuse ?_ d) rfl rfl (by omega) (by decide) (Nat.le_of_ble_eq_true rfl)
      show AW _ _ _ _ _ _ _
      refine a_zret dX11_tray_21 rfl (Or.inl rfl) ?_
      exact fin_q hQ hI hG (by unfold sp_tray; rw [if_neg (by omega)]) fr.r
    · refine a_iload_n rfl dX11_tray_11 ?_
      refine n_iconst 4 rfl dX11_tray_12 ?_
      refine r_icmp_lt 22 (by omega) dX11_tray_13 (by decide) (fun h_13 => ?_) (fun h_13 => ?_)
      · refine a_iload_n rfl dX11_tray_22 ?_
        refine n_bipush 60 rfl dX11_tray_23 ?_
        refine r_icmp_le 34 (by omega) dX11_tray_25 (by decide) (fun h_25 => ?_) (fun h_25 => ?_)
        · refine a_iload_n rfl dX11_tray_34 ?_
          refine r_if_ge 45 dX11_tray_35 (by decide) (fun h_35 => ?_) (fun h_35 => ?_)
          · obtain ⟨t, ht, rfl⟩ := inR_of (x := x) (m := 4) (by omega) (by omega) (by omega)
            have t_t : (nI t).toInt = (t : Int) := nI_toInt (by omega)
            have i_t : idx (nI t) = t := idx_nI (by omega)
            obtain ⟨a, ha, rfl⟩ := inR_of (x := y) (m := 4) (by omega) (by omega) (by omega)
            have t_a : (nI a).toInt = (a : Int) := nI_toInt (by omega)
            have i_a : idx (nI a) = a := idx_nI (by omega)
            obtain ⟨n, hn, rfl⟩ := inR_of (x := z) (m := 61) (by omega) (by omega) (by omega)
            have t_n : (nI n).toInt = (n : Int) := nI_toInt (by omega)
            have i_n : idx (nI n) = n := idx_nI (by omega)
            refine a_aload_n rfl dX11_tray_45 ?_
            refine a_geta dX11_tray_46 fX11_30 (by decide) rfl rfl ?_
            refine a_iload_n rfl dX11_tray_49 ?_
            refine a_iload_n rfl dX11_tray_50 ?_
            refine a_iload_n rfl dX11_tray_51 ?_
            refine n_callV (mi' := miX5_lay) dX11_tray_52 lX11_115 mX5_lay (by decide) rfl rfl rfl (c_X5_lay (by omega) (fun M_52 hz_52 ha_52 hb_52 hf_52 => ?_) d) rfl rfl (by omega) (by decide) (Nat.le_of_ble_eq_true rfl)
            show AW _ _ _ _ _ _ _
            refine a_aload_n rfl dX11_tray_55 ?_
            refine n_callV (mi' := miX11_agree) dX11_tray_56 lX11_119 mX11_agree (by decide) rfl rfl rfl (c_X11_agree ?_ d) rfl rfl (by omega) (by decide) (Nat.le_of_ble_eq_true rfl)
            show AW _ _ _ _ _ _ _
            refine a_zret dX11_tray_59 rfl (Or.inr rfl) ?_
            refine fin_R hQ hI (R' := layR (tR T) t a n) (by unfold sp_tray; rw [if_pos (by omega), if_neg (by omega), if_neg (by omega), i_t, i_a, i_n]) (RX_lay hI.2.1 hG.2.1 (by omega) (by omega) (by omega) hz_52 ha_52 hb_52 hf_52) (hf_52.mo (fun k j h => by omega))
          · refine a_aload_n rfl dX11_tray_38 ?_
            refine n_bipush 6 rfl dX11_tray_39 ?_
            refine n_callV (mi' := miX11_refuse) dX11_tray_41 lX11_112 mX11_refuse (by decide) rfl rfl rfl (c_X11_refuse ?_ d) rfl rfl (by omega) (by decide) (Nat.le_of_ble_eq_true rfl)
            show AW _ _ _ _ _ _ _
            refine a_zret dX11_tray_44 rfl (Or.inl rfl) ?_
            exact fin_q hQ hI hG (by unfold sp_tray; rw [if_pos (by omega), if_neg (by omega), if_pos (by omega)]) fr.r
        · refine a_aload_n rfl dX11_tray_28 ?_
          refine n_iconst 5 rfl dX11_tray_29 ?_
          refine n_callV (mi' := miX11_refuse) dX11_tray_30 lX11_112 mX11_refuse (by decide) rfl rfl rfl (c_X11_refuse ?_ d) rfl rfl (by omega) (by decide) (Nat.le_of_ble_eq_true rfl)
          show AW _ _ _ _ _ _ _
          refine a_zret dX11_tray_33 rfl (Or.inl rfl) ?_
          exact fin_q hQ hI hG (by unfold sp_tray; rw [if_pos (by omega), if_pos (by omega)]) fr.r
      · refine a_aload_n rfl dX11_tray_16 ?_
        refine n_iconst 1 rfl dX11_tray_17 ?_
        refine n_callV (mi' := miX11_refuse) dX11_tray_18 lX11_112 mX11_refuse (by decide) rfl rfl rfl (c_X11_refuse ?_ d) rfl rfl (by omega) (by decide) (Nat.le_of_ble_eq_true rfl)
        show AW _ _ _ _ _ _ _
        refine a_zret dX11_tray_21 rfl (Or.inl rfl) ?_
        exact fin_q hQ hI hG (by unfold sp_tray; rw [if_neg (by omega)]) fr.r
  · show AW _ _ _ _ _ _ _
    refine n_if_eq 16 (by decide) dX11_tray_4 (by decide) (fun _ => ?_) (fun h => absurd h (by decide))
    refine a_aload_n rfl dX11_tray_16 ?_
    refine n_iconst 1 rfl dX11_tray_17 ?_
    refine n_callV (mi' := miX11_refuse) dX11_tray_18 lX11_112 mX11_refuse (by decide) rfl rfl rfl (c_X11_refuse ?_ d) rfl rfl (by omega) (by decide) (Nat.le_of_ble_eq_true rfl)
    show AW _ _ _ _ _ _ _
    refine a_zret dX11_tray_21 rfl (Or.inl rfl) ?_
    exact fin_q hQ hI hG (by unfold sp_tray; rw [if_neg (by omega)]) fr.r

set_option maxRecDepth 100000 in
set_option maxHeartbeats 800000 in
theorem c_X11_write {M : Mm} {T : TT} (hI : IX M T) (hG : TG T) {x p : Int32} {v : Int64} {Q : Option Value → Mm → Prop} (hQ : ∀ M', IX M' (sp_write x p v T).2 → keM M M' → Q (some (.int (sp_write x p v T).1)) M') (d : Nat) : AMt miX11_write (d + 3) [.ref 0, .int x, .int p, .long v] M Q := by
  refine AMt.of (by decide) (Nat.le_of_ble_eq_true rfl) ?_
  show AW miX11_write (d + 3) (mxA Q) 0 [(0, some (.ref 0)), (1, some (.int x)), (2, some (.int p)), (3, some (.long v))] [] M
  have hw0 := whyN_le (tR T) x p 1
  refine a_aload_n rfl dX11_write_0 ?_
  refine a_geta dX11_write_1 fX11_30 (by decide) rfl rfl ?_
  refine a_iload_n rfl dX11_write_4 ?_
  refine a_iload_n rfl dX11_write_5 ?_
  refine n_iconst 1 rfl dX11_write_6 ?_
  refine n_callV (mi' := miX5_whyNot) dX11_write_7 lX11_123 mX5_whyNot (by decide) rfl rfl rfl (c_X5_whyNot hI.2.1 hG.2.1 (by omega) ?_ d) rfl rfl (by omega) (by decide) (Nat.le_of_ble_eq_true rfl)
  show AW _ _ _ _ _ _ _
  refine a_istore (by decide) rfl dX11_write_10 ?_
  refine a_iload rfl dX11_write_12 ?_
  refine n_if_eq 24 (by omega) dX11_write_14 (by decide) (fun h_14 => ?_) (fun h_14 => ?_)
  · obtain ⟨ha0, hb0, hc0⟩ := whyN_0 (h_14)
    have hl60 := lenI_le hG.2.1 (t := idx x) (by unfold idx; omega)
    obtain ⟨t, ht, rfl⟩ := inR_of (x := x) (m := 4) (by omega) (by omega) (by omega)
    have t_t : (nI t).toInt = (t : Int) := nI_toInt (by omega)
    have i_t : idx (nI t) = t := idx_nI (by omega)
    obtain ⟨k, hk, rfl⟩ := inR_of (x := p) (m := 60) (by omega) (by omega) (by omega)
    have t_k : (nI k).toInt = (k : Int) := nI_toInt (by omega)
    have i_k : idx (nI k) = k := idx_nI (by omega)
    rw [i_t] at hc0 hl60
    refine a_aload_n rfl dX11_write_24 ?_
    refine a_geta dX11_write_25 fX11_30 (by decide) rfl rfl ?_
    refine a_iload_n rfl dX11_write_28 ?_
    refine a_iload_n rfl dX11_write_29 ?_
    refine a_lload_n rfl dX11_write_30 ?_
    refine n_callV (mi' := miX5_put) dX11_write_31 lX11_127 mX5_put (by decide) rfl rfl rfl (c_X5_put hI.2.1 hG.2.1 (by omega) (by omega) ?_ d) rfl rfl (by omega) (by decide) (Nat.le_of_ble_eq_true rfl)
    show AW _ _ _ _ _ _ _
    refine a_aload_n rfl dX11_write_34 ?_
    refine n_callV (mi' := miX11_agree) dX11_write_35 lX11_119 mX11_agree (by decide) rfl rfl rfl (c_X11_agree ?_ d) rfl rfl (by omega) (by decide) (Nat.le_of_ble_eq_true rfl)
    show AW _ _ _ _ _ _ _
    refine a_zret dX11_write_38 rfl (Or.inr rfl) ?_
    exact fin_R hQ hI (by unfold sp_write; rw [if_pos h_14, i_t, i_k]) (RX_put hG.2.1 hI.2.1) (fr.r.sl (by omega))
  · refine a_aload_n rfl dX11_write_17 ?_
    refine a_iload rfl dX11_write_18 ?_
    refine n_callV (mi' := miX11_refuse) dX11_write_20 lX11_112 mX11_refuse (by decide) rfl rfl rfl (c_X11_refuse ?_ d) rfl rfl (by omega) (by decide) (Nat.le_of_ble_eq_true rfl)
    show AW _ _ _ _ _ _ _
    refine a_zret dX11_write_23 rfl (Or.inl rfl) ?_
    exact fin_q hQ hI hG (by unfold sp_write; rw [if_neg (by omega)]) fr.r

/-- the ends of read -/
theorem fin_ql {Q : Option Value → Mm → Prop} {M M1 : Mm} {T : TT} {p : ANl} {v : Int64} {n : Nat} (hQ : ∀ M', IX M' p.2 → keM M M' → Q (some (.long p.1)) M') (hI : IX M T) (hG : TG T) (e : p = (v, st' T n)) (hf : fr scX M M1) : Q (some (.long v)) (siM M1 0 0 (nI n)) := by
  subst e
  exact hQ _ (IX_st (IX_fr hI hG hf) n) (keM_s (keM_fr hf (fun k j h => h.1)))
theorem fin_qlM {Q : Option Value → Mm → Prop} {M M1 : Mm} {T : TT} {p : ANl} {v : Int64} {n : Nat} (hQ : ∀ M', IM M' p.2 → keX M M' → Q (some (.long p.1)) M') (hI : IM M T) (hG : TG T) (e : p = (v, st' T n)) (hst : M1.1 132 0 = nI n) (hf : fr scM M M1) : Q (some (.long v)) M1 := by
  subst e
  exact hQ _ (IM_fr hI hG hst hf) (keX_fr hf (fun k j h => h.1))

set_option maxRecDepth 100000 in
set_option maxHeartbeats 800000 in
theorem c_X11_read {M : Mm} {T : TT} (hI : IX M T) (hG : TG T) {x p : Int32} {Q : Option Value → Mm → Prop} (hQ : ∀ M', IX M' (sp_read x p T).2 → keM M M' → Q (some (.long (sp_read x p T).1)) M') (d : Nat) : AMt miX11_read (d + 3) [.ref 0, .int x, .int p] M Q := by
  refine AMt.of (by decide) (Nat.le_of_ble_eq_true rfl) ?_
  show AW miX11_read (d + 3) (mxA Q) 0 [(0, some (.ref 0)), (1, some (.int x)), (2, some (.int p))] [] M
  have hw0 := whyN_le (tR T) x p 1
  refine a_aload_n rfl dX11_read_0 ?_
  refine a_geta dX11_read_1 fX11_30 (by decide) rfl rfl ?_
  refine a_iload_n rfl dX11_read_4 ?_
  refine a_iload_n rfl dX11_read_5 ?_
  refine n_iconst 1 rfl dX11_read_6 ?_
  refine n_callV (mi' := miX5_whyNot) dX11_read_7 lX11_123 mX5_whyNot (by decide) rfl rfl rfl (c_X5_whyNot hI.2.1 hG.2.1 (by omega) ?_ d) rfl rfl (by omega) (by decide) (Nat.le_of_ble_eq_true rfl)
  show AW _ _ _ _ _ _ _
  refine a_istore_n (by decide) rfl dX11_read_10 ?_
  refine a_iload_n rfl dX11_read_11 ?_
  refine n_if_eq 22 (by omega) dX11_read_12 (by decide) (fun h_12 => ?_) (fun h_12 => ?_)
  · obtain ⟨ha0, hb0, hc0⟩ := whyN_0 (h_12)
    have hl60 := lenI_le hG.2.1 (t := idx x) (by unfold idx; omega)
    obtain ⟨t, ht, rfl⟩ := inR_of (x := x) (m := 4) (by omega) (by omega) (by omega)
    have t_t : (nI t).toInt = (t : Int) := nI_toInt (by omega)
    have i_t : idx (nI t) = t := idx_nI (by omega)
    obtain ⟨k, hk, rfl⟩ := inR_of (x := p) (m := 60) (by omega) (by omega) (by omega)
    have t_k : (nI k).toInt = (k : Int) := nI_toInt (by omega)
    have i_k : idx (nI k) = k := idx_nI (by omega)
    rw [i_t] at hc0 hl60
    refine a_aload_n rfl dX11_read_22 ?_
    refine n_iconst 0 rfl dX11_read_23 ?_
    refine a_puti dX11_read_24 pX11_9 (by decide) rfl rfl ?_
    refine a_aload_n rfl dX11_read_27 ?_
    refine a_geta dX11_read_28 fX11_30 (by decide) rfl rfl ?_
    refine a_geta dX11_read_31 fX11_135 (by decide) rfl rfl ?_
    refine a_iload_n rfl dX11_read_34 ?_
    refine n_aald (by omega) (by decide) rfl (Or.inl rfl) (by decide) dX11_read_35 ?_
    refine a_iload_n rfl dX11_read_36 ?_
    refine n_lald (by omega) (tr_hk (by omega)) (tr_hc (by omega)) (by decide) dX11_read_37 ?_
    refine a_lret dX11_read_38 rfl ?_
    have hd : (siM M 0 0 (nI 0)).2 (4 + t) k = (tR T).2.2 t k := RX_dat hI.2.1 (by omega) (by omega)
    rw [hd]
    exact fin_ql hQ hI hG (by unfold sp_read; rw [if_pos h_12, i_t, i_k]) fr.r
  · refine a_aload_n rfl dX11_read_15 ?_
    refine a_iload_n rfl dX11_read_16 ?_
    refine n_callV (mi' := miX11_none) dX11_read_17 lX11_131 mX11_none (by decide) rfl rfl rfl (c_X11_none ?_ d) rfl rfl (by omega) (by decide) (Nat.le_of_ble_eq_true rfl)
    show AW _ _ _ _ _ _ _
    refine a_i2l dX11_read_20 ?_
    refine a_lret dX11_read_21 rfl ?_
    exact fin_ql (v := -1) hQ hI hG (by unfold sp_read; rw [if_neg (by omega)]) fr.r

set_option maxRecDepth 100000 in
set_option maxHeartbeats 800000 in
theorem c_X11_pour {M : Mm} {T : TT} (hI : IX M T) (hG : TG T) {x y z w v : Int32} {Q : Option Value → Mm → Prop} (hQ : ∀ M', IX M' (sp_pour x y z w v T).2 → keM M M' → Q (some (.int (sp_pour x y z w v T).1)) M') (d : Nat) : AMt miX11_pour (d + 3) [.ref 0, .int x, .int y, .int z, .int w, .int v] M Q := by
  refine AMt.of (by decide) (Nat.le_of_ble_eq_true rfl) ?_
  show AW miX11_pour (d + 3) (mxA Q) 0 [(0, some (.ref 0)), (1, some (.int x)), (2, some (.int y)), (3, some (.int z)), (4, some (.int w)), (5, some (.int v))] [] M
  refine a_iload_n rfl dX11_pour_0 ?_
  refine n_callS (mi' := miX5_isTray) dX11_pour_1 lX11_108 mX5_isTray (c_X5_isTray (fun ha_1 hb_1 => ?_) (fun h_1 => ?_) d) rfl rfl (by omega) (by decide) (Nat.le_of_ble_eq_true rfl)
  · show AW _ _ _ _ _ _ _
    refine n_if_eq 14 (by decide) dX11_pour_4 (by decide) (fun h => absurd h (by decide)) (fun _ => ?_)
    refine a_iload_n rfl dX11_pour_7 ?_
    refine n_callS (mi' := miX5_isTray) dX11_pour_8 lX11_108 mX5_isTray (c_X5_isTray (fun ha_8 hb_8 => ?_) (fun h_8 => ?_) d) rfl rfl (by omega) (by decide) (Nat.le_of_ble_eq_true rfl)
    · show AW _ _ _ _ _ _ _
      refine n_if_ne 20 (by decide) dX11_pour_11 (by decide) (fun _ => ?_) (fun h => absurd h (by decide))
      obtain ⟨t, ht, rfl⟩ := inR_of (x := x) (m := 4) (by omega) (by omega) (by omega)
      have t_t : (nI t).toInt = (t : Int) := nI_toInt (by omega)
      have i_t : idx (nI t) = t := idx_nI (by omega)
      obtain ⟨u, hu, rfl⟩ := inR_of (x := z) (m := 4) (by omega) (by omega) (by omega)
      have t_u : (nI u).toInt = (u : Int) := nI_toInt (by omega)
      have i_u : idx (nI u) = u := idx_nI (by omega)
      have hl_t := lenI_le hG.2.1 (t := t) (by omega)
      have hl_u := lenI_le hG.2.1 (t := u) (by omega)
      refine a_aload_n rfl dX11_pour_20 ?_
      refine a_geta dX11_pour_21 fX11_30 (by decide) rfl rfl ?_
      refine a_iload_n rfl dX11_pour_24 ?_
      refine n_callV (mi' := miX5_isMissing) dX11_pour_25 lX11_139 mX5_isMissing (by decide) rfl rfl rfl (c_X5_isMissing hI.2.1 hG.2.1 (by omega) (fun h_25 => ?_) (fun h_25 => ?_) d) rfl rfl (by omega) (by decide) (Nat.le_of_ble_eq_true rfl)
      · show AW _ _ _ _ _ _ _
        refine n_if_ne 42 (by decide) dX11_pour_28 (by decide) (fun _ => ?_) (fun h => absurd h (by decide))
        refine a_aload_n rfl dX11_pour_42 ?_
        refine n_iconst 3 rfl dX11_pour_43 ?_
        refine n_callV (mi' := miX11_refuse) dX11_pour_44 lX11_112 mX11_refuse (by decide) rfl rfl rfl (c_X11_refuse ?_ d) rfl rfl (by omega) (by decide) (Nat.le_of_ble_eq_true rfl)
        show AW _ _ _ _ _ _ _
        refine a_zret dX11_pour_47 rfl (Or.inl rfl) ?_
        exact fin_q hQ hI hG (by unfold sp_pour; rw [if_pos (by omega)]; simp only [i_t, i_u]; rw [if_pos (by omega)]) fr.r
      · show AW _ _ _ _ _ _ _
        refine n_if_ne 42 (by decide) dX11_pour_28 (by decide) (fun h => absurd h (by decide)) (fun _ => ?_)
        refine a_aload_n rfl dX11_pour_31 ?_
        refine a_geta dX11_pour_32 fX11_30 (by decide) rfl rfl ?_
        refine a_iload_n rfl dX11_pour_35 ?_
        refine n_callV (mi' := miX5_isMissing) dX11_pour_36 lX11_139 mX5_isMissing (by decide) rfl rfl rfl (c_X5_isMissing hI.2.1 hG.2.1 (by omega) (fun h_36 => ?_) (fun h_36 => ?_) d) rfl rfl (by omega) (by decide) (Nat.le_of_ble_eq_true rfl)
        · show AW _ _ _ _ _ _ _
          refine n_if_eq 48 (by decide) dX11_pour_39 (by decide) (fun h => absurd h (by decide)) (fun _ => ?_)
          refine a_aload_n rfl dX11_pour_42 ?_
          refine n_iconst 3 rfl dX11_pour_43 ?_
          refine n_callV (mi' := miX11_refuse) dX11_pour_44 lX11_112 mX11_refuse (by decide) rfl rfl rfl (c_X11_refuse ?_ d) rfl rfl (by omega) (by decide) (Nat.le_of_ble_eq_true rfl)
          show AW _ _ _ _ _ _ _
          refine a_zret dX11_pour_47 rfl (Or.inl rfl) ?_
          exact fin_q hQ hI hG (by unfold sp_pour; rw [if_pos (by omega)]; simp only [i_t, i_u]; rw [if_pos (by omega)]) fr.r
        · show AW _ _ _ _ _ _ _
          refine n_if_eq 48 (by decide) dX11_pour_39 (by decide) (fun _ => ?_) (fun h => absurd h (by decide))
          have hs1 := (hG.2.1 t (by omega)).1
          have hs2 := (hG.2.1 u (by omega)).1
          refine a_aload_n rfl dX11_pour_48 ?_
          refine a_geta dX11_pour_49 fX11_30 (by decide) rfl rfl ?_
          refine a_geta dX11_pour_52 fX11_142 (by decide) rfl rfl ?_
          refine a_iload_n rfl dX11_pour_55 ?_
          refine v_iald (by omega) (RX_sort hI.2.1 (by omega)) (by decide) rfl (by decide) dX11_pour_56 ?_
          refine a_aload_n rfl dX11_pour_57 ?_
          refine a_geta dX11_pour_58 fX11_30 (by decide) rfl rfl ?_
          refine a_geta dX11_pour_61 fX11_142 (by decide) rfl rfl ?_
          refine a_iload_n rfl dX11_pour_64 ?_
          refine v_iald (by omega) (RX_sort hI.2.1 (by omega)) (by decide) rfl (by decide) dX11_pour_65 ?_
          refine n_icmp_eq 76 (by omega) (by omega) dX11_pour_66 (by decide) (fun h_66 => ?_) (fun h_66 => ?_)
          · refine a_iload rfl dX11_pour_76 ?_
            refine r_if_ge 88 dX11_pour_78 (by decide) (fun h_78 => ?_) (fun h_78 => ?_)
            · obtain ⟨n, hn, rfl⟩ := nI_ofI (x := v) (by omega)
              have t_n : (nI n).toInt = (n : Int) := nI_toInt (by omega)
              have i_n : idx (nI n) = n := idx_nI (by omega)
              refine a_aload_n rfl dX11_pour_88 ?_
              refine a_geta dX11_pour_89 fX11_30 (by decide) rfl rfl ?_
              refine a_iload_n rfl dX11_pour_92 ?_
              refine a_iload_n rfl dX11_pour_93 ?_
              refine a_iload rfl dX11_pour_94 ?_
              refine n_callV (mi' := miX5_has) dX11_pour_96 lX11_145 mX5_has (by decide) rfl rfl rfl (c_X5_has hI.2.1 hG.2.1 (by omega) (by omega) (fun ha_96 hb_96 => ?_) (fun h_96 => ?_) d) rfl rfl (by omega) (by decide) (Nat.le_of_ble_eq_true rfl)
              · show AW _ _ _ _ _ _ _
                refine n_if_eq 117 (by decide) dX11_pour_99 (by decide) (fun h => absurd h (by decide)) (fun _ => ?_)
                refine a_aload_n rfl dX11_pour_102 ?_
                refine a_geta dX11_pour_103 fX11_30 (by decide) rfl rfl ?_
                refine a_iload_n rfl dX11_pour_106 ?_
                refine a_iload rfl dX11_pour_107 ?_
                refine a_iload rfl dX11_pour_109 ?_
                refine n_callV (mi' := miX5_has) dX11_pour_111 lX11_145 mX5_has (by decide) rfl rfl rfl (c_X5_has hI.2.1 hG.2.1 (by omega) (by omega) (fun ha_111 hb_111 => ?_) (fun h_111 => ?_) d) rfl rfl (by omega) (by decide) (Nat.le_of_ble_eq_true rfl)
                · show AW _ _ _ _ _ _ _
                  refine n_if_ne 123 (by decide) dX11_pour_114 (by decide) (fun _ => ?_) (fun h => absurd h (by decide))
                  obtain ⟨i, hi, rfl⟩ := inR_of (x := y) (m := 61) (by omega) (by omega) (by omega)
                  have t_i : (nI i).toInt = (i : Int) := nI_toInt (by omega)
                  have i_i : idx (nI i) = i := idx_nI (by omega)
                  obtain ⟨j, hj, rfl⟩ := inR_of (x := w) (m := 61) (by omega) (by omega) (by omega)
                  have t_j : (nI j).toInt = (j : Int) := nI_toInt (by omega)
                  have i_j : idx (nI j) = j := idx_nI (by omega)
                  refine a_aload_n rfl dX11_pour_123 ?_
                  refine a_geta dX11_pour_124 fX11_30 (by decide) rfl rfl ?_
                  refine a_geta dX11_pour_127 fX11_135 (by decide) rfl rfl ?_
                  refine a_iload_n rfl dX11_pour_130 ?_
                  refine n_aald (by omega) (by decide) rfl (Or.inl rfl) (by decide) dX11_pour_131 ?_
                  refine a_iload_n rfl dX11_pour_132 ?_
                  refine a_aload_n rfl dX11_pour_133 ?_
                  refine a_geta dX11_pour_134 fX11_30 (by decide) rfl rfl ?_
                  refine a_geta dX11_pour_137 fX11_135 (by decide) rfl rfl ?_
                  refine a_iload_n rfl dX11_pour_140 ?_
                  refine n_aald (by omega) (by decide) rfl (Or.inl rfl) (by decide) dX11_pour_141 ?_
                  refine a_iload rfl dX11_pour_142 ?_
                  refine a_iload rfl dX11_pour_144 ?_
                  refine n_copyl (tr_hk (by omega)) (tr_hc (by omega)) (tr_hk (by omega)) (tr_hc (by omega)) (by omega) (by omega) (by decide) (by decide) (Nat.le_of_ble_eq_true rfl) dX11_pour_146 lX11_149 ?_
                  refine a_aload_n rfl dX11_pour_149 ?_
                  refine n_callV (mi' := miX11_agree) dX11_pour_150 lX11_119 mX11_agree (by decide) rfl rfl rfl (c_X11_agree ?_ d) rfl rfl (by omega) (by decide) (Nat.le_of_ble_eq_true rfl)
                  show AW _ _ _ _ _ _ _
                  refine a_zret dX11_pour_153 rfl (Or.inr rfl) ?_
                  refine fin_R hQ hI (R' := pourR (tR T) t i u j n) (by unfold sp_pour; rw [if_pos (by omega)]; simp only [i_t, i_u]; rw [if_neg (by omega), if_pos (by omega), if_neg (by omega), if_pos (by omega), i_i, i_j, i_n]) (RX_mk (R := pourR (tR T) t i u j n) hG.2.1 (fun b hb => RX_sort hI.2.1 hb) (fun b hb => RX_len hI.2.1 hG.2.1 hb) (fun b k hb hk => ?_)) (fun k j hk => ⟨rfl, ?_⟩)
                  · have hk : (k : Int) < lenI (tR T) b := hk
                    show (if 4 + b = 4 + u then _ else _) = if b = u ∧ j ≤ k ∧ k < j + n then (tR T).2.2 t (i + (k - j)) else (tR T).2.2 b k
                    by_cases e : b = u
                    · subst e
                      rw [if_pos rfl]
                      by_cases c : j ≤ k ∧ k < j + n
                      · rw [if_pos c, if_pos ⟨rfl, c⟩]; exact RX_dat hI.2.1 (by omega) (by omega)
                      · rw [if_neg c, if_neg (fun z => c z.2)]; exact RX_dat hI.2.1 hb hk
                    · rw [if_neg (by omega), if_neg (fun z => e z.1)]; exact RX_dat hI.2.1 hb hk
                  · show (if k = 4 + u then _ else _) = _
                    rw [if_neg (by omega)]
                · show AW _ _ _ _ _ _ _
                  refine n_if_ne 123 (by decide) dX11_pour_114 (by decide) (fun h => absurd h (by decide)) (fun _ => ?_)
                  refine a_aload_n rfl dX11_pour_117 ?_
                  refine n_iconst 4 rfl dX11_pour_118 ?_
                  refine n_callV (mi' := miX11_refuse) dX11_pour_119 lX11_112 mX11_refuse (by decide) rfl rfl rfl (c_X11_refuse ?_ d) rfl rfl (by omega) (by decide) (Nat.le_of_ble_eq_true rfl)
                  show AW _ _ _ _ _ _ _
                  refine a_zret dX11_pour_122 rfl (Or.inl rfl) ?_
                  exact fin_q hQ hI hG (by unfold sp_pour; rw [if_pos (by omega)]; simp only [i_t, i_u]; rw [if_neg (by omega), if_pos (by omega), if_neg (by omega), if_neg (by omega)]) fr.r
              · show AW _ _ _ _ _ _ _
                refine n_if_eq 117 (by decide) dX11_pour_99 (by decide) (fun _ => ?_) (fun h => absurd h (by decide))
                refine a_aload_n rfl dX11_pour_117 ?_
                refine n_iconst 4 rfl dX11_pour_118 ?_
                refine n_callV (mi' := miX11_refuse) dX11_pour_119 lX11_112 mX11_refuse (by decide) rfl rfl rfl (c_X11_refuse ?_ d) rfl rfl (by omega) (by decide) (Nat.le_of_ble_eq_true rfl)
                show AW _ _ _ _ _ _ _
                refine a_zret dX11_pour_122 rfl (Or.inl rfl) ?_
                exact fin_q hQ hI hG (by unfold sp_pour; rw [if_pos (by omega)]; simp only [i_t, i_u]; rw [if_neg (by omega), if_pos (by omega), if_neg (by omega), if_neg (by omega)]) fr.r
            · refine a_aload_n rfl dX11_pour_81 ?_
              refine n_bipush 6 rfl dX11_pour_82 ?_
              refine n_callV (mi' := miX11_refuse) dX11_pour_84 lX11_112 mX11_refuse (by decide) rfl rfl rfl (c_X11_refuse ?_ d) rfl rfl (by omega) (by decide) (Nat.le_of_ble_eq_true rfl)
              show AW _ _ _ _ _ _ _
              refine a_zret dX11_pour_87 rfl (Or.inl rfl) ?_
              exact fin_q hQ hI hG (by unfold sp_pour; rw [if_pos (by omega)]; simp only [i_t, i_u]; rw [if_neg (by omega), if_pos (by omega), if_pos (by omega)]) fr.r
          · refine a_aload_n rfl dX11_pour_69 ?_
            refine n_bipush 11 rfl dX11_pour_70 ?_
            refine n_callV (mi' := miX11_refuse) dX11_pour_72 lX11_112 mX11_refuse (by decide) rfl rfl rfl (c_X11_refuse ?_ d) rfl rfl (by omega) (by decide) (Nat.le_of_ble_eq_true rfl)
            show AW _ _ _ _ _ _ _
            refine a_zret dX11_pour_75 rfl (Or.inl rfl) ?_
            exact fin_q hQ hI hG (by unfold sp_pour; rw [if_pos (by omega)]; simp only [i_t, i_u]; rw [if_neg (by omega), if_neg (by omega)]) fr.r
    · show AW _ _ _ _ _ _ _
      refine n_if_ne 20 (by decide) dX11_pour_11 (by decide) (fun h => absurd h (by decide)) (fun _ => ?_)
      refine a_aload_n rfl dX11_pour_14 ?_
      refine n_iconst 1 rfl dX11_pour_15 ?_
      refine n_callV (mi' := miX11_refuse) dX11_pour_16 lX11_112 mX11_refuse (by decide) rfl rfl rfl (c_X11_refuse ?_ d) rfl rfl (by omega) (by decide) (Nat.le_of_ble_eq_true rfl)
      show AW _ _ _ _ _ _ _
      refine a_zret dX11_pour_19 rfl (Or.inl rfl) ?_
      exact fin_q hQ hI hG (by unfold sp_pour; rw [if_neg (by omega)]) fr.r
  · show AW _ _ _ _ _ _ _
    refine n_if_eq 14 (by decide) dX11_pour_4 (by decide) (fun _ => ?_) (fun h => absurd h (by decide))
    refine a_aload_n rfl dX11_pour_14 ?_
    refine n_iconst 1 rfl dX11_pour_15 ?_
    refine n_callV (mi' := miX11_refuse) dX11_pour_16 lX11_112 mX11_refuse (by decide) rfl rfl rfl (c_X11_refuse ?_ d) rfl rfl (by omega) (by decide) (Nat.le_of_ble_eq_true rfl)
    show AW _ _ _ _ _ _ _
    refine a_zret dX11_pour_19 rfl (Or.inl rfl) ?_
    exact fin_q hQ hI hG (by unfold sp_pour; rw [if_neg (by omega)]) fr.r

theorem chR_s {R : TRY} {S : ST} {t n : Nat} : putR (chR R S t n) t n (cutN ((chR R S t n).1 t) (nI (hghN S n)).toInt64) = chR R S t (n + 1) := by
  unfold putR chR
  refine Prod.ext rfl (Prod.ext rfl (funext fun a => funext fun b => ?_))
  show (if a = t ∧ b = n then cutN (R.1 t) _ else if a = t ∧ b < n then _ else _) = if a = t ∧ b < n + 1 then _ else _
  by_cases e : a = t
  · by_cases h1 : b = n
    · rw [if_pos ⟨e, h1⟩, if_pos ⟨e, by omega⟩, h1]
    · rw [if_neg (fun z => h1 z.2)]
      by_cases h2 : b < n
      · rw [if_pos ⟨e, h2⟩, if_pos ⟨e, by omega⟩]
      · rw [if_neg (fun z => h2 z.2), if_neg (fun z => by have := z.2; omega)]
  · rw [if_neg (fun z => e z.1), if_neg (fun z => e z.1), if_neg (fun z => e z.1)]
theorem chR_0 {R : TRY} {S : ST} {t : Nat} : chR R S t 0 = R := by
  unfold chR
  refine Prod.ext rfl (Prod.ext rfl (funext fun a => funext fun b => ?_))
  show (if a = t ∧ b < 0 then _ else _) = _
  rw [if_neg (fun z => by omega)]

set_option maxRecDepth 100000 in
set_option maxHeartbeats 800000 in
theorem c_X11_copyHeights {M : Mm} {T : TT} (hI : IX M T) (hG : TG T) {x : Int32} {Q : Option Value → Mm → Prop} (hQ : ∀ M', IX M' (sp_copyHeights x T).2 → keM M M' → Q (some (.int (sp_copyHeights x T).1)) M') (d : Nat) : AMt miX11_copyHeights (d + 3) [.ref 0, .int x] M Q := by
  refine AMt.of (by decide) (Nat.le_of_ble_eq_true rfl) ?_
  show AW miX11_copyHeights (d + 3) (mxA Q) 0 [(0, some (.ref 0)), (1, some (.int x))] [] M
  have hV : VX 17 M (tS T) := hI.1.1
  have hF : WF (tS T) := hG.1.1
  have hs := WF_s hF
  have hw0 := whyN_le (tR T) x (nI 0) (tS T 0 4)
  refine a_aload_n rfl dX11_copyHeights_0 ?_
  refine a_geta dX11_copyHeights_1 fX11_30 (by decide) rfl rfl ?_
  refine a_iload_n rfl dX11_copyHeights_4 ?_
  refine n_iconst 0 rfl dX11_copyHeights_5 ?_
  refine a_aload_n rfl dX11_copyHeights_6 ?_
  refine a_geta dX11_copyHeights_7 fX11_58 (by decide) rfl rfl ?_
  refine g_i (VX_4 hV) (by decide) rfl fX11_174 rfl dX11_copyHeights_10 ?_
  refine n_callV (mi' := miX5_whyNot) dX11_copyHeights_13 lX11_123 mX5_whyNot (by decide) rfl rfl rfl (c_X5_whyNot hI.2.1 hG.2.1 (by omega) ?_ d) rfl rfl (by omega) (by decide) (Nat.le_of_ble_eq_true rfl)
  show AW _ _ _ _ _ _ _
  refine a_istore_n (by decide) rfl dX11_copyHeights_16 ?_
  refine a_iload_n rfl dX11_copyHeights_17 ?_
  refine n_if_eq 27 (by omega) dX11_copyHeights_18 (by decide) (fun h_18 => ?_) (fun h_18 => ?_)
  · obtain ⟨ha0, hb0, hc0⟩ := whyN_0 (h_18)
    have hl60 := lenI_le hG.2.1 (t := idx x) (by unfold idx; omega)
    have hz0 : (nI 0).toInt = 0 := by decide
    obtain ⟨t, ht, rfl⟩ := inR_of (x := x) (m := 4) (by omega) (by omega) (by omega)
    have t_t : (nI t).toInt = (t : Int) := nI_toInt (by omega)
    have i_t : idx (nI t) = t := idx_nI (by omega)
    rw [i_t] at hc0 hl60
    refine n_iconst 0 rfl dX11_copyHeights_27 ?_
    refine a_istore_n (by decide) rfl dX11_copyHeights_28 ?_
    have loop_29 : ∀ i, i ≤ tS T 0 4 → ∀ M1, (RX M1 (chR (tR T) (tS T) t i) ∧ fr (fun k _ => 4 ≤ k ∧ k ≤ 9) M M1) → AW miX11_copyHeights (d + 3) (mxA Q) 29 [(0, some (.ref 0)), (1, some (.int (nI t))), (3, some (.int (nI i)))] [] M1 := by
      refine up (W := fun i => ∀ M1, (RX M1 (chR (tR T) (tS T) t i) ∧ fr (fun k _ => 4 ≤ k ∧ k ≤ 9) M M1) → AW miX11_copyHeights (d + 3) (mxA Q) 29 [(0, some (.ref 0)), (1, some (.int (nI t))), (3, some (.int (nI i)))] [] M1) (tS T 0 4) (fun M1 hI_29 => ?_) (fun i hi_29 ih_29 M1 hI_29 => ?_)
      · have hVi : VX 17 M1 (tS T) := VX_fr hI.1.1 (fun k j _ _ => (hI_29.2 k j (by omega)).1)
        refine a_iload_n rfl dX11_copyHeights_29 ?_
        refine a_aload_n rfl dX11_copyHeights_30 ?_
        refine a_geta dX11_copyHeights_31 fX11_58 (by decide) rfl rfl ?_
        refine g_i (VX_4 hVi) (by decide) rfl fX11_174 rfl dX11_copyHeights_34 ?_
        refine n_icmp_ge 64 (by omega) (by omega) dX11_copyHeights_37 (by decide) (fun h_37 => ?_) (fun h_37 => absurd h_37 (by omega))
        refine a_aload_n rfl dX11_copyHeights_64 ?_
        refine a_aload_n rfl dX11_copyHeights_65 ?_
        refine a_geta dX11_copyHeights_66 fX11_58 (by decide) rfl rfl ?_
        refine g_i (VX_4 hVi) (by decide) rfl fX11_174 rfl dX11_copyHeights_69 ?_
        refine n_callV (mi' := miX11_answer) dX11_copyHeights_72 lX11_177 mX11_answer (by decide) rfl rfl rfl (c_X11_answer ?_ d) rfl rfl (by omega) (by decide) (Nat.le_of_ble_eq_true rfl)
        show AW _ _ _ _ _ _ _
        refine a_iret dX11_copyHeights_75 rfl ?_
        exact fin_R hQ hI (by unfold sp_copyHeights; rw [if_pos h_18, i_t]) hI_29.1 hI_29.2
      · have hVi : VX 17 M1 (tS T) := VX_fr hI.1.1 (fun k j _ _ => (hI_29.2 k j (by omega)).1)
        refine a_iload_n rfl dX11_copyHeights_29 ?_
        refine a_aload_n rfl dX11_copyHeights_30 ?_
        refine a_geta dX11_copyHeights_31 fX11_58 (by decide) rfl rfl ?_
        refine g_i (VX_4 hVi) (by decide) rfl fX11_174 rfl dX11_copyHeights_34 ?_
        refine n_icmp_ge 64 (by omega) (by omega) dX11_copyHeights_37 (by decide) (fun h_37 => absurd h_37 (by omega)) (fun h_37 => ?_)
        refine a_aload_n rfl dX11_copyHeights_40 ?_
        refine a_geta dX11_copyHeights_41 fX11_30 (by decide) rfl rfl ?_
        refine a_iload_n rfl dX11_copyHeights_44 ?_
        refine a_iload_n rfl dX11_copyHeights_45 ?_
        refine a_aload_n rfl dX11_copyHeights_46 ?_
        refine a_geta dX11_copyHeights_47 fX11_58 (by decide) rfl rfl ?_
        refine a_iload_n rfl dX11_copyHeights_50 ?_
        refine n_callV (mi' := miX6_heightNow) dX11_copyHeights_51 lX11_274 mX6_heightNow (by decide) rfl rfl rfl (c_X6_heightNow isW17 hVi hF (by omega) ?_ d) rfl rfl (by omega) (by decide) (Nat.le_of_ble_eq_true rfl)
        show AW _ _ _ _ _ _ _
        refine a_i2l dX11_copyHeights_54 ?_
        refine n_callV (mi' := miX5_put) dX11_copyHeights_55 lX11_127 mX5_put (by decide) rfl rfl rfl (c_X5_put (R := chR (tR T) (tS T) t i) hI_29.1 hG.2.1 (by omega) (by omega) ?_ d) rfl rfl (by omega) (by decide) (Nat.le_of_ble_eq_true rfl)
        show AW _ _ _ _ _ _ _
        refine n_iinc (c := 1) rfl rfl (by decide) rfl dX11_copyHeights_58 ?_
        refine a_goto 29 dX11_copyHeights_61 (by decide) ?_
        exact a_bk (ih_29 _ ⟨by rw [← chR_s]; exact RX_put (R := chR (tR T) (tS T) t i) hG.2.1 hI_29.1, hI_29.2.sl (by omega)⟩) ⟨rfl, rfl, rfl, trivial⟩
    exact a_bk (loop_29 0 (by omega) _ ⟨by rw [chR_0]; exact hI.2.1, fr.r⟩) ⟨rfl, rfl, rfl, trivial⟩
  · refine a_aload_n rfl dX11_copyHeights_21 ?_
    refine a_iload_n rfl dX11_copyHeights_22 ?_
    refine n_callV (mi' := miX11_none) dX11_copyHeights_23 lX11_131 mX11_none (by decide) rfl rfl rfl (c_X11_none ?_ d) rfl rfl (by omega) (by decide) (Nat.le_of_ble_eq_true rfl)
    show AW _ _ _ _ _ _ _
    refine a_iret dX11_copyHeights_26 rfl ?_
    exact fin_q hQ hI hG (by unfold sp_copyHeights; rw [if_neg (by omega)]) fr.r

/-- what every call keeps -/
def TI (T : TT) : Prop := TG T ∧ TB_ T
theorem TI_st {T : TT} {n : Nat} (h : TI T) (hn : n ≤ 11) : TI (st' T n) := ⟨⟨h.1.1, h.1.2.1, h.1.2.2.1, hn, h.1.2.2.2.2⟩, h.2⟩
theorem TI_fr {T : TT} {a b : Nat} (h : TI T) : TI (frT T a b) := ⟨⟨h.1.1, h.1.2.1, h.1.2.2.1, Nat.zero_le _, h.1.2.2.2.2⟩, h.2⟩
theorem TI_R {T : TT} {R' : TRY} (h : TI T) (hR : RG R') : TI (st' (sR T R') 0) := ⟨TG_R h.1 hR, h.2⟩
theorem WFY_mo {S S' : ST} {Y : YR} (h : WFY S Y) (hd : S' 0 1 ≤ 9999) (h2 : S 0 2 ≤ S' 0 2) (h4 : S 0 4 ≤ S' 0 4) : WFY S' Y := by
  obtain ⟨a, b, c, _, e⟩ := h
  refine ⟨a, b, c, hd, fun i hi => ?_⟩
  obtain ⟨v1, v2, v3, v13, v14, v15, v16, v18, v22, vb, ve⟩ := e i hi
  exact ⟨v1, v2, v3, v13, v14, fun q => ⟨Nat.lt_of_lt_of_le (v15 q).1 h2, (v15 q).2⟩, fun q => ⟨Nat.lt_of_lt_of_le (v16 q).1 h4, Nat.lt_of_lt_of_le (v16 q).2 h2⟩, fun q => ⟨(v18 q).1, (v18 q).2.1, fun z => Nat.lt_of_lt_of_le ((v18 q).2.2.1 z) h2, fun z => Nat.lt_of_lt_of_le ((v18 q).2.2.2.1 z) h4, (v18 q).2.2.2.2⟩, v22, vb, ve⟩
theorem TI_S {T : TT} {S' : ST} {N' : NM} (h : TI T) (hF : WF S') (hd : S' 0 1 ≤ 9999) (h2 : tS T 0 2 ≤ S' 0 2) (h4 : tS T 0 4 ≤ S' 0 4) : TI (st' (sW T (S', N', tY T)) 0) := ⟨⟨⟨hF, WFY_mo h.1.1.2 hd h2 h4⟩, h.1.2.1, h.1.2.2.1, Nat.zero_le _, h.1.2.2.2.2⟩, h.2⟩
theorem TI_d {T : TT} (h : TI T) : tS T 0 1 ≤ 9999 := h.1.1.2.2.2.2.1
theorem TI_tx {T : TT} {W : WD} {a b : Int32} {n : Nat} (h : TI T) (hW : WG W) (hn : n ≤ 11) : TI (tfT T W a b n) := ⟨⟨hW, h.1.2.1, Nat.zero_le _, hn, h.1.2.2.2.2⟩, fun j hj => absurd (show j < 0 from hj) (Nat.not_lt_zero j)⟩
theorem nz_le {n : Nat} (h : n = 0) : n ≤ 11 := by omega

theorem TI_many {T : TT} (h : TI T) {x : Int32} : TI (sp_many x T).2 := by
  unfold sp_many
  (repeat' split) <;> first | exact TI_st h (by decide) | exact TI_fr h | exact TI_st h (Nat.le_trans (whyN_le _ _ _ _) (by decide)) | exact TI_st h (Nat.le_trans (whyO_le _ _ _ _) (by decide)) | exact TI_st h (Nat.le_trans (whyL_le _ _ _) (by decide)) | exact TI_st h (Nat.le_trans (whyG_le _ _ _ _ _) (by decide)) | exact h
theorem TI_matter {T : TT} (h : TI T) {k x : Int32} : TI (sp_matter k x T).2 := by
  unfold sp_matter
  (repeat' split) <;> first | exact TI_st h (by decide) | exact TI_fr h | exact TI_st h (Nat.le_trans (whyN_le _ _ _ _) (by decide)) | exact TI_st h (Nat.le_trans (whyO_le _ _ _ _) (by decide)) | exact TI_st h (Nat.le_trans (whyL_le _ _ _) (by decide)) | exact TI_st h (Nat.le_trans (whyG_le _ _ _ _ _) (by decide)) | exact h
theorem TI_hold {T : TT} (h : TI T) {k x : Int32} : TI (sp_hold k x T).2 := by
  unfold sp_hold
  (repeat' split) <;> first | exact TI_st h (by decide) | exact TI_fr h | exact TI_st h (Nat.le_trans (whyN_le _ _ _ _) (by decide)) | exact TI_st h (Nat.le_trans (whyO_le _ _ _ _) (by decide)) | exact TI_st h (Nat.le_trans (whyL_le _ _ _) (by decide)) | exact TI_st h (Nat.le_trans (whyG_le _ _ _ _ _) (by decide)) | exact h
theorem TI_sitter {T : TT} (h : TI T) {k x : Int32} : TI (sp_sitter k x T).2 := by
  unfold sp_sitter
  (repeat' split) <;> first | exact TI_st h (by decide) | exact TI_fr h | exact TI_st h (Nat.le_trans (whyN_le _ _ _ _) (by decide)) | exact TI_st h (Nat.le_trans (whyO_le _ _ _ _) (by decide)) | exact TI_st h (Nat.le_trans (whyL_le _ _ _) (by decide)) | exact TI_st h (Nat.le_trans (whyG_le _ _ _ _ _) (by decide)) | exact h
theorem TI_news {T : TT} (h : TI T) {k x : Int32} : TI (sp_news k x T).2 := by
  unfold sp_news
  (repeat' split) <;> first | exact TI_st h (by decide) | exact TI_fr h | exact TI_st h (Nat.le_trans (whyN_le _ _ _ _) (by decide)) | exact TI_st h (Nat.le_trans (whyO_le _ _ _ _) (by decide)) | exact TI_st h (Nat.le_trans (whyL_le _ _ _) (by decide)) | exact TI_st h (Nat.le_trans (whyG_le _ _ _ _ _) (by decide)) | exact h
theorem TI_fault {T : TT} (h : TI T) {x : Int32} : TI (sp_fault x T).2 := by
  unfold sp_fault
  (repeat' split) <;> first | exact TI_st h (by decide) | exact TI_fr h | exact TI_st h (Nat.le_trans (whyN_le _ _ _ _) (by decide)) | exact TI_st h (Nat.le_trans (whyO_le _ _ _ _) (by decide)) | exact TI_st h (Nat.le_trans (whyL_le _ _ _) (by decide)) | exact TI_st h (Nat.le_trans (whyG_le _ _ _ _ _) (by decide)) | exact h
theorem TI_clearIn {T : TT} (h : TI T) {k n : Int32} : TI (sp_clearIn k n T).2 := by
  unfold sp_clearIn
  (repeat' split) <;> first | exact TI_st h (by decide) | exact TI_fr h | exact TI_st h (Nat.le_trans (whyN_le _ _ _ _) (by decide)) | exact TI_st h (Nat.le_trans (whyO_le _ _ _ _) (by decide)) | exact TI_st h (Nat.le_trans (whyL_le _ _ _) (by decide)) | exact TI_st h (Nat.le_trans (whyG_le _ _ _ _ _) (by decide)) | exact h
theorem TI_heightIn {T : TT} (h : TI T) {p n : Int32} : TI (sp_heightIn p n T).2 := by
  unfold sp_heightIn
  (repeat' split) <;> first | exact TI_st h (by decide) | exact TI_fr h | exact TI_st h (Nat.le_trans (whyN_le _ _ _ _) (by decide)) | exact TI_st h (Nat.le_trans (whyO_le _ _ _ _) (by decide)) | exact TI_st h (Nat.le_trans (whyL_le _ _ _) (by decide)) | exact TI_st h (Nat.le_trans (whyG_le _ _ _ _ _) (by decide)) | exact h
theorem TI_downIn {T : TT} (h : TI T) {p : Int32} : TI (sp_downIn p T).2 := by
  unfold sp_downIn
  (repeat' split) <;> first | exact TI_st h (by decide) | exact TI_fr h | exact TI_st h (Nat.le_trans (whyN_le _ _ _ _) (by decide)) | exact TI_st h (Nat.le_trans (whyO_le _ _ _ _) (by decide)) | exact TI_st h (Nat.le_trans (whyL_le _ _ _) (by decide)) | exact TI_st h (Nat.le_trans (whyG_le _ _ _ _ _) (by decide)) | exact h
theorem TI_out {T : TT} (h : TI T) {p x n : Int32} : TI (sp_out p x n T).2 := by
  unfold sp_out
  (repeat' split) <;> first | exact TI_st h (by decide) | exact TI_fr h | exact TI_st h (Nat.le_trans (whyN_le _ _ _ _) (by decide)) | exact TI_st h (Nat.le_trans (whyO_le _ _ _ _) (by decide)) | exact TI_st h (Nat.le_trans (whyL_le _ _ _) (by decide)) | exact TI_st h (Nat.le_trans (whyG_le _ _ _ _ _) (by decide)) | exact h
theorem TI_ask {T : TT} (h : TI T) {p x n : Int32} : TI (sp_ask p x n T).2 := by
  unfold sp_ask
  (repeat' split) <;> first | exact TI_st h (by decide) | exact TI_fr h | exact TI_st h (Nat.le_trans (whyN_le _ _ _ _) (by decide)) | exact TI_st h (Nat.le_trans (whyO_le _ _ _ _) (by decide)) | exact TI_st h (Nat.le_trans (whyL_le _ _ _) (by decide)) | exact TI_st h (Nat.le_trans (whyG_le _ _ _ _ _) (by decide)) | exact h
theorem TI_laws {T : TT} (h : TI T) {x n : Int32} : TI (sp_laws x n T).2 := by
  unfold sp_laws
  (repeat' split) <;> first | exact TI_st h (by decide) | exact TI_fr h | exact TI_st h (Nat.le_trans (whyN_le _ _ _ _) (by decide)) | exact TI_st h (Nat.le_trans (whyO_le _ _ _ _) (by decide)) | exact TI_st h (Nat.le_trans (whyL_le _ _ _) (by decide)) | exact TI_st h (Nat.le_trans (whyG_le _ _ _ _ _) (by decide)) | exact h
theorem TI_lawOf {T : TT} (h : TI T) {x n w : Int32} : TI (sp_lawOf x n w T).2 := by
  unfold sp_lawOf
  (repeat' split) <;> first | exact TI_st h (by decide) | exact TI_fr h | exact TI_st h (Nat.le_trans (whyN_le _ _ _ _) (by decide)) | exact TI_st h (Nat.le_trans (whyO_le _ _ _ _) (by decide)) | exact TI_st h (Nat.le_trans (whyL_le _ _ _) (by decide)) | exact TI_st h (Nat.le_trans (whyG_le _ _ _ _ _) (by decide)) | exact h
theorem TI_off {T : TT} (h : TI T) {h1 n : Int32} : TI (sp_off h1 n T).2 := by
  unfold sp_off
  (repeat' split) <;> first | exact TI_st h (by decide) | exact TI_fr h | exact TI_st h (Nat.le_trans (whyN_le _ _ _ _) (by decide)) | exact TI_st h (Nat.le_trans (whyO_le _ _ _ _) (by decide)) | exact TI_st h (Nat.le_trans (whyL_le _ _ _) (by decide)) | exact TI_st h (Nat.le_trans (whyG_le _ _ _ _ _) (by decide)) | exact h
theorem TI_stay {T : TT} (h : TI T) {h1 n : Int32} : TI (sp_stay h1 n T).2 := by
  unfold sp_stay
  (repeat' split) <;> first | exact TI_st h (by decide) | exact TI_fr h | exact TI_st h (Nat.le_trans (whyN_le _ _ _ _) (by decide)) | exact TI_st h (Nat.le_trans (whyO_le _ _ _ _) (by decide)) | exact TI_st h (Nat.le_trans (whyL_le _ _ _) (by decide)) | exact TI_st h (Nat.le_trans (whyG_le _ _ _ _ _) (by decide)) | exact h
theorem TI_lasts {T : TT} (h : TI T) {n : Int32} : TI (sp_lasts n T).2 := by
  unfold sp_lasts
  (repeat' split) <;> first | exact TI_st h (by decide) | exact TI_fr h | exact TI_st h (Nat.le_trans (whyN_le _ _ _ _) (by decide)) | exact TI_st h (Nat.le_trans (whyO_le _ _ _ _) (by decide)) | exact TI_st h (Nat.le_trans (whyL_le _ _ _) (by decide)) | exact TI_st h (Nat.le_trans (whyG_le _ _ _ _ _) (by decide)) | exact h
theorem TI_share {T : TT} (h : TI T) {p : Int32} : TI (sp_share p T).2 := by
  unfold sp_share
  (repeat' split) <;> first | exact TI_st h (by decide) | exact TI_fr h | exact TI_st h (Nat.le_trans (whyN_le _ _ _ _) (by decide)) | exact TI_st h (Nat.le_trans (whyO_le _ _ _ _) (by decide)) | exact TI_st h (Nat.le_trans (whyL_le _ _ _) (by decide)) | exact TI_st h (Nat.le_trans (whyG_le _ _ _ _ _) (by decide)) | exact h
theorem TI_least {T : TT} (h : TI T) {x : Int32} : TI (sp_least x T).2 := by
  unfold sp_least
  (repeat' split) <;> first | exact TI_st h (by decide) | exact TI_fr h | exact TI_st h (Nat.le_trans (whyN_le _ _ _ _) (by decide)) | exact TI_st h (Nat.le_trans (whyO_le _ _ _ _) (by decide)) | exact TI_st h (Nat.le_trans (whyL_le _ _ _) (by decide)) | exact TI_st h (Nat.le_trans (whyG_le _ _ _ _ _) (by decide)) | exact h
theorem TI_leastSet {T : TT} (h : TI T) {x : Int32} : TI (sp_leastSet x T).2 := by
  unfold sp_leastSet
  (repeat' split) <;> first | exact TI_st h (by decide) | exact TI_fr h | exact TI_st h (Nat.le_trans (whyN_le _ _ _ _) (by decide)) | exact TI_st h (Nat.le_trans (whyO_le _ _ _ _) (by decide)) | exact TI_st h (Nat.le_trans (whyL_le _ _ _) (by decide)) | exact TI_st h (Nat.le_trans (whyG_le _ _ _ _ _) (by decide)) | exact h
theorem TI_ring {T : TT} (h : TI T) : TI (sp_ring T).2 := by
  unfold sp_ring
  (repeat' split) <;> first | exact TI_st h (by decide) | exact TI_fr h | exact TI_st h (Nat.le_trans (whyN_le _ _ _ _) (by decide)) | exact TI_st h (Nat.le_trans (whyO_le _ _ _ _) (by decide)) | exact TI_st h (Nat.le_trans (whyL_le _ _ _) (by decide)) | exact TI_st h (Nat.le_trans (whyG_le _ _ _ _ _) (by decide)) | exact h
theorem TI_loosen {T : TT} (h : TI T) : TI (sp_loosen T).2 := by
  unfold sp_loosen
  (repeat' split) <;> first | exact TI_st h (by decide) | exact TI_fr h | exact TI_st h (Nat.le_trans (whyN_le _ _ _ _) (by decide)) | exact TI_st h (Nat.le_trans (whyO_le _ _ _ _) (by decide)) | exact TI_st h (Nat.le_trans (whyL_le _ _ _) (by decide)) | exact TI_st h (Nat.le_trans (whyG_le _ _ _ _ _) (by decide)) | exact h
theorem TI_loosenSet {T : TT} (h : TI T) : TI (sp_loosenSet T).2 := by
  unfold sp_loosenSet
  (repeat' split) <;> first | exact TI_st h (by decide) | exact TI_fr h | exact TI_st h (Nat.le_trans (whyN_le _ _ _ _) (by decide)) | exact TI_st h (Nat.le_trans (whyO_le _ _ _ _) (by decide)) | exact TI_st h (Nat.le_trans (whyL_le _ _ _) (by decide)) | exact TI_st h (Nat.le_trans (whyG_le _ _ _ _ _) (by decide)) | exact h
theorem TI_waiting {T : TT} (h : TI T) : TI (sp_waiting T).2 := by
  unfold sp_waiting
  (repeat' split) <;> first | exact TI_st h (by decide) | exact TI_fr h | exact TI_st h (Nat.le_trans (whyN_le _ _ _ _) (by decide)) | exact TI_st h (Nat.le_trans (whyO_le _ _ _ _) (by decide)) | exact TI_st h (Nat.le_trans (whyL_le _ _ _) (by decide)) | exact TI_st h (Nat.le_trans (whyG_le _ _ _ _ _) (by decide)) | exact h
theorem TI_orderAt {T : TT} (h : TI T) {k : Int32} : TI (sp_orderAt k T).2 := by
  unfold sp_orderAt
  (repeat' split) <;> first | exact TI_st h (by decide) | exact TI_fr h | exact TI_st h (Nat.le_trans (whyN_le _ _ _ _) (by decide)) | exact TI_st h (Nat.le_trans (whyO_le _ _ _ _) (by decide)) | exact TI_st h (Nat.le_trans (whyL_le _ _ _) (by decide)) | exact TI_st h (Nat.le_trans (whyG_le _ _ _ _ _) (by decide)) | exact h
theorem TI_round {T : TT} (h : TI T) {x : Int32} : TI (sp_round x T).2 := by
  unfold sp_round
  (repeat' split) <;> first | exact TI_st h (by decide) | exact TI_fr h | exact TI_st h (Nat.le_trans (whyN_le _ _ _ _) (by decide)) | exact TI_st h (Nat.le_trans (whyO_le _ _ _ _) (by decide)) | exact TI_st h (Nat.le_trans (whyL_le _ _ _) (by decide)) | exact TI_st h (Nat.le_trans (whyG_le _ _ _ _ _) (by decide)) | exact h
theorem TI_game {T : TT} (h : TI T) {p q n : Int32} : TI (sp_game p q n T).2 := by
  unfold sp_game
  (repeat' split) <;> first | exact TI_st h (by decide) | exact TI_fr h | exact TI_st h (Nat.le_trans (whyN_le _ _ _ _) (by decide)) | exact TI_st h (Nat.le_trans (whyO_le _ _ _ _) (by decide)) | exact TI_st h (Nat.le_trans (whyL_le _ _ _) (by decide)) | exact TI_st h (Nat.le_trans (whyG_le _ _ _ _ _) (by decide)) | exact h
theorem TI_moveOf {T : TT} (h : TI T) {p q n : Int32} : TI (sp_moveOf p q n T).2 := by
  unfold sp_moveOf
  (repeat' split) <;> first | exact TI_st h (by decide) | exact TI_fr h | exact TI_st h (Nat.le_trans (whyN_le _ _ _ _) (by decide)) | exact TI_st h (Nat.le_trans (whyO_le _ _ _ _) (by decide)) | exact TI_st h (Nat.le_trans (whyL_le _ _ _) (by decide)) | exact TI_st h (Nat.le_trans (whyG_le _ _ _ _ _) (by decide)) | exact h
theorem TI_lived {T : TT} (h : TI T) {x : Int32} : TI (sp_lived x T).2 := by
  unfold sp_lived
  (repeat' split) <;> first | exact TI_st h (by decide) | exact TI_fr h | exact TI_st h (Nat.le_trans (whyN_le _ _ _ _) (by decide)) | exact TI_st h (Nat.le_trans (whyO_le _ _ _ _) (by decide)) | exact TI_st h (Nat.le_trans (whyL_le _ _ _) (by decide)) | exact TI_st h (Nat.le_trans (whyG_le _ _ _ _ _) (by decide)) | exact h
theorem TI_mean {T : TT} (h : TI T) {a b : Int32} : TI (sp_mean a b T).2 := by
  unfold sp_mean
  (repeat' split) <;> first | exact TI_st h (by decide) | exact TI_fr h | exact TI_st h (Nat.le_trans (whyN_le _ _ _ _) (by decide)) | exact TI_st h (Nat.le_trans (whyO_le _ _ _ _) (by decide)) | exact TI_st h (Nat.le_trans (whyL_le _ _ _) (by decide)) | exact TI_st h (Nat.le_trans (whyG_le _ _ _ _ _) (by decide)) | exact h
theorem TI_read {T : TT} (h : TI T) {x p : Int32} : TI (sp_read x p T).2 := by
  unfold sp_read
  (repeat' split) <;> first | exact TI_st h (by decide) | exact TI_fr h | exact TI_st h (Nat.le_trans (whyN_le _ _ _ _) (by decide)) | exact TI_st h (Nat.le_trans (whyO_le _ _ _ _) (by decide)) | exact TI_st h (Nat.le_trans (whyL_le _ _ _) (by decide)) | exact TI_st h (Nat.le_trans (whyG_le _ _ _ _ _) (by decide)) | exact h
theorem TI_day {T : TT} (h : TI T) {n : Int32} : TI (sp_day n T).2 := by
  have hF : WF (tS T) := h.1.1.1
  have hd9 := TI_d h
  unfold sp_day
  (repeat' split) <;> first | exact TI_st h (by decide) | exact TI_S h (WF_day2 hF (by have := TI_d h; unfold idx; omega)) (by simp [dayN]; unfold idx; omega) (by simp [dayN]) (by simp [dayN])
theorem TI_bring {T : TT} (h : TI T) {k : Int32} : TI (sp_bring k T).2 := by
  have hF : WF (tS T) := h.1.1.1
  have hd9 := TI_d h
  unfold sp_bring
  (repeat' split) <;> first | exact TI_st h (by decide) | exact TI_S h (WF_comeN hF) (by simp [comeN]; exact TI_d h) (by simp [comeN]) (by simp [comeN])
theorem TI_crisis {T : TT} (h : TI T) {k n : Int32} : TI (sp_crisis k n T).2 := by
  have hF : WF (tS T) := h.1.1.1
  have hd9 := TI_d h
  unfold sp_crisis
  (repeat' split) <;> first | exact TI_st h (by decide) | exact TI_S h (WF_hupd hF (by have := hF.2.2.2.2.2.2.2.1 (idx k) (by unfold idx; omega); omega)) (by simp [hupd]; exact TI_d h) (by simp [hupd]) (by simp [hupd])
theorem TI_turn {T : TT} (h : TI T) {p k : Int32} : TI (sp_turn p k T).2 := by
  have hF : WF (tS T) := h.1.1.1
  have hd9 := TI_d h
  unfold sp_turn
  (repeat' split) <;> first | exact TI_st h (by decide) | exact TI_S h (WF_turn hF (by unfold idx; omega)) (by simp [upS2]; exact TI_d h) (by simp [upS2]) (by simp [upS2])
theorem TI_sit {T : TT} (h : TI T) {a b k : Int32} : TI (sp_sit a b k T).2 := by
  have hF : WF (tS T) := h.1.1.1
  have hd9 := TI_d h
  unfold sp_sit
  (repeat' split) <;> first | exact TI_st h (by decide) | exact TI_S h (WF_addS hF (by have := WF_s hF; omega) (by unfold idx; omega) (by unfold idx; omega) (by unfold idx; omega) (by omega)) (by simp [addSN]; exact TI_d h) (by simp [addSN]) (by simp [addSN])
theorem TI_hear {T : TT} (h : TI T) {k z : Int32} : TI (sp_hear k z T).2 := by
  have hF : WF (tS T) := h.1.1.1
  have hd9 := TI_d h
  unfold sp_hear
  (repeat' split) <;> first | exact TI_st h (by decide) | exact TI_S h (WF_addN hF (by have := WF_n hF; omega) (by unfold idx; omega) (by unfold idx; omega)) (by simp [addNN]; exact TI_d h) (by simp [addNN]) (by simp [addNN])
theorem TI_bind {T : TT} (h : TI T) {k b : Int32} : TI (sp_bind k b T).2 := by
  have hF : WF (tS T) := h.1.1.1
  have hd9 := TI_d h
  unfold sp_bind
  (repeat' split) <;> first | exact TI_st h (by decide) | exact TI_S h (WF_addH hF (by have := WF_h hF; omega) (by unfold idx; omega) (by unfold idx; omega) (by assumption)) (by simp [addHN]; exact TI_d h) (by simp [addHN]) (by simp [addHN])
theorem TI_loose {T : TT} (h : TI T) {k : Int32} : TI (sp_loose k T).2 := by
  have hF : WF (tS T) := h.1.1.1
  have hd9 := TI_d h
  unfold sp_loose
  (repeat' split) <;> first | exact TI_st h (by decide) | exact TI_S h (WF_drop hF (by unfold idx; omega)) (by simp [dropN]; exact TI_d h) (by simp [dropN]) (by simp [dropN])
theorem TI_hurry {T : TT} (h : TI T) {k p : Int32} : TI (sp_hurry k p T).2 := by
  have hF : WF (tS T) := h.1.1.1
  have hd9 := TI_d h
  unfold sp_hurry
  (repeat' split) <;> first | exact TI_st h (by decide) | exact TI_S h (WF_pac hF (by unfold idx; omega)) (by simp [upS2]; exact TI_d h) (by simp [upS2]) (by simp [upS2])
theorem TI_rule {T : TT} (h : TI T) {x : Int32} : TI (sp_rule x T).2 := by
  have hF : WF (tS T) := h.1.1.1
  have hd9 := TI_d h
  unfold sp_rule
  (repeat' split) <;> first | exact TI_st h (by decide) | exact TI_S h (WF_odd hF (by unfold idx; omega)) (by simp [upS2]; exact TI_d h) (by simp [upS2]) (by simp [upS2])
theorem TI_mark {T : TT} (h : TI T) : TI (sp_mark T).2 := by
  unfold sp_mark
  have h3 : (tK T).1 ≤ 3 := h.1.2.2.2.2.2.1
  split
  · exact TI_st h (by decide)
  · refine ⟨⟨h.1.1, h.1.2.1, h.1.2.2.1, Nat.zero_le _, h.1.2.2.2.2.1, show (tK T).1 + 1 ≤ 3 by omega, fun i hi => ?_, h.1.2.2.2.2.2.2.2⟩, h.2⟩
    have hi : i < (tK T).1 + 1 := hi
    show WG (if i = (tK T).1 then tW T else (tK T).2 i)
    by_cases e : i = (tK T).1
    · rw [if_pos e]; exact h.1.1
    · rw [if_neg e]; exact h.1.2.2.2.2.2.2.1 i (by omega)
theorem TI_back {T : TT} (h : TI T) : TI (sp_back T).2 := by
  unfold sp_back
  have h3 : (tK T).1 ≤ 3 := h.1.2.2.2.2.2.1
  split
  · exact TI_st h (by decide)
  · exact ⟨⟨h.1.2.2.2.2.2.2.1 ((tK T).1 - 1) (by omega), h.1.2.1, h.1.2.2.1, Nat.zero_le _, h.1.2.2.2.2.1, show (tK T).1 - 1 ≤ 3 by omega, fun i hi => h.1.2.2.2.2.2.2.1 i (Nat.lt_of_lt_of_le (show i < (tK T).1 - 1 from hi) (Nat.sub_le _ _)), h.1.2.2.2.2.2.2.2⟩, h.2⟩
theorem TI_tray {T : TT} (h : TI T) {x s n : Int32} : TI (sp_tray x s n T).2 := by
  unfold sp_tray
  (repeat' split) <;> first | exact TI_st h (by decide) | exact TI_R h (RG_lay h.1.2.1 (by unfold idx; omega) (by unfold idx; omega))
theorem TI_write {T : TT} (h : TI T) {x p : Int32} {v : Int64} : TI (sp_write x p v T).2 := by
  unfold sp_write
  (repeat' split) <;> first | exact TI_R h h.1.2.1 | exact TI_st h (Nat.le_trans (whyN_le _ _ _ _) (by decide))
theorem TI_pour {T : TT} (h : TI T) {a i b j n : Int32} : TI (sp_pour a i b j n T).2 := by
  unfold sp_pour
  (repeat' split) <;> first | exact TI_st h (by decide) | exact TI_R h h.1.2.1
theorem TI_copyHeights {T : TT} (h : TI T) {x : Int32} : TI (sp_copyHeights x T).2 := by
  unfold sp_copyHeights
  (repeat' split) <;> first | exact TI_R h h.1.2.1 | exact TI_st h (Nat.le_trans (whyN_le _ _ _ _) (by decide))
theorem byB_b (x : Int32) (s : Nat) : isByt (byB x s) := by
  unfold byB isByt
  show -128 ≤ (((x >>> (nI s &&& 31)).toInt8.toInt32).toInt8.toInt32).toInt ∧ (((x >>> (nI s &&& 31)).toInt8.toInt32).toInt8.toInt32).toInt ≤ 127
  have h1 := Int8.le_toInt (((x >>> (nI s &&& 31)).toInt8.toInt32).toInt8)
  have h2 := Int8.toInt_lt (((x >>> (nI s &&& 31)).toInt8.toInt32).toInt8)
  rw [Int8.toInt_toInt32]
  omega
theorem TI_feed {T : TT} (h : TI T) {a b c d e : Int32} : TI (sp_feed a b c d e T).2 := by
  unfold sp_feed
  split
  · refine ⟨⟨h.1.1, h.1.2.1, show (tP T).1 + 20 ≤ 900 by omega, h.1.2.2.2⟩, fun j hj => ?_⟩
    show isByt (fdN (tP T) a b c d e j)
    unfold fdN
    split
    · exact h.2 j (by assumption)
    · exact byB_b _ _
  · exact h
theorem TI_live {T : TT} (h : TI T) {x : Int32} : TI (sp_live x T).2 := by
  unfold sp_live
  split
  · split
    · have g : GF (tS T) (runF (tY T) (tS T) (idx x)) := runF_GF h.1.1.2 h.1.1.1 (sd := idx x) (by unfold idx; omega)
      refine ⟨⟨⟨g.1.1, WFY_mo h.1.1.2 g.1.2.1 (Nat.le_of_eq g.1.2.2.2.2.1.symm) (Nat.le_of_eq g.1.2.2.2.2.2.1.symm)⟩, h.1.2.1, h.1.2.2.1, Nat.zero_le _, Nat.le_refl 1, h.1.2.2.2.2.2.1, h.1.2.2.2.2.2.2.1, fun j hj => ?_⟩, h.2⟩
      show livV (tS T) (runF (tY T) (tS T) (idx x)) j ≤ 100000
      have g2 := g.2.1
      have g3 := g.2.2.1
      have g4 := g.2.2.2.2.1
      have g5 := g.1.2.1
      unfold GN at g2
      unfold livV
      (repeat' split) <;> omega
    · exact TI_st h (by decide)
  · exact TI_st h (by decide)
theorem lpW_WF {tk : Nat → TK} : ∀ (f : Nat) (x : PW), (lpW tk f x).1.2.1 = 0 → WF x.2.1 → x.2.1 0 1 = 0 → WF (lpW tk f x).2.1 ∧ (lpW tk f x).2.1 0 1 = 0
  | 0, x, _, hw, hd => ⟨hw, hd⟩
  | f + 1, x, h, hw, hd => by
    by_cases c : x.1.2.1 = 0 ∧ kd tk x.1 ≠ 0
    · rw [lpW_s c.1 c.2] at h ⊢
      have hp : (ptW tk x).1.2.1 = 0 := by
        by_cases q : (ptW tk x).1.2.1 = 0
        · exact q
        · rw [lpW_e (fun z => q z.1)] at h; exact absurd h q
      exact lpW_WF f (ptW tk x) h (ptW_0 hp hw).1 (pt_day.trans hd)
    · rw [lpW_e c]; exact ⟨hw, hd⟩
theorem TI_wood {T : TT} (h : TI T) {x : Int32} : TI (sp_wood x T).2 := by
  unfold sp_wood
  split
  · split
    · have g := lpW_WF 900 w0 (by assumption) WF_em rfl
      exact TI_tx h ⟨g.1, WFY_0 g.2⟩ (by decide)
    · exact TI_tx h h.1.1 (by decide)
  · exact TI_st h (by decide)
theorem lpY_wf {tk : Nat → TK} {S : ST} {N : NM} (hK : TKG tk) : ∀ (f : Nat) (x : YS), (lpY tk S N f x).1.2.1 = 0 → wfS S x.2.1.1 x.2.1.2 x.2.2.1 x.2.2.2 → wfS S (lpY tk S N f x).2.1.1 (lpY tk S N f x).2.1.2 (lpY tk S N f x).2.2.1 (lpY tk S N f x).2.2.2
  | 0, x, _, hw => hw
  | f + 1, x, h, hw => by
    by_cases c : x.1.2.1 = 0 ∧ kd tk x.1 ≠ 0
    · rw [lpY_s c.1 c.2] at h ⊢
      have hp : (ysT tk S N x).1.2.1 = 0 := by
        by_cases q : (ysT tk S N x).1.2.1 = 0
        · exact q
        · rw [lpY_e (fun z => q z.1)] at h; exact absurd h q
      exact lpY_wf hK f (ysT tk S N x) h (ys_wf hK hp hw).1
    · rw [lpY_e c]; exact hw
theorem yeR_Y {T : TT} {q : Nat} (h : TI T) (hq : q ≤ 900) (hg : (yeR T q).1.2.1 = 0) : WFY (tS T) (1, (yeR T q).2.1.1, (yeR T q).2.1.2) := by
  unfold yeR finY at hg ⊢
  by_cases c : 0 < (lpY (tkN (dT T) q) (tS T) (tN T) 300 y0).2.2.1
  · rw [if_pos c] at hg; exact absurd hg (fl_z (by decide))
  · rw [if_neg c] at hg ⊢
    have w := lpY_wf (tkN_G hq) 300 y0 hg wf_0
    rw [show (lpY (tkN (dT T) q) (tS T) (tN T) 300 y0).2.2.1 = 0 by omega] at w
    exact wf_Y w (TI_d h)
theorem TI_years {T : TT} (h : TI T) {x : Int32} : TI (sp_years x T).2 := by
  unfold sp_years
  split
  · split
    · exact TI_tx h ⟨h.1.1.1, yeR_Y h (by unfold idx; omega) (by assumption)⟩ (by decide)
    · exact TI_tx h h.1.1 (by decide)
  · exact TI_st h (by decide)

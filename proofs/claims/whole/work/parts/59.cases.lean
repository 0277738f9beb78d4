/-! PURE 39: the cases of the law; its loop -/
section Ca
variable {v : V} {l4 : Int} {L : Nat} {xs : Nat → Int32} {k : V → Res}
theorem xb (h0 : 0 ≤ l4) (h1 : l4 + 6 ≤ (L : Int)) (h2 : L ≤ 3072) {j : Int} (g0 : 0 ≤ j) (g1 : j ≤ 5) : 0 ≤ w32 (l4 + j) ∧ w32 (l4 + j) < (L : Int) := by
  rw [w32_i (by omega) (by omega)]
  omega
theorem cc_0 (h : Inv v) (h0 : 0 ≤ l4) (h1 : l4 + 6 ≤ (L : Int)) (h2 : L ≤ 3072) : ∃ v1, Inv v1 ∧ cs_0 l4 L xs k v = k v1 := by
  unfold cs_0 sp_L_party
  rw [chk_t (xb h0 h1 h2 (by decide) (by decide)), chk_t (xb h0 h1 h2 (by decide) (by decide)), chk_t (Int.le_refl 0)]
  exact stI (ag_party h)
theorem cc_1 (h : Inv v) (h0 : 0 ≤ l4) (h1 : l4 + 6 ≤ (L : Int)) (h2 : L ≤ 3072) : ∃ v1, Inv v1 ∧ cs_1 l4 L xs k v = k v1 := by
  unfold cs_1 sp_L_work
  rw [chk_t (xb h0 h1 h2 (by decide) (by decide)), chk_t (xb h0 h1 h2 (by decide) (by decide)), chk_t (Int.le_refl 0)]
  exact stI (ag_work h)
theorem cc_2 (h : Inv v) (h0 : 0 ≤ l4) (h1 : l4 + 6 ≤ (L : Int)) (h2 : L ≤ 3072) : ∃ v1, Inv v1 ∧ cs_2 l4 L xs k v = k v1 := by
  unfold cs_2 sp_L_value
  rw [chk_t (xb h0 h1 h2 (by decide) (by decide)), chk_t (xb h0 h1 h2 (by decide) (by decide)), chk_t (Int.le_refl 0)]
  exact stI (ag_value h)
theorem cc_3 (h : Inv v) (h0 : 0 ≤ l4) (h1 : l4 + 6 ≤ (L : Int)) (h2 : L ≤ 3072) : ∃ v1, Inv v1 ∧ cs_3 l4 L xs k v = k v1 := by
  unfold cs_3 sp_L_pass
  rw [chk_t (xb h0 h1 h2 (by decide) (by decide)), chk_t (Int.le_refl 0)]
  exact stI (ag_pass h)
theorem cc_4 (h : Inv v) (h0 : 0 ≤ l4) (h1 : l4 + 6 ≤ (L : Int)) (h2 : L ≤ 3072) : ∃ v1, Inv v1 ∧ cs_4 l4 L xs k v = k v1 := by
  unfold cs_4 sp_L_weight
  rw [chk_t (xb h0 h1 h2 (by decide) (by decide)), chk_t (xb h0 h1 h2 (by decide) (by decide)), chk_t (Int.le_refl 0)]
  exact stI (ag_weight h)
theorem cc_5 (h : Inv v) (h0 : 0 ≤ l4) (h1 : l4 + 6 ≤ (L : Int)) (h2 : L ≤ 3072) : ∃ v1, Inv v1 ∧ cs_5 l4 L xs k v = k v1 := by
  unfold cs_5 sp_L_word
  rw [chk_t (xb h0 h1 h2 (by decide) (by decide)), chk_t (xb h0 h1 h2 (by decide) (by decide)), chk_t (xb h0 h1 h2 (by decide) (by decide))]
  split
  · rw [chk_t (Int.le_refl 0)]
    exact stI (ag_word (Or.inl rfl) h)
  · rw [chk_t (Int.le_refl 0)]
    exact stI (ag_word (Or.inr rfl) h)
theorem cc_6 (h : Inv v) (h0 : 0 ≤ l4) (h1 : l4 + 6 ≤ (L : Int)) (h2 : L ≤ 3072) : ∃ v1, Inv v1 ∧ cs_6 l4 L xs k v = k v1 := by
  unfold cs_6 sp_L_paper
  rw [chk_t (xb h0 h1 h2 (by decide) (by decide)), chk_t (xb h0 h1 h2 (by decide) (by decide)), chk_t (xb h0 h1 h2 (by decide) (by decide)), chk_t (Int.le_refl 0)]
  exact stV (ag_paper h)
theorem cc_7 (h : Inv v) (h0 : 0 ≤ l4) (h1 : l4 + 6 ≤ (L : Int)) (h2 : L ≤ 3072) : ∃ v1, Inv v1 ∧ cs_7 l4 L xs k v = k v1 := by
  unfold cs_7 sp_L_right
  rw [chk_t (xb h0 h1 h2 (by decide) (by decide)), chk_t (xb h0 h1 h2 (by decide) (by decide)), chk_t (Int.le_refl 0)]
  exact stI (ag_right h)
theorem cc_8 (h : Inv v) (h0 : 0 ≤ l4) (h1 : l4 + 6 ≤ (L : Int)) (h2 : L ≤ 3072) : ∃ v1, Inv v1 ∧ cs_8 l4 L xs k v = k v1 := by
  unfold cs_8 sp_L_bar
  rw [chk_t (xb h0 h1 h2 (by decide) (by decide)), chk_t (xb h0 h1 h2 (by decide) (by decide)), chk_t (Int.le_refl 0)]
  exact stI (ag_bar h)
theorem cc_9 (h : Inv v) (h0 : 0 ≤ l4) (h1 : l4 + 6 ≤ (L : Int)) (h2 : L ≤ 3072) : ∃ v1, Inv v1 ∧ cs_9 l4 L xs k v = k v1 := by
  unfold cs_9 sp_L_seal
  rw [chk_t (xb h0 h1 h2 (by decide) (by decide)), chk_t (xb h0 h1 h2 (by decide) (by decide))]
  split
  · rw [chk_t (Int.le_refl 0)]
    exact stB (ag_seal (Or.inl rfl) h)
  · rw [chk_t (Int.le_refl 0)]
    exact stB (ag_seal (Or.inr rfl) h)
theorem cc_10 (h : Inv v) (h0 : 0 ≤ l4) (h1 : l4 + 6 ≤ (L : Int)) (h2 : L ≤ 3072) : ∃ v1, Inv v1 ∧ cs_10 l4 L xs k v = k v1 := by
  unfold cs_10 sp_L_bring
  rw [chk_t (xb h0 h1 h2 (by decide) (by decide)), chk_t (xb h0 h1 h2 (by decide) (by decide)), chk_t (Int.le_refl 0)]
  exact stI (ag_bring h)
theorem cc_11 (h : Inv v) (h0 : 0 ≤ l4) (h1 : l4 + 6 ≤ (L : Int)) (h2 : L ≤ 3072) : ∃ v1, Inv v1 ∧ cs_11 l4 L xs k v = k v1 := by
  unfold cs_11 sp_L_list
  rw [chk_t (xb h0 h1 h2 (by decide) (by decide)), chk_t (Int.le_refl 0)]
  exact stV (ag_list h)
theorem cc_12 (h : Inv v) (h0 : 0 ≤ l4) (h1 : l4 + 6 ≤ (L : Int)) (h2 : L ≤ 3072) : ∃ v1, Inv v1 ∧ cs_12 l4 L xs k v = k v1 := by
  unfold cs_12 sp_L_fail
  rw [chk_t (xb h0 h1 h2 (by decide) (by decide)), chk_t (Int.le_refl 0)]
  exact stI (ag_fail h)
theorem cc_13 (h : Inv v) (h0 : 0 ≤ l4) (h1 : l4 + 6 ≤ (L : Int)) (h2 : L ≤ 3072) : ∃ v1, Inv v1 ∧ cs_13 l4 L xs k v = k v1 := by
  unfold cs_13 sp_L_sell
  rw [chk_t (xb h0 h1 h2 (by decide) (by decide)), chk_t (xb h0 h1 h2 (by decide) (by decide)), chk_t (xb h0 h1 h2 (by decide) (by decide)), chk_t (xb h0 h1 h2 (by decide) (by decide)), chk_t (Int.le_refl 0)]
  exact stI (ag_sell h)
theorem cc_14 (h : Inv v) (h0 : 0 ≤ l4) (h1 : l4 + 6 ≤ (L : Int)) (h2 : L ≤ 3072) : ∃ v1, Inv v1 ∧ cs_14 l4 L xs k v = k v1 := by
  unfold cs_14 sp_L_consign
  rw [chk_t (xb h0 h1 h2 (by decide) (by decide)), chk_t (xb h0 h1 h2 (by decide) (by decide)), chk_t (xb h0 h1 h2 (by decide) (by decide)), chk_t (xb h0 h1 h2 (by decide) (by decide)), chk_t (xb h0 h1 h2 (by decide) (by decide)), chk_t (Int.le_refl 0)]
  exact stV (ag_consign h)
theorem cc_15 (h : Inv v) (h0 : 0 ≤ l4) (h1 : l4 + 6 ≤ (L : Int)) (h2 : L ≤ 3072) : ∃ v1, Inv v1 ∧ cs_15 l4 L xs k v = k v1 := by
  unfold cs_15 sp_L_back
  rw [chk_t (xb h0 h1 h2 (by decide) (by decide)), chk_t (Int.le_refl 0)]
  exact stI (ag_back h)
theorem cc_16 (h : Inv v) (h0 : 0 ≤ l4) (h1 : l4 + 6 ≤ (L : Int)) (h2 : L ≤ 3072) : ∃ v1, Inv v1 ∧ cs_16 l4 L xs k v = k v1 := by
  unfold cs_16 sp_L_deal
  rw [chk_t (xb h0 h1 h2 (by decide) (by decide)), chk_t (xb h0 h1 h2 (by decide) (by decide)), chk_t (xb h0 h1 h2 (by decide) (by decide)), chk_t (Int.le_refl 0)]
  exact stI (ag_deal h)
theorem cc_17 (h : Inv v) (h0 : 0 ≤ l4) (h1 : l4 + 6 ≤ (L : Int)) (h2 : L ≤ 3072) : ∃ v1, Inv v1 ∧ cs_17 l4 L xs k v = k v1 := by
  unfold cs_17 sp_L_tell
  rw [chk_t (xb h0 h1 h2 (by decide) (by decide)), chk_t (xb h0 h1 h2 (by decide) (by decide)), chk_t (xb h0 h1 h2 (by decide) (by decide)), chk_t (Int.le_refl 0)]
  exact stB (ag_tell h)
theorem cc_18 (h : Inv v) (h0 : 0 ≤ l4) (h1 : l4 + 6 ≤ (L : Int)) (h2 : L ≤ 3072) : ∃ v1, Inv v1 ∧ cs_18 l4 L xs k v = k v1 := by
  unfold cs_18 sp_L_restore
  rw [chk_t (xb h0 h1 h2 (by decide) (by decide)), chk_t (xb h0 h1 h2 (by decide) (by decide)), chk_t (Int.le_refl 0)]
  exact stI (ag_restore h)
theorem cc_19 (h : Inv v) (h0 : 0 ≤ l4) (h1 : l4 + 6 ≤ (L : Int)) (h2 : L ≤ 3072) : ∃ v1, Inv v1 ∧ cs_19 l4 L xs k v = k v1 := by
  unfold cs_19 sp_L_lend
  rw [chk_t (xb h0 h1 h2 (by decide) (by decide)), chk_t (xb h0 h1 h2 (by decide) (by decide)), chk_t (xb h0 h1 h2 (by decide) (by decide)), chk_t (xb h0 h1 h2 (by decide) (by decide)), chk_t (xb h0 h1 h2 (by decide) (by decide)), chk_t (Int.le_refl 0)]
  exact stI (ag_lend h)
theorem cc_20 (h : Inv v) (h0 : 0 ≤ l4) (h1 : l4 + 6 ≤ (L : Int)) (h2 : L ≤ 3072) : ∃ v1, Inv v1 ∧ cs_20 l4 L xs k v = k v1 := by
  unfold cs_20 sp_L_repay
  rw [chk_t (xb h0 h1 h2 (by decide) (by decide)), chk_t (Int.le_refl 0)]
  exact stI (ag_repay h)
theorem cc_21 (h : Inv v) (h0 : 0 ≤ l4) (h1 : l4 + 6 ≤ (L : Int)) (h2 : L ≤ 3072) : ∃ v1, Inv v1 ∧ cs_21 l4 L xs k v = k v1 := by
  unfold cs_21 sp_L_seize
  rw [chk_t (xb h0 h1 h2 (by decide) (by decide)), chk_t (Int.le_refl 0)]
  exact stI (ag_seize h)
theorem cc_22 (h : Inv v) (h0 : 0 ≤ l4) (h1 : l4 + 6 ≤ (L : Int)) (h2 : L ≤ 3072) : ∃ v1, Inv v1 ∧ cs_22 l4 L xs k v = k v1 := by
  unfold cs_22 sp_L_assign
  rw [chk_t (xb h0 h1 h2 (by decide) (by decide)), chk_t (xb h0 h1 h2 (by decide) (by decide)), chk_t (xb h0 h1 h2 (by decide) (by decide)), chk_t (Int.le_refl 0)]
  exact stI (ag_assign h)
theorem cc_23 (h : Inv v) (h0 : 0 ≤ l4) (h1 : l4 + 6 ≤ (L : Int)) (h2 : L ≤ 3072) : ∃ v1, Inv v1 ∧ cs_23 l4 L xs k v = k v1 := by
  unfold cs_23 sp_L_bars
  rw [chk_t (xb h0 h1 h2 (by decide) (by decide)), chk_t (xb h0 h1 h2 (by decide) (by decide)), chk_t (xb h0 h1 h2 (by decide) (by decide)), chk_t (xb h0 h1 h2 (by decide) (by decide)), chk_t (Int.le_refl 0)]
  exact stI (ag_bars h)
theorem cc_24 (h : Inv v) (h0 : 0 ≤ l4) (h1 : l4 + 6 ≤ (L : Int)) (h2 : L ≤ 3072) : ∃ v1, Inv v1 ∧ cs_24 l4 L xs k v = k v1 := by
  unfold cs_24 sp_L_barredBy
  rw [chk_t (xb h0 h1 h2 (by decide) (by decide)), chk_t (xb h0 h1 h2 (by decide) (by decide)), chk_t (xb h0 h1 h2 (by decide) (by decide)), chk_t (xb h0 h1 h2 (by decide) (by decide)), chk_t (Int.le_refl 0)]
  exact stI (ag_barredBy h)
theorem cc_25 (h : Inv v) (h0 : 0 ≤ l4) (h1 : l4 + 6 ≤ (L : Int)) (h2 : L ≤ 3072) : ∃ v1, Inv v1 ∧ cs_25 l4 L xs k v = k v1 := by
  unfold cs_25 sp_L_price
  rw [chk_t (xb h0 h1 h2 (by decide) (by decide)), chk_t (xb h0 h1 h2 (by decide) (by decide)), chk_t (Int.le_refl 0)]
  exact stI (ag_price h)
theorem cc_26 (h : Inv v) (h0 : 0 ≤ l4) (h1 : l4 + 6 ≤ (L : Int)) (h2 : L ≤ 3072) : ∃ v1, Inv v1 ∧ cs_26 l4 L xs k v = k v1 := by
  unfold cs_26 sp_L_ofParty
  rw [chk_t (xb h0 h1 h2 (by decide) (by decide)), chk_t (xb h0 h1 h2 (by decide) (by decide)), chk_t (Int.le_refl 0)]
  exact stI (ag_ofParty h)
theorem cc_27 (h : Inv v) (h0 : 0 ≤ l4) (h1 : l4 + 6 ≤ (L : Int)) (h2 : L ≤ 3072) : ∃ v1, Inv v1 ∧ cs_27 l4 L xs k v = k v1 := by
  unfold cs_27 sp_L_ofWork
  rw [chk_t (xb h0 h1 h2 (by decide) (by decide)), chk_t (xb h0 h1 h2 (by decide) (by decide)), chk_t (Int.le_refl 0)]
  exact stI (ag_ofWork h)
theorem cc_28 (h : Inv v) (h0 : 0 ≤ l4) (h1 : l4 + 6 ≤ (L : Int)) (h2 : L ≤ 3072) : ∃ v1, Inv v1 ∧ cs_28 l4 L xs k v = k v1 := by
  unfold cs_28 sp_L_ofLot
  rw [chk_t (xb h0 h1 h2 (by decide) (by decide)), chk_t (xb h0 h1 h2 (by decide) (by decide)), chk_t (Int.le_refl 0)]
  exact stI (ag_ofLot h)
theorem cc_29 (h : Inv v) (h0 : 0 ≤ l4) (h1 : l4 + 6 ≤ (L : Int)) (h2 : L ≤ 3072) : ∃ v1, Inv v1 ∧ cs_29 l4 L xs k v = k v1 := by
  unfold cs_29 sp_L_ofLoan
  rw [chk_t (xb h0 h1 h2 (by decide) (by decide)), chk_t (xb h0 h1 h2 (by decide) (by decide)), chk_t (Int.le_refl 0)]
  exact stI (ag_ofLoan h)
theorem cc_30 (h : Inv v) (h0 : 0 ≤ l4) (h1 : l4 + 6 ≤ (L : Int)) (h2 : L ≤ 3072) : ∃ v1, Inv v1 ∧ cs_30 l4 L xs k v = k v1 := by
  unfold cs_30 sp_L_doubt
  rw [chk_t (xb h0 h1 h2 (by decide) (by decide)), chk_t (xb h0 h1 h2 (by decide) (by decide)), chk_t (Int.le_refl 0)]
  exact stI (ag_doubt h)
theorem cc_31 (h : Inv v) (h0 : 0 ≤ l4) (h1 : l4 + 6 ≤ (L : Int)) (h2 : L ≤ 3072) : ∃ v1, Inv v1 ∧ cs_31 l4 L xs k v = k v1 := by
  unfold cs_31 sp_L_gaps
  rw [chk_t (xb h0 h1 h2 (by decide) (by decide)), chk_t (xb h0 h1 h2 (by decide) (by decide)), chk_t (xb h0 h1 h2 (by decide) (by decide)), chk_t (Int.le_refl 0)]
  exact stI (ag_gaps h)
theorem cc_32 (h : Inv v) (h0 : 0 ≤ l4) (h1 : l4 + 6 ≤ (L : Int)) (h2 : L ≤ 3072) : ∃ v1, Inv v1 ∧ cs_32 l4 L xs k v = k v1 := by
  obtain ⟨r, e1, e2⟩ := index_ag h
  unfold cs_32
  rw [e1, rB_ok, e2 _ Md_r, rB_ok, if_pos ((lcmp_0 _ _).mpr rfl)]
  exact ⟨_, h.thr 0, rfl⟩
set_option maxRecDepth 100000 in
set_option maxHeartbeats 4000000 in
theorem law_lp_1 (h2 : L ≤ 3072) : ∀ (n : Nat) (v : V) (l4 : Int), Inv v → 0 ≤ l4 → (L : Int) - 6 < l4 + 6 * n → l4 ≤ (L : Int) + 6 → ∃ v1, law_lp L xs (n + 1) v l4 = some (0, 1, v1) := by
  intro n
  induction n with
  | zero =>
    intro v l4 h h0 h1 h3
    rw [law_lp, if_pos (by rw [w32_i (by omega) (by omega)]; omega)]
    exact ⟨v, rfl⟩
  | succ n ih =>
    intro v l4 h h0 h1 h3
    rw [law_lp]
    by_cases q : w32 ((L : Int) - 6) < l4
    · rw [if_pos q]
      exact ⟨v, rfl⟩
    rw [if_neg q]
    rw [w32_i (by omega) (by omega)] at q
    have hg : ∀ v1, Inv v1 → ∃ v2, law_lp L xs (n + 1) v1 (w32 (l4 + 6)) = some (0, 1, v2) := fun v1 g => by
      rw [w32_i (by omega) (by omega)]
      exact ih v1 (l4 + 6) g (by omega) (by omega) (by omega)
    have h1 : l4 + 6 ≤ (L : Int) := by omega
    have fi : ∀ r : Res, (∃ v1, Inv v1 ∧ r = law_lp L xs (n + 1) v1 (w32 (l4 + 6))) → ∃ v2, r = some (0, 1, v2) := fun r hr => by
      obtain ⟨v1, g, rfl⟩ := hr
      exact hg v1 g
    rw [chk_t ⟨h0, by omega⟩]
    by_cases q0 : and32 (xi xs l4) 63 = 0
    · rw [if_pos q0]
      exact fi _ (cc_0 h h0 h1 h2)
    rw [if_neg q0]
    by_cases q1 : and32 (xi xs l4) 63 = 1
    · rw [if_pos q1]
      exact fi _ (cc_1 h h0 h1 h2)
    rw [if_neg q1]
    by_cases q2 : and32 (xi xs l4) 63 = 2
    · rw [if_pos q2]
      exact fi _ (cc_2 h h0 h1 h2)
    rw [if_neg q2]
    by_cases q3 : and32 (xi xs l4) 63 = 3
    · rw [if_pos q3]
      exact fi _ (cc_3 h h0 h1 h2)
    rw [if_neg q3]
    by_cases q4 : and32 (xi xs l4) 63 = 4
    · rw [if_pos q4]
      exact fi _ (cc_4 h h0 h1 h2)
    rw [if_neg q4]
    by_cases q5 : and32 (xi xs l4) 63 = 5
    · rw [if_pos q5]
      exact fi _ (cc_5 h h0 h1 h2)
    rw [if_neg q5]
    by_cases q6 : and32 (xi xs l4) 63 = 6
    · rw [if_pos q6]
      exact fi _ (cc_6 h h0 h1 h2)
    rw [if_neg q6]
    by_cases q7 : and32 (xi xs l4) 63 = 7
    · rw [if_pos q7]
      exact fi _ (cc_7 h h0 h1 h2)
    rw [if_neg q7]
    by_cases q8 : and32 (xi xs l4) 63 = 8
    · rw [if_pos q8]
      exact fi _ (cc_8 h h0 h1 h2)
    rw [if_neg q8]
    by_cases q9 : and32 (xi xs l4) 63 = 9
    · rw [if_pos q9]
      exact fi _ (cc_9 h h0 h1 h2)
    rw [if_neg q9]
    by_cases q10 : and32 (xi xs l4) 63 = 10
    · rw [if_pos q10]
      exact fi _ (cc_10 h h0 h1 h2)
    rw [if_neg q10]
    by_cases q11 : and32 (xi xs l4) 63 = 11
    · rw [if_pos q11]
      exact fi _ (cc_11 h h0 h1 h2)
    rw [if_neg q11]
    by_cases q12 : and32 (xi xs l4) 63 = 12
    · rw [if_pos q12]
      exact fi _ (cc_12 h h0 h1 h2)
    rw [if_neg q12]
    by_cases q13 : and32 (xi xs l4) 63 = 13
    · rw [if_pos q13]
      exact fi _ (cc_13 h h0 h1 h2)
    rw [if_neg q13]
    by_cases q14 : and32 (xi xs l4) 63 = 14
    · rw [if_pos q14]
      exact fi _ (cc_14 h h0 h1 h2)
    rw [if_neg q14]
    by_cases q15 : and32 (xi xs l4) 63 = 15
    · rw [if_pos q15]
      exact fi _ (cc_15 h h0 h1 h2)
    rw [if_neg q15]
    by_cases q16 : and32 (xi xs l4) 63 = 16
    · rw [if_pos q16]
      exact fi _ (cc_16 h h0 h1 h2)
    rw [if_neg q16]
    by_cases q17 : and32 (xi xs l4) 63 = 17
    · rw [if_pos q17]
      exact fi _ (cc_17 h h0 h1 h2)
    rw [if_neg q17]
    by_cases q18 : and32 (xi xs l4) 63 = 18
    · rw [if_pos q18]
      exact fi _ (cc_18 h h0 h1 h2)
    rw [if_neg q18]
    by_cases q19 : and32 (xi xs l4) 63 = 19
    · rw [if_pos q19]
      exact fi _ (cc_19 h h0 h1 h2)
    rw [if_neg q19]
    by_cases q20 : and32 (xi xs l4) 63 = 20
    · rw [if_pos q20]
      exact fi _ (cc_20 h h0 h1 h2)
    rw [if_neg q20]
    by_cases q21 : and32 (xi xs l4) 63 = 21
    · rw [if_pos q21]
      exact fi _ (cc_21 h h0 h1 h2)
    rw [if_neg q21]
    by_cases q22 : and32 (xi xs l4) 63 = 22
    · rw [if_pos q22]
      exact fi _ (cc_22 h h0 h1 h2)
    rw [if_neg q22]
    by_cases q23 : and32 (xi xs l4) 63 = 23
    · rw [if_pos q23]
      exact fi _ (cc_23 h h0 h1 h2)
    rw [if_neg q23]
    by_cases q24 : and32 (xi xs l4) 63 = 24
    · rw [if_pos q24]
      exact fi _ (cc_24 h h0 h1 h2)
    rw [if_neg q24]
    by_cases q25 : and32 (xi xs l4) 63 = 25
    · rw [if_pos q25]
      exact fi _ (cc_25 h h0 h1 h2)
    rw [if_neg q25]
    by_cases q26 : and32 (xi xs l4) 63 = 26
    · rw [if_pos q26]
      exact fi _ (cc_26 h h0 h1 h2)
    rw [if_neg q26]
    by_cases q27 : and32 (xi xs l4) 63 = 27
    · rw [if_pos q27]
      exact fi _ (cc_27 h h0 h1 h2)
    rw [if_neg q27]
    by_cases q28 : and32 (xi xs l4) 63 = 28
    · rw [if_pos q28]
      exact fi _ (cc_28 h h0 h1 h2)
    rw [if_neg q28]
    by_cases q29 : and32 (xi xs l4) 63 = 29
    · rw [if_pos q29]
      exact fi _ (cc_29 h h0 h1 h2)
    rw [if_neg q29]
    by_cases q30 : and32 (xi xs l4) 63 = 30
    · rw [if_pos q30]
      exact fi _ (cc_30 h h0 h1 h2)
    rw [if_neg q30]
    by_cases q31 : and32 (xi xs l4) 63 = 31
    · rw [if_pos q31]
      exact fi _ (cc_31 h h0 h1 h2)
    rw [if_neg q31]
    by_cases q32 : and32 (xi xs l4) 63 = 32
    · rw [if_pos q32]
      exact fi _ (cc_32 h h0 h1 h2)
    rw [if_neg q32]
    exact hg v h
end Ca

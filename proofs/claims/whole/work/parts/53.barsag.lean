/-! PURE 33: bars, barredBy -/
def plF (v : V) (a b c d : Int) : Int := if ¬ (0 ≤ a ∧ a < v 8 0 21) then 1 else if ¬ (0 ≤ c ∧ c < v 8 0 2) then 1 else if ¬ (1 ≤ b ∧ b ≤ 60) then 2 else if ¬ (0 ≤ d ∧ d ≤ 1000000) then 2 else if c = v 63 0 a then 2 else 0
section Bb
variable {v w : V} {Q : Int → V → Prop} {E : Nat → V → Prop} {a b c d i j y z : Int} {K : Nat} {r : Res} {p : Int × Int}
theorem MS_M4 (m : Md4 w v) (h : MS v) : MS w := by
  unfold MS at *
  refine ⟨fun j hj => ?_, ?_⟩
  · rw [m.1 j (by omega) (by omega) (by omega)]
    exact h.1 j hj
  · rw [m.1 1 (by omega) (by omega) (by omega), m.1 2 (by omega) (by omega) (by omega), m.1 9 (by omega) (by omega) (by omega), m.1 21 (by omega) (by omega) (by omega), m.1 36 (by omega) (by omega) (by omega)]
    exact h.2
theorem x8_place (h : Inv v) (m : Md4 w v) : sp_X8_placeOf 0 a b c d w = rOk (plF v a b c d) w := by
  have hF := F8_M4 m h.f
  have hs := h.s
  unfold IS at hs
  have hw := MS_M4 m h.ms
  have hx := And.intro (m.2 63 0 a (by omega) (by omega)) (And.intro (m.1 21 (by omega) (by omega) (by omega)) (m.1 2 (by omega) (by omega) (by omega)))
  unfold sp_X8_placeOf plF
  apply eq_wp
  obtain q | q | q | q | q | q : (¬ (0 ≤ a ∧ a < v 8 0 21)) ∨ ((0 ≤ a ∧ a < v 8 0 21) ∧ ¬ (0 ≤ c ∧ c < v 8 0 2)) ∨ ((0 ≤ a ∧ a < v 8 0 21) ∧ (0 ≤ c ∧ c < v 8 0 2) ∧ ¬ (1 ≤ b ∧ b ≤ 60)) ∨ ((0 ≤ a ∧ a < v 8 0 21) ∧ (0 ≤ c ∧ c < v 8 0 2) ∧ (1 ≤ b ∧ b ≤ 60) ∧ ¬ (0 ≤ d ∧ d ≤ 1000000)) ∨ ((0 ≤ a ∧ a < v 8 0 21) ∧ (0 ≤ c ∧ c < v 8 0 2) ∧ (1 ≤ b ∧ b ≤ 60) ∧ (0 ≤ d ∧ d ≤ 1000000) ∧ c = v 63 0 a) ∨ ((0 ≤ a ∧ a < v 8 0 21) ∧ (0 ≤ c ∧ c < v 8 0 2) ∧ (1 ≤ b ∧ b ≤ 60) ∧ (0 ≤ d ∧ d ≤ 1000000) ∧ ¬ c = v 63 0 a) := by omega
  all_goals repeat' (first | (with_reducible refine wp_8lot_t hw ?_ ?_; (· (first | omega | (simp (decide := true) (disch := omega) only [hx, up_r, nw_r, f8all hF, i7 h, k9, df_a, df_16, w32_i, w64_i, ↓reduceIte, if_true, if_false, false_and, and_false, true_and, and_true, and_self, not_true, not_false_iff, upf, lcmp_l, lcmp_g, lcmp_e] <;> omega)))) | (with_reducible refine wp_8lot_f hw ?_ ?_; (· (first | omega | (simp (decide := true) (disch := omega) only [hx, up_r, nw_r, f8all hF, i7 h, k9, df_a, df_16, w32_i, w64_i, ↓reduceIte, if_true, if_false, false_and, and_false, true_and, and_true, and_self, not_true, not_false_iff, upf, lcmp_l, lcmp_g, lcmp_e] <;> omega)))) | (with_reducible refine wp_8party_t hw ?_ ?_; (· (first | omega | (simp (decide := true) (disch := omega) only [hx, up_r, nw_r, f8all hF, i7 h, k9, df_a, df_16, w32_i, w64_i, ↓reduceIte, if_true, if_false, false_and, and_false, true_and, and_true, and_self, not_true, not_false_iff, upf, lcmp_l, lcmp_g, lcmp_e] <;> omega)))) | (with_reducible refine wp_8party_f hw ?_ ?_; (· (first | omega | (simp (decide := true) (disch := omega) only [hx, up_r, nw_r, f8all hF, i7 h, k9, df_a, df_16, w32_i, w64_i, ↓reduceIte, if_true, if_false, false_and, and_false, true_and, and_true, and_self, not_true, not_false_iff, upf, lcmp_l, lcmp_g, lcmp_e] <;> omega)))) | (with_reducible refine wp_in_t ?_ ?_; (· (first | omega | (simp (decide := true) (disch := omega) only [hx, up_r, nw_r, f8all hF, i7 h, k9, df_a, df_16, w32_i, w64_i, ↓reduceIte, if_true, if_false, false_and, and_false, true_and, and_true, and_self, not_true, not_false_iff, upf, lcmp_l, lcmp_g, lcmp_e] <;> omega)))) | (with_reducible refine wp_in_f ?_ ?_; (· (first | omega | (simp (decide := true) (disch := omega) only [hx, up_r, nw_r, f8all hF, i7 h, k9, df_a, df_16, w32_i, w64_i, ↓reduceIte, if_true, if_false, false_and, and_false, true_and, and_true, and_self, not_true, not_false_iff, upf, lcmp_l, lcmp_g, lcmp_e] <;> omega)))) | first | (with_reducible refine wp_B ?_) | (with_reducible refine wp_ok ?_) | (with_reducible refine wp_ex ?_) | (with_reducible refine wp_chk ?_ ?_; (· (first | omega | (simp (decide := true) (disch := omega) only [hx, up_r, nw_r, f8all hF, i7 h, k9, df_a, df_16, w32_i, w64_i, ↓reduceIte, if_true, if_false, false_and, and_false, true_and, and_true, and_self, not_true, not_false_iff, upf, lcmp_l, lcmp_g, lcmp_e] <;> omega)))) | (with_reducible refine wp_t ?_ ?_; (· (first | omega | (simp (decide := true) (disch := omega) only [hx, up_r, nw_r, f8all hF, i7 h, k9, df_a, df_16, w32_i, w64_i, ↓reduceIte, if_true, if_false, false_and, and_false, true_and, and_true, and_self, not_true, not_false_iff, upf, lcmp_l, lcmp_g, lcmp_e] <;> omega)))) | (with_reducible refine wp_f ?_ ?_; (· (first | omega | (simp (decide := true) (disch := omega) only [hx, up_r, nw_r, f8all hF, i7 h, k9, df_a, df_16, w32_i, w64_i, ↓reduceIte, if_true, if_false, false_and, and_false, true_and, and_true, and_self, not_true, not_false_iff, upf, lcmp_l, lcmp_g, lcmp_e] <;> omega)))) | (with_reducible apply wp_up; (· (first | (simp (decide := true) (disch := omega) only [hx, up_r, nw_r, f8all hF, i7 h, k9, df_a, df_16, w32_i, w64_i, ↓reduceIte, if_true, if_false, false_and, and_false, true_and, and_true, and_self, not_true, not_false_iff, upf, lcmp_l, lcmp_g, lcmp_e] <;> rfl) | rfl)); (· (first | (simp (decide := true) (disch := omega) only [hx, up_r, nw_r, f8all hF, i7 h, k9, df_a, df_16, w32_i, w64_i, ↓reduceIte, if_true, if_false, false_and, and_false, true_and, and_true, and_self, not_true, not_false_iff, upf, lcmp_l, lcmp_g, lcmp_e] <;> rfl) | rfl)); (· (first | (simp (decide := true) (disch := omega) only [hx, up_r, nw_r, f8all hF, i7 h, k9, df_a, df_16, w32_i, w64_i, ↓reduceIte, if_true, if_false, false_and, and_false, true_and, and_true, and_self, not_true, not_false_iff, upf, lcmp_l, lcmp_g, lcmp_e] <;> rfl) | rfl))) | (with_reducible apply wp_nw; (· (first | (simp (decide := true) (disch := omega) only [hx, up_r, nw_r, f8all hF, i7 h, k9, df_a, df_16, w32_i, w64_i, ↓reduceIte, if_true, if_false, false_and, and_false, true_and, and_true, and_self, not_true, not_false_iff, upf, lcmp_l, lcmp_g, lcmp_e] <;> rfl) | rfl))))
  all_goals refine ⟨?_, rfl⟩
  all_goals ((repeat (first | rw [if_pos (by omega)] | rw [if_neg (by omega)])))
theorem x7_offer (h : Inv v) (ca : 0 ≤ a ∧ a < v 8 0 21) : sp_X7_requireOffer a b c d v = if (1 ≤ b ∧ b ≤ 60) ∧ (0 ≤ d ∧ d ≤ 1000000) ∧ ¬ c = v 63 0 a then rOk 0 v else rEx 2 v := by
  have l := ILx h ca
  unfold sp_X7_requireOffer sp_X7_requireOther
  simp only [e_range]
  by_cases q1 : 1 ≤ b ∧ b ≤ 60
  · by_cases q2 : 0 ≤ d ∧ d ≤ 1000000
    · by_cases q3 : c = v 63 0 a
      · simp only [if_pos q1, if_pos q2, rB_ok, chk_t ca.1, l, q3, ↓reduceIte, not_true, and_false, rB_ex]
      · simp only [if_pos q1, if_pos q2, rB_ok, chk_t ca.1, l, q3, q1, q2, ↓reduceIte, not_false_iff, and_true, and_self]
    · simp only [if_pos q1, if_neg q2, rB_ok, rB_ex, q2, ↓reduceIte, and_false, false_and]
  · simp only [if_neg q1, rB_ex, q1, ↓reduceIte, false_and]
theorem barW_44 : barW (up (up w 8 0 44 0) 8 0 45 (-1)) p 8 0 44 = p.1 := by
  unfold barW
  by_cases q : p.1 = 0
  · rw [if_pos q, q]
    rfl
  · rw [if_neg q]
    rfl
theorem barW_45 (h : p.1 = 0 → p.2 = -1) : barW (up (up w 8 0 44 0) 8 0 45 (-1)) p 8 0 45 = p.2 := by
  unfold barW
  by_cases q : p.1 = 0
  · rw [if_pos q, h q]
    rfl
  · rw [if_neg q]
    rfl
theorem barW_o (h : ¬ K = 8 ∨ (¬ j = 44 ∧ ¬ j = 45)) : barW w p K i j = w K i j := by
  unfold barW
  split
  · rfl
  · rw [up_o (by omega), up_o (by omega)]
theorem Inv_barW (h : Inv w) : Inv (barW w p) := by
  unfold barW
  split
  · exact h
  · exact Inv_u (by omega) (Inv_u (by omega) h)
theorem Md4_barW (m : Md4 w v) : Md4 (barW w p) v := by
  unfold barW
  split
  · exact m
  · exact Md4_u (by omega) (Md4_u (by omega) m)
theorem salB_0 (h : (salB v a b c d).1 = 0) : (salB v a b c d).2 = -1 := by
  rcases salB_c v a b c d with ⟨e, q⟩ | ⟨e, q⟩ | ⟨e, q⟩ | ⟨e, q⟩ | ⟨e, q⟩
  all_goals rw [e] at h ⊢
  case' inr.inr.inr.inr => rcases anyB_c v a c d with ⟨f, g⟩ | ⟨f, g⟩ | ⟨f, g⟩ | ⟨f, g⟩ | ⟨f, g⟩
  all_goals try rw [f] at h ⊢
  all_goals (dsimp only at h ⊢; omega)
theorem plF_f (h : ¬ ((0 ≤ a ∧ a < v 8 0 21) ∧ (0 ≤ c ∧ c < v 8 0 2) ∧ (1 ≤ b ∧ b ≤ 60) ∧ (0 ≤ d ∧ d ≤ 1000000) ∧ ¬ c = v 63 0 a)) : plF v a b c d = (if (0 ≤ a ∧ a < v 8 0 21) ∧ (0 ≤ c ∧ c < v 8 0 2) then 2 else 1) := by
  unfold plF
  by_cases q1 : 0 ≤ a ∧ a < v 8 0 21
  · by_cases q2 : 0 ≤ c ∧ c < v 8 0 2
    · ((repeat (first | rw [if_pos (by omega)] | rw [if_neg (by omega)])))
      repeat (split; rfl)
      omega
    · ((repeat (first | rw [if_pos (by omega)] | rw [if_neg (by omega)])))
  · ((repeat (first | rw [if_pos (by omega)] | rw [if_neg (by omega)])))
theorem plF_t (h : (0 ≤ a ∧ a < v 8 0 21) ∧ (0 ≤ c ∧ c < v 8 0 2) ∧ (1 ≤ b ∧ b ≤ 60) ∧ (0 ≤ d ∧ d ≤ 1000000) ∧ ¬ c = v 63 0 a) : plF v a b c d = 0 := by
  unfold plF
  ((repeat (first | rw [if_pos (by omega)] | rw [if_neg (by omega)])))
/-- the call is refused ahead of what bars -/
theorem refuse (h : Inv v) (q : ¬ ((0 ≤ a ∧ a < v 8 0 21) ∧ (0 ≤ c ∧ c < v 8 0 2) ∧ (1 ≤ b ∧ b ≤ 60) ∧ (0 ≤ d ∧ d ≤ 1000000) ∧ ¬ c = v 63 0 a)) (k : Int → Int → Int → V → Res) : ∃ e, (rB (sp_X7_lotAt 0 a v) (fun z1 v1 => (rB (sp_X7_partyAt 0 c v1) (fun z2 v2 => (rB (sp_X7_requireOffer z1 b z2 d v2) (fun z3 v3 => k z1 z2 z3 v3)))))) = rEx e v ∧ plF v a b c d = e ∧ (e = 1 ∨ e = 2) := by
  rw [plF_f q, e_lotAt h]
  by_cases ca : 0 ≤ a ∧ a < v 8 0 21
  · rw [if_pos ca, rB_ok, e_partyAt h]
    by_cases cc : 0 ≤ c ∧ c < v 8 0 2
    · rw [if_pos cc, rB_ok, x7_offer h ca, if_neg (fun z => q ⟨ca, cc, z⟩), if_pos ⟨ca, cc⟩]
      exact ⟨2, rfl, rfl, Or.inr rfl⟩
    · rw [if_neg cc, if_neg (fun z => cc z.2)]
      exact ⟨1, rfl, rfl, Or.inl rfl⟩
  · rw [if_neg ca, if_neg (fun z => ca z.1)]
    exact ⟨1, rfl, rfl, Or.inl rfl⟩
theorem refuse8 (h : Inv v) {e : Nat} (hp : plF v a b c d = e) (he : e = 1 ∨ e = 2) {f8 : V → Res} {k : Int → V → Res} (hf : ∀ w, f8 w = rB (sp_X8_placeOf 0 a b c d w) k) (hk : Wp (k e v) (fun _ w => w 8 0 0 = e ∧ Inv w) NoE) : AgE [1, 2] f8 Inv e v := by
  rcases he with rfl | rfl
  · refine ⟨1, rfl, by decide, ?_⟩
    rw [hf, x8_place h Md4_r, hp]
    exact hk
  · refine ⟨2, rfl, by decide, ?_⟩
    rw [hf, x8_place h Md4_r, hp]
    exact hk
theorem holds_e {e : Nat} (he : e = 1 ∨ e = 2) : sp_X8_holds 0 (e : Int) v = rOk 0 (up v 8 0 0 e) := by
  rw [e_holds, if_neg (by omega)]
theorem x8_bars7 (h : Inv v) (m : Md4 w v) (ca : 0 ≤ a ∧ a < v 8 0 21) (cc : 0 ≤ c ∧ c < v 8 0 2) (cb : 1 ≤ b ∧ b ≤ 60) (cd : 0 ≤ d ∧ d ≤ 1000000) (cn : ¬ c = v 63 0 a) : sp_X8_bars 0 a b c d w = rOk (salB v a b c d).1 (barW (up (up (up w 8 0 0 0) 8 0 44 0) 8 0 45 (-1)) (salB v a b c d)) ∧ sp_X8_barredBy 0 a b c d w = rOk (salB v a b c d).2 (barW (up (up (up w 8 0 0 0) 8 0 44 0) 8 0 45 (-1)) (salB v a b c d)) := by
  unfold sp_X8_bars sp_X8_barredBy
  rw [x8_place h m, plF_t ⟨ca, cc, cb, cd, cn⟩, rB_ok, rB_ok, e_holds, if_pos rfl, rB_ok, rB_ok, if_pos (by decide), if_pos (by decide), x8_sale h (Md4_u (by omega) m) ca cc (by omega) cd, rB_ok, rB_ok, barW_44, barW_45 salB_0]
  exact ⟨rfl, rfl⟩
theorem ag_bars (h : Inv v) : AgI (sp_X7_bars 0 a b c d v) [1, 2] (sp_X8_bars 0 a b c d) Inv := by
  by_cases q : (0 ≤ a ∧ a < v 8 0 21) ∧ (0 ≤ c ∧ c < v 8 0 2) ∧ (1 ≤ b ∧ b ≤ 60) ∧ (0 ≤ d ∧ d ≤ 1000000) ∧ ¬ c = v 63 0 a
  · obtain ⟨ca, cc, cb, cd, cn⟩ := q
    unfold AgI sp_X7_bars
    rw [e_lotAt h, if_pos ca, rB_ok, e_partyAt h, if_pos cc, rB_ok, x7_offer h ca, if_pos ⟨cb, cd, cn⟩, rB_ok, x7_sale h ca cc, rB_ok]
    refine wp_ok (wp_eq (x8_bars7 h (Md4_u (by omega) Md4_r) ca cc cb cd cn).1 (wp_ok ⟨rfl, ?_, ?_, ?_⟩))
    · rw [barW_o (by omega)]
      rfl
    · rw [barW_o (by omega)]
      rfl
    · exact Inv_barW (Inv_u (by omega) (Inv_u (by omega) (Inv_u (by omega) (Inv_u (by omega) h))))
  · obtain ⟨e, e1, e2, e3⟩ := refuse h q (fun z1 z2 z3 v3 => (rB (sp_X7_barOfSale 0 z1 b z2 d v3) (fun z4 v4 => (rOk z4 v4))))
    unfold AgI sp_X7_bars
    rw [e1]
    refine wp_ex (refuse8 h e2 e3 (k := _) (fun w => by unfold sp_X8_bars; rfl) ?_)
    refine wp_B (wp_eq (holds_e e3) (wp_ok (wp_f (by decide) (wp_ok ⟨?_, h.thr _⟩))))
    rfl
theorem ag_barredBy (h : Inv v) : AgI (sp_X7_barredBy 0 a b c d v) [1, 2] (sp_X8_barredBy 0 a b c d) Inv := by
  by_cases q : (0 ≤ a ∧ a < v 8 0 21) ∧ (0 ≤ c ∧ c < v 8 0 2) ∧ (1 ≤ b ∧ b ≤ 60) ∧ (0 ≤ d ∧ d ≤ 1000000) ∧ ¬ c = v 63 0 a
  · obtain ⟨ca, cc, cb, cd, cn⟩ := q
    have hs := h.s
    have hF := h.f
    unfold IS at hs
    have hl1 := (h.l a ca.1 ca.2).1
    have hl2 := (h.l a ca.1 ca.2).2.1
    unfold ICo at hl2
    have hw := h.w (v 62 0 a) (by omega) (by omega)
    have m1 := mon_b h (a := c) (by omega)
    have h66 : ¬ v 66 0 a = -1 → v 3 (v 66 0 a) 0 = v 66 0 a := fun z => (IPx h (a := v 66 0 a) (by omega)).2.1
    have h60 : ¬ v 66 0 a = -1 → v 0 (v 2 a 6) 0 = v 66 0 a := fun z => by omega
    have hx := And.intro (ILx h ca) (And.intro (IWx h (a := v 62 0 a) (by omega)) (And.intro (IPx h cc) (And.intro (IPx h (a := v 63 0 a) (by omega)) (IPx h (a := v 50 0 (v 62 0 a)) (by omega)))))
    have en : ∃ x, sp_X7_barredBy 0 a b c d v = rOk x v ∧ x = (salB v a b c d).2 := by
      refine ⟨(salB v a b c d).2, ?_, rfl⟩
      unfold sp_X7_barredBy
      rw [e_lotAt h, if_pos ca, rB_ok, e_partyAt h, if_pos cc, rB_ok, x7_offer h ca, if_pos ⟨cb, cd, cn⟩, rB_ok, x7_sale h ca cc, rB_ok]
      unfold sp_X2_dealer sp_X7_numberOf sp_X6_barDaysLeft sp_J9_max_7cf53
      apply eq_wp
      rcases salB_c v a b c d with ⟨e, g⟩ | ⟨e, g⟩ | ⟨e, g⟩ | ⟨e, g⟩ | ⟨e, g1, g2⟩
      case' inr.inr.inr.inl => have i1 := h66 g
      case' inr.inr.inr.inl => have i2 := h60 g
      case' inr.inr.inr.inr => rcases anyB_c v a c d with ⟨f, g⟩ | ⟨f, g⟩ | ⟨f, g⟩ | ⟨f, g⟩ | ⟨f, g⟩
      case' inr.inr.inr.inl => have hx := And.intro hx (And.intro i1 i2)
      all_goals try rw [f] at e
      all_goals rw [e]
      all_goals repeat' (first | (with_reducible refine wp_B ?_) | (with_reducible refine wp_ok ?_) | (with_reducible refine wp_ex ?_) | (with_reducible refine wp_chk ?_ ?_; (· (first | omega | (simp (decide := true) (disch := omega) only [hx, up_r, nw_r, f8all hF, i7 h, k9, df_a, df_16, w32_i, w64_i, ↓reduceIte, if_true, if_false, false_and, and_false, true_and, and_true, and_self, not_true, not_false_iff, upf, lcmp_l, lcmp_g, lcmp_e] <;> omega)))) | (with_reducible refine wp_t ?_ ?_; (· (first | omega | (simp (decide := true) (disch := omega) only [hx, up_r, nw_r, f8all hF, i7 h, k9, df_a, df_16, w32_i, w64_i, ↓reduceIte, if_true, if_false, false_and, and_false, true_and, and_true, and_self, not_true, not_false_iff, upf, lcmp_l, lcmp_g, lcmp_e] <;> omega)))) | (with_reducible refine wp_f ?_ ?_; (· (first | omega | (simp (decide := true) (disch := omega) only [hx, up_r, nw_r, f8all hF, i7 h, k9, df_a, df_16, w32_i, w64_i, ↓reduceIte, if_true, if_false, false_and, and_false, true_and, and_true, and_self, not_true, not_false_iff, upf, lcmp_l, lcmp_g, lcmp_e] <;> omega)))) | (with_reducible apply wp_up; (· (first | (simp (decide := true) (disch := omega) only [hx, up_r, nw_r, f8all hF, i7 h, k9, df_a, df_16, w32_i, w64_i, ↓reduceIte, if_true, if_false, false_and, and_false, true_and, and_true, and_self, not_true, not_false_iff, upf, lcmp_l, lcmp_g, lcmp_e] <;> rfl) | rfl)); (· (first | (simp (decide := true) (disch := omega) only [hx, up_r, nw_r, f8all hF, i7 h, k9, df_a, df_16, w32_i, w64_i, ↓reduceIte, if_true, if_false, false_and, and_false, true_and, and_true, and_self, not_true, not_false_iff, upf, lcmp_l, lcmp_g, lcmp_e] <;> rfl) | rfl)); (· (first | (simp (decide := true) (disch := omega) only [hx, up_r, nw_r, f8all hF, i7 h, k9, df_a, df_16, w32_i, w64_i, ↓reduceIte, if_true, if_false, false_and, and_false, true_and, and_true, and_self, not_true, not_false_iff, upf, lcmp_l, lcmp_g, lcmp_e] <;> rfl) | rfl))) | (with_reducible apply wp_nw; (· (first | (simp (decide := true) (disch := omega) only [hx, up_r, nw_r, f8all hF, i7 h, k9, df_a, df_16, w32_i, w64_i, ↓reduceIte, if_true, if_false, false_and, and_false, true_and, and_true, and_self, not_true, not_false_iff, upf, lcmp_l, lcmp_g, lcmp_e] <;> rfl) | rfl))))
      all_goals refine ⟨?_, rfl⟩
      all_goals first | omega | (simp (decide := true) (disch := omega) only [hx, up_r, nw_r, f8all hF, i7 h, k9, df_a, df_16, w32_i, w64_i, ↓reduceIte, if_true, if_false, false_and, and_false, true_and, and_true, and_self, not_true, not_false_iff, upf, lcmp_l, lcmp_g, lcmp_e] <;> omega)
    obtain ⟨x, e1, rfl⟩ := en
    unfold AgI
    rw [e1]
    refine wp_ok (wp_eq (x8_bars7 h (Md4_u (by omega) Md4_r) ca cc cb cd cn).2 (wp_ok ⟨rfl, ?_, ?_, ?_⟩))
    · rw [barW_o (by omega)]
      rfl
    · rw [barW_o (by omega)]
      rfl
    · exact Inv_barW (Inv_u (by omega) (Inv_u (by omega) (Inv_u (by omega) (Inv_u (by omega) h))))
  · unfold AgI sp_X7_barredBy
    obtain ⟨e, e1, e2, e3⟩ := refuse h q _
    rw [e1]
    refine wp_ex (refuse8 h e2 e3 (k := _) (fun w => by unfold sp_X8_barredBy; rfl) ?_)
    refine wp_B (wp_eq (holds_e e3) (wp_ok (wp_f (by decide) (wp_ok ⟨?_, h.thr _⟩))))
    rfl
end Bb

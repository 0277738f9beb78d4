/-! PURE 18: what bars a sale, in closed form -/
def anyB (v : V) (a c d : Int) : Int × Int :=
  if 0 < v 6 (v 2 a 1) 8 - v 7 0 9 ∧ ¬ v 3 c 1 = v 6 (v 2 a 1) 6 then (4, v 6 (v 2 a 1) 8 - v 7 0 9)
  else if v 3 c 2 < d then (5, d - v 3 c 2)
  else if v 2 a 3 = v 6 (v 2 a 1) 1 ∧ ¬ and32 (v 3 c 5) (shl32 1 (v 6 (v 2 a 1) 1)) = 0 then (6, v 6 (v 2 a 1) 1)
  else if v 7 0 7 = 60 then (7, 60)
  else (0, -1)
def salB (v : V) (a b c d : Int) : Int × Int :=
  if ¬ v 3 (v 2 a 3) 4 = 0 then (1, v 2 a 3)
  else if ¬ v 3 c 4 = 0 then (1, c)
  else if v 2 a 4 < b then (2, b - v 2 a 4)
  else if ¬ v 2 a 6 = -1 then (3, v 0 (v 2 a 6) 0)
  else anyB v a c d
section Br
variable {v w : V} {Q : Int → V → Prop} {E : Nat → V → Prop} {a b c d : Int}
theorem x7_any (h : Inv v) (ca : 0 ≤ a ∧ a < v 7 0 7) (cc : 0 ≤ c ∧ c < v 7 0 5) : sp_X7_barOfAnySale 0 a c d v = rOk (anyB v a c d).1 v := by
  have hs := h.s
  unfold IS at hs
  have hl1 := (h.l a ca.1 ca.2).1
  have hw := h.w (v 2 a 1) (by omega) (by omega)
  have hx := And.intro (IPx h cc) (IPx h (a := v 6 (v 2 a 1) 1) (by omega))
  apply eq_wp
  unfold sp_X7_barOfAnySale sp_X6_barDaysLeft sp_X2_isHeldByArtist sp_X3_isPunishedBy anyB
  repeat' (first | (with_reducible refine wp_B ?_) | (with_reducible refine wp_ok ?_) | (with_reducible refine wp_ex ?_) | (with_reducible refine wp_chk ?_ ?_; (· (first | omega | (simp (decide := true) (disch := omega) only [hx, up_r, nw_r, i7 h, k9, df_a, df_16, w32_i, w64_i, ↓reduceIte, if_true, if_false, false_and, and_false, true_and, and_true, and_self, not_true, not_false_iff, true_or, or_true, false_or, or_false, upf, lcmp_l, lcmp_g, lcmp_e] <;> omega)))) | (with_reducible refine wp_t ?_ ?_; (· (first | omega | (simp (decide := true) (disch := omega) only [hx, up_r, nw_r, i7 h, k9, df_a, df_16, w32_i, w64_i, ↓reduceIte, if_true, if_false, false_and, and_false, true_and, and_true, and_self, not_true, not_false_iff, true_or, or_true, false_or, or_false, upf, lcmp_l, lcmp_g, lcmp_e] <;> omega)))) | (with_reducible refine wp_f ?_ ?_; (· (first | omega | (simp (decide := true) (disch := omega) only [hx, up_r, nw_r, i7 h, k9, df_a, df_16, w32_i, w64_i, ↓reduceIte, if_true, if_false, false_and, and_false, true_and, and_true, and_self, not_true, not_false_iff, true_or, or_true, false_or, or_false, upf, lcmp_l, lcmp_g, lcmp_e] <;> omega)))) | (with_reducible apply wp_up; (· (first | (simp (decide := true) (disch := omega) only [hx, up_r, nw_r, i7 h, k9, df_a, df_16, w32_i, w64_i, ↓reduceIte, if_true, if_false, false_and, and_false, true_and, and_true, and_self, not_true, not_false_iff, true_or, or_true, false_or, or_false, upf, lcmp_l, lcmp_g, lcmp_e] <;> rfl) | rfl)); (· (first | (simp (decide := true) (disch := omega) only [hx, up_r, nw_r, i7 h, k9, df_a, df_16, w32_i, w64_i, ↓reduceIte, if_true, if_false, false_and, and_false, true_and, and_true, and_self, not_true, not_false_iff, true_or, or_true, false_or, or_false, upf, lcmp_l, lcmp_g, lcmp_e] <;> rfl) | rfl)); (· (first | (simp (decide := true) (disch := omega) only [hx, up_r, nw_r, i7 h, k9, df_a, df_16, w32_i, w64_i, ↓reduceIte, if_true, if_false, false_and, and_false, true_and, and_true, and_self, not_true, not_false_iff, true_or, or_true, false_or, or_false, upf, lcmp_l, lcmp_g, lcmp_e] <;> rfl) | rfl))) | (with_reducible apply wp_nw; (· (first | (simp (decide := true) (disch := omega) only [hx, up_r, nw_r, i7 h, k9, df_a, df_16, w32_i, w64_i, ↓reduceIte, if_true, if_false, false_and, and_false, true_and, and_true, and_self, not_true, not_false_iff, true_or, or_true, false_or, or_false, upf, lcmp_l, lcmp_g, lcmp_e] <;> rfl) | rfl))) | (with_reducible refine wp_7party_t h ?_ ?_; (· omega)) | (with_reducible refine wp_7party_f h ?_ ?_; (· omega)) | (with_reducible refine wp_7work_t h ?_ ?_; (· omega)) | (with_reducible refine wp_7work_f h ?_ ?_; (· omega)) | (with_reducible refine wp_7lot_t h ?_ ?_; (· omega)) | (with_reducible refine wp_7lot_f h ?_ ?_; (· omega)) | (with_reducible refine wp_7loan_t h ?_ ?_; (· omega)) | (with_reducible refine wp_7loan_f h ?_ ?_; (· omega)) | (with_reducible refine wp_st0 ?_) | (with_reducible refine wp_st1 ?_ ?_; (· omega)) | (with_reducible refine wp_range_t ?_ ?_; (· omega)) | (with_reducible refine wp_range_f ?_ ?_; (· omega)) | (with_reducible refine wp_7land_t ?_ ?_; (· omega)) | (with_reducible refine wp_7land_f ?_ ?_; (· omega)) | (with_reducible refine wp_other_t ?_ ?_; (· omega)) | (with_reducible refine wp_other_f ?_ ?_; (· omega)) | (with_reducible refine wp_range (fun _ => ?_) (fun _ => ?_)) | (with_reducible refine wp_7land (fun _ => ?_) (fun _ => ?_)) | (with_reducible refine wp_other (fun _ => ?_) (fun _ => ?_)) | (with_reducible refine wp_max (fun hc => ?_) (fun hc => ?_); all_goals (try simp (decide := true) (disch := omega) only [hx, up_r, nw_r, i7 h, k9, df_a, df_16, w32_i, w64_i, ↓reduceIte, if_true, if_false, false_and, and_false, true_and, and_true, and_self, not_true, not_false_iff, true_or, or_true, false_or, or_false, upf, lcmp_l, lcmp_g, lcmp_e] at hc)) | (with_reducible refine wp_i (fun hc => ?_) (fun hc => ?_); all_goals (try simp (decide := true) (disch := omega) only [hx, up_r, nw_r, i7 h, k9, df_a, df_16, w32_i, w64_i, ↓reduceIte, if_true, if_false, false_and, and_false, true_and, and_true, and_self, not_true, not_false_iff, true_or, or_true, false_or, or_false, upf, lcmp_l, lcmp_g, lcmp_e] at hc)) | (with_reducible refine wp_7val h ?_ ?_ ?_; (· (first | omega | (simp (decide := true) (disch := omega) only [hx, up_r, nw_r, i7 h, k9, df_a, df_16, w32_i, w64_i, ↓reduceIte, if_true, if_false, false_and, and_false, true_and, and_true, and_self, not_true, not_false_iff, true_or, or_true, false_or, or_false, upf, lcmp_l, lcmp_g, lcmp_e] <;> omega))); (· (first | omega | (simp (decide := true) (disch := omega) only [hx, up_r, nw_r, i7 h, k9, df_a, df_16, w32_i, w64_i, ↓reduceIte, if_true, if_false, false_and, and_false, true_and, and_true, and_self, not_true, not_false_iff, true_or, or_true, false_or, or_false, upf, lcmp_l, lcmp_g, lcmp_e] <;> omega)))) | (with_reducible refine wp_7wor h ?_ ?_ ?_; (· (first | omega | (simp (decide := true) (disch := omega) only [hx, up_r, nw_r, i7 h, k9, df_a, df_16, w32_i, w64_i, ↓reduceIte, if_true, if_false, false_and, and_false, true_and, and_true, and_self, not_true, not_false_iff, true_or, or_true, false_or, or_false, upf, lcmp_l, lcmp_g, lcmp_e] <;> omega))); (· (first | omega | (simp (decide := true) (disch := omega) only [hx, up_r, nw_r, i7 h, k9, df_a, df_16, w32_i, w64_i, ↓reduceIte, if_true, if_false, false_and, and_false, true_and, and_true, and_self, not_true, not_false_iff, true_or, or_true, false_or, or_false, upf, lcmp_l, lcmp_g, lcmp_e] <;> omega)))) | (with_reducible refine wp_7owe h ?_ ?_ ?_; (· (first | omega | (simp (decide := true) (disch := omega) only [hx, up_r, nw_r, i7 h, k9, df_a, df_16, w32_i, w64_i, ↓reduceIte, if_true, if_false, false_and, and_false, true_and, and_true, and_self, not_true, not_false_iff, true_or, or_true, false_or, or_false, upf, lcmp_l, lcmp_g, lcmp_e] <;> omega))); (· (first | omega | (simp (decide := true) (disch := omega) only [hx, up_r, nw_r, i7 h, k9, df_a, df_16, w32_i, w64_i, ↓reduceIte, if_true, if_false, false_and, and_false, true_and, and_true, and_self, not_true, not_false_iff, true_or, or_true, false_or, or_false, upf, lcmp_l, lcmp_g, lcmp_e] <;> omega)))) | (with_reducible refine wp_7dbt h ?_ (fun _ => ?_); (· omega)) | (with_reducible refine wp_x7_ph h ?_) | (with_reducible refine wp_x7_ob h ?_) | (with_reducible refine wp_x7_ot h ?_) | (with_reducible refine wp_x7_lp h ?_) | (with_reducible refine wp_x7_wu h (fun _ _ => ?_)) | (with_reducible refine wp_x7_wh h (fun _ _ => ?_)) | (with_reducible refine wp_bc h ?_ ?_; (· omega)) | (with_reducible refine wp_chain h ?_ ?_; (· omega)))
  all_goals refine ⟨?_, rfl⟩
  all_goals ((repeat (first | rw [if_pos (by omega)] | rw [if_neg (by omega)])))
theorem x7_sale (h : Inv v) (ca : 0 ≤ a ∧ a < v 7 0 7) (cc : 0 ≤ c ∧ c < v 7 0 5) : sp_X7_barOfSale 0 a b c d v = rOk (salB v a b c d).1 v := by
  have hx : (0 : Int) = 0 := rfl
  have hl1 := (h.l a ca.1 ca.2).1
  have hl2 := (h.l a ca.1 ca.2).2.1
  unfold ICo at hl2
  have e7 := x7_any (d := d) h ca cc
  apply eq_wp
  unfold sp_X7_barOfSale salB
  repeat' (first | (with_reducible refine wp_eq e7 ?_) | first | (with_reducible refine wp_B ?_) | (with_reducible refine wp_ok ?_) | (with_reducible refine wp_ex ?_) | (with_reducible refine wp_chk ?_ ?_; (· (first | omega | (simp (decide := true) (disch := omega) only [hx, up_r, nw_r, i7 h, k9, df_a, df_16, w32_i, w64_i, ↓reduceIte, if_true, if_false, false_and, and_false, true_and, and_true, and_self, not_true, not_false_iff, true_or, or_true, false_or, or_false, upf, lcmp_l, lcmp_g, lcmp_e] <;> omega)))) | (with_reducible refine wp_t ?_ ?_; (· (first | omega | (simp (decide := true) (disch := omega) only [hx, up_r, nw_r, i7 h, k9, df_a, df_16, w32_i, w64_i, ↓reduceIte, if_true, if_false, false_and, and_false, true_and, and_true, and_self, not_true, not_false_iff, true_or, or_true, false_or, or_false, upf, lcmp_l, lcmp_g, lcmp_e] <;> omega)))) | (with_reducible refine wp_f ?_ ?_; (· (first | omega | (simp (decide := true) (disch := omega) only [hx, up_r, nw_r, i7 h, k9, df_a, df_16, w32_i, w64_i, ↓reduceIte, if_true, if_false, false_and, and_false, true_and, and_true, and_self, not_true, not_false_iff, true_or, or_true, false_or, or_false, upf, lcmp_l, lcmp_g, lcmp_e] <;> omega)))) | (with_reducible apply wp_up; (· (first | (simp (decide := true) (disch := omega) only [hx, up_r, nw_r, i7 h, k9, df_a, df_16, w32_i, w64_i, ↓reduceIte, if_true, if_false, false_and, and_false, true_and, and_true, and_self, not_true, not_false_iff, true_or, or_true, false_or, or_false, upf, lcmp_l, lcmp_g, lcmp_e] <;> rfl) | rfl)); (· (first | (simp (decide := true) (disch := omega) only [hx, up_r, nw_r, i7 h, k9, df_a, df_16, w32_i, w64_i, ↓reduceIte, if_true, if_false, false_and, and_false, true_and, and_true, and_self, not_true, not_false_iff, true_or, or_true, false_or, or_false, upf, lcmp_l, lcmp_g, lcmp_e] <;> rfl) | rfl)); (· (first | (simp (decide := true) (disch := omega) only [hx, up_r, nw_r, i7 h, k9, df_a, df_16, w32_i, w64_i, ↓reduceIte, if_true, if_false, false_and, and_false, true_and, and_true, and_self, not_true, not_false_iff, true_or, or_true, false_or, or_false, upf, lcmp_l, lcmp_g, lcmp_e] <;> rfl) | rfl))) | (with_reducible apply wp_nw; (· (first | (simp (decide := true) (disch := omega) only [hx, up_r, nw_r, i7 h, k9, df_a, df_16, w32_i, w64_i, ↓reduceIte, if_true, if_false, false_and, and_false, true_and, and_true, and_self, not_true, not_false_iff, true_or, or_true, false_or, or_false, upf, lcmp_l, lcmp_g, lcmp_e] <;> rfl) | rfl))) | (with_reducible refine wp_7party_t h ?_ ?_; (· omega)) | (with_reducible refine wp_7party_f h ?_ ?_; (· omega)) | (with_reducible refine wp_7work_t h ?_ ?_; (· omega)) | (with_reducible refine wp_7work_f h ?_ ?_; (· omega)) | (with_reducible refine wp_7lot_t h ?_ ?_; (· omega)) | (with_reducible refine wp_7lot_f h ?_ ?_; (· omega)) | (with_reducible refine wp_7loan_t h ?_ ?_; (· omega)) | (with_reducible refine wp_7loan_f h ?_ ?_; (· omega)) | (with_reducible refine wp_st0 ?_) | (with_reducible refine wp_st1 ?_ ?_; (· omega)) | (with_reducible refine wp_range_t ?_ ?_; (· omega)) | (with_reducible refine wp_range_f ?_ ?_; (· omega)) | (with_reducible refine wp_7land_t ?_ ?_; (· omega)) | (with_reducible refine wp_7land_f ?_ ?_; (· omega)) | (with_reducible refine wp_other_t ?_ ?_; (· omega)) | (with_reducible refine wp_other_f ?_ ?_; (· omega)) | (with_reducible refine wp_range (fun _ => ?_) (fun _ => ?_)) | (with_reducible refine wp_7land (fun _ => ?_) (fun _ => ?_)) | (with_reducible refine wp_other (fun _ => ?_) (fun _ => ?_)) | (with_reducible refine wp_max (fun hc => ?_) (fun hc => ?_); all_goals (try simp (decide := true) (disch := omega) only [hx, up_r, nw_r, i7 h, k9, df_a, df_16, w32_i, w64_i, ↓reduceIte, if_true, if_false, false_and, and_false, true_and, and_true, and_self, not_true, not_false_iff, true_or, or_true, false_or, or_false, upf, lcmp_l, lcmp_g, lcmp_e] at hc)) | (with_reducible refine wp_i (fun hc => ?_) (fun hc => ?_); all_goals (try simp (decide := true) (disch := omega) only [hx, up_r, nw_r, i7 h, k9, df_a, df_16, w32_i, w64_i, ↓reduceIte, if_true, if_false, false_and, and_false, true_and, and_true, and_self, not_true, not_false_iff, true_or, or_true, false_or, or_false, upf, lcmp_l, lcmp_g, lcmp_e] at hc)) | (with_reducible refine wp_7val h ?_ ?_ ?_; (· (first | omega | (simp (decide := true) (disch := omega) only [hx, up_r, nw_r, i7 h, k9, df_a, df_16, w32_i, w64_i, ↓reduceIte, if_true, if_false, false_and, and_false, true_and, and_true, and_self, not_true, not_false_iff, true_or, or_true, false_or, or_false, upf, lcmp_l, lcmp_g, lcmp_e] <;> omega))); (· (first | omega | (simp (decide := true) (disch := omega) only [hx, up_r, nw_r, i7 h, k9, df_a, df_16, w32_i, w64_i, ↓reduceIte, if_true, if_false, false_and, and_false, true_and, and_true, and_self, not_true, not_false_iff, true_or, or_true, false_or, or_false, upf, lcmp_l, lcmp_g, lcmp_e] <;> omega)))) | (with_reducible refine wp_7wor h ?_ ?_ ?_; (· (first | omega | (simp (decide := true) (disch := omega) only [hx, up_r, nw_r, i7 h, k9, df_a, df_16, w32_i, w64_i, ↓reduceIte, if_true, if_false, false_and, and_false, true_and, and_true, and_self, not_true, not_false_iff, true_or, or_true, false_or, or_false, upf, lcmp_l, lcmp_g, lcmp_e] <;> omega))); (· (first | omega | (simp (decide := true) (disch := omega) only [hx, up_r, nw_r, i7 h, k9, df_a, df_16, w32_i, w64_i, ↓reduceIte, if_true, if_false, false_and, and_false, true_and, and_true, and_self, not_true, not_false_iff, true_or, or_true, false_or, or_false, upf, lcmp_l, lcmp_g, lcmp_e] <;> omega)))) | (with_reducible refine wp_7owe h ?_ ?_ ?_; (· (first | omega | (simp (decide := true) (disch := omega) only [hx, up_r, nw_r, i7 h, k9, df_a, df_16, w32_i, w64_i, ↓reduceIte, if_true, if_false, false_and, and_false, true_and, and_true, and_self, not_true, not_false_iff, true_or, or_true, false_or, or_false, upf, lcmp_l, lcmp_g, lcmp_e] <;> omega))); (· (first | omega | (simp (decide := true) (disch := omega) only [hx, up_r, nw_r, i7 h, k9, df_a, df_16, w32_i, w64_i, ↓reduceIte, if_true, if_false, false_and, and_false, true_and, and_true, and_self, not_true, not_false_iff, true_or, or_true, false_or, or_false, upf, lcmp_l, lcmp_g, lcmp_e] <;> omega)))) | (with_reducible refine wp_7dbt h ?_ (fun _ => ?_); (· omega)) | (with_reducible refine wp_x7_ph h ?_) | (with_reducible refine wp_x7_ob h ?_) | (with_reducible refine wp_x7_ot h ?_) | (with_reducible refine wp_x7_lp h ?_) | (with_reducible refine wp_x7_wu h (fun _ _ => ?_)) | (with_reducible refine wp_x7_wh h (fun _ _ => ?_)) | (with_reducible refine wp_bc h ?_ ?_; (· omega)) | (with_reducible refine wp_chain h ?_ ?_; (· omega)))
  all_goals refine ⟨?_, rfl⟩
  all_goals ((repeat (first | rw [if_pos (by omega)] | rw [if_neg (by omega)])))
/-- the checks of an offer -/
def offB (v : V) (a b c d : Int) : Prop := (1 ≤ b ∧ b ≤ 60) ∧ (0 ≤ d ∧ d ≤ 1000000) ∧ ¬ c = v 2 a 3
theorem x7_offer (ca : 0 ≤ a) (q : offB v a b c d) : sp_X7_requireOffer a b c d v = rOk 0 v := by
  unfold offB at q
  unfold sp_X7_requireOffer sp_X7_requireOther
  rw [e_range, if_pos q.1, rB_ok, e_range, if_pos q.2.1, rB_ok, chk_t ca, if_neg q.2.2, rB_ok]
theorem x7_offer_e (ca : 0 ≤ a) (q : ¬ offB v a b c d) : sp_X7_requireOffer a b c d v = rEx 2 v := by
  unfold offB at q
  unfold sp_X7_requireOffer sp_X7_requireOther
  rw [e_range]
  by_cases q1 : 1 ≤ b ∧ b ≤ 60
  · rw [if_pos q1, rB_ok, e_range]
    by_cases q2 : 0 ≤ d ∧ d ≤ 1000000
    · rw [if_pos q2, rB_ok, chk_t ca]
      by_cases q3 : c = v 2 a 3
      · rw [if_pos q3, rB_ex]
      · exact absurd ⟨q1, q2, q3⟩ q
    · rw [if_neg q2, rB_ex]
  · rw [if_neg q1, rB_ex]
/-- what the pair says: no bar and -1, or a bar of 1 to 7 and what is told with it -/
theorem anyB_c (h : Inv v) (ca : 0 ≤ a ∧ a < v 7 0 7) (cc : 0 ≤ c ∧ c < v 7 0 5) : ((anyB v a c d).1 = 0 ∧ (anyB v a c d).2 = -1 ∧ d ≤ v 3 c 2 ∧ ¬ v 7 0 7 = 60) ∨ (1 ≤ (anyB v a c d).1 ∧ (anyB v a c d).1 ≤ 7 ∧ 0 ≤ (anyB v a c d).2) := by
  have hl1 := (h.l a ca.1 ca.2).1
  have hw := h.w (v 2 a 1) (by omega) (by omega)
  unfold anyB
  split
  · right; dsimp only; omega
  · split
    · right; dsimp only; omega
    · split
      · right; dsimp only; omega
      · split
        · right; dsimp only; omega
        · left; dsimp only; omega
theorem salB_c (h : Inv v) (ca : 0 ≤ a ∧ a < v 7 0 7) (cc : 0 ≤ c ∧ c < v 7 0 5) : ((salB v a b c d).1 = 0 ∧ (salB v a b c d).2 = -1 ∧ b ≤ v 2 a 4 ∧ v 2 a 6 = -1 ∧ d ≤ v 3 c 2 ∧ ¬ v 7 0 7 = 60) ∨ (1 ≤ (salB v a b c d).1 ∧ (salB v a b c d).1 ≤ 7 ∧ 0 ≤ (salB v a b c d).2) := by
  have hl1 := (h.l a ca.1 ca.2).1
  have hl2 := (h.l a ca.1 ca.2).2.1
  unfold ICo at hl2
  have ha := anyB_c (d := d) h ca cc
  unfold salB
  split
  · right; dsimp only; omega
  · split
    · right; dsimp only; omega
    · split
      · right; dsimp only; omega
      · split
        · right; dsimp only; omega
        · omega
theorem salB_x (v : V) (a b c d : Int) : (¬ v 3 (v 2 a 3) 4 = 0 ∧ salB v a b c d = (1, v 2 a 3)) ∨ ((v 3 (v 2 a 3) 4 = 0 ∧ ¬ v 3 c 4 = 0) ∧ salB v a b c d = (1, c)) ∨ (v 2 a 4 < b ∧ salB v a b c d = (2, b - v 2 a 4)) ∨ (¬ v 2 a 6 = -1 ∧ salB v a b c d = (3, v 0 (v 2 a 6) 0)) ∨ (0 < v 6 (v 2 a 1) 8 - v 7 0 9 ∧ salB v a b c d = (4, v 6 (v 2 a 1) 8 - v 7 0 9)) ∨ (v 3 c 2 < d ∧ salB v a b c d = (5, d - v 3 c 2)) ∨ salB v a b c d = (6, v 6 (v 2 a 1) 1) ∨ salB v a b c d = (7, 60) ∨ salB v a b c d = (0, -1) := by
  unfold salB anyB
  by_cases c1 : ¬ v 3 (v 2 a 3) 4 = 0
  · rw [if_pos c1]; exact Or.inl ⟨c1, rfl⟩
  · rw [if_neg c1]
    by_cases c2 : ¬ v 3 c 4 = 0
    · rw [if_pos c2]; exact Or.inr (Or.inl ⟨⟨by omega, c2⟩, rfl⟩)
    · rw [if_neg c2]
      by_cases c3 : v 2 a 4 < b
      · rw [if_pos c3]; exact Or.inr (Or.inr (Or.inl ⟨c3, rfl⟩))
      · rw [if_neg c3]
        by_cases c4 : ¬ v 2 a 6 = -1
        · rw [if_pos c4]; exact Or.inr (Or.inr (Or.inr (Or.inl ⟨c4, rfl⟩)))
        · rw [if_neg c4]
          by_cases c5 : 0 < v 6 (v 2 a 1) 8 - v 7 0 9 ∧ ¬ v 3 c 1 = v 6 (v 2 a 1) 6
          · rw [if_pos c5]; exact Or.inr (Or.inr (Or.inr (Or.inr (Or.inl ⟨c5.1, rfl⟩))))
          · rw [if_neg c5]
            by_cases c6 : v 3 c 2 < d
            · rw [if_pos c6]; exact Or.inr (Or.inr (Or.inr (Or.inr (Or.inr (Or.inl ⟨c6, rfl⟩)))))
            · rw [if_neg c6]
              split
              · exact Or.inr (Or.inr (Or.inr (Or.inr (Or.inr (Or.inr (Or.inl rfl))))))
              · split
                · exact Or.inr (Or.inr (Or.inr (Or.inr (Or.inr (Or.inr (Or.inr (Or.inl rfl)))))))
                · exact Or.inr (Or.inr (Or.inr (Or.inr (Or.inr (Or.inr (Or.inr (Or.inr rfl)))))))
theorem x7_bars (h : Inv v) : sp_X7_bars 0 a b c d v = if (0 ≤ a ∧ a < v 7 0 7) ∧ (0 ≤ c ∧ c < v 7 0 5) then (if (1 ≤ b ∧ b ≤ 60) ∧ (0 ≤ d ∧ d ≤ 1000000) ∧ ¬ c = v 2 a 3 then rOk (salB v a b c d).1 v else rEx 2 v) else rEx 1 v := by
  unfold sp_X7_bars
  rw [e_lotAt h]
  by_cases ca : 0 ≤ a ∧ a < v 7 0 7
  · rw [if_pos ca, rB_ok, e_partyAt h]
    by_cases cc : 0 ≤ c ∧ c < v 7 0 5
    · rw [if_pos cc, rB_ok, if_pos ⟨ca, cc⟩]
      by_cases q : (1 ≤ b ∧ b ≤ 60) ∧ (0 ≤ d ∧ d ≤ 1000000) ∧ ¬ c = v 2 a 3
      · rw [if_pos q, x7_offer ca.1 q, rB_ok, x7_sale h ca cc, rB_ok]
      · rw [if_neg q, x7_offer_e ca.1 q, rB_ex]
    · rw [if_neg cc, rB_ex, if_neg (fun z => cc z.2)]
  · rw [if_neg ca, rB_ex, if_neg (fun z => ca z.1)]
theorem x7_bby (h : Inv v) : sp_X7_barredBy 0 a b c d v = if (0 ≤ a ∧ a < v 7 0 7) ∧ (0 ≤ c ∧ c < v 7 0 5) then (if (1 ≤ b ∧ b ≤ 60) ∧ (0 ≤ d ∧ d ≤ 1000000) ∧ ¬ c = v 2 a 3 then rOk (salB v a b c d).2 v else rEx 2 v) else rEx 1 v := by
  have hs := h.s
  unfold IS at hs
  by_cases ca : 0 ≤ a ∧ a < v 7 0 7
  · by_cases cc : 0 ≤ c ∧ c < v 7 0 5
    · rw [if_pos ⟨ca, cc⟩]
      by_cases q : (1 ≤ b ∧ b ≤ 60) ∧ (0 ≤ d ∧ d ≤ 1000000) ∧ ¬ c = v 2 a 3
      · rw [if_pos q]
        have hl1 := (h.l a ca.1 ca.2).1
        have hl2 := (h.l a ca.1 ca.2).2.1
        unfold ICo at hl2
        have hw := h.w (v 2 a 1) (by omega) (by omega)
        have hp := h.p c cc.1 cc.2
        have hq := h.p (v 2 a 3) (by omega) (by omega)
        have hx := And.intro (IPx h cc) (And.intro (IPx h (a := v 6 (v 2 a 1) 1) (by omega)) (IPx h (a := v 2 a 3) (by omega)))
        unfold sp_X7_barredBy sp_X2_dealer sp_X7_numberOf sp_X6_barDaysLeft
        rw [e_lotAt h, if_pos ca, rB_ok, e_partyAt h, if_pos cc, rB_ok, x7_offer ca.1 q, rB_ok, x7_sale h ca cc, rB_ok]
        rcases salB_x v a b c d with ⟨f, e⟩ | ⟨f, e⟩ | ⟨f, e⟩ | ⟨f, e⟩ | ⟨f, e⟩ | ⟨f, e⟩ | e | e | e
        case' inr.inr.inr.inl => have hx := And.intro hx (IPx h (a := v 0 (v 2 a 6) 0) (by omega)).2
        all_goals rw [e]
        all_goals apply eq_wp
        all_goals dsimp only
        all_goals repeat' (first | (with_reducible refine wp_B ?_) | (with_reducible refine wp_ok ?_) | (with_reducible refine wp_ex ?_) | (with_reducible refine wp_chk ?_ ?_; (· (first | omega | (simp (decide := true) (disch := omega) only [hx, up_r, nw_r, i7 h, k9, df_a, df_16, w32_i, w64_i, ↓reduceIte, if_true, if_false, false_and, and_false, true_and, and_true, and_self, not_true, not_false_iff, true_or, or_true, false_or, or_false, upf, lcmp_l, lcmp_g, lcmp_e] <;> omega)))) | (with_reducible refine wp_t ?_ ?_; (· (first | omega | (simp (decide := true) (disch := omega) only [hx, up_r, nw_r, i7 h, k9, df_a, df_16, w32_i, w64_i, ↓reduceIte, if_true, if_false, false_and, and_false, true_and, and_true, and_self, not_true, not_false_iff, true_or, or_true, false_or, or_false, upf, lcmp_l, lcmp_g, lcmp_e] <;> omega)))) | (with_reducible refine wp_f ?_ ?_; (· (first | omega | (simp (decide := true) (disch := omega) only [hx, up_r, nw_r, i7 h, k9, df_a, df_16, w32_i, w64_i, ↓reduceIte, if_true, if_false, false_and, and_false, true_and, and_true, and_self, not_true, not_false_iff, true_or, or_true, false_or, or_false, upf, lcmp_l, lcmp_g, lcmp_e] <;> omega)))) | (with_reducible apply wp_up; (· (first | (simp (decide := true) (disch := omega) only [hx, up_r, nw_r, i7 h, k9, df_a, df_16, w32_i, w64_i, ↓reduceIte, if_true, if_false, false_and, and_false, true_and, and_true, and_self, not_true, not_false_iff, true_or, or_true, false_or, or_false, upf, lcmp_l, lcmp_g, lcmp_e] <;> rfl) | rfl)); (· (first | (simp (decide := true) (disch := omega) only [hx, up_r, nw_r, i7 h, k9, df_a, df_16, w32_i, w64_i, ↓reduceIte, if_true, if_false, false_and, and_false, true_and, and_true, and_self, not_true, not_false_iff, true_or, or_true, false_or, or_false, upf, lcmp_l, lcmp_g, lcmp_e] <;> rfl) | rfl)); (· (first | (simp (decide := true) (disch := omega) only [hx, up_r, nw_r, i7 h, k9, df_a, df_16, w32_i, w64_i, ↓reduceIte, if_true, if_false, false_and, and_false, true_and, and_true, and_self, not_true, not_false_iff, true_or, or_true, false_or, or_false, upf, lcmp_l, lcmp_g, lcmp_e] <;> rfl) | rfl))) | (with_reducible apply wp_nw; (· (first | (simp (decide := true) (disch := omega) only [hx, up_r, nw_r, i7 h, k9, df_a, df_16, w32_i, w64_i, ↓reduceIte, if_true, if_false, false_and, and_false, true_and, and_true, and_self, not_true, not_false_iff, true_or, or_true, false_or, or_false, upf, lcmp_l, lcmp_g, lcmp_e] <;> rfl) | rfl))) | (with_reducible refine wp_7party_t h ?_ ?_; (· omega)) | (with_reducible refine wp_7party_f h ?_ ?_; (· omega)) | (with_reducible refine wp_7work_t h ?_ ?_; (· omega)) | (with_reducible refine wp_7work_f h ?_ ?_; (· omega)) | (with_reducible refine wp_7lot_t h ?_ ?_; (· omega)) | (with_reducible refine wp_7lot_f h ?_ ?_; (· omega)) | (with_reducible refine wp_7loan_t h ?_ ?_; (· omega)) | (with_reducible refine wp_7loan_f h ?_ ?_; (· omega)) | (with_reducible refine wp_st0 ?_) | (with_reducible refine wp_st1 ?_ ?_; (· omega)) | (with_reducible refine wp_range_t ?_ ?_; (· omega)) | (with_reducible refine wp_range_f ?_ ?_; (· omega)) | (with_reducible refine wp_7land_t ?_ ?_; (· omega)) | (with_reducible refine wp_7land_f ?_ ?_; (· omega)) | (with_reducible refine wp_other_t ?_ ?_; (· omega)) | (with_reducible refine wp_other_f ?_ ?_; (· omega)) | (with_reducible refine wp_range (fun _ => ?_) (fun _ => ?_)) | (with_reducible refine wp_7land (fun _ => ?_) (fun _ => ?_)) | (with_reducible refine wp_other (fun _ => ?_) (fun _ => ?_)) | (with_reducible refine wp_max (fun hc => ?_) (fun hc => ?_); all_goals (try simp (decide := true) (disch := omega) only [hx, up_r, nw_r, i7 h, k9, df_a, df_16, w32_i, w64_i, ↓reduceIte, if_true, if_false, false_and, and_false, true_and, and_true, and_self, not_true, not_false_iff, true_or, or_true, false_or, or_false, upf, lcmp_l, lcmp_g, lcmp_e] at hc)) | (with_reducible refine wp_i (fun hc => ?_) (fun hc => ?_); all_goals (try simp (decide := true) (disch := omega) only [hx, up_r, nw_r, i7 h, k9, df_a, df_16, w32_i, w64_i, ↓reduceIte, if_true, if_false, false_and, and_false, true_and, and_true, and_self, not_true, not_false_iff, true_or, or_true, false_or, or_false, upf, lcmp_l, lcmp_g, lcmp_e] at hc)) | (with_reducible refine wp_7val h ?_ ?_ ?_; (· (first | omega | (simp (decide := true) (disch := omega) only [hx, up_r, nw_r, i7 h, k9, df_a, df_16, w32_i, w64_i, ↓reduceIte, if_true, if_false, false_and, and_false, true_and, and_true, and_self, not_true, not_false_iff, true_or, or_true, false_or, or_false, upf, lcmp_l, lcmp_g, lcmp_e] <;> omega))); (· (first | omega | (simp (decide := true) (disch := omega) only [hx, up_r, nw_r, i7 h, k9, df_a, df_16, w32_i, w64_i, ↓reduceIte, if_true, if_false, false_and, and_false, true_and, and_true, and_self, not_true, not_false_iff, true_or, or_true, false_or, or_false, upf, lcmp_l, lcmp_g, lcmp_e] <;> omega)))) | (with_reducible refine wp_7wor h ?_ ?_ ?_; (· (first | omega | (simp (decide := true) (disch := omega) only [hx, up_r, nw_r, i7 h, k9, df_a, df_16, w32_i, w64_i, ↓reduceIte, if_true, if_false, false_and, and_false, true_and, and_true, and_self, not_true, not_false_iff, true_or, or_true, false_or, or_false, upf, lcmp_l, lcmp_g, lcmp_e] <;> omega))); (· (first | omega | (simp (decide := true) (disch := omega) only [hx, up_r, nw_r, i7 h, k9, df_a, df_16, w32_i, w64_i, ↓reduceIte, if_true, if_false, false_and, and_false, true_and, and_true, and_self, not_true, not_false_iff, true_or, or_true, false_or, or_false, upf, lcmp_l, lcmp_g, lcmp_e] <;> omega)))) | (with_reducible refine wp_7owe h ?_ ?_ ?_; (· (first | omega | (simp (decide := true) (disch := omega) only [hx, up_r, nw_r, i7 h, k9, df_a, df_16, w32_i, w64_i, ↓reduceIte, if_true, if_false, false_and, and_false, true_and, and_true, and_self, not_true, not_false_iff, true_or, or_true, false_or, or_false, upf, lcmp_l, lcmp_g, lcmp_e] <;> omega))); (· (first | omega | (simp (decide := true) (disch := omega) only [hx, up_r, nw_r, i7 h, k9, df_a, df_16, w32_i, w64_i, ↓reduceIte, if_true, if_false, false_and, and_false, true_and, and_true, and_self, not_true, not_false_iff, true_or, or_true, false_or, or_false, upf, lcmp_l, lcmp_g, lcmp_e] <;> omega)))) | (with_reducible refine wp_7dbt h ?_ (fun _ => ?_); (· omega)) | (with_reducible refine wp_x7_ph h ?_) | (with_reducible refine wp_x7_ob h ?_) | (with_reducible refine wp_x7_ot h ?_) | (with_reducible refine wp_x7_lp h ?_) | (with_reducible refine wp_x7_wu h (fun _ _ => ?_)) | (with_reducible refine wp_x7_wh h (fun _ _ => ?_)) | (with_reducible refine wp_bc h ?_ ?_; (· omega)) | (with_reducible refine wp_chain h ?_ ?_; (· omega)))
        all_goals (refine ⟨?_, rfl⟩; first | rfl | omega | (simp (decide := true) (disch := omega) only [hx, up_r, nw_r, i7 h, k9, df_a, df_16, w32_i, w64_i, ↓reduceIte, if_true, if_false, false_and, and_false, true_and, and_true, and_self, not_true, not_false_iff, true_or, or_true, false_or, or_false, upf, lcmp_l, lcmp_g, lcmp_e] <;> omega))
      · rw [if_neg q]
        unfold sp_X7_barredBy
        rw [e_lotAt h, if_pos ca, rB_ok, e_partyAt h, if_pos cc, rB_ok, x7_offer_e ca.1 q, rB_ex]
    · rw [if_neg (fun z => cc z.2)]
      unfold sp_X7_barredBy
      rw [e_lotAt h, if_pos ca, rB_ok, e_partyAt h, if_neg cc, rB_ex]
  · rw [if_neg (fun z => ca z.1)]
    unfold sp_X7_barredBy
    rw [e_lotAt h, if_neg ca, rB_ex]
end Br

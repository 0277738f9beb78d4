/-! PURE 14: release, repay, seize, fail -/
section Re
variable {v u w : V} {Q : Int → V → Prop} {E : Nat → V → Prop} {a b c d p q s t z l : Int}
/-- what differs lies in the slot j0 of lots -/
def Ol (v u : V) (j0 : Int) : Prop := ∀ (K : Nat) (i j : Int), ¬ K = 2 ∨ ¬ j = j0 → u K i j = v K i j
/-- the lots below t that hung on the loan a are free -/
def Rl (v u : V) (a t : Int) : Prop := Ol v u 5 ∧ ∀ i : Int, (u 2 i 5 = v 2 i 5 ∧ ¬ (0 ≤ i ∧ i < t ∧ v 2 i 5 = a)) ∨ u 2 i 5 = -1
theorem rel_lp (hN : v 7 0 7 = l) (hN2 : 0 ≤ l ∧ l ≤ 60) (h2 : v 7 0 2 = 0) (h12 : ∀ s, 0 ≤ s → s < l → v 12 0 s = s) (ha : 0 ≤ a) (k : V → Int → Int → Res) : ∀ (n : Nat) (u : V) (acc t : Int), Rl v u a t → 0 ≤ t → t ≤ l → l - t < n → 0 ≤ acc → acc ≤ t → ∃ u' z m, Rl v u' a l ∧ 0 ≤ z ∧ lp_X7_release_9 0 a k n u acc t = k u' z m := by
  intro n
  induction n with
  | zero => intro u acc t r h0 h1 h2; omega
  | succ n ih =>
    intro u acc t r h0 h1 h3 h4 h5
    unfold lp_X7_release_9
    rw [r.1 7 0 7 (by omega), hN, r.1 7 0 2 (by omega), h2, r.1 12 0 t (by omega)]
    by_cases q : l ≤ t
    · have : t = l := by omega
      subst this
      exact ⟨u, acc, t, r, h4, by rw [if_pos q]⟩
    · have e3 : w32 (t + 1) = t + 1 := w32_i (by omega) (by omega)
      rw [if_neg q, chk_t (by omega), chk_t (by omega), h12 t h0 (by omega), chk_t h0, e3]
      have rt := r.2 t
      by_cases c : u 2 t 5 = a
      · rw [if_pos c, rLet_r, w32_i (z := acc + 1) (by omega) (by omega)]
        refine ih _ (acc + 1) (t + 1) ⟨fun K i j g => ?_, fun i => ?_⟩ (by omega) (by omega) (by omega) (by omega) (by omega)
        · rw [up_o (by omega)]
          exact r.1 K i j g
        · by_cases e : i = t
          · subst e
            right
            rw [up_r, if_pos ⟨rfl, rfl, rfl⟩]
          · rw [up_o (by omega)]
            have := r.2 i
            omega
      · rw [if_neg c]
        refine ih u acc (t + 1) ⟨r.1, fun i => ?_⟩ (by omega) (by omega) (by omega) (by omega) (by omega)
        by_cases e : i = t
        · subst e
          omega
        · have := r.2 i
          omega
/-- what a release leaves -/
theorem x7_rel (h : Inv v) (ca : 0 ≤ a ∧ a < v 7 0 8) : ∃ u z, sp_X7_release 0 a v = rOk z u ∧ 0 ≤ z ∧ Inv u ∧ Kp v u := by
  have hs := h.s
  unfold IS at hs
  have hn := h.n a ca.1 ca.2
  have c7 := i7 h
  have g7 : ∀ i j, up v 1 a 7 1 7 i j = v 7 i j := fun i j => up_o (by omega)
  have g12 : ∀ i j, up v 1 a 7 1 12 i j = v 12 i j := fun i j => up_o (by omega)
  obtain ⟨u, z, m, r, hz, e⟩ := rel_lp (v := up v 1 a 7 1) (l := v 7 0 7) (a := a) (g7 0 7) (by omega) (by rw [g7]; exact c7.2.2.1) (fun s g0 g1 => by rw [g12]; exact (ILx h ⟨g0, g1⟩).1) ca.1 (fun v9 u9_2 u9_3 => (rOk u9_2 v9)) 200 (up v 1 a 7 1) 0 0 ⟨fun _ _ _ _ => rfl, fun i => Or.inl ⟨rfl, by omega⟩⟩ (by omega) (by omega) (by omega) (by omega) (by omega)
  refine ⟨u, z, ?_, hz, ?_, ?_⟩
  · unfold sp_X7_release
    rw [chk_t ca.1, rLet_r, e]
  · have o : ∀ (K : Nat) (i j : Int), ¬ K = 2 ∨ ¬ j = 5 → (¬ K = 1 ∨ ¬ j = 7) → u K i j = v K i j := fun K i j g1 g2 => by
      rw [r.1 K i j g1, up_o (by omega)]
    have o1 : ∀ i : Int, u 1 i 7 = if i = a then 1 else v 1 i 7 := fun i => by
      rw [r.1 1 i 7 (by omega), up_r]
      by_cases e : i = a
      · rw [if_pos ⟨rfl, e, rfl⟩, if_pos e]
      · rw [if_neg (fun x => e x.2.1), if_neg e]
    have o5 : ∀ i : Int, (u 2 i 5 = v 2 i 5 ∧ ¬ (0 ≤ i ∧ i < v 7 0 7 ∧ v 2 i 5 = a)) ∨ u 2 i 5 = -1 := fun i => by
      have := r.2 i
      rw [up_o (K' := 2) (by omega)] at this
      exact this
    have e7 : ∀ i j : Int, u 7 i j = v 7 i j := fun i j => o 7 i j (by omega) (by omega)
    have oo : ∀ (K : Nat), ¬ K = 2 → ¬ K = 1 → ∀ i j : Int, u K i j = v K i j := fun K h1 h2 i j => o K i j (Or.inl h1) (Or.inl h2)
    refine ⟨?_, ?_, ?_, ?_, ?_, ?_, ?_, ?_, ?_, ?_, ?_⟩
    · have := h.s
      unfold IS at *
      simp only [e7, oo 98 (by decide) (by decide)]
      exact this
    · have := h.r
      unfold IR at *
      simp only [oo 14 (by decide) (by decide)]
      exact this
    · have := h.p
      unfold IP at *
      simp only [e7, oo 10 (by decide) (by decide), oo 3 (by decide) (by decide)]
      exact this
    · have := h.b
      unfold IB at *
      simp only [e7, oo 6 (by decide) (by decide), oo 3 (by decide) (by decide)]
      exact this
    · have := h.w
      unfold IW at *
      simp only [e7, oo 11 (by decide) (by decide), oo 6 (by decide) (by decide)]
      exact this
    · have := h.d
      unfold ID at *
      simp only [e7, oo 15 (by decide) (by decide), oo 6 (by decide) (by decide), oo 5 (by decide) (by decide)]
      exact this
    · intro i g0 g1
      rw [e7] at g1
      have hi := h.l i g0 g1
      have hi5 := o5 i
      have hi1 := o1 (v 2 i 5)
      unfold ICo ISa at *
      simp only [e7, oo 12 (by decide) (by decide), oo 0 (by decide) (by decide), oo 4 (by decide) (by decide), oo 98 (by decide) (by decide), (fun i => o 2 i 0 (by omega) (by omega) : ∀ i, u 2 i 0 = v 2 i 0), (fun i => o 2 i 1 (by omega) (by omega) : ∀ i, u 2 i 1 = v 2 i 1), (fun i => o 2 i 2 (by omega) (by omega) : ∀ i, u 2 i 2 = v 2 i 2), (fun i => o 2 i 3 (by omega) (by omega) : ∀ i, u 2 i 3 = v 2 i 3), (fun i => o 2 i 4 (by omega) (by omega) : ∀ i, u 2 i 4 = v 2 i 4), (fun i => o 2 i 6 (by omega) (by omega) : ∀ i, u 2 i 6 = v 2 i 6), (fun i => o 2 i 7 (by omega) (by omega) : ∀ i, u 2 i 7 = v 2 i 7)]
      rcases hi5 with ⟨h5, h6⟩ | h5
      · rw [h5]
        rw [if_neg (by omega)] at hi1
        rw [hi1]
        exact hi
      · rw [h5]
        refine ⟨?_, hi.2⟩
        omega
    · intro i g0 g1
      rw [e7] at g1
      have hi := h.n i g0 g1
      have hi1 := o1 i
      simp only [e7, oo 13 (by decide) (by decide), (fun i => o 1 i 0 (by omega) (by omega) : ∀ i, u 1 i 0 = v 1 i 0), (fun i => o 1 i 1 (by omega) (by omega) : ∀ i, u 1 i 1 = v 1 i 1), (fun i => o 1 i 2 (by omega) (by omega) : ∀ i, u 1 i 2 = v 1 i 2), (fun i => o 1 i 3 (by omega) (by omega) : ∀ i, u 1 i 3 = v 1 i 3), (fun i => o 1 i 4 (by omega) (by omega) : ∀ i, u 1 i 4 = v 1 i 4), (fun i => o 1 i 5 (by omega) (by omega) : ∀ i, u 1 i 5 = v 1 i 5), (fun i => o 1 i 6 (by omega) (by omega) : ∀ i, u 1 i 6 = v 1 i 6)]
      rw [hi1]
      split <;> omega
    · have := h.a
      unfold IA at *
      simp only [e7, oo 99 (by decide) (by decide), oo 6 (by decide) (by decide), oo 98 (by decide) (by decide)]
      exact this
    · have := h.m
      unfold IM mon monF at *
      simp only [e7, oo 3 (by decide) (by decide)]
      exact this
    · have := h.t
      unfold IT ptF at *
      simp only [e7, (fun i => o 2 i 1 (by omega) (by omega) : ∀ i, u 2 i 1 = v 2 i 1), (fun i => o 2 i 4 (by omega) (by omega) : ∀ i, u 2 i 4 = v 2 i 4)]
      exact this
  · have o : ∀ (K : Nat) (i j : Int), ¬ K = 2 → ¬ K = 1 → u K i j = v K i j := fun K i j g1 g2 => by
      rw [r.1 K i j (Or.inl g1), up_o (by omega)]
    unfold Kp mon monF
    simp only [(fun i j => o 7 i j (by decide) (by decide) : ∀ i j, u 7 i j = v 7 i j), (fun i j => o 3 i j (by decide) (by decide) : ∀ i j, u 3 i j = v 3 i j), (fun i j => o 99 i j (by decide) (by decide) : ∀ i j, u 99 i j = v 99 i j)]
    exact ⟨trivial, trivial, trivial, trivial, trivial⟩
theorem wp_rel (h : Inv v) (ca : 0 ≤ a ∧ a < v 7 0 8) (hk : ∀ u z, 0 ≤ z → Inv u → Kp v u → Q z u) : Wp (sp_X7_release 0 a v) Q E := by
  obtain ⟨u, z, e, g1, g2, g3⟩ := x7_rel h ca
  rw [e]
  exact hk u z g1 g2 g3
theorem nz_repay (h : Inv v) : Nz v (sp_X7_repay 0 a v) := by
  have hx : (0 : Int) = 0 := rfl
  have hs := h.s
  unfold IS at hs
  unfold Nz sp_X7_repay
  by_cases ca : 0 ≤ a ∧ a < v 7 0 8
  · have hn := h.n a ca.1 ca.2
    have hp := h.p (v 1 a 1) (by omega) (by omega)
    have ho := oweF_b h ca
    repeat' (first | ((with_reducible refine wp_pay h (by omega) (by omega) (by omega) ?_); intro u hu o kp _; have o8 := o 7 0 8 (by omega)) | ((with_reducible refine wp_rel hu (by rw [o8]; exact ca) ?_); intro u2 z2 hz2 hu2 kp2) | first | (with_reducible refine wp_B ?_) | (with_reducible refine wp_ok ?_) | (with_reducible refine wp_ex ?_) | (with_reducible refine wp_chk ?_ ?_; (· (first | omega | (simp (decide := true) (disch := omega) only [hx, up_r, nw_r, i7 h, k9, df_a, df_16, w32_i, w64_i, ↓reduceIte, if_true, if_false, false_and, and_false, true_and, and_true, and_self, not_true, not_false_iff, true_or, or_true, false_or, or_false, upf, lcmp_l, lcmp_g, lcmp_e] <;> omega)))) | (with_reducible refine wp_t ?_ ?_; (· (first | omega | (simp (decide := true) (disch := omega) only [hx, up_r, nw_r, i7 h, k9, df_a, df_16, w32_i, w64_i, ↓reduceIte, if_true, if_false, false_and, and_false, true_and, and_true, and_self, not_true, not_false_iff, true_or, or_true, false_or, or_false, upf, lcmp_l, lcmp_g, lcmp_e] <;> omega)))) | (with_reducible refine wp_f ?_ ?_; (· (first | omega | (simp (decide := true) (disch := omega) only [hx, up_r, nw_r, i7 h, k9, df_a, df_16, w32_i, w64_i, ↓reduceIte, if_true, if_false, false_and, and_false, true_and, and_true, and_self, not_true, not_false_iff, true_or, or_true, false_or, or_false, upf, lcmp_l, lcmp_g, lcmp_e] <;> omega)))) | (with_reducible apply wp_up; (· (first | (simp (decide := true) (disch := omega) only [hx, up_r, nw_r, i7 h, k9, df_a, df_16, w32_i, w64_i, ↓reduceIte, if_true, if_false, false_and, and_false, true_and, and_true, and_self, not_true, not_false_iff, true_or, or_true, false_or, or_false, upf, lcmp_l, lcmp_g, lcmp_e] <;> rfl) | rfl)); (· (first | (simp (decide := true) (disch := omega) only [hx, up_r, nw_r, i7 h, k9, df_a, df_16, w32_i, w64_i, ↓reduceIte, if_true, if_false, false_and, and_false, true_and, and_true, and_self, not_true, not_false_iff, true_or, or_true, false_or, or_false, upf, lcmp_l, lcmp_g, lcmp_e] <;> rfl) | rfl)); (· (first | (simp (decide := true) (disch := omega) only [hx, up_r, nw_r, i7 h, k9, df_a, df_16, w32_i, w64_i, ↓reduceIte, if_true, if_false, false_and, and_false, true_and, and_true, and_self, not_true, not_false_iff, true_or, or_true, false_or, or_false, upf, lcmp_l, lcmp_g, lcmp_e] <;> rfl) | rfl))) | (with_reducible apply wp_nw; (· (first | (simp (decide := true) (disch := omega) only [hx, up_r, nw_r, i7 h, k9, df_a, df_16, w32_i, w64_i, ↓reduceIte, if_true, if_false, false_and, and_false, true_and, and_true, and_self, not_true, not_false_iff, true_or, or_true, false_or, or_false, upf, lcmp_l, lcmp_g, lcmp_e] <;> rfl) | rfl))) | (with_reducible refine wp_7party_t h ?_ ?_; (· omega)) | (with_reducible refine wp_7party_f h ?_ ?_; (· omega)) | (with_reducible refine wp_7work_t h ?_ ?_; (· omega)) | (with_reducible refine wp_7work_f h ?_ ?_; (· omega)) | (with_reducible refine wp_7lot_t h ?_ ?_; (· omega)) | (with_reducible refine wp_7lot_f h ?_ ?_; (· omega)) | (with_reducible refine wp_7loan_t h ?_ ?_; (· omega)) | (with_reducible refine wp_7loan_f h ?_ ?_; (· omega)) | (with_reducible refine wp_st0 ?_) | (with_reducible refine wp_st1 ?_ ?_; (· omega)) | (with_reducible refine wp_range_t ?_ ?_; (· omega)) | (with_reducible refine wp_range_f ?_ ?_; (· omega)) | (with_reducible refine wp_7land_t ?_ ?_; (· omega)) | (with_reducible refine wp_7land_f ?_ ?_; (· omega)) | (with_reducible refine wp_other_t ?_ ?_; (· omega)) | (with_reducible refine wp_other_f ?_ ?_; (· omega)) | (with_reducible refine wp_range (fun _ => ?_) (fun _ => ?_)) | (with_reducible refine wp_7land (fun _ => ?_) (fun _ => ?_)) | (with_reducible refine wp_other (fun _ => ?_) (fun _ => ?_)) | (with_reducible refine wp_max (fun hc => ?_) (fun hc => ?_); all_goals (try simp (decide := true) (disch := omega) only [hx, up_r, nw_r, i7 h, k9, df_a, df_16, w32_i, w64_i, ↓reduceIte, if_true, if_false, false_and, and_false, true_and, and_true, and_self, not_true, not_false_iff, true_or, or_true, false_or, or_false, upf, lcmp_l, lcmp_g, lcmp_e] at hc)) | (with_reducible refine wp_i (fun hc => ?_) (fun hc => ?_); all_goals (try simp (decide := true) (disch := omega) only [hx, up_r, nw_r, i7 h, k9, df_a, df_16, w32_i, w64_i, ↓reduceIte, if_true, if_false, false_and, and_false, true_and, and_true, and_self, not_true, not_false_iff, true_or, or_true, false_or, or_false, upf, lcmp_l, lcmp_g, lcmp_e] at hc)) | (with_reducible refine wp_7val h ?_ ?_ ?_; (· (first | omega | (simp (decide := true) (disch := omega) only [hx, up_r, nw_r, i7 h, k9, df_a, df_16, w32_i, w64_i, ↓reduceIte, if_true, if_false, false_and, and_false, true_and, and_true, and_self, not_true, not_false_iff, true_or, or_true, false_or, or_false, upf, lcmp_l, lcmp_g, lcmp_e] <;> omega))); (· (first | omega | (simp (decide := true) (disch := omega) only [hx, up_r, nw_r, i7 h, k9, df_a, df_16, w32_i, w64_i, ↓reduceIte, if_true, if_false, false_and, and_false, true_and, and_true, and_self, not_true, not_false_iff, true_or, or_true, false_or, or_false, upf, lcmp_l, lcmp_g, lcmp_e] <;> omega)))) | (with_reducible refine wp_7wor h ?_ ?_ ?_; (· (first | omega | (simp (decide := true) (disch := omega) only [hx, up_r, nw_r, i7 h, k9, df_a, df_16, w32_i, w64_i, ↓reduceIte, if_true, if_false, false_and, and_false, true_and, and_true, and_self, not_true, not_false_iff, true_or, or_true, false_or, or_false, upf, lcmp_l, lcmp_g, lcmp_e] <;> omega))); (· (first | omega | (simp (decide := true) (disch := omega) only [hx, up_r, nw_r, i7 h, k9, df_a, df_16, w32_i, w64_i, ↓reduceIte, if_true, if_false, false_and, and_false, true_and, and_true, and_self, not_true, not_false_iff, true_or, or_true, false_or, or_false, upf, lcmp_l, lcmp_g, lcmp_e] <;> omega)))) | (with_reducible refine wp_7owe h ?_ ?_ ?_; (· (first | omega | (simp (decide := true) (disch := omega) only [hx, up_r, nw_r, i7 h, k9, df_a, df_16, w32_i, w64_i, ↓reduceIte, if_true, if_false, false_and, and_false, true_and, and_true, and_self, not_true, not_false_iff, true_or, or_true, false_or, or_false, upf, lcmp_l, lcmp_g, lcmp_e] <;> omega))); (· (first | omega | (simp (decide := true) (disch := omega) only [hx, up_r, nw_r, i7 h, k9, df_a, df_16, w32_i, w64_i, ↓reduceIte, if_true, if_false, false_and, and_false, true_and, and_true, and_self, not_true, not_false_iff, true_or, or_true, false_or, or_false, upf, lcmp_l, lcmp_g, lcmp_e] <;> omega)))) | (with_reducible refine wp_7dbt h ?_ (fun _ => ?_); (· omega)) | (with_reducible refine wp_x7_ph h ?_) | (with_reducible refine wp_x7_ob h ?_) | (with_reducible refine wp_x7_ot h ?_) | (with_reducible refine wp_x7_lp h ?_) | (with_reducible refine wp_x7_wu h (fun _ _ => ?_)) | (with_reducible refine wp_x7_wh h (fun _ _ => ?_)) | (with_reducible refine wp_bc h ?_ ?_; (· omega)) | (with_reducible refine wp_chain h ?_ ?_; (· omega)))
    all_goals try (first | exact ⟨Or.inl rfl, rfl⟩ | exact ⟨Or.inr (Or.inl rfl), rfl⟩ | exact ⟨Or.inr (Or.inr rfl), rfl⟩)
    exact ⟨by omega, kp.tr kp2, hu2⟩
  · repeat' (first | (with_reducible refine wp_B ?_) | (with_reducible refine wp_ok ?_) | (with_reducible refine wp_ex ?_) | (with_reducible refine wp_chk ?_ ?_; (· (first | omega | (simp (decide := true) (disch := omega) only [hx, up_r, nw_r, i7 h, k9, df_a, df_16, w32_i, w64_i, ↓reduceIte, if_true, if_false, false_and, and_false, true_and, and_true, and_self, not_true, not_false_iff, true_or, or_true, false_or, or_false, upf, lcmp_l, lcmp_g, lcmp_e] <;> omega)))) | (with_reducible refine wp_t ?_ ?_; (· (first | omega | (simp (decide := true) (disch := omega) only [hx, up_r, nw_r, i7 h, k9, df_a, df_16, w32_i, w64_i, ↓reduceIte, if_true, if_false, false_and, and_false, true_and, and_true, and_self, not_true, not_false_iff, true_or, or_true, false_or, or_false, upf, lcmp_l, lcmp_g, lcmp_e] <;> omega)))) | (with_reducible refine wp_f ?_ ?_; (· (first | omega | (simp (decide := true) (disch := omega) only [hx, up_r, nw_r, i7 h, k9, df_a, df_16, w32_i, w64_i, ↓reduceIte, if_true, if_false, false_and, and_false, true_and, and_true, and_self, not_true, not_false_iff, true_or, or_true, false_or, or_false, upf, lcmp_l, lcmp_g, lcmp_e] <;> omega)))) | (with_reducible apply wp_up; (· (first | (simp (decide := true) (disch := omega) only [hx, up_r, nw_r, i7 h, k9, df_a, df_16, w32_i, w64_i, ↓reduceIte, if_true, if_false, false_and, and_false, true_and, and_true, and_self, not_true, not_false_iff, true_or, or_true, false_or, or_false, upf, lcmp_l, lcmp_g, lcmp_e] <;> rfl) | rfl)); (· (first | (simp (decide := true) (disch := omega) only [hx, up_r, nw_r, i7 h, k9, df_a, df_16, w32_i, w64_i, ↓reduceIte, if_true, if_false, false_and, and_false, true_and, and_true, and_self, not_true, not_false_iff, true_or, or_true, false_or, or_false, upf, lcmp_l, lcmp_g, lcmp_e] <;> rfl) | rfl)); (· (first | (simp (decide := true) (disch := omega) only [hx, up_r, nw_r, i7 h, k9, df_a, df_16, w32_i, w64_i, ↓reduceIte, if_true, if_false, false_and, and_false, true_and, and_true, and_self, not_true, not_false_iff, true_or, or_true, false_or, or_false, upf, lcmp_l, lcmp_g, lcmp_e] <;> rfl) | rfl))) | (with_reducible apply wp_nw; (· (first | (simp (decide := true) (disch := omega) only [hx, up_r, nw_r, i7 h, k9, df_a, df_16, w32_i, w64_i, ↓reduceIte, if_true, if_false, false_and, and_false, true_and, and_true, and_self, not_true, not_false_iff, true_or, or_true, false_or, or_false, upf, lcmp_l, lcmp_g, lcmp_e] <;> rfl) | rfl))) | (with_reducible refine wp_7party_t h ?_ ?_; (· omega)) | (with_reducible refine wp_7party_f h ?_ ?_; (· omega)) | (with_reducible refine wp_7work_t h ?_ ?_; (· omega)) | (with_reducible refine wp_7work_f h ?_ ?_; (· omega)) | (with_reducible refine wp_7lot_t h ?_ ?_; (· omega)) | (with_reducible refine wp_7lot_f h ?_ ?_; (· omega)) | (with_reducible refine wp_7loan_t h ?_ ?_; (· omega)) | (with_reducible refine wp_7loan_f h ?_ ?_; (· omega)) | (with_reducible refine wp_st0 ?_) | (with_reducible refine wp_st1 ?_ ?_; (· omega)) | (with_reducible refine wp_range_t ?_ ?_; (· omega)) | (with_reducible refine wp_range_f ?_ ?_; (· omega)) | (with_reducible refine wp_7land_t ?_ ?_; (· omega)) | (with_reducible refine wp_7land_f ?_ ?_; (· omega)) | (with_reducible refine wp_other_t ?_ ?_; (· omega)) | (with_reducible refine wp_other_f ?_ ?_; (· omega)) | (with_reducible refine wp_range (fun _ => ?_) (fun _ => ?_)) | (with_reducible refine wp_7land (fun _ => ?_) (fun _ => ?_)) | (with_reducible refine wp_other (fun _ => ?_) (fun _ => ?_)) | (with_reducible refine wp_max (fun hc => ?_) (fun hc => ?_); all_goals (try simp (decide := true) (disch := omega) only [hx, up_r, nw_r, i7 h, k9, df_a, df_16, w32_i, w64_i, ↓reduceIte, if_true, if_false, false_and, and_false, true_and, and_true, and_self, not_true, not_false_iff, true_or, or_true, false_or, or_false, upf, lcmp_l, lcmp_g, lcmp_e] at hc)) | (with_reducible refine wp_i (fun hc => ?_) (fun hc => ?_); all_goals (try simp (decide := true) (disch := omega) only [hx, up_r, nw_r, i7 h, k9, df_a, df_16, w32_i, w64_i, ↓reduceIte, if_true, if_false, false_and, and_false, true_and, and_true, and_self, not_true, not_false_iff, true_or, or_true, false_or, or_false, upf, lcmp_l, lcmp_g, lcmp_e] at hc)) | (with_reducible refine wp_7val h ?_ ?_ ?_; (· (first | omega | (simp (decide := true) (disch := omega) only [hx, up_r, nw_r, i7 h, k9, df_a, df_16, w32_i, w64_i, ↓reduceIte, if_true, if_false, false_and, and_false, true_and, and_true, and_self, not_true, not_false_iff, true_or, or_true, false_or, or_false, upf, lcmp_l, lcmp_g, lcmp_e] <;> omega))); (· (first | omega | (simp (decide := true) (disch := omega) only [hx, up_r, nw_r, i7 h, k9, df_a, df_16, w32_i, w64_i, ↓reduceIte, if_true, if_false, false_and, and_false, true_and, and_true, and_self, not_true, not_false_iff, true_or, or_true, false_or, or_false, upf, lcmp_l, lcmp_g, lcmp_e] <;> omega)))) | (with_reducible refine wp_7wor h ?_ ?_ ?_; (· (first | omega | (simp (decide := true) (disch := omega) only [hx, up_r, nw_r, i7 h, k9, df_a, df_16, w32_i, w64_i, ↓reduceIte, if_true, if_false, false_and, and_false, true_and, and_true, and_self, not_true, not_false_iff, true_or, or_true, false_or, or_false, upf, lcmp_l, lcmp_g, lcmp_e] <;> omega))); (· (first | omega | (simp (decide := true) (disch := omega) only [hx, up_r, nw_r, i7 h, k9, df_a, df_16, w32_i, w64_i, ↓reduceIte, if_true, if_false, false_and, and_false, true_and, and_true, and_self, not_true, not_false_iff, true_or, or_true, false_or, or_false, upf, lcmp_l, lcmp_g, lcmp_e] <;> omega)))) | (with_reducible refine wp_7owe h ?_ ?_ ?_; (· (first | omega | (simp (decide := true) (disch := omega) only [hx, up_r, nw_r, i7 h, k9, df_a, df_16, w32_i, w64_i, ↓reduceIte, if_true, if_false, false_and, and_false, true_and, and_true, and_self, not_true, not_false_iff, true_or, or_true, false_or, or_false, upf, lcmp_l, lcmp_g, lcmp_e] <;> omega))); (· (first | omega | (simp (decide := true) (disch := omega) only [hx, up_r, nw_r, i7 h, k9, df_a, df_16, w32_i, w64_i, ↓reduceIte, if_true, if_false, false_and, and_false, true_and, and_true, and_self, not_true, not_false_iff, true_or, or_true, false_or, or_false, upf, lcmp_l, lcmp_g, lcmp_e] <;> omega)))) | (with_reducible refine wp_7dbt h ?_ (fun _ => ?_); (· omega)) | (with_reducible refine wp_x7_ph h ?_) | (with_reducible refine wp_x7_ob h ?_) | (with_reducible refine wp_x7_ot h ?_) | (with_reducible refine wp_x7_lp h ?_) | (with_reducible refine wp_x7_wu h (fun _ _ => ?_)) | (with_reducible refine wp_x7_wh h (fun _ _ => ?_)) | (with_reducible refine wp_bc h ?_ ?_; (· omega)) | (with_reducible refine wp_chain h ?_ ?_; (· omega)))
    all_goals (first | exact ⟨Or.inl rfl, rfl⟩ | exact ⟨Or.inr (Or.inl rfl), rfl⟩ | exact ⟨Or.inr (Or.inr rfl), rfl⟩)
/-- the lots below t that hung on the loan a are the lender's -/
def Tk (v u : V) (l : Int) : Prop := (∀ (K : Nat) (i j : Int), ¬ K = 2 ∨ (¬ j = 3 ∧ ¬ j = 6 ∧ ¬ j = 7) → u K i j = v K i j) ∧ ∀ i : Int, (u 2 i 3 = v 2 i 3 ∧ u 2 i 6 = v 2 i 6 ∧ u 2 i 7 = v 2 i 7) ∨ (u 2 i 3 = l ∧ u 2 i 6 = -1 ∧ u 2 i 7 = -1)
theorem sz_lp (hN : v 7 0 7 = l) (hN2 : 0 ≤ l ∧ l ≤ 60) (h2 : v 7 0 2 = 0) (h12 : ∀ s, 0 ≤ s → s < l → v 12 0 s = s) (ha : 0 ≤ a) (k : V → Int → Res) : ∀ (n : Nat) (u : V) (t : Int), Tk v u (v 1 a 6) → 0 ≤ t → t ≤ l → l - t < n → ∃ u' m, Tk v u' (v 1 a 6) ∧ lp_X7_seize_34 0 b a k n u t = k u' m := by
  intro n
  induction n with
  | zero => intro u t r h0 h1 h2; omega
  | succ n ih =>
    intro u t r h0 h1 h3
    unfold lp_X7_seize_34
    rw [r.1 7 0 7 (by omega), hN, r.1 7 0 2 (by omega), h2, r.1 12 0 t (by omega)]
    by_cases q : l ≤ t
    · exact ⟨u, t, r, by rw [if_pos q]⟩
    · have e3 : w32 (t + 1) = t + 1 := w32_i (by omega) (by omega)
      rw [if_neg q, chk_t (by omega), chk_t (by omega), h12 t h0 (by omega), chk_t h0, e3]
      by_cases c : u 2 t 5 = a
      · rw [if_pos c, chk_t ha, r.1 1 a 6 (by omega)]
        unfold sp_X2_takeOver
        rw [rLet_r, rLet_r, rLet_r, rB_ok]
        refine ih _ (t + 1) ⟨fun K i j g => ?_, fun i => ?_⟩ (by omega) (by omega) (by omega)
        · rw [up_o (by omega), up_o (by omega), up_o (by omega)]
          exact r.1 K i j g
        · by_cases e : i = t
          · subst e
            right
            simp (decide := true) only [up_r, ↓reduceIte, true_and, and_true, and_false, false_and]
          · rw [up_o (by omega), up_o (by omega), up_o (by omega), up_o (by omega), up_o (by omega), up_o (by omega), up_o (by omega), up_o (by omega), up_o (by omega)]
            exact r.2 i
      · rw [if_neg c]
        exact ih u (t + 1) r (by omega) (by omega) (by omega)
theorem Inv_Tk (h : Inv v) (hl : 0 ≤ l ∧ l < v 7 0 5) (r : Tk v u l) : Inv u ∧ Kp v u := by
  obtain ⟨o, r2⟩ := r
  have e7 : ∀ i j : Int, u 7 i j = v 7 i j := fun i j => o 7 i j (by omega)
  have oo : ∀ (K : Nat), ¬ K = 2 → ∀ i j : Int, u K i j = v K i j := fun K h1 i j => o K i j (Or.inl h1)
  refine ⟨⟨?_, ?_, ?_, ?_, ?_, ?_, ?_, ?_, ?_, ?_, ?_⟩, ?_⟩
  · have := h.s
    unfold IS at *
    simp only [e7, oo 98 (by decide)]
    exact this
  · have := h.r
    unfold IR at *
    simp only [oo 14 (by decide)]
    exact this
  · have := h.p
    unfold IP at *
    simp only [e7, oo 10 (by decide), oo 3 (by decide)]
    exact this
  · have := h.b
    unfold IB at *
    simp only [e7, oo 6 (by decide), oo 3 (by decide)]
    exact this
  · have := h.w
    unfold IW at *
    simp only [e7, oo 11 (by decide), oo 6 (by decide)]
    exact this
  · have := h.d
    unfold ID at *
    simp only [e7, oo 15 (by decide), oo 6 (by decide), oo 5 (by decide)]
    exact this
  · intro i g0 g1
    rw [e7] at g1
    have hi := h.l i g0 g1
    have hr := r2 i
    unfold ICo ISa at *
    simp only [e7, oo 12 (by decide), oo 0 (by decide), oo 4 (by decide), oo 98 (by decide), oo 1 (by decide), (fun i => o 2 i 0 (by omega) : ∀ i, u 2 i 0 = v 2 i 0), (fun i => o 2 i 1 (by omega) : ∀ i, u 2 i 1 = v 2 i 1), (fun i => o 2 i 2 (by omega) : ∀ i, u 2 i 2 = v 2 i 2), (fun i => o 2 i 4 (by omega) : ∀ i, u 2 i 4 = v 2 i 4), (fun i => o 2 i 5 (by omega) : ∀ i, u 2 i 5 = v 2 i 5)]
    rcases hr with ⟨h1, h2, h3⟩ | ⟨h1, h2, h3⟩
    · rw [h1, h2, h3]
      exact hi
    · rw [h1, h2, h3]
      refine ⟨?_, Or.inl rfl, Or.inl rfl⟩
      have hi1 := hi.1
      omega
  · have := h.n
    unfold IN at *
    simp only [e7, oo 13 (by decide), oo 1 (by decide)]
    exact this
  · have := h.a
    unfold IA at *
    simp only [e7, oo 99 (by decide), oo 6 (by decide), oo 98 (by decide)]
    exact this
  · have := h.m
    unfold IM mon monF at *
    simp only [e7, oo 3 (by decide)]
    exact this
  · have := h.t
    unfold IT ptF at *
    simp only [e7, (fun i => o 2 i 1 (by omega) : ∀ i, u 2 i 1 = v 2 i 1), (fun i => o 2 i 4 (by omega) : ∀ i, u 2 i 4 = v 2 i 4)]
    exact this
  · unfold Kp mon monF
    simp only [e7, oo 3 (by decide), oo 99 (by decide)]
    exact ⟨trivial, trivial, trivial, trivial, trivial⟩
theorem wp_sz {k : V → Int → Res} (h : Inv v) (ca : 0 ≤ a ∧ a < v 7 0 8) (hk : ∀ u m, Inv u → Kp v u → u 7 0 8 = v 7 0 8 → Wp (k u m) Q E) : Wp (lp_X7_seize_34 0 b a k 200 v 0) Q E := by
  have hs := h.s
  unfold IS at hs
  have hn := h.n a ca.1 ca.2
  obtain ⟨u, m, r, e⟩ := sz_lp (b := b) (v := v) (l := v 7 0 7) (a := a) rfl (by omega) hs.2.2.1 (fun s g0 g1 => (ILx h ⟨g0, g1⟩).1) ca.1 k 200 v 0 ⟨fun _ _ _ _ => rfl, fun i => Or.inl ⟨rfl, rfl, rfl⟩⟩ (by omega) (by omega) (by omega)
  obtain ⟨i1, i2⟩ := Inv_Tk h (by omega) r
  rw [e]
  exact hk u m i1 i2 (r.1 7 0 8 (by omega))
theorem nz_seize (h : Inv v) : Nz v (sp_X7_seize 0 a v) := by
  have hx : (0 : Int) = 0 := rfl
  have hs := h.s
  unfold IS at hs
  unfold Nz sp_X7_seize
  unfold sp_X7_isSeizable sp_X7_worthUnder
  by_cases ca : 0 ≤ a ∧ a < v 7 0 8
  · have hn := h.n a ca.1 ca.2
    have ho := oweF_b h ca
    repeat' (first | ((with_reducible refine wp_sz h ca ?_); intro u m hu kp o8) | ((with_reducible refine wp_rel hu (by rw [o8]; exact ca) ?_); intro u2 z2 hz2 hu2 kp2) | first | (with_reducible refine wp_B ?_) | (with_reducible refine wp_ok ?_) | (with_reducible refine wp_ex ?_) | (with_reducible refine wp_chk ?_ ?_; (· (first | omega | (simp (decide := true) (disch := omega) only [hx, up_r, nw_r, i7 h, k9, df_a, df_16, w32_i, w64_i, ↓reduceIte, if_true, if_false, false_and, and_false, true_and, and_true, and_self, not_true, not_false_iff, true_or, or_true, false_or, or_false, upf, lcmp_l, lcmp_g, lcmp_e] <;> omega)))) | (with_reducible refine wp_t ?_ ?_; (· (first | omega | (simp (decide := true) (disch := omega) only [hx, up_r, nw_r, i7 h, k9, df_a, df_16, w32_i, w64_i, ↓reduceIte, if_true, if_false, false_and, and_false, true_and, and_true, and_self, not_true, not_false_iff, true_or, or_true, false_or, or_false, upf, lcmp_l, lcmp_g, lcmp_e] <;> omega)))) | (with_reducible refine wp_f ?_ ?_; (· (first | omega | (simp (decide := true) (disch := omega) only [hx, up_r, nw_r, i7 h, k9, df_a, df_16, w32_i, w64_i, ↓reduceIte, if_true, if_false, false_and, and_false, true_and, and_true, and_self, not_true, not_false_iff, true_or, or_true, false_or, or_false, upf, lcmp_l, lcmp_g, lcmp_e] <;> omega)))) | (with_reducible apply wp_up; (· (first | (simp (decide := true) (disch := omega) only [hx, up_r, nw_r, i7 h, k9, df_a, df_16, w32_i, w64_i, ↓reduceIte, if_true, if_false, false_and, and_false, true_and, and_true, and_self, not_true, not_false_iff, true_or, or_true, false_or, or_false, upf, lcmp_l, lcmp_g, lcmp_e] <;> rfl) | rfl)); (· (first | (simp (decide := true) (disch := omega) only [hx, up_r, nw_r, i7 h, k9, df_a, df_16, w32_i, w64_i, ↓reduceIte, if_true, if_false, false_and, and_false, true_and, and_true, and_self, not_true, not_false_iff, true_or, or_true, false_or, or_false, upf, lcmp_l, lcmp_g, lcmp_e] <;> rfl) | rfl)); (· (first | (simp (decide := true) (disch := omega) only [hx, up_r, nw_r, i7 h, k9, df_a, df_16, w32_i, w64_i, ↓reduceIte, if_true, if_false, false_and, and_false, true_and, and_true, and_self, not_true, not_false_iff, true_or, or_true, false_or, or_false, upf, lcmp_l, lcmp_g, lcmp_e] <;> rfl) | rfl))) | (with_reducible apply wp_nw; (· (first | (simp (decide := true) (disch := omega) only [hx, up_r, nw_r, i7 h, k9, df_a, df_16, w32_i, w64_i, ↓reduceIte, if_true, if_false, false_and, and_false, true_and, and_true, and_self, not_true, not_false_iff, true_or, or_true, false_or, or_false, upf, lcmp_l, lcmp_g, lcmp_e] <;> rfl) | rfl))) | (with_reducible refine wp_7party_t h ?_ ?_; (· omega)) | (with_reducible refine wp_7party_f h ?_ ?_; (· omega)) | (with_reducible refine wp_7work_t h ?_ ?_; (· omega)) | (with_reducible refine wp_7work_f h ?_ ?_; (· omega)) | (with_reducible refine wp_7lot_t h ?_ ?_; (· omega)) | (with_reducible refine wp_7lot_f h ?_ ?_; (· omega)) | (with_reducible refine wp_7loan_t h ?_ ?_; (· omega)) | (with_reducible refine wp_7loan_f h ?_ ?_; (· omega)) | (with_reducible refine wp_st0 ?_) | (with_reducible refine wp_st1 ?_ ?_; (· omega)) | (with_reducible refine wp_range_t ?_ ?_; (· omega)) | (with_reducible refine wp_range_f ?_ ?_; (· omega)) | (with_reducible refine wp_7land_t ?_ ?_; (· omega)) | (with_reducible refine wp_7land_f ?_ ?_; (· omega)) | (with_reducible refine wp_other_t ?_ ?_; (· omega)) | (with_reducible refine wp_other_f ?_ ?_; (· omega)) | (with_reducible refine wp_range (fun _ => ?_) (fun _ => ?_)) | (with_reducible refine wp_7land (fun _ => ?_) (fun _ => ?_)) | (with_reducible refine wp_other (fun _ => ?_) (fun _ => ?_)) | (with_reducible refine wp_max (fun hc => ?_) (fun hc => ?_); all_goals (try simp (decide := true) (disch := omega) only [hx, up_r, nw_r, i7 h, k9, df_a, df_16, w32_i, w64_i, ↓reduceIte, if_true, if_false, false_and, and_false, true_and, and_true, and_self, not_true, not_false_iff, true_or, or_true, false_or, or_false, upf, lcmp_l, lcmp_g, lcmp_e] at hc)) | (with_reducible refine wp_i (fun hc => ?_) (fun hc => ?_); all_goals (try simp (decide := true) (disch := omega) only [hx, up_r, nw_r, i7 h, k9, df_a, df_16, w32_i, w64_i, ↓reduceIte, if_true, if_false, false_and, and_false, true_and, and_true, and_self, not_true, not_false_iff, true_or, or_true, false_or, or_false, upf, lcmp_l, lcmp_g, lcmp_e] at hc)) | (with_reducible refine wp_7val h ?_ ?_ ?_; (· (first | omega | (simp (decide := true) (disch := omega) only [hx, up_r, nw_r, i7 h, k9, df_a, df_16, w32_i, w64_i, ↓reduceIte, if_true, if_false, false_and, and_false, true_and, and_true, and_self, not_true, not_false_iff, true_or, or_true, false_or, or_false, upf, lcmp_l, lcmp_g, lcmp_e] <;> omega))); (· (first | omega | (simp (decide := true) (disch := omega) only [hx, up_r, nw_r, i7 h, k9, df_a, df_16, w32_i, w64_i, ↓reduceIte, if_true, if_false, false_and, and_false, true_and, and_true, and_self, not_true, not_false_iff, true_or, or_true, false_or, or_false, upf, lcmp_l, lcmp_g, lcmp_e] <;> omega)))) | (with_reducible refine wp_7wor h ?_ ?_ ?_; (· (first | omega | (simp (decide := true) (disch := omega) only [hx, up_r, nw_r, i7 h, k9, df_a, df_16, w32_i, w64_i, ↓reduceIte, if_true, if_false, false_and, and_false, true_and, and_true, and_self, not_true, not_false_iff, true_or, or_true, false_or, or_false, upf, lcmp_l, lcmp_g, lcmp_e] <;> omega))); (· (first | omega | (simp (decide := true) (disch := omega) only [hx, up_r, nw_r, i7 h, k9, df_a, df_16, w32_i, w64_i, ↓reduceIte, if_true, if_false, false_and, and_false, true_and, and_true, and_self, not_true, not_false_iff, true_or, or_true, false_or, or_false, upf, lcmp_l, lcmp_g, lcmp_e] <;> omega)))) | (with_reducible refine wp_7owe h ?_ ?_ ?_; (· (first | omega | (simp (decide := true) (disch := omega) only [hx, up_r, nw_r, i7 h, k9, df_a, df_16, w32_i, w64_i, ↓reduceIte, if_true, if_false, false_and, and_false, true_and, and_true, and_self, not_true, not_false_iff, true_or, or_true, false_or, or_false, upf, lcmp_l, lcmp_g, lcmp_e] <;> omega))); (· (first | omega | (simp (decide := true) (disch := omega) only [hx, up_r, nw_r, i7 h, k9, df_a, df_16, w32_i, w64_i, ↓reduceIte, if_true, if_false, false_and, and_false, true_and, and_true, and_self, not_true, not_false_iff, true_or, or_true, false_or, or_false, upf, lcmp_l, lcmp_g, lcmp_e] <;> omega)))) | (with_reducible refine wp_7dbt h ?_ (fun _ => ?_); (· omega)) | (with_reducible refine wp_x7_ph h ?_) | (with_reducible refine wp_x7_ob h ?_) | (with_reducible refine wp_x7_ot h ?_) | (with_reducible refine wp_x7_lp h ?_) | (with_reducible refine wp_x7_wu h (fun _ _ => ?_)) | (with_reducible refine wp_x7_wh h (fun _ _ => ?_)) | (with_reducible refine wp_bc h ?_ ?_; (· omega)) | (with_reducible refine wp_chain h ?_ ?_; (· omega)))
    all_goals try (first | exact ⟨Or.inl rfl, rfl⟩ | exact ⟨Or.inr (Or.inl rfl), rfl⟩ | exact ⟨Or.inr (Or.inr rfl), rfl⟩)
    all_goals exact ⟨by omega, kp.tr kp2, hu2⟩
  · repeat' (first | (with_reducible refine wp_B ?_) | (with_reducible refine wp_ok ?_) | (with_reducible refine wp_ex ?_) | (with_reducible refine wp_chk ?_ ?_; (· (first | omega | (simp (decide := true) (disch := omega) only [hx, up_r, nw_r, i7 h, k9, df_a, df_16, w32_i, w64_i, ↓reduceIte, if_true, if_false, false_and, and_false, true_and, and_true, and_self, not_true, not_false_iff, true_or, or_true, false_or, or_false, upf, lcmp_l, lcmp_g, lcmp_e] <;> omega)))) | (with_reducible refine wp_t ?_ ?_; (· (first | omega | (simp (decide := true) (disch := omega) only [hx, up_r, nw_r, i7 h, k9, df_a, df_16, w32_i, w64_i, ↓reduceIte, if_true, if_false, false_and, and_false, true_and, and_true, and_self, not_true, not_false_iff, true_or, or_true, false_or, or_false, upf, lcmp_l, lcmp_g, lcmp_e] <;> omega)))) | (with_reducible refine wp_f ?_ ?_; (· (first | omega | (simp (decide := true) (disch := omega) only [hx, up_r, nw_r, i7 h, k9, df_a, df_16, w32_i, w64_i, ↓reduceIte, if_true, if_false, false_and, and_false, true_and, and_true, and_self, not_true, not_false_iff, true_or, or_true, false_or, or_false, upf, lcmp_l, lcmp_g, lcmp_e] <;> omega)))) | (with_reducible apply wp_up; (· (first | (simp (decide := true) (disch := omega) only [hx, up_r, nw_r, i7 h, k9, df_a, df_16, w32_i, w64_i, ↓reduceIte, if_true, if_false, false_and, and_false, true_and, and_true, and_self, not_true, not_false_iff, true_or, or_true, false_or, or_false, upf, lcmp_l, lcmp_g, lcmp_e] <;> rfl) | rfl)); (· (first | (simp (decide := true) (disch := omega) only [hx, up_r, nw_r, i7 h, k9, df_a, df_16, w32_i, w64_i, ↓reduceIte, if_true, if_false, false_and, and_false, true_and, and_true, and_self, not_true, not_false_iff, true_or, or_true, false_or, or_false, upf, lcmp_l, lcmp_g, lcmp_e] <;> rfl) | rfl)); (· (first | (simp (decide := true) (disch := omega) only [hx, up_r, nw_r, i7 h, k9, df_a, df_16, w32_i, w64_i, ↓reduceIte, if_true, if_false, false_and, and_false, true_and, and_true, and_self, not_true, not_false_iff, true_or, or_true, false_or, or_false, upf, lcmp_l, lcmp_g, lcmp_e] <;> rfl) | rfl))) | (with_reducible apply wp_nw; (· (first | (simp (decide := true) (disch := omega) only [hx, up_r, nw_r, i7 h, k9, df_a, df_16, w32_i, w64_i, ↓reduceIte, if_true, if_false, false_and, and_false, true_and, and_true, and_self, not_true, not_false_iff, true_or, or_true, false_or, or_false, upf, lcmp_l, lcmp_g, lcmp_e] <;> rfl) | rfl))) | (with_reducible refine wp_7party_t h ?_ ?_; (· omega)) | (with_reducible refine wp_7party_f h ?_ ?_; (· omega)) | (with_reducible refine wp_7work_t h ?_ ?_; (· omega)) | (with_reducible refine wp_7work_f h ?_ ?_; (· omega)) | (with_reducible refine wp_7lot_t h ?_ ?_; (· omega)) | (with_reducible refine wp_7lot_f h ?_ ?_; (· omega)) | (with_reducible refine wp_7loan_t h ?_ ?_; (· omega)) | (with_reducible refine wp_7loan_f h ?_ ?_; (· omega)) | (with_reducible refine wp_st0 ?_) | (with_reducible refine wp_st1 ?_ ?_; (· omega)) | (with_reducible refine wp_range_t ?_ ?_; (· omega)) | (with_reducible refine wp_range_f ?_ ?_; (· omega)) | (with_reducible refine wp_7land_t ?_ ?_; (· omega)) | (with_reducible refine wp_7land_f ?_ ?_; (· omega)) | (with_reducible refine wp_other_t ?_ ?_; (· omega)) | (with_reducible refine wp_other_f ?_ ?_; (· omega)) | (with_reducible refine wp_range (fun _ => ?_) (fun _ => ?_)) | (with_reducible refine wp_7land (fun _ => ?_) (fun _ => ?_)) | (with_reducible refine wp_other (fun _ => ?_) (fun _ => ?_)) | (with_reducible refine wp_max (fun hc => ?_) (fun hc => ?_); all_goals (try simp (decide := true) (disch := omega) only [hx, up_r, nw_r, i7 h, k9, df_a, df_16, w32_i, w64_i, ↓reduceIte, if_true, if_false, false_and, and_false, true_and, and_true, and_self, not_true, not_false_iff, true_or, or_true, false_or, or_false, upf, lcmp_l, lcmp_g, lcmp_e] at hc)) | (with_reducible refine wp_i (fun hc => ?_) (fun hc => ?_); all_goals (try simp (decide := true) (disch := omega) only [hx, up_r, nw_r, i7 h, k9, df_a, df_16, w32_i, w64_i, ↓reduceIte, if_true, if_false, false_and, and_false, true_and, and_true, and_self, not_true, not_false_iff, true_or, or_true, false_or, or_false, upf, lcmp_l, lcmp_g, lcmp_e] at hc)) | (with_reducible refine wp_7val h ?_ ?_ ?_; (· (first | omega | (simp (decide := true) (disch := omega) only [hx, up_r, nw_r, i7 h, k9, df_a, df_16, w32_i, w64_i, ↓reduceIte, if_true, if_false, false_and, and_false, true_and, and_true, and_self, not_true, not_false_iff, true_or, or_true, false_or, or_false, upf, lcmp_l, lcmp_g, lcmp_e] <;> omega))); (· (first | omega | (simp (decide := true) (disch := omega) only [hx, up_r, nw_r, i7 h, k9, df_a, df_16, w32_i, w64_i, ↓reduceIte, if_true, if_false, false_and, and_false, true_and, and_true, and_self, not_true, not_false_iff, true_or, or_true, false_or, or_false, upf, lcmp_l, lcmp_g, lcmp_e] <;> omega)))) | (with_reducible refine wp_7wor h ?_ ?_ ?_; (· (first | omega | (simp (decide := true) (disch := omega) only [hx, up_r, nw_r, i7 h, k9, df_a, df_16, w32_i, w64_i, ↓reduceIte, if_true, if_false, false_and, and_false, true_and, and_true, and_self, not_true, not_false_iff, true_or, or_true, false_or, or_false, upf, lcmp_l, lcmp_g, lcmp_e] <;> omega))); (· (first | omega | (simp (decide := true) (disch := omega) only [hx, up_r, nw_r, i7 h, k9, df_a, df_16, w32_i, w64_i, ↓reduceIte, if_true, if_false, false_and, and_false, true_and, and_true, and_self, not_true, not_false_iff, true_or, or_true, false_or, or_false, upf, lcmp_l, lcmp_g, lcmp_e] <;> omega)))) | (with_reducible refine wp_7owe h ?_ ?_ ?_; (· (first | omega | (simp (decide := true) (disch := omega) only [hx, up_r, nw_r, i7 h, k9, df_a, df_16, w32_i, w64_i, ↓reduceIte, if_true, if_false, false_and, and_false, true_and, and_true, and_self, not_true, not_false_iff, true_or, or_true, false_or, or_false, upf, lcmp_l, lcmp_g, lcmp_e] <;> omega))); (· (first | omega | (simp (decide := true) (disch := omega) only [hx, up_r, nw_r, i7 h, k9, df_a, df_16, w32_i, w64_i, ↓reduceIte, if_true, if_false, false_and, and_false, true_and, and_true, and_self, not_true, not_false_iff, true_or, or_true, false_or, or_false, upf, lcmp_l, lcmp_g, lcmp_e] <;> omega)))) | (with_reducible refine wp_7dbt h ?_ (fun _ => ?_); (· omega)) | (with_reducible refine wp_x7_ph h ?_) | (with_reducible refine wp_x7_ob h ?_) | (with_reducible refine wp_x7_ot h ?_) | (with_reducible refine wp_x7_lp h ?_) | (with_reducible refine wp_x7_wu h (fun _ _ => ?_)) | (with_reducible refine wp_x7_wh h (fun _ _ => ?_)) | (with_reducible refine wp_bc h ?_ ?_; (· omega)) | (with_reducible refine wp_chain h ?_ ?_; (· omega)))
    all_goals (first | exact ⟨Or.inl rfl, rfl⟩ | exact ⟨Or.inr (Or.inl rfl), rfl⟩ | exact ⟨Or.inr (Or.inr rfl), rfl⟩)
/-- some lots have no dealer any more -/
def Cl (v u : V) : Prop := Ol v u 6 ∧ ∀ i : Int, u 2 i 6 = v 2 i 6 ∨ u 2 i 6 = -1
theorem fa_lp (hN : v 7 0 7 = l) (hN2 : 0 ≤ l ∧ l ≤ 60) (h2 : v 7 0 2 = 0) (h12 : ∀ s, 0 ≤ s → s < l → v 12 0 s = s) (k : V → Int → Int → Res) : ∀ (n : Nat) (u : V) (acc t : Int), Cl v u → 0 ≤ t → t ≤ l → l - t < n → 0 ≤ acc → acc ≤ t → ∃ u' z m, Cl v u' ∧ 0 ≤ z ∧ lp_X7_fail_31 0 b a k n u acc t = k u' z m := by
  intro n
  induction n with
  | zero => intro u acc t r h0 h1 h2; omega
  | succ n ih =>
    intro u acc t r h0 h1 h3 h4 h5
    unfold lp_X7_fail_31
    rw [r.1 7 0 7 (by omega), hN, r.1 7 0 2 (by omega), h2, r.1 12 0 t (by omega)]
    by_cases q : l ≤ t
    · exact ⟨u, acc, t, r, h4, by rw [if_pos q]⟩
    · have e3 : w32 (t + 1) = t + 1 := w32_i (by omega) (by omega)
      have hd : ∃ x, sp_X2_dealer t u = rOk x u := by
        unfold sp_X2_dealer
        split
        · exact ⟨_, rfl⟩
        · exact ⟨_, rfl⟩
      obtain ⟨x, hd⟩ := hd
      rw [if_neg q, chk_t (by omega), chk_t (by omega), h12 t h0 (by omega), chk_t h0, hd, rB_ok, e3]
      by_cases c : x = a
      · rw [if_pos c, r.1 7 0 2 (by omega), h2, r.1 12 0 t (by omega), h12 t h0 (by omega), chk_t (by omega), chk_t h0, rLet_r, w32_i (z := acc + 1) (by omega) (by omega)]
        refine ih _ (acc + 1) (t + 1) ⟨fun K i j g => ?_, fun i => ?_⟩ (by omega) (by omega) (by omega) (by omega) (by omega)
        · rw [up_o (by omega)]
          exact r.1 K i j g
        · by_cases e : i = t
          · subst e
            right
            rw [up_r, if_pos ⟨rfl, rfl, rfl⟩]
          · rw [up_o (by omega)]
            exact r.2 i
      · rw [if_neg c]
        exact ih u acc (t + 1) r (by omega) (by omega) (by omega) (by omega) (by omega)
theorem Inv_Cl (h : Inv v) (r : Cl v u) : Inv u ∧ Kp v u := by
  obtain ⟨o, r2⟩ := r
  have e7 : ∀ i j : Int, u 7 i j = v 7 i j := fun i j => o 7 i j (by omega)
  have oo : ∀ (K : Nat), ¬ K = 2 → ∀ i j : Int, u K i j = v K i j := fun K h1 i j => o K i j (Or.inl h1)
  refine ⟨⟨?_, ?_, ?_, ?_, ?_, ?_, ?_, ?_, ?_, ?_, ?_⟩, ?_⟩
  · have := h.s
    unfold IS at *
    simp only [e7, oo 98 (by decide)]
    exact this
  · have := h.r
    unfold IR at *
    simp only [oo 14 (by decide)]
    exact this
  · have := h.p
    unfold IP at *
    simp only [e7, oo 10 (by decide), oo 3 (by decide)]
    exact this
  · have := h.b
    unfold IB at *
    simp only [e7, oo 6 (by decide), oo 3 (by decide)]
    exact this
  · have := h.w
    unfold IW at *
    simp only [e7, oo 11 (by decide), oo 6 (by decide)]
    exact this
  · have := h.d
    unfold ID at *
    simp only [e7, oo 15 (by decide), oo 6 (by decide), oo 5 (by decide)]
    exact this
  · intro i g0 g1
    rw [e7] at g1
    have hi := h.l i g0 g1
    have hr := r2 i
    unfold ICo ISa at *
    simp only [e7, oo 12 (by decide), oo 0 (by decide), oo 4 (by decide), oo 98 (by decide), oo 1 (by decide), (fun i => o 2 i 0 (by omega) : ∀ i, u 2 i 0 = v 2 i 0), (fun i => o 2 i 1 (by omega) : ∀ i, u 2 i 1 = v 2 i 1), (fun i => o 2 i 2 (by omega) : ∀ i, u 2 i 2 = v 2 i 2), (fun i => o 2 i 3 (by omega) : ∀ i, u 2 i 3 = v 2 i 3), (fun i => o 2 i 4 (by omega) : ∀ i, u 2 i 4 = v 2 i 4), (fun i => o 2 i 5 (by omega) : ∀ i, u 2 i 5 = v 2 i 5), (fun i => o 2 i 7 (by omega) : ∀ i, u 2 i 7 = v 2 i 7)]
    rcases hr with h1 | h1
    · rw [h1]
      exact hi
    · rw [h1]
      exact ⟨hi.1, Or.inl rfl, hi.2.2⟩
  · have := h.n
    unfold IN at *
    simp only [e7, oo 13 (by decide), oo 1 (by decide)]
    exact this
  · have := h.a
    unfold IA at *
    simp only [e7, oo 99 (by decide), oo 6 (by decide), oo 98 (by decide)]
    exact this
  · have := h.m
    unfold IM mon monF at *
    simp only [e7, oo 3 (by decide)]
    exact this
  · have := h.t
    unfold IT ptF at *
    simp only [e7, (fun i => o 2 i 1 (by omega) : ∀ i, u 2 i 1 = v 2 i 1), (fun i => o 2 i 4 (by omega) : ∀ i, u 2 i 4 = v 2 i 4)]
    exact this
  · unfold Kp mon monF
    simp only [e7, oo 3 (by decide), oo 99 (by decide)]
    exact ⟨trivial, trivial, trivial, trivial, trivial⟩
theorem wp_fa {k : V → Int → Int → Res} (h : Inv v) (hk : ∀ u z m, 0 ≤ z → Inv u → Kp v u → Wp (k u z m) Q E) : Wp (lp_X7_fail_31 0 b a k 200 v 0 0) Q E := by
  have hs := h.s
  unfold IS at hs
  obtain ⟨u, z, m, r, hz, e⟩ := fa_lp (a := a) (b := b) (v := v) (l := v 7 0 7) rfl (by omega) hs.2.2.1 (fun s g0 g1 => (ILx h ⟨g0, g1⟩).1) k 200 v 0 0 ⟨fun _ _ _ _ => rfl, fun i => Or.inl rfl⟩ (by omega) (by omega) (by omega) (by omega) (by omega)
  obtain ⟨i1, i2⟩ := Inv_Cl h r
  rw [e]
  exact hk u z m hz i1 i2
theorem Inv_fa (h : Inv v) (ca : 0 ≤ a ∧ a < v 7 0 5) : Inv (up v 3 a 4 1) := by
  have hx : (0 : Int) = 0 := rfl
  refine ⟨by ((repeat (first | with_reducible refine IS_u (by omega) ?_ | with_reducible refine IS_n (by omega) ?_ | with_reducible refine IS_o muF_o (by omega) ?_ | with_reducible refine IS_o muA_o (by omega) ?_)); exact h.s), by ((repeat (first | with_reducible refine IR_u (by omega) ?_ | with_reducible refine IR_n (by omega) ?_ | with_reducible refine IR_o muF_o (by omega) ?_ | with_reducible refine IR_o muA_o (by omega) ?_)); exact h.r), ?_, by ((repeat (first | with_reducible refine IB_u (by omega) ?_ | with_reducible refine IB_n (by omega) ?_ | with_reducible refine IB_o muF_o (by omega) ?_ | with_reducible refine IB_o muA_o (by omega) ?_)); exact h.b), by ((repeat (first | with_reducible refine IW_u (by omega) ?_ | with_reducible refine IW_n (by omega) ?_ | with_reducible refine IW_o muF_o (by omega) ?_ | with_reducible refine IW_o muA_o (by omega) ?_)); exact h.w), by ((repeat (first | with_reducible refine ID_u (by omega) ?_ | with_reducible refine ID_n (by omega) ?_ | with_reducible refine ID_o muF_o (by omega) ?_ | with_reducible refine ID_o muA_o (by omega) ?_)); exact h.d), by ((repeat (first | with_reducible refine IL_u (by omega) ?_ | with_reducible refine IL_n (by omega) ?_ | with_reducible refine IL_o muF_o (by omega) ?_ | with_reducible refine IL_o muA_o (by omega) ?_)); exact h.l), by ((repeat (first | with_reducible refine IN_u (by omega) ?_ | with_reducible refine IN_n (by omega) ?_ | with_reducible refine IN_o muF_o (by omega) ?_ | with_reducible refine IN_o muA_o (by omega) ?_)); exact h.n), by ((repeat (first | with_reducible refine IA_u (by omega) ?_ | with_reducible refine IA_n (by omega) ?_ | with_reducible refine IA_o muF_o (by omega) ?_ | with_reducible refine IA_o muA_o (by omega) ?_)); exact h.a), by ((repeat (first | with_reducible refine IM_u (by omega) ?_ | with_reducible refine IM_n (by omega) ?_ | with_reducible refine IM_o muF_o (by omega) ?_ | with_reducible refine IM_o muA_o (by omega) ?_)); exact h.m), by ((repeat (first | with_reducible refine IT_u (by omega) ?_ | with_reducible refine IT_n (by omega) ?_ | with_reducible refine IT_o muF_o (by omega) ?_ | with_reducible refine IT_o muA_o (by omega) ?_)); exact h.t)⟩
  (intro i q0 q1; (try simp (decide := true) (disch := omega) only [hx, up_r, nw_r, i7 h, k9, df_a, df_16, w32_i, w64_i, ↓reduceIte, if_true, if_false, false_and, and_false, true_and, and_true, and_self, not_true, not_false_iff, true_or, or_true, false_or, or_false, upf, lcmp_l, lcmp_g, lcmp_e] at q0 q1); have hi := h.p i (by omega) (by omega); by_cases e : i = a; (· (subst e; simp (decide := true) (disch := omega) only [hx, up_r, nw_r, i7 h, k9, df_a, df_16, w32_i, w64_i, ↓reduceIte, if_true, if_false, false_and, and_false, true_and, and_true, and_self, not_true, not_false_iff, true_or, or_true, false_or, or_false, upf, lcmp_l, lcmp_g, lcmp_e] <;> omega)); (· (simp (decide := true) (disch := omega) only [hx, up_r, nw_r, i7 h, k9, df_a, df_16, w32_i, w64_i, ↓reduceIte, if_true, if_false, false_and, and_false, true_and, and_true, and_self, not_true, not_false_iff, true_or, or_true, false_or, or_false, upf, lcmp_l, lcmp_g, lcmp_e, e] <;> omega)))
theorem nz_fail (h : Inv v) : Nz v (sp_X7_fail 0 a v) := by
  have hx : (0 : Int) = 0 := rfl
  have hs := h.s
  unfold IS at hs
  unfold Nz sp_X7_fail
  by_cases ca : 0 ≤ a ∧ a < v 7 0 5
  · have hn := h.p a ca.1 ca.2
    repeat' (first | ((with_reducible refine wp_fa (Inv_fa h ca) ?_); intro u z m hz hu kp) | first | (with_reducible refine wp_B ?_) | (with_reducible refine wp_ok ?_) | (with_reducible refine wp_ex ?_) | (with_reducible refine wp_chk ?_ ?_; (· (first | omega | (simp (decide := true) (disch := omega) only [hx, up_r, nw_r, i7 h, k9, df_a, df_16, w32_i, w64_i, ↓reduceIte, if_true, if_false, false_and, and_false, true_and, and_true, and_self, not_true, not_false_iff, true_or, or_true, false_or, or_false, upf, lcmp_l, lcmp_g, lcmp_e] <;> omega)))) | (with_reducible refine wp_t ?_ ?_; (· (first | omega | (simp (decide := true) (disch := omega) only [hx, up_r, nw_r, i7 h, k9, df_a, df_16, w32_i, w64_i, ↓reduceIte, if_true, if_false, false_and, and_false, true_and, and_true, and_self, not_true, not_false_iff, true_or, or_true, false_or, or_false, upf, lcmp_l, lcmp_g, lcmp_e] <;> omega)))) | (with_reducible refine wp_f ?_ ?_; (· (first | omega | (simp (decide := true) (disch := omega) only [hx, up_r, nw_r, i7 h, k9, df_a, df_16, w32_i, w64_i, ↓reduceIte, if_true, if_false, false_and, and_false, true_and, and_true, and_self, not_true, not_false_iff, true_or, or_true, false_or, or_false, upf, lcmp_l, lcmp_g, lcmp_e] <;> omega)))) | (with_reducible apply wp_up; (· (first | (simp (decide := true) (disch := omega) only [hx, up_r, nw_r, i7 h, k9, df_a, df_16, w32_i, w64_i, ↓reduceIte, if_true, if_false, false_and, and_false, true_and, and_true, and_self, not_true, not_false_iff, true_or, or_true, false_or, or_false, upf, lcmp_l, lcmp_g, lcmp_e] <;> rfl) | rfl)); (· (first | (simp (decide := true) (disch := omega) only [hx, up_r, nw_r, i7 h, k9, df_a, df_16, w32_i, w64_i, ↓reduceIte, if_true, if_false, false_and, and_false, true_and, and_true, and_self, not_true, not_false_iff, true_or, or_true, false_or, or_false, upf, lcmp_l, lcmp_g, lcmp_e] <;> rfl) | rfl)); (· (first | (simp (decide := true) (disch := omega) only [hx, up_r, nw_r, i7 h, k9, df_a, df_16, w32_i, w64_i, ↓reduceIte, if_true, if_false, false_and, and_false, true_and, and_true, and_self, not_true, not_false_iff, true_or, or_true, false_or, or_false, upf, lcmp_l, lcmp_g, lcmp_e] <;> rfl) | rfl))) | (with_reducible apply wp_nw; (· (first | (simp (decide := true) (disch := omega) only [hx, up_r, nw_r, i7 h, k9, df_a, df_16, w32_i, w64_i, ↓reduceIte, if_true, if_false, false_and, and_false, true_and, and_true, and_self, not_true, not_false_iff, true_or, or_true, false_or, or_false, upf, lcmp_l, lcmp_g, lcmp_e] <;> rfl) | rfl))) | (with_reducible refine wp_7party_t h ?_ ?_; (· omega)) | (with_reducible refine wp_7party_f h ?_ ?_; (· omega)) | (with_reducible refine wp_7work_t h ?_ ?_; (· omega)) | (with_reducible refine wp_7work_f h ?_ ?_; (· omega)) | (with_reducible refine wp_7lot_t h ?_ ?_; (· omega)) | (with_reducible refine wp_7lot_f h ?_ ?_; (· omega)) | (with_reducible refine wp_7loan_t h ?_ ?_; (· omega)) | (with_reducible refine wp_7loan_f h ?_ ?_; (· omega)) | (with_reducible refine wp_st0 ?_) | (with_reducible refine wp_st1 ?_ ?_; (· omega)) | (with_reducible refine wp_range_t ?_ ?_; (· omega)) | (with_reducible refine wp_range_f ?_ ?_; (· omega)) | (with_reducible refine wp_7land_t ?_ ?_; (· omega)) | (with_reducible refine wp_7land_f ?_ ?_; (· omega)) | (with_reducible refine wp_other_t ?_ ?_; (· omega)) | (with_reducible refine wp_other_f ?_ ?_; (· omega)) | (with_reducible refine wp_range (fun _ => ?_) (fun _ => ?_)) | (with_reducible refine wp_7land (fun _ => ?_) (fun _ => ?_)) | (with_reducible refine wp_other (fun _ => ?_) (fun _ => ?_)) | (with_reducible refine wp_max (fun hc => ?_) (fun hc => ?_); all_goals (try simp (decide := true) (disch := omega) only [hx, up_r, nw_r, i7 h, k9, df_a, df_16, w32_i, w64_i, ↓reduceIte, if_true, if_false, false_and, and_false, true_and, and_true, and_self, not_true, not_false_iff, true_or, or_true, false_or, or_false, upf, lcmp_l, lcmp_g, lcmp_e] at hc)) | (with_reducible refine wp_i (fun hc => ?_) (fun hc => ?_); all_goals (try simp (decide := true) (disch := omega) only [hx, up_r, nw_r, i7 h, k9, df_a, df_16, w32_i, w64_i, ↓reduceIte, if_true, if_false, false_and, and_false, true_and, and_true, and_self, not_true, not_false_iff, true_or, or_true, false_or, or_false, upf, lcmp_l, lcmp_g, lcmp_e] at hc)) | (with_reducible refine wp_7val h ?_ ?_ ?_; (· (first | omega | (simp (decide := true) (disch := omega) only [hx, up_r, nw_r, i7 h, k9, df_a, df_16, w32_i, w64_i, ↓reduceIte, if_true, if_false, false_and, and_false, true_and, and_true, and_self, not_true, not_false_iff, true_or, or_true, false_or, or_false, upf, lcmp_l, lcmp_g, lcmp_e] <;> omega))); (· (first | omega | (simp (decide := true) (disch := omega) only [hx, up_r, nw_r, i7 h, k9, df_a, df_16, w32_i, w64_i, ↓reduceIte, if_true, if_false, false_and, and_false, true_and, and_true, and_self, not_true, not_false_iff, true_or, or_true, false_or, or_false, upf, lcmp_l, lcmp_g, lcmp_e] <;> omega)))) | (with_reducible refine wp_7wor h ?_ ?_ ?_; (· (first | omega | (simp (decide := true) (disch := omega) only [hx, up_r, nw_r, i7 h, k9, df_a, df_16, w32_i, w64_i, ↓reduceIte, if_true, if_false, false_and, and_false, true_and, and_true, and_self, not_true, not_false_iff, true_or, or_true, false_or, or_false, upf, lcmp_l, lcmp_g, lcmp_e] <;> omega))); (· (first | omega | (simp (decide := true) (disch := omega) only [hx, up_r, nw_r, i7 h, k9, df_a, df_16, w32_i, w64_i, ↓reduceIte, if_true, if_false, false_and, and_false, true_and, and_true, and_self, not_true, not_false_iff, true_or, or_true, false_or, or_false, upf, lcmp_l, lcmp_g, lcmp_e] <;> omega)))) | (with_reducible refine wp_7owe h ?_ ?_ ?_; (· (first | omega | (simp (decide := true) (disch := omega) only [hx, up_r, nw_r, i7 h, k9, df_a, df_16, w32_i, w64_i, ↓reduceIte, if_true, if_false, false_and, and_false, true_and, and_true, and_self, not_true, not_false_iff, true_or, or_true, false_or, or_false, upf, lcmp_l, lcmp_g, lcmp_e] <;> omega))); (· (first | omega | (simp (decide := true) (disch := omega) only [hx, up_r, nw_r, i7 h, k9, df_a, df_16, w32_i, w64_i, ↓reduceIte, if_true, if_false, false_and, and_false, true_and, and_true, and_self, not_true, not_false_iff, true_or, or_true, false_or, or_false, upf, lcmp_l, lcmp_g, lcmp_e] <;> omega)))) | (with_reducible refine wp_7dbt h ?_ (fun _ => ?_); (· omega)) | (with_reducible refine wp_x7_ph h ?_) | (with_reducible refine wp_x7_ob h ?_) | (with_reducible refine wp_x7_ot h ?_) | (with_reducible refine wp_x7_lp h ?_) | (with_reducible refine wp_x7_wu h (fun _ _ => ?_)) | (with_reducible refine wp_x7_wh h (fun _ _ => ?_)) | (with_reducible refine wp_bc h ?_ ?_; (· omega)) | (with_reducible refine wp_chain h ?_ ?_; (· omega)))
    all_goals try (first | exact ⟨Or.inl rfl, rfl⟩ | exact ⟨Or.inr (Or.inl rfl), rfl⟩ | exact ⟨Or.inr (Or.inr rfl), rfl⟩)
    have k0 : Kp v (up v 3 a 4 1) := by ((repeat (first | with_reducible refine Kp_u (by omega) ?_ | with_reducible refine Kp_n (by omega) ?_ | with_reducible refine Kp_o muF_o (by omega) ?_ | with_reducible refine Kp_o muA_o (by omega) ?_)); exact Kp_r)
    exact ⟨by omega, k0.tr kp, hu⟩
  · repeat' (first | (with_reducible refine wp_B ?_) | (with_reducible refine wp_ok ?_) | (with_reducible refine wp_ex ?_) | (with_reducible refine wp_chk ?_ ?_; (· (first | omega | (simp (decide := true) (disch := omega) only [hx, up_r, nw_r, i7 h, k9, df_a, df_16, w32_i, w64_i, ↓reduceIte, if_true, if_false, false_and, and_false, true_and, and_true, and_self, not_true, not_false_iff, true_or, or_true, false_or, or_false, upf, lcmp_l, lcmp_g, lcmp_e] <;> omega)))) | (with_reducible refine wp_t ?_ ?_; (· (first | omega | (simp (decide := true) (disch := omega) only [hx, up_r, nw_r, i7 h, k9, df_a, df_16, w32_i, w64_i, ↓reduceIte, if_true, if_false, false_and, and_false, true_and, and_true, and_self, not_true, not_false_iff, true_or, or_true, false_or, or_false, upf, lcmp_l, lcmp_g, lcmp_e] <;> omega)))) | (with_reducible refine wp_f ?_ ?_; (· (first | omega | (simp (decide := true) (disch := omega) only [hx, up_r, nw_r, i7 h, k9, df_a, df_16, w32_i, w64_i, ↓reduceIte, if_true, if_false, false_and, and_false, true_and, and_true, and_self, not_true, not_false_iff, true_or, or_true, false_or, or_false, upf, lcmp_l, lcmp_g, lcmp_e] <;> omega)))) | (with_reducible apply wp_up; (· (first | (simp (decide := true) (disch := omega) only [hx, up_r, nw_r, i7 h, k9, df_a, df_16, w32_i, w64_i, ↓reduceIte, if_true, if_false, false_and, and_false, true_and, and_true, and_self, not_true, not_false_iff, true_or, or_true, false_or, or_false, upf, lcmp_l, lcmp_g, lcmp_e] <;> rfl) | rfl)); (· (first | (simp (decide := true) (disch := omega) only [hx, up_r, nw_r, i7 h, k9, df_a, df_16, w32_i, w64_i, ↓reduceIte, if_true, if_false, false_and, and_false, true_and, and_true, and_self, not_true, not_false_iff, true_or, or_true, false_or, or_false, upf, lcmp_l, lcmp_g, lcmp_e] <;> rfl) | rfl)); (· (first | (simp (decide := true) (disch := omega) only [hx, up_r, nw_r, i7 h, k9, df_a, df_16, w32_i, w64_i, ↓reduceIte, if_true, if_false, false_and, and_false, true_and, and_true, and_self, not_true, not_false_iff, true_or, or_true, false_or, or_false, upf, lcmp_l, lcmp_g, lcmp_e] <;> rfl) | rfl))) | (with_reducible apply wp_nw; (· (first | (simp (decide := true) (disch := omega) only [hx, up_r, nw_r, i7 h, k9, df_a, df_16, w32_i, w64_i, ↓reduceIte, if_true, if_false, false_and, and_false, true_and, and_true, and_self, not_true, not_false_iff, true_or, or_true, false_or, or_false, upf, lcmp_l, lcmp_g, lcmp_e] <;> rfl) | rfl))) | (with_reducible refine wp_7party_t h ?_ ?_; (· omega)) | (with_reducible refine wp_7party_f h ?_ ?_; (· omega)) | (with_reducible refine wp_7work_t h ?_ ?_; (· omega)) | (with_reducible refine wp_7work_f h ?_ ?_; (· omega)) | (with_reducible refine wp_7lot_t h ?_ ?_; (· omega)) | (with_reducible refine wp_7lot_f h ?_ ?_; (· omega)) | (with_reducible refine wp_7loan_t h ?_ ?_; (· omega)) | (with_reducible refine wp_7loan_f h ?_ ?_; (· omega)) | (with_reducible refine wp_st0 ?_) | (with_reducible refine wp_st1 ?_ ?_; (· omega)) | (with_reducible refine wp_range_t ?_ ?_; (· omega)) | (with_reducible refine wp_range_f ?_ ?_; (· omega)) | (with_reducible refine wp_7land_t ?_ ?_; (· omega)) | (with_reducible refine wp_7land_f ?_ ?_; (· omega)) | (with_reducible refine wp_other_t ?_ ?_; (· omega)) | (with_reducible refine wp_other_f ?_ ?_; (· omega)) | (with_reducible refine wp_range (fun _ => ?_) (fun _ => ?_)) | (with_reducible refine wp_7land (fun _ => ?_) (fun _ => ?_)) | (with_reducible refine wp_other (fun _ => ?_) (fun _ => ?_)) | (with_reducible refine wp_max (fun hc => ?_) (fun hc => ?_); all_goals (try simp (decide := true) (disch := omega) only [hx, up_r, nw_r, i7 h, k9, df_a, df_16, w32_i, w64_i, ↓reduceIte, if_true, if_false, false_and, and_false, true_and, and_true, and_self, not_true, not_false_iff, true_or, or_true, false_or, or_false, upf, lcmp_l, lcmp_g, lcmp_e] at hc)) | (with_reducible refine wp_i (fun hc => ?_) (fun hc => ?_); all_goals (try simp (decide := true) (disch := omega) only [hx, up_r, nw_r, i7 h, k9, df_a, df_16, w32_i, w64_i, ↓reduceIte, if_true, if_false, false_and, and_false, true_and, and_true, and_self, not_true, not_false_iff, true_or, or_true, false_or, or_false, upf, lcmp_l, lcmp_g, lcmp_e] at hc)) | (with_reducible refine wp_7val h ?_ ?_ ?_; (· (first | omega | (simp (decide := true) (disch := omega) only [hx, up_r, nw_r, i7 h, k9, df_a, df_16, w32_i, w64_i, ↓reduceIte, if_true, if_false, false_and, and_false, true_and, and_true, and_self, not_true, not_false_iff, true_or, or_true, false_or, or_false, upf, lcmp_l, lcmp_g, lcmp_e] <;> omega))); (· (first | omega | (simp (decide := true) (disch := omega) only [hx, up_r, nw_r, i7 h, k9, df_a, df_16, w32_i, w64_i, ↓reduceIte, if_true, if_false, false_and, and_false, true_and, and_true, and_self, not_true, not_false_iff, true_or, or_true, false_or, or_false, upf, lcmp_l, lcmp_g, lcmp_e] <;> omega)))) | (with_reducible refine wp_7wor h ?_ ?_ ?_; (· (first | omega | (simp (decide := true) (disch := omega) only [hx, up_r, nw_r, i7 h, k9, df_a, df_16, w32_i, w64_i, ↓reduceIte, if_true, if_false, false_and, and_false, true_and, and_true, and_self, not_true, not_false_iff, true_or, or_true, false_or, or_false, upf, lcmp_l, lcmp_g, lcmp_e] <;> omega))); (· (first | omega | (simp (decide := true) (disch := omega) only [hx, up_r, nw_r, i7 h, k9, df_a, df_16, w32_i, w64_i, ↓reduceIte, if_true, if_false, false_and, and_false, true_and, and_true, and_self, not_true, not_false_iff, true_or, or_true, false_or, or_false, upf, lcmp_l, lcmp_g, lcmp_e] <;> omega)))) | (with_reducible refine wp_7owe h ?_ ?_ ?_; (· (first | omega | (simp (decide := true) (disch := omega) only [hx, up_r, nw_r, i7 h, k9, df_a, df_16, w32_i, w64_i, ↓reduceIte, if_true, if_false, false_and, and_false, true_and, and_true, and_self, not_true, not_false_iff, true_or, or_true, false_or, or_false, upf, lcmp_l, lcmp_g, lcmp_e] <;> omega))); (· (first | omega | (simp (decide := true) (disch := omega) only [hx, up_r, nw_r, i7 h, k9, df_a, df_16, w32_i, w64_i, ↓reduceIte, if_true, if_false, false_and, and_false, true_and, and_true, and_self, not_true, not_false_iff, true_or, or_true, false_or, or_false, upf, lcmp_l, lcmp_g, lcmp_e] <;> omega)))) | (with_reducible refine wp_7dbt h ?_ (fun _ => ?_); (· omega)) | (with_reducible refine wp_x7_ph h ?_) | (with_reducible refine wp_x7_ob h ?_) | (with_reducible refine wp_x7_ot h ?_) | (with_reducible refine wp_x7_lp h ?_) | (with_reducible refine wp_x7_wu h (fun _ _ => ?_)) | (with_reducible refine wp_x7_wh h (fun _ _ => ?_)) | (with_reducible refine wp_bc h ?_ ?_; (· omega)) | (with_reducible refine wp_chain h ?_ ?_; (· omega)))
    all_goals (first | exact ⟨Or.inl rfl, rfl⟩ | exact ⟨Or.inr (Or.inl rfl), rfl⟩ | exact ⟨Or.inr (Or.inr rfl), rfl⟩)
end Re

/-! PURE 17: a sale from its money to its lot -/
section Sa
variable {v u w : V} {Q : Int → V → Prop} {E : Nat → V → Prop} {a b c d e s x y z : Int}
theorem x7_share (h : Inv v) (ca : 0 ≤ a ∧ a < v 7 0 7) (cd : 0 ≤ d ∧ d ≤ 1000000) : ∃ z, sp_X7_shareOfArtist 0 a d v = rOk z v ∧ 0 ≤ z ∧ 5 * z ≤ d := by
  have hl1 := (h.l a ca.1 ca.2).1
  have hp := h.p (v 2 a 3) (by omega) (by omega)
  have hr := h.r (v 3 (v 2 a 3) 1) (by omega) (by omega)
  have c7 := i7 h
  unfold sp_X7_shareOfArtist sp_X2_isHeldByArtist
  rw [chk_t ca.1, chk_t (by omega)]
  by_cases g : v 2 a 3 = v 6 (v 2 a 1) 1
  · rw [if_pos g, rB_ok, if_neg (by decide)]
    exact ⟨0, rfl, by omega, by omega⟩
  · rw [if_neg g, rB_ok, if_pos rfl, chk_t (by omega)]
    unfold sp_X7_rightOf
    rw [if_neg (by omega), if_neg (by omega), c7.2.2.2.2, chk_t (by omega), chk_t (by omega), rB_ok]
    have m := mul_b (x := d) (X := d) (y := v 14 0 (v 3 (v 2 a 3) 1)) (Y := 20) cd.1 (by omega) hr.1 hr.2
    have te : (d * v 14 0 (v 3 (v 2 a 3) 1)).tdiv 100 = (d * v 14 0 (v 3 (v 2 a 3) 1)) / 100 := Int.tdiv_eq_ediv_of_nonneg m.1
    refine ⟨_, rfl, ?_⟩
    rw [w32_i (z := d * v 14 0 (v 3 (v 2 a 3) 1)) (by omega) (by omega), w32_i (by omega) (by omega), te]
    omega
theorem x2_flip (hw : 0 ≤ v 2 a 1) (t : Int) : ∃ z, sp_X2_isFlippedOn a t v = rOk z v := by
  unfold sp_X2_isFlippedOn sp_X2_isHeldByArtist
  rw [chk_t hw]
  by_cases g : v 2 a 3 = v 6 (v 2 a 1) 1
  · rw [if_pos g, rB_ok, if_pos (by decide)]
    exact ⟨_, rfl⟩
  · rw [if_neg g, rB_ok, if_neg (by decide)]
    split
    · exact ⟨_, rfl⟩
    · split
      · exact ⟨_, rfl⟩
      · split
        · exact ⟨_, rfl⟩
        · exact ⟨_, rfl⟩
theorem Inv_pun (h : Inv v) (cp : 0 ≤ x ∧ x < v 7 0 5) (cw : 0 ≤ y ∧ y < v 7 0 6) : Inv (up v 3 x 5 (or32 (v 3 x 5) (shl32 1 (v 6 y 1)))) := by
  have hx : (0 : Int) = 0 := rfl
  have hs := h.s
  unfold IS at hs
  have hp := h.p x cp.1 cp.2
  have hw := h.w y cw.1 cw.2
  have o1 := or_rng (h := v 3 x 5) (e := v 6 y 1) (by omega) (by omega) (by omega) (by omega)
  refine ⟨by ((repeat (first | with_reducible refine IS_u (by omega) ?_ | with_reducible refine IS_n (by omega) ?_ | with_reducible refine IS_o muF_o (by omega) ?_ | with_reducible refine IS_o muA_o (by omega) ?_)); exact h.s), by ((repeat (first | with_reducible refine IR_u (by omega) ?_ | with_reducible refine IR_n (by omega) ?_ | with_reducible refine IR_o muF_o (by omega) ?_ | with_reducible refine IR_o muA_o (by omega) ?_)); exact h.r), ?_, ?_, by ((repeat (first | with_reducible refine IW_u (by omega) ?_ | with_reducible refine IW_n (by omega) ?_ | with_reducible refine IW_o muF_o (by omega) ?_ | with_reducible refine IW_o muA_o (by omega) ?_)); exact h.w), by ((repeat (first | with_reducible refine ID_u (by omega) ?_ | with_reducible refine ID_n (by omega) ?_ | with_reducible refine ID_o muF_o (by omega) ?_ | with_reducible refine ID_o muA_o (by omega) ?_)); exact h.d), by ((repeat (first | with_reducible refine IL_u (by omega) ?_ | with_reducible refine IL_n (by omega) ?_ | with_reducible refine IL_o muF_o (by omega) ?_ | with_reducible refine IL_o muA_o (by omega) ?_)); exact h.l), by ((repeat (first | with_reducible refine IN_u (by omega) ?_ | with_reducible refine IN_n (by omega) ?_ | with_reducible refine IN_o muF_o (by omega) ?_ | with_reducible refine IN_o muA_o (by omega) ?_)); exact h.n), by ((repeat (first | with_reducible refine IA_u (by omega) ?_ | with_reducible refine IA_n (by omega) ?_ | with_reducible refine IA_o muF_o (by omega) ?_ | with_reducible refine IA_o muA_o (by omega) ?_)); exact h.a), by ((repeat (first | with_reducible refine IM_u (by omega) ?_ | with_reducible refine IM_n (by omega) ?_ | with_reducible refine IM_o muF_o (by omega) ?_ | with_reducible refine IM_o muA_o (by omega) ?_)); exact h.m), by ((repeat (first | with_reducible refine IT_u (by omega) ?_ | with_reducible refine IT_n (by omega) ?_ | with_reducible refine IT_o muF_o (by omega) ?_ | with_reducible refine IT_o muA_o (by omega) ?_)); exact h.t)⟩
  · (intro i q0 q1; (try simp (decide := true) (disch := omega) only [hx, up_r, nw_r, i7 h, k9, df_a, df_16, w32_i, w64_i, ↓reduceIte, if_true, if_false, false_and, and_false, true_and, and_true, and_self, not_true, not_false_iff, true_or, or_true, false_or, or_false, upf, lcmp_l, lcmp_g, lcmp_e] at q0 q1); have hi := h.p i (by omega) (by omega); by_cases e : i = x; (· (subst e; simp (decide := true) (disch := omega) only [hx, up_r, nw_r, i7 h, k9, df_a, df_16, w32_i, w64_i, ↓reduceIte, if_true, if_false, false_and, and_false, true_and, and_true, and_self, not_true, not_false_iff, true_or, or_true, false_or, or_false, upf, lcmp_l, lcmp_g, lcmp_e] <;> omega)); (· (simp (decide := true) (disch := omega) only [hx, up_r, nw_r, i7 h, k9, df_a, df_16, w32_i, w64_i, ↓reduceIte, if_true, if_false, false_and, and_false, true_and, and_true, and_self, not_true, not_false_iff, true_or, or_true, false_or, or_false, upf, lcmp_l, lcmp_g, lcmp_e, e] <;> omega)))
  · intro p a q0 q1 q2 q3 q4
    (try simp (decide := true) (disch := omega) only [hx, up_r, nw_r, i7 h, k9, df_a, df_16, w32_i, w64_i, ↓reduceIte, if_true, if_false, false_and, and_false, true_and, and_true, and_self, not_true, not_false_iff, true_or, or_true, false_or, or_false, upf, lcmp_l, lcmp_g, lcmp_e] at q1)
    by_cases g : p = x
    · subst g
      simp (decide := true) (disch := omega) only [hx, up_r, nw_r, i7 h, k9, df_a, df_16, w32_i, w64_i, ↓reduceIte, if_true, if_false, false_and, and_false, true_and, and_true, and_self, not_true, not_false_iff, true_or, or_true, false_or, or_false, upf, lcmp_l, lcmp_g, lcmp_e] at q4
      have o2 := or_bit (h := v 3 p 5) (e := v 6 y 1) (e' := a) (by omega) (by omega) (by omega) (by omega) q2 q3
      by_cases f : a = v 6 y 1
      · exact ⟨y, cw.1, by simp (decide := true) (disch := omega) only [hx, up_r, nw_r, i7 h, k9, df_a, df_16, w32_i, w64_i, ↓reduceIte, if_true, if_false, false_and, and_false, true_and, and_true, and_self, not_true, not_false_iff, true_or, or_true, false_or, or_false, upf, lcmp_l, lcmp_g, lcmp_e]; exact cw.2, by simp (decide := true) (disch := omega) only [hx, up_r, nw_r, i7 h, k9, df_a, df_16, w32_i, w64_i, ↓reduceIte, if_true, if_false, false_and, and_false, true_and, and_true, and_self, not_true, not_false_iff, true_or, or_true, false_or, or_false, upf, lcmp_l, lcmp_g, lcmp_e]; exact f.symm⟩
      · have f2 : ¬ and32 (v 3 p 5) (shl32 1 a) = 0 := fun z => q4 (o2.mpr ⟨f, z⟩)
        obtain ⟨t, t1, t2, t3⟩ := h.b p a q0 q1 q2 q3 f2
        exact ⟨t, t1, by simp (decide := true) (disch := omega) only [hx, up_r, nw_r, i7 h, k9, df_a, df_16, w32_i, w64_i, ↓reduceIte, if_true, if_false, false_and, and_false, true_and, and_true, and_self, not_true, not_false_iff, true_or, or_true, false_or, or_false, upf, lcmp_l, lcmp_g, lcmp_e]; exact t2, by simp (decide := true) (disch := omega) only [hx, up_r, nw_r, i7 h, k9, df_a, df_16, w32_i, w64_i, ↓reduceIte, if_true, if_false, false_and, and_false, true_and, and_true, and_self, not_true, not_false_iff, true_or, or_true, false_or, or_false, upf, lcmp_l, lcmp_g, lcmp_e]; exact t3⟩
    · simp (decide := true) (disch := omega) only [hx, up_r, nw_r, i7 h, k9, df_a, df_16, w32_i, w64_i, ↓reduceIte, if_true, if_false, false_and, and_false, true_and, and_true, and_self, not_true, not_false_iff, true_or, or_true, false_or, or_false, upf, lcmp_l, lcmp_g, lcmp_e, g] at q4
      obtain ⟨t, t1, t2, t3⟩ := h.b p a q0 q1 q2 q3 q4
      exact ⟨t, t1, by simp (decide := true) (disch := omega) only [hx, up_r, nw_r, i7 h, k9, df_a, df_16, w32_i, w64_i, ↓reduceIte, if_true, if_false, false_and, and_false, true_and, and_true, and_self, not_true, not_false_iff, true_or, or_true, false_or, or_false, upf, lcmp_l, lcmp_g, lcmp_e]; exact t2, by simp (decide := true) (disch := omega) only [hx, up_r, nw_r, i7 h, k9, df_a, df_16, w32_i, w64_i, ↓reduceIte, if_true, if_false, false_and, and_false, true_and, and_true, and_self, not_true, not_false_iff, true_or, or_true, false_or, or_false, upf, lcmp_l, lcmp_g, lcmp_e]; exact t3⟩
theorem Nl_of (h1 : u 7 0 7 = v 7 0 7) (h2 : u 2 a 5 = v 2 a 5) (n : Nl u w a b c d) : Nl v w a b c d := by
  unfold Nl at *
  rw [h1, h2] at n
  exact n
theorem wp_carry (h : Inv v) (ca : 0 ≤ a ∧ a < v 7 0 7) (cb : 1 ≤ b ∧ b ≤ v 2 a 4) (cc : 0 ≤ c ∧ c < v 7 0 5) (cs : 0 ≤ s ∧ s < v 7 0 5) (cd : 0 ≤ d ∧ d ≤ 1000000) (ce : 0 ≤ e ∧ 2 * e ≤ d) (cm : d ≤ v 3 c 2) (cl : v 2 a 6 = -1) (hn : v 7 0 7 < 60) (hk : ∀ w, Inv w → Kp v w → Nl v w a b c d → Q (v 7 0 7) w) : Wp (sp_X7_carryOut 0 a b c d s e v) Q E := by
  have hs := h.s
  unfold IS at hs
  have hl1 := (h.l a ca.1 ca.2).1
  have hw := h.w (v 2 a 1) (by omega) (by omega)
  obtain ⟨sh, esh, b1, b2⟩ := x7_share h ca cd
  obtain ⟨u1, e1, j1, o1, k1, m1⟩ := x7_pay h cc (q := v 6 (v 2 a 1) 1) (s := sh) (by omega) (by omega)
  have n1 : u1 7 0 5 = v 7 0 5 := o1 7 0 5 (by omega)
  obtain ⟨u2, e2, j2, o2, k2, m2⟩ := x7_pay j1 (p := c) (q := s) (s := e) (by omega) (by omega) (by omega)
  have n2 : u2 7 0 5 = u1 7 0 5 := o2 7 0 5 (by omega)
  have r2 : u2 2 a 3 = v 2 a 3 := (o1.tr o2) 2 a 3 (by omega)
  obtain ⟨u3, e3, j3, o3, k3, m3⟩ := x7_pay j2 (p := c) (q := u2 2 a 3) (s := d - sh - e) (by omega) (by omega) (by omega)
  have o := (o1.tr o2).tr o3
  have k := (k1.tr k2).tr k3
  have g2 : ∀ i j, u3 2 i j = v 2 i j := fun i j => o 2 i j (by omega)
  have g7 : ∀ i j, u3 7 i j = v 7 i j := fun i j => o 7 i j (by omega)
  have g6 : ∀ i j, u3 6 i j = v 6 i j := fun i j => o 6 i j (by omega)
  have w3 : w32 (w32 (d - sh) - e) = d - sh - e := by
    rw [w32_i (z := d - sh) (by omega) (by omega), w32_i (by omega) (by omega)]
  obtain ⟨fl, ef⟩ := x2_flip (v := u3) (a := a) (by rw [g2]; omega) (u3 7 0 9)
  unfold sp_X7_carryOut
  rw [esh, rB_ok, chk_t ca.1, chk_t (by omega), e1, rB_ok, e2, rB_ok, w3, e3, rB_ok, ef, rB_ok]
  by_cases g : fl = 0
  · rw [if_pos g]
    refine wp_fin (v := u3) (s := s) j3 (by rw [g7]; exact ca) (by rw [g2]; exact cb) (by rw [g7]; exact cc) (by rw [g7]; exact cs) cd (by rw [g2]; exact cl) (by rw [g7]; exact hn) (fun w f1 f2 f3 => ?_)
    rw [g7]
    exact hk w f1 (k.tr f2) (Nl_of (g7 0 7) (g2 a 5) f3)
  · rw [if_neg g, g2, g2, g6, chk_t (by omega), chk_t (by omega)]
    have hpn := (IPx j3 (a := v 6 (v 2 a 1) 1) (by rw [g7]; omega)).2
    have j4 := Inv_pun j3 (x := v 2 a 3) (y := v 2 a 1) (by rw [g7]; omega) (by rw [g7]; omega)
    rw [g6] at j4
    have q2 : ∀ i j, up u3 3 (v 2 a 3) 5 (or32 (u3 3 (v 2 a 3) 5) (shl32 1 (v 6 (v 2 a 1) 1))) 2 i j = v 2 i j := fun i j => by rw [up_o (by omega), g2]
    have q7 : ∀ i j, up u3 3 (v 2 a 3) 5 (or32 (u3 3 (v 2 a 3) 5) (shl32 1 (v 6 (v 2 a 1) 1))) 7 i j = v 7 i j := fun i j => by rw [up_o (by omega), g7]
    unfold sp_X3_punishBy
    rw [chk_t (by omega), hpn, rLet_r, rB_ok]
    refine wp_fin (v := up u3 3 (v 2 a 3) 5 (or32 (u3 3 (v 2 a 3) 5) (shl32 1 (v 6 (v 2 a 1) 1)))) (s := s) j4 (by rw [q7]; exact ca) (by rw [q2]; exact cb) (by rw [q7]; exact cc) (by rw [q7]; exact cs) cd (by rw [q2]; exact cl) (by rw [q7]; exact hn) (fun w f1 f2 f3 => ?_)
    rw [q7]
    have k4 : Kp u3 (up u3 3 (v 2 a 3) 5 (or32 (u3 3 (v 2 a 3) 5) (shl32 1 (v 6 (v 2 a 1) 1)))) := by ((repeat (first | with_reducible refine Kp_u (by omega) ?_ | with_reducible refine Kp_n (by omega) ?_ | with_reducible refine Kp_o muF_o (by omega) ?_ | with_reducible refine Kp_o muA_o (by omega) ?_)); exact Kp_r)
    exact hk w f1 ((k.tr k4).tr f2) (Nl_of (q7 0 7) (q2 a 5) f3)
end Sa

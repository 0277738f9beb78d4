/-! PURE 36: the invariant holds behind a sale -/
section Fi
variable {v y7 y8 : V} {a b c d e i s x z x4 x5 z9 : Int} {K : Nat} {f g : Int → Int}
theorem sh_r {e : Int} (h : 0 ≤ e ∧ e < 10) : 0 ≤ shl32 1 e ∧ shl32 1 e < 1024 ∧ or32 0 (shl32 1 e) = shl32 1 e := by
  have h : e = 0 ∨ e = 1 ∨ e = 2 ∨ e = 3 ∨ e = 4 ∨ e = 5 ∨ e = 6 ∨ e = 7 ∨ e = 8 ∨ e = 9 := by omega
  rcases h with rfl | rfl | rfl | rfl | rfl | rfl | rfl | rfl | rfl | rfl <;> decide +kernel
theorem s10_d (h : 0 ≤ i ∧ i < 10) : s10 (d1 i x) = x := by
  have h : i = 0 ∨ i = 1 ∨ i = 2 ∨ i = 3 ∨ i = 4 ∨ i = 5 ∨ i = 6 ∨ i = 7 ∨ i = 8 ∨ i = 9 := by omega
  unfold s10 d1
  rcases h with rfl | rfl | rfl | rfl | rfl | rfl | rfl | rfl | rfl | rfl <;> simp (decide := true)
theorem s10_dl (h1 : 0 ≤ c ∧ c < 10) (h2 : 0 ≤ v 50 0 (v 62 0 a) ∧ v 50 0 (v 62 0 a) < 10) (h3 : 0 ≤ v 63 0 a ∧ v 63 0 a < 10) (h4 : 0 ≤ s ∧ s < 10) : s10 (dlF v a c d s e) = 0 := by
  have t1 := s10_d (x := d) h1
  have t2 := s10_d (x := shF v a d) h2
  have t3 := s10_d (x := d - shF v a d - e) h3
  have t4 := s10_d (x := e) h4
  unfold s10 at *
  unfold dlF
  omega
theorem s10_p : s10 (pmM v f 43 0) = s10 (v 43 0) + s10 f := by
  unfold s10
  simp (decide := true) only [pmM_r, and_self, if_true]
  omega
theorem s10_po {K : Nat} {i j z : Int} (hK : ¬ K = 43) (v : V) : s10 (up v K i j z 43 0) = s10 (v 43 0) := s10_o hK
theorem s10_c : s10 (pmC v f 43 0) = s10 (v 43 0) := by
  unfold s10
  simp (decide := true) only [pmC_r, and_self, false_and, if_false]
set_option maxHeartbeats 8000000 in
theorem fin_inv (h : Inv v) (ca : 0 ≤ a ∧ a < v 8 0 21) (cc : 0 ≤ c ∧ c < v 8 0 2) (cs : 0 ≤ s ∧ s < v 8 0 2) (cb : 1 ≤ b ∧ b ≤ v 64 0 a) (cd : 0 ≤ d ∧ d ≤ 1000000) (ce : 0 ≤ e ∧ 2 * e ≤ d) (cn : v 8 0 21 < 60) (cm : d ≤ v 43 0 c) (hy : (flF v a ∧ y7 = cP v (pmC (up v 2 a 6 (-1)) (dlF v a c d s e)) a ∧ y8 = up (pmM (up (up (up (up (cT v y7 a b c d s) 9 0 0 z9) 8 0 44 x4) 8 0 45 x5) 8 0 0 0) (dlF v a c d s e)) 47 0 (10 * v 50 0 (v 62 0 a) + v 63 0 a) 1) ∨ (¬ flF v a ∧ y7 = pmC (up v 2 a 6 (-1)) (dlF v a c d s e) ∧ y8 = pmM (up (up (up (up (cT v y7 a b c d s) 9 0 0 z9) 8 0 44 x4) 8 0 45 x5) 8 0 0 0) (dlF v a c d s e))) : Inv (mT v y8 a b c d s) := by
  have hs := h.s
  have hF := h.f
  unfold IS at hs
  have hl1 := (h.l a ca.1 ca.2).1
  have hw := h.w (v 62 0 a) (by omega) (by omega)
  have sb := shF_b h ca cd
  have nn : Unit → ((a = v 8 0 21) = False ∧ (v 8 0 21 = a) = False) := fun _ => ⟨eq_false (by omega), eq_false (by omega)⟩
  have hx : (0 : Int) = 0 := rfl
  have dn : ∀ k, 0 ≤ k → k < v 8 0 2 → 0 ≤ v 43 0 k + dlF v a c d s e k := fun k g0 g1 => by
    have hp := h.p k g0 g1
    have t1 := d1_b (i := v 50 0 (v 62 0 a)) (x := shF v a d) (B := 1000000) (by omega) (by omega) k
    have t2 := d1_b (i := v 63 0 a) (x := d - shF v a d - e) (B := 1000000) (by omega) (by omega) k
    have t3 := d1_b (i := s) (x := e) (B := 1000000) (by omega) (by omega) k
    unfold dlF
    by_cases q : k = c
    · subst q
      rw [d1_s]
      omega
    · rw [d1_o q]
      omega
  have dz : ∀ k, v 8 0 2 ≤ k → dlF v a c d s e k = 0 := fun k g0 => by
    unfold dlF
    rw [d1_o (by omega), d1_o (by omega), d1_o (by omega), d1_o (by omega)]
    rfl
  have dm := s10_dl (v := v) (a := a) (d := d) (e := e) (c := c) (s := s) (by omega) (by omega) (by omega) (by omega)
  have d0 : df 4 4 = 0 := by decide
  have scr := sh_r (e := c) (by omega)
  have oc := scr.2.2
  have os := or_rng (h := shl32 1 c) (e := s) scr.1 scr.2.1 (by omega) (by omega)
  have hd : hdF v a = 0 ∨ hdF v a = 1 := by
    unfold hdF
    split
    · exact Or.inr rfl
    · exact Or.inl rfl
  rcases hy with ⟨fl, rfl, rfl⟩ | ⟨fl, rfl, rfl⟩
  all_goals unfold mT cT
  all_goals try unfold cP
  all_goals rw [oc]
  all_goals refine ⟨?_, by ((repeat (first | with_reducible refine F8_u (by omega) ?_ | with_reducible refine F8_n (by omega) ?_ | with_reducible refine F8_o pmM_o (by omega) ?_ | with_reducible refine F8_o pmC_o (by omega) ?_)); exact h.f), by ((repeat (first | with_reducible refine IR_u (by omega) ?_ | with_reducible refine IR_n (by omega) ?_ | with_reducible refine IR_o pmM_o (by omega) ?_ | with_reducible refine IR_o pmC_o (by omega) ?_)); exact h.r), ?_, ?_, ?_, by ((repeat (first | with_reducible refine IW_u (by omega) ?_ | with_reducible refine IW_n (by omega) ?_ | with_reducible refine IW_o pmM_o (by omega) ?_ | with_reducible refine IW_o pmC_o (by omega) ?_)); exact h.w), by ((repeat (first | with_reducible refine IW2_u (by omega) ?_ | with_reducible refine IW2_n (by omega) ?_ | with_reducible refine IW2_o pmM_o (by omega) ?_ | with_reducible refine IW2_o pmC_o (by omega) ?_)); exact h.w2), by ((repeat (first | with_reducible refine ID_u (by omega) ?_ | with_reducible refine ID_n (by omega) ?_ | with_reducible refine ID_o pmM_o (by omega) ?_ | with_reducible refine ID_o pmC_o (by omega) ?_)); exact h.d), by ((repeat (first | with_reducible refine IY_u (by omega) ?_ | with_reducible refine IY_n (by omega) ?_ | with_reducible refine IY_o pmM_o (by omega) ?_ | with_reducible refine IY_o pmC_o (by omega) ?_)); exact h.y), ?_, by ((repeat (first | with_reducible refine IN_u (by omega) ?_ | with_reducible refine IN_n (by omega) ?_ | with_reducible refine IN_o pmM_o (by omega) ?_ | with_reducible refine IN_o pmC_o (by omega) ?_)); exact h.n), by ((repeat (first | with_reducible refine IN2_u (by omega) ?_ | with_reducible refine IN2_n (by omega) ?_ | with_reducible refine IN2_o pmM_o (by omega) ?_ | with_reducible refine IN2_o pmC_o (by omega) ?_)); exact h.n2), ?_, ?_⟩
  all_goals first
    | (unfold IS at *; (try simp (decide := true) (disch := omega) only [hx, up_r, nw_r, f8all hF, i7 h, k9, df_a, df_16, w32_i, w64_i, ↓reduceIte, if_true, if_false, false_and, and_false, true_and, and_true, and_self, not_true, not_false_iff, upf, pmC_r, pmM_r, nn ()]); omega)
    | (intro i q0 q1
       (try simp (decide := true) (disch := omega) only [hx, up_r, nw_r, f8all hF, i7 h, k9, df_a, df_16, w32_i, w64_i, ↓reduceIte, if_true, if_false, false_and, and_false, true_and, and_true, and_self, not_true, not_false_iff, upf, pmC_r, pmM_r, nn ()] at q0 q1)
       have hi := h.p i (by omega) (by omega)
       have t := dn i (by omega) (by omega)
       simp (decide := true) (disch := omega) only [hx, up_r, nw_r, f8all hF, i7 h, k9, df_a, df_16, w32_i, w64_i, ↓reduceIte, if_true, if_false, false_and, and_false, true_and, and_true, and_self, not_true, not_false_iff, upf, pmC_r, pmM_r, nn ()] <;> omega)
    | (intro i q0 q1
       (try simp (decide := true) (disch := omega) only [hx, up_r, nw_r, f8all hF, i7 h, k9, df_a, df_16, w32_i, w64_i, ↓reduceIte, if_true, if_false, false_and, and_false, true_and, and_true, and_self, not_true, not_false_iff, upf, pmC_r, pmM_r, nn ()] at q0 q1)
       have hi := h.p2 i (by omega) (by omega)
       have t := dz i (by omega)
       simp (decide := true) (disch := omega) only [hx, up_r, nw_r, f8all hF, i7 h, k9, df_a, df_16, w32_i, w64_i, ↓reduceIte, if_true, if_false, false_and, and_false, true_and, and_true, and_self, not_true, not_false_iff, upf, pmC_r, pmM_r, nn ()] <;> omega)
    | (refine ⟨?_, fun i q0 => ?_, fun i q0 => ?_, ?_, ?_, ?_⟩
       · simp (decide := true) (disch := omega) only [hx, up_r, nw_r, f8all hF, i7 h, k9, df_a, df_16, w32_i, w64_i, ↓reduceIte, if_true, if_false, false_and, and_false, true_and, and_true, and_self, not_true, not_false_iff, upf, pmC_r, pmM_r, nn ()]
         exact h.a.1
       · (try simp (decide := true) (disch := omega) only [hx, up_r, nw_r, f8all hF, i7 h, k9, df_a, df_16, w32_i, w64_i, ↓reduceIte, if_true, if_false, false_and, and_false, true_and, and_true, and_self, not_true, not_false_iff, upf, pmC_r, pmM_r, nn ()] at q0)
         have hi := h.a.2.1 i (by omega)
         simp (decide := true) (disch := omega) only [hx, up_r, nw_r, f8all hF, i7 h, k9, df_a, df_16, w32_i, w64_i, ↓reduceIte, if_true, if_false, false_and, and_false, true_and, and_true, and_self, not_true, not_false_iff, upf, pmC_r, pmM_r, nn ()] <;> omega
       · (try simp (decide := true) (disch := omega) only [hx, up_r, nw_r, f8all hF, i7 h, k9, df_a, df_16, w32_i, w64_i, ↓reduceIte, if_true, if_false, false_and, and_false, true_and, and_true, and_self, not_true, not_false_iff, upf, pmC_r, pmM_r, nn ()] at q0)
         have hi := h.a.2.2.1 i (by omega)
         have e : ¬ i = v 8 0 21 := by omega
         simp (decide := true) (disch := omega) only [hx, up_r, nw_r, f8all hF, i7 h, k9, df_a, df_16, w32_i, w64_i, ↓reduceIte, if_true, if_false, false_and, and_false, true_and, and_true, and_self, not_true, not_false_iff, upf, pmC_r, pmM_r, nn (), e] <;> omega
       · simp (decide := true) (disch := omega) only [hx, up_r, nw_r, f8all hF, i7 h, k9, df_a, df_16, w32_i, w64_i, ↓reduceIte, if_true, if_false, false_and, and_false, true_and, and_true, and_self, not_true, not_false_iff, upf, pmC_r, pmM_r, nn ()]
         exact h.a.2.2.2.1
       · simp (decide := true) (disch := omega) only [hx, up_r, nw_r, f8all hF, i7 h, k9, df_a, df_16, w32_i, w64_i, ↓reduceIte, if_true, if_false, false_and, and_false, true_and, and_true, and_self, not_true, not_false_iff, upf, pmC_r, pmM_r, nn ()]
         exact h.a.2.2.2.2.1
       · simp (decide := true) (disch := omega) only [hx, up_r, nw_r, f8all hF, i7 h, k9, df_a, df_16, w32_i, w64_i, ↓reduceIte, if_true, if_false, false_and, and_false, true_and, and_true, and_self, not_true, not_false_iff, upf, pmC_r, pmM_r, nn ()]
         exact h.a.2.2.2.2.2)
    | (have h3 := h.m
       unfold IM at h3 ⊢
       simp (decide := true) (disch := omega) only [s10_p, s10_c, s10_o, s10_n]
       simp (decide := true) (disch := omega) only [hx, up_r, nw_r, f8all hF, i7 h, k9, df_a, df_16, w32_i, w64_i, ↓reduceIte, if_true, if_false, false_and, and_false, true_and, and_true, and_self, not_true, not_false_iff, upf, pmC_r, pmM_r, nn ()]
       omega)
    | skip
  case inl.refine_5 =>
    intro i q0 q1
    unfold ICo ISa
    (try simp (decide := true) (disch := omega) only [hx, up_r, nw_r, f8all hF, i7 h, k9, df_a, df_16, w32_i, w64_i, ↓reduceIte, if_true, if_false, false_and, and_false, true_and, and_true, and_self, not_true, not_false_iff, upf, pmC_r, pmM_r, nn ()] at q0 q1)
    by_cases e1 : i = v 8 0 21
    · subst e1
      simp (decide := true) (disch := omega) only [hx, up_r, nw_r, f8all hF, i7 h, k9, df_a, df_16, w32_i, w64_i, ↓reduceIte, if_true, if_false, false_and, and_false, true_and, and_true, and_self, not_true, not_false_iff, upf, pmC_r, pmM_r, nn (), d0]
      omega
    · have hi := h.l i (by omega) (by omega)
      unfold ICo ISa at hi
      obtain ⟨hi1, hi2, hi3⟩ := hi
      have e2 : Unit → ((v 8 0 21 = i) = False ∧ (i = v 8 0 21) = False) := fun _ => ⟨eq_false (fun z => e1 z.symm), eq_false e1⟩
      by_cases g : i = a
      · subst g
        simp (decide := true) (disch := omega) only [hx, up_r, nw_r, f8all hF, i7 h, k9, df_a, df_16, w32_i, w64_i, ↓reduceIte, if_true, if_false, false_and, and_false, true_and, and_true, and_self, not_true, not_false_iff, upf, pmC_r, pmM_r, nn (), e2 ()]
        first | exact hi3 | omega | (refine ⟨?_, ?_, ?_⟩ <;> omega)
      · have g1 : Unit → ((a = i) = False ∧ (i = a) = False) := fun _ => ⟨eq_false (fun z => g z.symm), eq_false g⟩
        simp (decide := true) (disch := omega) only [hx, up_r, nw_r, f8all hF, i7 h, k9, df_a, df_16, w32_i, w64_i, ↓reduceIte, if_true, if_false, false_and, and_false, true_and, and_true, and_self, not_true, not_false_iff, upf, pmC_r, pmM_r, nn (), e2 (), g1 ()]
        first | exact hi3 | omega | (refine ⟨?_, ?_, ?_⟩ <;> omega)
  case inr.refine_5 =>
    intro i q0 q1
    unfold ICo ISa
    (try simp (decide := true) (disch := omega) only [hx, up_r, nw_r, f8all hF, i7 h, k9, df_a, df_16, w32_i, w64_i, ↓reduceIte, if_true, if_false, false_and, and_false, true_and, and_true, and_self, not_true, not_false_iff, upf, pmC_r, pmM_r, nn ()] at q0 q1)
    by_cases e1 : i = v 8 0 21
    · subst e1
      simp (decide := true) (disch := omega) only [hx, up_r, nw_r, f8all hF, i7 h, k9, df_a, df_16, w32_i, w64_i, ↓reduceIte, if_true, if_false, false_and, and_false, true_and, and_true, and_self, not_true, not_false_iff, upf, pmC_r, pmM_r, nn (), d0]
      omega
    · have hi := h.l i (by omega) (by omega)
      unfold ICo ISa at hi
      obtain ⟨hi1, hi2, hi3⟩ := hi
      have e2 : Unit → ((v 8 0 21 = i) = False ∧ (i = v 8 0 21) = False) := fun _ => ⟨eq_false (fun z => e1 z.symm), eq_false e1⟩
      by_cases g : i = a
      · subst g
        simp (decide := true) (disch := omega) only [hx, up_r, nw_r, f8all hF, i7 h, k9, df_a, df_16, w32_i, w64_i, ↓reduceIte, if_true, if_false, false_and, and_false, true_and, and_true, and_self, not_true, not_false_iff, upf, pmC_r, pmM_r, nn (), e2 ()]
        first | exact hi3 | omega | (refine ⟨?_, ?_, ?_⟩ <;> omega)
      · have g1 : Unit → ((a = i) = False ∧ (i = a) = False) := fun _ => ⟨eq_false (fun z => g z.symm), eq_false g⟩
        simp (decide := true) (disch := omega) only [hx, up_r, nw_r, f8all hF, i7 h, k9, df_a, df_16, w32_i, w64_i, ↓reduceIte, if_true, if_false, false_and, and_false, true_and, and_true, and_self, not_true, not_false_iff, upf, pmC_r, pmM_r, nn (), e2 (), g1 ()]
        first | exact hi3 | omega | (refine ⟨?_, ?_, ?_⟩ <;> omega)
  · have ob := fun q => or_bit (h := v 3 (v 63 0 a) 5) (e := v 50 0 (v 62 0 a)) (e' := q) (h.b.1 _ (by omega) (by omega)).1 (h.b.1 _ (by omega) (by omega)).2 (by omega) (by omega)
    have orr := or_rng (h := v 3 (v 63 0 a) 5) (e := v 50 0 (v 62 0 a)) (h.b.1 _ (by omega) (by omega)).1 (h.b.1 _ (by omega) (by omega)).2 (by omega) (by omega)
    refine ⟨fun p q0 q1 => ?_, fun p q q0 q1 q2 q3 => ?_, fun p q q0 q1 q2 q3 => ?_⟩
    · (try simp (decide := true) (disch := omega) only [hx, up_r, nw_r, f8all hF, i7 h, k9, df_a, df_16, w32_i, w64_i, ↓reduceIte, if_true, if_false, false_and, and_false, true_and, and_true, and_self, not_true, not_false_iff, upf, pmC_r, pmM_r, nn ()] at q1)
      have hi := h.b.1 p (by omega) (by omega)
      by_cases g : p = v 63 0 a
      · subst g
        simp (decide := true) (disch := omega) only [hx, up_r, nw_r, f8all hF, i7 h, k9, df_a, df_16, w32_i, w64_i, ↓reduceIte, if_true, if_false, false_and, and_false, true_and, and_true, and_self, not_true, not_false_iff, upf, pmC_r, pmM_r, nn ()]
        exact ⟨orr.1, orr.2.1⟩
      · simp (decide := true) (disch := omega) only [hx, up_r, nw_r, f8all hF, i7 h, k9, df_a, df_16, w32_i, w64_i, ↓reduceIte, if_true, if_false, false_and, and_false, true_and, and_true, and_self, not_true, not_false_iff, upf, pmC_r, pmM_r, nn (), g]
        exact hi
    · (try simp (decide := true) (disch := omega) only [hx, up_r, nw_r, f8all hF, i7 h, k9, df_a, df_16, w32_i, w64_i, ↓reduceIte, if_true, if_false, false_and, and_false, true_and, and_true, and_self, not_true, not_false_iff, upf, pmC_r, pmM_r, nn ()] at q1)
      have hi := h.b.2.1 p q (by omega) (by omega) (by omega) (by omega)
      by_cases g : p = v 63 0 a
      · by_cases g2 : q = v 50 0 (v 62 0 a)
        · have g3 : (10 * q + p = 10 * v 50 0 (v 62 0 a) + v 63 0 a) = True := eq_true (by omega)
          have ob := ob q (by omega) (by omega)
          simp (decide := true) (disch := omega) only [hx, up_r, nw_r, f8all hF, i7 h, k9, df_a, df_16, w32_i, w64_i, ↓reduceIte, if_true, if_false, false_and, and_false, true_and, and_true, and_self, not_true, not_false_iff, upf, pmC_r, pmM_r, nn (), g3, g]
          omega
        · have g3 : (10 * q + p = 10 * v 50 0 (v 62 0 a) + v 63 0 a) = False := eq_false (by omega)
          have ob := ob q (by omega) (by omega)
          rw [g] at g3 hi
          simp (decide := true) (disch := omega) only [hx, up_r, nw_r, f8all hF, i7 h, k9, df_a, df_16, w32_i, w64_i, ↓reduceIte, if_true, if_false, false_and, and_false, true_and, and_true, and_self, not_true, not_false_iff, upf, pmC_r, pmM_r, nn (), g3, g]
          omega
      · have g3 : (10 * q + p = 10 * v 50 0 (v 62 0 a) + v 63 0 a) = False := eq_false (by omega)
        simp (decide := true) (disch := omega) only [hx, up_r, nw_r, f8all hF, i7 h, k9, df_a, df_16, w32_i, w64_i, ↓reduceIte, if_true, if_false, false_and, and_false, true_and, and_true, and_self, not_true, not_false_iff, upf, pmC_r, pmM_r, nn (), g3, g]
        exact hi
    · (try simp (decide := true) (disch := omega) only [hx, up_r, nw_r, f8all hF, i7 h, k9, df_a, df_16, w32_i, w64_i, ↓reduceIte, if_true, if_false, false_and, and_false, true_and, and_true, and_self, not_true, not_false_iff, upf, pmC_r, pmM_r, nn ()] at q0)
      have hi := h.b.2.2 p q (by omega) (by omega) (by omega) (by omega)
      have g3 : (10 * q + p = 10 * v 50 0 (v 62 0 a) + v 63 0 a) = False := eq_false (by omega)
      simp (decide := true) (disch := omega) only [hx, up_r, nw_r, f8all hF, i7 h, k9, df_a, df_16, w32_i, w64_i, ↓reduceIte, if_true, if_false, false_and, and_false, true_and, and_true, and_self, not_true, not_false_iff, upf, pmC_r, pmM_r, nn (), g3]
      exact hi
  · refine ⟨fun p q0 q1 => ?_, fun p q q0 q1 q2 q3 => ?_, fun p q q0 q1 q2 q3 => ?_⟩
    · (try simp (decide := true) (disch := omega) only [hx, up_r, nw_r, f8all hF, i7 h, k9, df_a, df_16, w32_i, w64_i, ↓reduceIte, if_true, if_false, false_and, and_false, true_and, and_true, and_self, not_true, not_false_iff, upf, pmC_r, pmM_r, nn ()] at q1)
      have hi := h.b.1 p (by omega) (by omega)
      simp (decide := true) (disch := omega) only [hx, up_r, nw_r, f8all hF, i7 h, k9, df_a, df_16, w32_i, w64_i, ↓reduceIte, if_true, if_false, false_and, and_false, true_and, and_true, and_self, not_true, not_false_iff, upf, pmC_r, pmM_r, nn ()]
      exact hi
    · (try simp (decide := true) (disch := omega) only [hx, up_r, nw_r, f8all hF, i7 h, k9, df_a, df_16, w32_i, w64_i, ↓reduceIte, if_true, if_false, false_and, and_false, true_and, and_true, and_self, not_true, not_false_iff, upf, pmC_r, pmM_r, nn ()] at q1)
      have hi := h.b.2.1 p q (by omega) (by omega) (by omega) (by omega)
      simp (decide := true) (disch := omega) only [hx, up_r, nw_r, f8all hF, i7 h, k9, df_a, df_16, w32_i, w64_i, ↓reduceIte, if_true, if_false, false_and, and_false, true_and, and_true, and_self, not_true, not_false_iff, upf, pmC_r, pmM_r, nn ()]
      exact hi
    · (try simp (decide := true) (disch := omega) only [hx, up_r, nw_r, f8all hF, i7 h, k9, df_a, df_16, w32_i, w64_i, ↓reduceIte, if_true, if_false, false_and, and_false, true_and, and_true, and_self, not_true, not_false_iff, upf, pmC_r, pmM_r, nn ()] at q0)
      have hi := h.b.2.2 p q (by omega) (by omega) (by omega) (by omega)
      simp (decide := true) (disch := omega) only [hx, up_r, nw_r, f8all hF, i7 h, k9, df_a, df_16, w32_i, w64_i, ↓reduceIte, if_true, if_false, false_and, and_false, true_and, and_true, and_self, not_true, not_false_iff, upf, pmC_r, pmM_r, nn ()]
      exact hi
end Fi

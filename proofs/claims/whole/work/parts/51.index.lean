/-! PURE 31: index -/
section Ix
variable {v w : V} {Q : Int → V → Prop} {E : Nat → V → Prop} {a b c : Int}
theorem index_st (h : Inv v) : ∀ (n : Nat) (l1 l3 l : Int), 0 ≤ l → l ≤ v 8 0 21 → v 8 0 21 - l < n → 0 ≤ l3 → l3 ≤ l → ∃ r1 r3, 0 ≤ r3 ∧ r3 ≤ 60 ∧ (∀ k, lp_X7_index_7 0 k n v l1 l3 l = k v r1 r3 (v 8 0 21)) ∧ ∀ w, Md w v → ∀ k, lp_X8_index_12 0 k n w l1 l3 l = k w r1 r3 (v 8 0 21) := by
  have hs := h.s
  unfold IS at hs
  have c7 := i7 h
  intro n
  induction n with
  | zero => intro l1 l3 l h0 h1 h2; omega
  | succ n ih =>
    intro l1 l3 l h0 h1 h2 h3 h4
    have c8 : ∀ w, Md w v → w 8 0 30 = 0 ∧ w 8 0 31 = 0 ∧ w 8 0 32 = 0 ∧ w 8 0 33 = 0 ∧ w 8 0 21 = v 8 0 21 := fun w m => by
      rw [m.1 30 (by omega), m.1 31 (by omega), m.1 32 (by omega), m.1 33 (by omega), m.1 21 (by omega)]
      exact ⟨h.f.c (by omega), h.f.c (by omega), h.f.c (by omega), h.f.c (by omega), rfl⟩
    by_cases q : v 8 0 21 ≤ l
    · have : l = v 8 0 21 := by omega
      subst this
      refine ⟨l1, l3, h3, by omega, fun k => ?_, fun w m k => ?_⟩
      · rw [lp_X7_index_7]
        simp only [c7]
        rw [if_pos (by omega)]
      · rw [lp_X8_index_12]
        rw [(c8 w m).2.2.2.2, if_pos (by omega)]
    · have hl := h.l l h0 (by omega)
      have hl1 := hl.1
      have hl3 := hl.2.2
      unfold ISa at hl3
      have x := ILx h (a := l) ⟨h0, by omega⟩
      have e1 : w32 (l + 1) = l + 1 := w32_i (by omega) (by omega)
      have e2 : w32 (l3 + 1) = l3 + 1 := w32_i (by omega) (by omega)
      have hd : sp_X2_saleAhead l v = rOk (if v 70 0 l < 0 then -1 else v 2 (v 70 0 l) 7) v := by
        unfold sp_X2_saleAhead
        rw [x.2.2.2.1]
        split <;> rfl
      have skip : ∀ (l3 : Int), 0 ≤ l3 → l3 ≤ l + 1 → ∀ l1, ∃ r1 r3, 0 ≤ r3 ∧ r3 ≤ 60 ∧ (∀ k, lp_X7_index_7 0 k n v l1 l3 (l + 1) = k v r1 r3 (v 8 0 21)) ∧ ∀ w, Md w v → ∀ k, lp_X8_index_12 0 k n w l1 l3 (l + 1) = k w r1 r3 (v 8 0 21) := fun l3 g0 g1 l1 => ih l1 l3 (l + 1) (by omega) (by omega) (by omega) g0 g1
      by_cases s : v 71 0 l = -1
      · obtain ⟨r1, r3, b0, b1, r7, r8⟩ := skip l3 h3 (by omega) l1
        refine ⟨r1, r3, b0, b1, fun k => ?_, fun w m k => ?_⟩
        · rw [lp_X7_index_7]
          simp only [c7]
          rw [if_neg q, chk_t (by omega), chk_t (by omega), x.1, chk_t (by omega), hd, rB_ok, if_pos (by omega), e1]
          exact r7 k
        · rw [lp_X8_index_12]
          simp only [c8 w m]
          rw [if_neg q, chk_t (by omega), chk_t (by omega), chk_t (by omega), m.2 71 0 l (by omega) (by omega), if_pos s, e1]
          exact r8 w m k
      · have hf := h.l (v 70 0 l) (by omega) (by omega)
        have hf3 := hf.2.2
        unfold ISa at hf3
        have s7 : v 2 l 7 = l ∧ v 4 l 1 = v 72 0 l ∧ v 4 l 2 = v 73 0 l := by omega
        rw [if_neg (by omega)] at hd
        have go8 : ∀ w, Md w v → ∀ k, lp_X8_index_12 0 k (n + 1) w l1 l3 l = if v 71 0 (v 70 0 l) = -1 then lp_X8_index_12 0 k n w l1 l3 (l + 1) else if v 72 0 l ≤ 0 then lp_X8_index_12 0 k n w l1 l3 (l + 1) else if v 72 0 (v 70 0 l) ≤ 0 then lp_X8_index_12 0 k n w l1 l3 (l + 1) else chk (¬ (w64 ((v 72 0 (v 70 0 l)) * (v 73 0 l))) = 0) (lp_X8_index_12 0 k n w (w64 (l1 + (w64 ((w64 ((w64 (1000 * (v 72 0 l))) * (v 73 0 (v 70 0 l)))).tdiv (w64 ((v 72 0 (v 70 0 l)) * (v 73 0 l))))))) (l3 + 1) (l + 1)) := fun w m k => by
          rw [lp_X8_index_12]
          simp only [c8 w m, m.2 71 0 _ (by omega) (by omega), m.2 70 0 _ (by omega) (by omega), m.2 72 0 _ (by omega) (by omega), m.2 73 0 _ (by omega) (by omega), e1, e2]
          rw [if_neg q, chk_t (by omega), chk_t (by omega), chk_t (by omega), if_neg s, chk_t (by omega)]
          simp only [chk_t (show (0 : Int) ≤ 0 by omega)]
        by_cases g : v 71 0 (v 70 0 l) = -1
        · obtain ⟨r1, r3, b0, b1, r7, r8⟩ := skip l3 h3 (by omega) l1
          refine ⟨r1, r3, b0, b1, fun k => ?_, fun w m k => ?_⟩
          · rw [lp_X7_index_7]
            simp only [c7]
            rw [if_neg q, chk_t (by omega), chk_t (by omega), x.1, chk_t (by omega), hd, rB_ok, if_neg (by omega), if_pos (by omega), e1]
            exact r7 k
          · rw [go8 w m, if_pos g]
            exact r8 w m k
        · have s8 : v 2 (v 70 0 l) 7 = v 70 0 l ∧ v 4 (v 70 0 l) 1 = v 72 0 (v 70 0 l) ∧ v 4 (v 70 0 l) 2 = v 73 0 (v 70 0 l) := by omega
          have go7 : ∀ k, lp_X7_index_7 0 k (n + 1) v l1 l3 l = if v 72 0 l ≤ 0 then lp_X7_index_7 0 k n v l1 l3 (l + 1) else if v 72 0 (v 70 0 l) ≤ 0 then lp_X7_index_7 0 k n v l1 l3 (l + 1) else rB (sp_X4_riseSince l (v 70 0 l) v) (fun z10 v10 => (lp_X7_index_7 0 k n v10 (w64 (l1 + z10)) (l3 + 1) (l + 1))) := fun k => by
            rw [lp_X7_index_7]
            simp only [c7]
            rw [if_neg q, chk_t (by omega), chk_t (by omega), x.1, chk_t (by omega), hd, rB_ok, if_neg (by omega), if_neg (by omega), s7.1, s8.1, s7.2.1, s8.2.1, e1, e2]
          by_cases p1 : v 72 0 l ≤ 0
          · obtain ⟨r1, r3, b0, b1, r7, r8⟩ := skip l3 h3 (by omega) l1
            refine ⟨r1, r3, b0, b1, fun k => ?_, fun w m k => ?_⟩
            · rw [go7, if_pos p1]
              exact r7 k
            · rw [go8 w m, if_neg g, if_pos p1]
              exact r8 w m k
          · by_cases p2 : v 72 0 (v 70 0 l) ≤ 0
            · obtain ⟨r1, r3, b0, b1, r7, r8⟩ := skip l3 h3 (by omega) l1
              refine ⟨r1, r3, b0, b1, fun k => ?_, fun w m k => ?_⟩
              · rw [go7, if_neg p1, if_pos p2]
                exact r7 k
              · rw [go8 w m, if_neg g, if_neg p1, if_pos p2]
                exact r8 w m k
            · have mb := mul_b (x := v 72 0 (v 70 0 l)) (y := v 73 0 l) (X := 1000000) (Y := 60) (by omega) (by omega) (by omega) (by omega)
              have mp : 0 < v 72 0 (v 70 0 l) * v 73 0 l := Int.mul_pos (by omega) (by omega)
              have ew : w64 (v 72 0 (v 70 0 l) * v 73 0 l) = v 72 0 (v 70 0 l) * v 73 0 l := w64_i (by omega) (by omega)
              obtain ⟨r1, r3, b0, b1, r7, r8⟩ := skip (l3 + 1) (by omega) (by omega) (w64 (l1 + (w64 ((w64 ((w64 (1000 * (v 72 0 l))) * (v 73 0 (v 70 0 l)))).tdiv (w64 ((v 72 0 (v 70 0 l)) * (v 73 0 l)))))))
              refine ⟨r1, r3, b0, b1, fun k => ?_, fun w m k => ?_⟩
              · rw [go7, if_neg p1, if_neg p2]
                unfold sp_X4_riseSince
                rw [chk_t (by omega), s7.2.1, s7.2.2, s8.2.1, s8.2.2, if_pos (by rw [lcmp_0, ew]; omega), chk_t (by rw [ew]; omega), rB_ok]
                exact r7 k
              · rw [go8 w m, if_neg g, if_neg p1, if_neg p2, chk_t (by rw [ew]; omega)]
                exact r8 w m k
theorem index_ag (h : Inv v) : ∃ r, sp_X7_index 0 v = rOk r v ∧ ∀ w, Md w v → sp_X8_index 0 w = rOk r (up w 8 0 0 0) := by
  have hs := h.s
  unfold IS at hs
  obtain ⟨r1, r3, b0, b1, r7, r8⟩ := index_st h 200 0 0 0 (by omega) (by omega) (by omega) (by omega) (by omega)
  refine ⟨if r3 ≤ 0 then -1 else w64 (r1.tdiv r3), ?_, fun w m => ?_⟩
  · unfold sp_X7_index
    rw [r7]
    split
    · rfl
    · rw [chk_t (by omega)]
  · unfold sp_X8_index
    rw [rLet_r, r8 _ (Md_u (by omega) m)]
    by_cases q : r3 ≤ 0
    · rw [if_pos q, if_neg (by omega)]
    · rw [if_neg q, if_pos (by omega)]
end Ix

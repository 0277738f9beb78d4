/-! PURE 35: what a sale lays down: model -/
def mT (v y : V) (a b c d s : Int) : V :=
  up (up (up (up (up (up (up (up (up (up (up (up (up (up (up y 62 0 (v 8 0 21) (v 62 0 a)) 63 0 (v 8 0 21) c) 64 0 (v 8 0 21) b) 65 0 (v 8 0 21) (v 65 0 a)) 66 0 (v 8 0 21) (-1)) 70 0 (v 8 0 21) a) 71 0 (v 8 0 21) (-1)) 8 0 21 (v 8 0 21 + 1)) 64 0 a (v 64 0 a - b)) 66 0 a (-1)) 71 0 (v 8 0 21) (v 8 0 1)) 72 0 (v 8 0 21) d) 73 0 (v 8 0 21) b) 74 0 (v 8 0 21) (hdF v a)) 75 0 (v 8 0 21) (or32 (shl32 1 c) (shl32 1 s))
def g1F (c d k : Int) : Int := 0 - d1 c d k
def g2F (v : V) (a c d k : Int) : Int := g1F c d k + d1 (v 50 0 (v 62 0 a)) (shF v a d) k
def g3F (v : V) (a c d e k : Int) : Int := g2F v a c d k + d1 (v 63 0 a) (d - shF v a d - e) k
section Go
variable {v w u y : V} {Q : Int → V → Prop} {E : Nat → V → Prop} {a b c d e i j s x z p q B i' i0 y' l6 l7 l8 l9 : Int} {K : Nat} {r : Res} {f g : Int → Int} {kl : V → Res}
theorem g1F_e (k : Int) : g1F c d k = 0 - d1 c d k := rfl
theorem g2F_e (k : Int) : g2F v a c d k = g1F c d k + d1 (v 50 0 (v 62 0 a)) (shF v a d) k := rfl
theorem g3F_e (k : Int) : g3F v a c d e k = g2F v a c d k + d1 (v 63 0 a) (d - shF v a d - e) k := rfl
theorem dlF_e (k : Int) : dlF v a c d s e k = 0 - d1 c d k + d1 (v 50 0 (v 62 0 a)) (shF v a d) k + d1 (v 63 0 a) (d - shF v a d - e) k + d1 s e k := rfl
theorem wp_pm1 (g : Int → Int) (i : Int) (h0 : i0 = 0) (hi : i' = i) (hy : y' = w 43 0 i + g i) (hg : ∀ k, ¬ k = i → g k = 0) (h : Wp (kl (pmM w g)) Q E) : Wp (rLet (up w 43 i0 i' y') kl) Q E := by
  subst h0 hi
  rw [rLet_r, ← pmM_0 (v := w) (f := fun _ => 0) (fun _ => rfl), pmM_u hy hg]
  exact h
theorem wp_pm (g : Int → Int) (i : Int) (h0 : i0 = 0) (hi : i' = i) (hy : y' = w 43 0 i + g i) (hg : ∀ k, ¬ k = i → g k = f k) (h : Wp (kl (pmM w g)) Q E) : Wp (rLet (up (pmM w f) 43 i0 i' y') kl) Q E := by
  subst h0 hi
  rw [rLet_r, pmM_u hy hg]
  exact h
theorem wp_cp {e' : Int} (e6 : l6 = p) (e7 : l7 = q) (e8 : l8 = x) (he : ∀ l9 e', cp_X8_goes_179 0 a b c d e' p q x l9 y = r) (h : Wp r Q E) : Wp (cp_X8_goes_179 0 a b c d e' l6 l7 l8 l9 y) Q E := by
  subst e6 e7 e8
  rw [he]
  exact h
theorem x8_cp (h : Inv v) (ca : 0 ≤ a ∧ a < v 8 0 21) (cb : 1 ≤ b ∧ b ≤ v 64 0 a) (cn : v 8 0 21 < 60) (hF : F8 y) (r1 : y 8 0 1 = v 8 0 1) (r21 : y 8 0 21 = v 8 0 21) (r62 : y 62 0 a = v 62 0 a) (r64 : y 64 0 a = v 64 0 a) (r65 : y 65 0 a = v 65 0 a) (hs : (v 66 0 a = -1 ∧ s = v 63 0 a) ∨ (¬ v 66 0 a = -1 ∧ s = v 66 0 a)) (l9 e' : Int) : cp_X8_goes_179 0 a b c d e' (v 63 0 a) (v 50 0 (v 62 0 a)) (v 66 0 a) l9 y = rOk (v 8 0 21) (mT v y a b c d s) := by
  have hl1 := (h.l a ca.1 ca.2).1
  have nn : Unit → ((a = v 8 0 21) = False ∧ (v 8 0 21 = a) = False) := fun _ => ⟨eq_false (by omega), eq_false (by omega)⟩
  have hx := And.intro r1 (And.intro r21 (And.intro r62 (And.intro r64 r65)))
  unfold cp_X8_goes_179 sp_X8_lays
  apply eq_wp
  obtain t | t | t | t : (v 63 0 a = v 50 0 (v 62 0 a) ∧ v 66 0 a = -1 ∧ s = v 63 0 a) ∨ (¬ v 63 0 a = v 50 0 (v 62 0 a) ∧ v 66 0 a = -1 ∧ s = v 63 0 a) ∨ (v 63 0 a = v 50 0 (v 62 0 a) ∧ ¬ v 66 0 a = -1 ∧ s = v 66 0 a) ∨ (¬ v 63 0 a = v 50 0 (v 62 0 a) ∧ ¬ v 66 0 a = -1 ∧ s = v 66 0 a) := by omega
  all_goals repeat' (first | (with_reducible refine wp_B ?_) | (with_reducible refine wp_ok ?_) | (with_reducible refine wp_ex ?_) | (with_reducible refine wp_chk ?_ ?_; (· (first | omega | (simp (decide := true) (disch := omega) only [hx, up_r, nw_r, f8all hF, i7 h, k9, df_a, df_16, w32_i, w64_i, ↓reduceIte, if_true, if_false, false_and, and_false, true_and, and_true, and_self, not_true, not_false_iff, upf, lcmp_l, lcmp_g, lcmp_e, pmM_r, d1_s, nn (), dlF_e, g3F_e, g2F_e, g1F_e] <;> omega)))) | (with_reducible refine wp_t ?_ ?_; (· (first | omega | (simp (decide := true) (disch := omega) only [hx, up_r, nw_r, f8all hF, i7 h, k9, df_a, df_16, w32_i, w64_i, ↓reduceIte, if_true, if_false, false_and, and_false, true_and, and_true, and_self, not_true, not_false_iff, upf, lcmp_l, lcmp_g, lcmp_e, pmM_r, d1_s, nn (), dlF_e, g3F_e, g2F_e, g1F_e] <;> omega)))) | (with_reducible refine wp_f ?_ ?_; (· (first | omega | (simp (decide := true) (disch := omega) only [hx, up_r, nw_r, f8all hF, i7 h, k9, df_a, df_16, w32_i, w64_i, ↓reduceIte, if_true, if_false, false_and, and_false, true_and, and_true, and_self, not_true, not_false_iff, upf, lcmp_l, lcmp_g, lcmp_e, pmM_r, d1_s, nn (), dlF_e, g3F_e, g2F_e, g1F_e] <;> omega)))) | (with_reducible apply wp_up; (· (first | (simp (decide := true) (disch := omega) only [hx, up_r, nw_r, f8all hF, i7 h, k9, df_a, df_16, w32_i, w64_i, ↓reduceIte, if_true, if_false, false_and, and_false, true_and, and_true, and_self, not_true, not_false_iff, upf, lcmp_l, lcmp_g, lcmp_e, pmM_r, d1_s, nn (), dlF_e, g3F_e, g2F_e, g1F_e] <;> rfl) | rfl)); (· (first | (simp (decide := true) (disch := omega) only [hx, up_r, nw_r, f8all hF, i7 h, k9, df_a, df_16, w32_i, w64_i, ↓reduceIte, if_true, if_false, false_and, and_false, true_and, and_true, and_self, not_true, not_false_iff, upf, lcmp_l, lcmp_g, lcmp_e, pmM_r, d1_s, nn (), dlF_e, g3F_e, g2F_e, g1F_e] <;> rfl) | rfl)); (· (first | (simp (decide := true) (disch := omega) only [hx, up_r, nw_r, f8all hF, i7 h, k9, df_a, df_16, w32_i, w64_i, ↓reduceIte, if_true, if_false, false_and, and_false, true_and, and_true, and_self, not_true, not_false_iff, upf, lcmp_l, lcmp_g, lcmp_e, pmM_r, d1_s, nn (), dlF_e, g3F_e, g2F_e, g1F_e] <;> rfl) | rfl))) | (with_reducible apply wp_nw; (· (first | (simp (decide := true) (disch := omega) only [hx, up_r, nw_r, f8all hF, i7 h, k9, df_a, df_16, w32_i, w64_i, ↓reduceIte, if_true, if_false, false_and, and_false, true_and, and_true, and_self, not_true, not_false_iff, upf, lcmp_l, lcmp_g, lcmp_e, pmM_r, d1_s, nn (), dlF_e, g3F_e, g2F_e, g1F_e] <;> rfl) | rfl))))
  all_goals (refine ⟨by first | omega | (simp (decide := true) (disch := omega) only [hx, up_r, nw_r, f8all hF, i7 h, k9, df_a, df_16, w32_i, w64_i, ↓reduceIte, if_true, if_false, false_and, and_false, true_and, and_true, and_self, not_true, not_false_iff, upf, lcmp_l, lcmp_g, lcmp_e, pmM_r, d1_s, nn (), dlF_e, g3F_e, g2F_e, g1F_e] <;> omega), ?_⟩; unfold mT hdF; rw [t.2.2])
  all_goals ((repeat (first | rw [if_pos (by omega)] | rw [if_neg (by omega)])))
  all_goals first | rfl | rw [Int.add_sub_cancel]
set_option maxHeartbeats 8000000 in
theorem x8_goes (h : Inv v) (m : Md4 w v) (ca : 0 ≤ a ∧ a < v 8 0 21) (cc : 0 ≤ c ∧ c < v 8 0 2) (cb : 1 ≤ b ∧ b ≤ v 64 0 a) (cd : 0 ≤ d ∧ d ≤ 1000000) (ce : 0 ≤ e ∧ 2 * e ≤ d) (cn : v 8 0 21 < 60) (hs : (v 66 0 a = -1 ∧ s = v 63 0 a ∧ e = 0) ∨ (¬ v 66 0 a = -1 ∧ s = v 66 0 a)) (y : V) (hy : (flF v a → y = up (pmM w (dlF v a c d s e)) 47 0 (10 * v 50 0 (v 62 0 a) + v 63 0 a) 1) ∧ (¬ flF v a → y = pmM w (dlF v a c d s e))) : sp_X8_goes 0 a b c d e w = rOk (v 8 0 21) (mT v y a b c d s) := by
  have nn : Unit → True := fun _ => trivial
  have hs7 := h.s
  have hF := F8_M4 m h.f
  unfold IS at hs7
  have hl := h.l a ca.1 ca.2
  have hl1 := hl.1
  have hl2 := hl.2.1
  have hl3 := hl.2.2
  unfold ICo at hl2
  unfold ISa at hl3
  clear hl
  have hw := h.w (v 62 0 a) (by omega) (by omega)
  have hp := h.p (v 63 0 a) (by omega) (by omega)
  have hr := h.r (v 44 0 (v 63 0 a)) (by omega) (by omega)
  have cs : 0 ≤ s ∧ s < v 8 0 2 := by omega
  have sb := shF_b h ca cd
  have m1 := mon_b h (a := c) (by omega)
  have m2 := mon_b h (a := v 50 0 (v 62 0 a)) (by omega)
  have m3 := mon_b h (a := v 63 0 a) (by omega)
  have m4 := mon_b h (a := s) (by omega)
  have k1 := d1_b (i := c) (x := d) (B := 1000000) (by omega) (by omega)
  have k2 := d1_b (i := v 50 0 (v 62 0 a)) (x := shF v a d) (B := 1000000) (by omega) (by omega)
  have k3 := d1_b (i := v 63 0 a) (x := d - shF v a d - e) (B := 1000000) (by omega) (by omega)
  have k1a := k1 (v 50 0 (v 62 0 a))
  have k1h := k1 (v 63 0 a)
  have k2h := k2 (v 63 0 a)
  have k1s := k1 s
  have k2s := k2 s
  have k3s := k3 s
  clear k1 k2 k3
  have hm := mul_b (x := d) (X := 1000000) (y := v 48 0 (v 44 0 (v 63 0 a))) (Y := 20) (by omega) (by omega) (by omega) (by omega)
  have sh1 : v 63 0 a = v 50 0 (v 62 0 a) → shF v a d = 0 := fun q => if_pos q
  have sh2 : ¬ v 63 0 a = v 50 0 (v 62 0 a) → shF v a d = (d * v 48 0 (v 44 0 (v 63 0 a))).tdiv 100 := fun q => if_neg q
  have hx := And.intro (m.2 62 0 a (by omega) (by omega)) (And.intro (m.2 63 0 a (by omega) (by omega)) (And.intro (m.2 64 0 a (by omega) (by omega)) (And.intro (m.2 65 0 a (by omega) (by omega)) (And.intro (m.2 66 0 a (by omega) (by omega)) (And.intro (m.2 71 0 a (by omega) (by omega)) (And.intro (m.2 74 0 a (by omega) (by omega)) (And.intro (m.2 50 0 (v 62 0 a) (by omega) (by omega)) (And.intro (m.2 44 0 (v 63 0 a) (by omega) (by omega)) (And.intro (m.2 48 0 (v 44 0 (v 63 0 a)) (by omega) (by omega)) (And.intro (m.2 43 0 c (by omega) (by omega)) (And.intro (m.2 43 0 (v 50 0 (v 62 0 a)) (by omega) (by omega)) (And.intro (m.2 43 0 (v 63 0 a) (by omega) (by omega)) (And.intro (m.2 43 0 s (by omega) (by omega)) (And.intro (m.1 1 (by omega) (by omega) (by omega)) (m.1 21 (by omega) (by omega) (by omega))))))))))))))))
  have ecp : ∀ y, (y = pmM w (dlF v a c d s e) ∨ y = up (pmM w (dlF v a c d s e)) 47 0 (10 * v 50 0 (v 62 0 a) + v 63 0 a) 1) → ∀ l9 e', cp_X8_goes_179 0 a b c d e' (v 63 0 a) (v 50 0 (v 62 0 a)) (v 66 0 a) l9 y = rOk (v 8 0 21) (mT v y a b c d s) := by
    intro y g l9 e'
    have go : ∀ (K : Nat) (i j : Int), ¬ K = 43 → ¬ K = 47 → y K i j = w K i j := fun K i j g1 g2 => by
      rcases g with rfl | rfl
      · rw [pmM_r, if_neg (by omega)]
      · rw [up_o (by omega), pmM_r, if_neg (by omega)]
    refine x8_cp h ca cb cn (fun j hj => by rw [go _ _ _ (by omega) (by omega)]; exact hF j hj) ?_ ?_ ?_ ?_ ?_ (by omega) l9 e'
    all_goals rw [go _ _ _ (by omega) (by omega)]
    all_goals simp only [hx]
  have b1 : 0 ≤ v 62 0 a ∧ v 62 0 a < 12 ∧ 0 ≤ v 63 0 a ∧ v 63 0 a < 10 ∧ 0 ≤ v 50 0 (v 62 0 a) ∧ v 50 0 (v 62 0 a) < 10 ∧ 0 ≤ v 8 0 21 ∧ v 64 0 a ≤ 60 ∧ 0 ≤ v 8 0 1 ∧ v 8 0 1 ≤ 20000 ∧ 0 ≤ v 44 0 (v 63 0 a) ∧ v 44 0 (v 63 0 a) < 4 ∧ 0 ≤ c ∧ c < 10 ∧ a < 60 := ⟨by omega, by omega, by omega, by omega, by omega, by omega, by omega, by omega, by omega, by omega, by omega, by omega, by omega, by omega, by omega⟩
  have b71 : ¬ v 71 0 a = -1 → 0 ≤ v 71 0 a ∧ v 71 0 a ≤ v 8 0 1 := fun z => by omega
  have b66 : ¬ v 66 0 a = -1 → 0 ≤ v 66 0 a ∧ v 66 0 a < 10 := fun z => by omega
  unfold sp_X8_goes
  apply eq_wp
  rcases fl_c v a with t | t | t | t | t
  case' inl => have e9 := hy.2 (fun z => z.1 t)
  case' inr.inl => have e9 := hy.2 (fun z => z.2.1 t.2)
  case' inr.inr.inl => have e9 := hy.2 (fun z => z.2.2.1 t.2.2)
  case' inr.inr.inr.inl => have e9 := hy.2 (fun z => absurd z.2.2.2 (by omega))
  case' inr.inr.inr.inr => have e9 := hy.1 t
  case' inl => replace hx := And.intro hx t
  case' inl => have sh := sh1 t
  case' inl => rw [t] at k3s
  case' inr.inl => have sh := sh2 t.1
  case' inr.inr.inl => have sh := sh2 t.1
  case' inr.inr.inr.inl => have sh := sh2 t.1
  case' inr.inr.inr.inr => have sh := sh2 t.1
  case' inr.inr.inl => have t9 := b71 t.2.1
  case' inr.inr.inr.inl => have t9 := b71 t.2.1
  case' inr.inr.inr.inr => have t9 := b71 t.2.1
  all_goals clear hy hl1 hl2 hl3 hw hp hr cs hs7 b71 sh1 sh2
  all_goals rcases hs with g | ⟨g, rfl⟩
  all_goals try have g9 := b66 g
  all_goals clear b66
  all_goals try have z0 : ∀ k, d1 s e k = 0 := fun k => by rw [g.2.2]; exact d1_0 k
  all_goals try replace hx := And.intro hx z0
  all_goals repeat' (first | (with_reducible refine wp_pm (dlF v a c d s e) (v 63 0 a) ?_ ?_ ?_ ?_ ?_; (· (first | omega | (simp (decide := true) (disch := omega) only [hx, up_r, nw_r, f8all hF, i7 h, k9, df_a, df_16, w32_i, w64_i, ↓reduceIte, if_true, if_false, false_and, and_false, true_and, and_true, and_self, not_true, not_false_iff, upf, lcmp_l, lcmp_g, lcmp_e, pmM_r, d1_s, nn (), dlF_e, g3F_e, g2F_e, g1F_e] <;> omega))); (· (first | omega | (simp (decide := true) (disch := omega) only [hx, up_r, nw_r, f8all hF, i7 h, k9, df_a, df_16, w32_i, w64_i, ↓reduceIte, if_true, if_false, false_and, and_false, true_and, and_true, and_self, not_true, not_false_iff, upf, lcmp_l, lcmp_g, lcmp_e, pmM_r, d1_s, nn (), dlF_e, g3F_e, g2F_e, g1F_e] <;> omega))); (· (first | omega | (simp (decide := true) (disch := omega) only [hx, up_r, nw_r, f8all hF, i7 h, k9, df_a, df_16, w32_i, w64_i, ↓reduceIte, if_true, if_false, false_and, and_false, true_and, and_true, and_self, not_true, not_false_iff, upf, lcmp_l, lcmp_g, lcmp_e, pmM_r, d1_s, nn (), dlF_e, g3F_e, g2F_e, g1F_e] <;> omega))); (· (intro k hk; simp only [dlF_e, g3F_e, g2F_e, g1F_e, d1_o hk, z0] <;> omega))) | (with_reducible refine wp_pm (dlF v a c d (v 66 0 a) e) (v 66 0 a) ?_ ?_ ?_ ?_ ?_; (· (first | omega | (simp (decide := true) (disch := omega) only [hx, up_r, nw_r, f8all hF, i7 h, k9, df_a, df_16, w32_i, w64_i, ↓reduceIte, if_true, if_false, false_and, and_false, true_and, and_true, and_self, not_true, not_false_iff, upf, lcmp_l, lcmp_g, lcmp_e, pmM_r, d1_s, nn (), dlF_e, g3F_e, g2F_e, g1F_e] <;> omega))); (· (first | omega | (simp (decide := true) (disch := omega) only [hx, up_r, nw_r, f8all hF, i7 h, k9, df_a, df_16, w32_i, w64_i, ↓reduceIte, if_true, if_false, false_and, and_false, true_and, and_true, and_self, not_true, not_false_iff, upf, lcmp_l, lcmp_g, lcmp_e, pmM_r, d1_s, nn (), dlF_e, g3F_e, g2F_e, g1F_e] <;> omega))); (· (first | omega | (simp (decide := true) (disch := omega) only [hx, up_r, nw_r, f8all hF, i7 h, k9, df_a, df_16, w32_i, w64_i, ↓reduceIte, if_true, if_false, false_and, and_false, true_and, and_true, and_self, not_true, not_false_iff, upf, lcmp_l, lcmp_g, lcmp_e, pmM_r, d1_s, nn (), dlF_e, g3F_e, g2F_e, g1F_e] <;> omega))); (· (intro k hk; simp only [dlF_e, g3F_e, g2F_e, g1F_e, d1_o hk] <;> omega))) | (with_reducible refine wp_pm (g2F v a c d) (v 50 0 (v 62 0 a)) ?_ ?_ ?_ ?_ ?_; (· (first | omega | (simp (decide := true) (disch := omega) only [hx, up_r, nw_r, f8all hF, i7 h, k9, df_a, df_16, w32_i, w64_i, ↓reduceIte, if_true, if_false, false_and, and_false, true_and, and_true, and_self, not_true, not_false_iff, upf, lcmp_l, lcmp_g, lcmp_e, pmM_r, d1_s, nn (), dlF_e, g3F_e, g2F_e, g1F_e] <;> omega))); (· (first | omega | (simp (decide := true) (disch := omega) only [hx, up_r, nw_r, f8all hF, i7 h, k9, df_a, df_16, w32_i, w64_i, ↓reduceIte, if_true, if_false, false_and, and_false, true_and, and_true, and_self, not_true, not_false_iff, upf, lcmp_l, lcmp_g, lcmp_e, pmM_r, d1_s, nn (), dlF_e, g3F_e, g2F_e, g1F_e] <;> omega))); (· (first | omega | (simp (decide := true) (disch := omega) only [hx, up_r, nw_r, f8all hF, i7 h, k9, df_a, df_16, w32_i, w64_i, ↓reduceIte, if_true, if_false, false_and, and_false, true_and, and_true, and_self, not_true, not_false_iff, upf, lcmp_l, lcmp_g, lcmp_e, pmM_r, d1_s, nn (), dlF_e, g3F_e, g2F_e, g1F_e] <;> omega))); (· (intro k hk; simp only [dlF_e, g3F_e, g2F_e, g1F_e, d1_o hk] <;> omega))) | (with_reducible refine wp_pm (g3F v a c d e) (v 63 0 a) ?_ ?_ ?_ ?_ ?_; (· (first | omega | (simp (decide := true) (disch := omega) only [hx, up_r, nw_r, f8all hF, i7 h, k9, df_a, df_16, w32_i, w64_i, ↓reduceIte, if_true, if_false, false_and, and_false, true_and, and_true, and_self, not_true, not_false_iff, upf, lcmp_l, lcmp_g, lcmp_e, pmM_r, d1_s, nn (), dlF_e, g3F_e, g2F_e, g1F_e] <;> omega))); (· (first | omega | (simp (decide := true) (disch := omega) only [hx, up_r, nw_r, f8all hF, i7 h, k9, df_a, df_16, w32_i, w64_i, ↓reduceIte, if_true, if_false, false_and, and_false, true_and, and_true, and_self, not_true, not_false_iff, upf, lcmp_l, lcmp_g, lcmp_e, pmM_r, d1_s, nn (), dlF_e, g3F_e, g2F_e, g1F_e] <;> omega))); (· (first | omega | (simp (decide := true) (disch := omega) only [hx, up_r, nw_r, f8all hF, i7 h, k9, df_a, df_16, w32_i, w64_i, ↓reduceIte, if_true, if_false, false_and, and_false, true_and, and_true, and_self, not_true, not_false_iff, upf, lcmp_l, lcmp_g, lcmp_e, pmM_r, d1_s, nn (), dlF_e, g3F_e, g2F_e, g1F_e] <;> omega))); (· (intro k hk; simp only [dlF_e, g3F_e, g2F_e, g1F_e, d1_o hk] <;> omega))) | (with_reducible refine wp_pm1 (g1F c d) c ?_ ?_ ?_ ?_ ?_; (· (first | omega | (simp (decide := true) (disch := omega) only [hx, up_r, nw_r, f8all hF, i7 h, k9, df_a, df_16, w32_i, w64_i, ↓reduceIte, if_true, if_false, false_and, and_false, true_and, and_true, and_self, not_true, not_false_iff, upf, lcmp_l, lcmp_g, lcmp_e, pmM_r, d1_s, nn (), dlF_e, g3F_e, g2F_e, g1F_e] <;> omega))); (· (first | omega | (simp (decide := true) (disch := omega) only [hx, up_r, nw_r, f8all hF, i7 h, k9, df_a, df_16, w32_i, w64_i, ↓reduceIte, if_true, if_false, false_and, and_false, true_and, and_true, and_self, not_true, not_false_iff, upf, lcmp_l, lcmp_g, lcmp_e, pmM_r, d1_s, nn (), dlF_e, g3F_e, g2F_e, g1F_e] <;> omega))); (· (first | omega | (simp (decide := true) (disch := omega) only [hx, up_r, nw_r, f8all hF, i7 h, k9, df_a, df_16, w32_i, w64_i, ↓reduceIte, if_true, if_false, false_and, and_false, true_and, and_true, and_self, not_true, not_false_iff, upf, lcmp_l, lcmp_g, lcmp_e, pmM_r, d1_s, nn (), dlF_e, g3F_e, g2F_e, g1F_e] <;> omega))); (· (intro k hk; simp only [dlF_e, g3F_e, g2F_e, g1F_e, d1_o hk] <;> omega))) | (with_reducible refine wp_cp ?_ ?_ ?_ (ecp _ ?_) ?_; (· (first | omega | (simp (decide := true) (disch := omega) only [hx, up_r, nw_r, f8all hF, i7 h, k9, df_a, df_16, w32_i, w64_i, ↓reduceIte, if_true, if_false, false_and, and_false, true_and, and_true, and_self, not_true, not_false_iff, upf, lcmp_l, lcmp_g, lcmp_e, pmM_r, d1_s, nn (), dlF_e, g3F_e, g2F_e, g1F_e] <;> omega))); (· (first | omega | (simp (decide := true) (disch := omega) only [hx, up_r, nw_r, f8all hF, i7 h, k9, df_a, df_16, w32_i, w64_i, ↓reduceIte, if_true, if_false, false_and, and_false, true_and, and_true, and_self, not_true, not_false_iff, upf, lcmp_l, lcmp_g, lcmp_e, pmM_r, d1_s, nn (), dlF_e, g3F_e, g2F_e, g1F_e] <;> omega))); (· (first | omega | (simp (decide := true) (disch := omega) only [hx, up_r, nw_r, f8all hF, i7 h, k9, df_a, df_16, w32_i, w64_i, ↓reduceIte, if_true, if_false, false_and, and_false, true_and, and_true, and_self, not_true, not_false_iff, upf, lcmp_l, lcmp_g, lcmp_e, pmM_r, d1_s, nn (), dlF_e, g3F_e, g2F_e, g1F_e] <;> omega))); (· (first | exact Or.inl rfl | exact Or.inr rfl))) | first | (with_reducible refine wp_B ?_) | (with_reducible refine wp_ok ?_) | (with_reducible refine wp_ex ?_) | (with_reducible refine wp_chk ?_ ?_; (· (first | omega | (simp (decide := true) (disch := omega) only [hx, up_r, nw_r, f8all hF, i7 h, k9, df_a, df_16, w32_i, w64_i, ↓reduceIte, if_true, if_false, false_and, and_false, true_and, and_true, and_self, not_true, not_false_iff, upf, lcmp_l, lcmp_g, lcmp_e, pmM_r, d1_s, nn (), dlF_e, g3F_e, g2F_e, g1F_e] <;> omega)))) | (with_reducible refine wp_t ?_ ?_; (· (first | omega | (simp (decide := true) (disch := omega) only [hx, up_r, nw_r, f8all hF, i7 h, k9, df_a, df_16, w32_i, w64_i, ↓reduceIte, if_true, if_false, false_and, and_false, true_and, and_true, and_self, not_true, not_false_iff, upf, lcmp_l, lcmp_g, lcmp_e, pmM_r, d1_s, nn (), dlF_e, g3F_e, g2F_e, g1F_e] <;> omega)))) | (with_reducible refine wp_f ?_ ?_; (· (first | omega | (simp (decide := true) (disch := omega) only [hx, up_r, nw_r, f8all hF, i7 h, k9, df_a, df_16, w32_i, w64_i, ↓reduceIte, if_true, if_false, false_and, and_false, true_and, and_true, and_self, not_true, not_false_iff, upf, lcmp_l, lcmp_g, lcmp_e, pmM_r, d1_s, nn (), dlF_e, g3F_e, g2F_e, g1F_e] <;> omega)))) | (with_reducible apply wp_up; (· (first | (simp (decide := true) (disch := omega) only [hx, up_r, nw_r, f8all hF, i7 h, k9, df_a, df_16, w32_i, w64_i, ↓reduceIte, if_true, if_false, false_and, and_false, true_and, and_true, and_self, not_true, not_false_iff, upf, lcmp_l, lcmp_g, lcmp_e, pmM_r, d1_s, nn (), dlF_e, g3F_e, g2F_e, g1F_e] <;> rfl) | rfl)); (· (first | (simp (decide := true) (disch := omega) only [hx, up_r, nw_r, f8all hF, i7 h, k9, df_a, df_16, w32_i, w64_i, ↓reduceIte, if_true, if_false, false_and, and_false, true_and, and_true, and_self, not_true, not_false_iff, upf, lcmp_l, lcmp_g, lcmp_e, pmM_r, d1_s, nn (), dlF_e, g3F_e, g2F_e, g1F_e] <;> rfl) | rfl)); (· (first | (simp (decide := true) (disch := omega) only [hx, up_r, nw_r, f8all hF, i7 h, k9, df_a, df_16, w32_i, w64_i, ↓reduceIte, if_true, if_false, false_and, and_false, true_and, and_true, and_self, not_true, not_false_iff, upf, lcmp_l, lcmp_g, lcmp_e, pmM_r, d1_s, nn (), dlF_e, g3F_e, g2F_e, g1F_e] <;> rfl) | rfl))) | (with_reducible apply wp_nw; (· (first | (simp (decide := true) (disch := omega) only [hx, up_r, nw_r, f8all hF, i7 h, k9, df_a, df_16, w32_i, w64_i, ↓reduceIte, if_true, if_false, false_and, and_false, true_and, and_true, and_self, not_true, not_false_iff, upf, lcmp_l, lcmp_g, lcmp_e, pmM_r, d1_s, nn (), dlF_e, g3F_e, g2F_e, g1F_e] <;> rfl) | rfl))))
  all_goals (refine ⟨by first | omega | (simp (decide := true) (disch := omega) only [hx, up_r, nw_r, f8all hF, i7 h, k9, df_a, df_16, w32_i, w64_i, ↓reduceIte, if_true, if_false, false_and, and_false, true_and, and_true, and_self, not_true, not_false_iff, upf, lcmp_l, lcmp_g, lcmp_e, pmM_r, d1_s, nn (), dlF_e, g3F_e, g2F_e, g1F_e] <;> omega), ?_⟩; rw [e9])
end Go

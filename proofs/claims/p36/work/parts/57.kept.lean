/-! PURE 23: areKept answers 1 -/
section Ke
variable {v u w : V} {Q : Int → V → Prop} {E : Nat → V → Prop} {a b c i j z l1 l4 l6 l8 l10 l12 : Int} {K : Nat}
theorem kept_lp1 {k : V → Int → Int → Int → Int → Int → Int → Res} (h : Inv v) (h5 : v 7 0 5 = 6) (h6 : v 7 0 6 = 4) (hk : Wp (k v (mon v) (sumD (oweF v) (v 7 0 8) 0) (sumD (oweF v) (v 7 0 8) 0) 240 1 6) Q E) : ∀ (n : Nat) (l4 l6 l8 l10 t : Int), 0 ≤ t → t ≤ 6 → 6 - t < n → (l4 + sumD (monF v) 6 t = mon v ∧ 0 ≤ l4 ∧ l4 ≤ 10000000 * t) → (l6 + sumD (fun k => sumD (fOB v k) (v 7 0 8) 0) 6 t = sumD (oweF v) (v 7 0 8) 0 ∧ 0 ≤ l6 ∧ l6 ≤ 2010000000 * t) → (l8 + sumD (fun k => sumD (fOT v k) (v 7 0 8) 0) 6 t = sumD (oweF v) (v 7 0 8) 0 ∧ 0 ≤ l8 ∧ l8 ≤ 2010000000 * t) → (l10 + sumD (fun k => sumD (fPH v k) (v 7 0 7) 0) 6 t = 240 ∧ 0 ≤ l10 ∧ l10 ≤ 3600 * t) → Wp (lp_L_areKept_4_18 l1 k n v l4 l6 l8 l10 1 t) Q E := by
  have hs := h.s
  unfold IS at hs
  intro n
  induction n with
  | zero => intro l4 l6 l8 l10 t h0 h1 h2; omega
  | succ n ih =>
    intro l4 l6 l8 l10 t h0 h1 h2 m1 m2 m3 m4
    unfold lp_L_areKept_4_18
    by_cases q : 6 ≤ t
    · have : t = 6 := by omega
      subst this
      rw [sumD_e (Int.le_refl 6), Int.add_zero] at m1 m2 m3 m4
      rw [if_pos q, m1.1, m2.1, m3.1, m4.1]
      exact hk
    · have ct : 0 ≤ t ∧ t < v 7 0 5 := ⟨h0, by omega⟩
      have b1 := mon_b h ct
      have b2 := sumD_b (f := fOB v t) (N := v 7 0 8) (t := 0) (by omega) (fun s p q => fOB_b h s p q)
      have b3 := sumD_b (f := fOT v t) (N := v 7 0 8) (t := 0) (by omega) (fun s p q => fOT_b h s p q)
      have b4 := sumD_b (f := fPH v t) (N := v 7 0 7) (t := 0) (by omega) (fun s p q => fPH_b h s p q)
      have b5 := pun_b h ct h6
      rw [sumD_s (by omega)] at m1 m2 m3 m4
      have em : monF v t = v 3 t 2 := rfl
      rw [em] at m1
      rw [if_neg q, oP_0 h ct, rB_ok, oP_1 h ct, rB_ok, oP_2 h ct, rB_ok, oP_3 h ct, rB_ok, if_neg (by decide), oP_0 h ct, rB_ok, if_neg (by omega), oP_6 h ct, rB_ok, if_neg (by omega)]
      rw [w64_i (z := l4 + v 3 t 2) (by omega) (by omega), w64_i (z := l6 + sumD (fOB v t) (v 7 0 8) 0) (by omega) (by omega), w64_i (z := l8 + sumD (fOT v t) (v 7 0 8) 0) (by omega) (by omega), w32_i (z := l10 + sumD (fPH v t) (v 7 0 7) 0) (by omega) (by omega), w32_i (z := t + 1) (by omega) (by omega)]
      exact ih _ _ _ _ (t + 1) (by omega) (by omega) (by omega) ⟨by omega, by omega, by omega⟩ ⟨by omega, by omega, by omega⟩ ⟨by omega, by omega, by omega⟩ ⟨by omega, by omega, by omega⟩
/-- what holds of every lot -/
theorem lot_f (h : Inv v) (ct : 0 ≤ a ∧ a < v 7 0 7) : ((dayF v a = -1 ∧ cha v a = 0) ∨ (0 ≤ dayF v a ∧ 1 ≤ cha v a ∧ (cha v a = 1 ∨ (0 ≤ v 2 a 2 ∧ cha v (v 2 a 2) = cha v a - 1)))) ∧ cha v a ≤ 61 ∧ (v 2 a 5 = -1 ∨ (0 ≤ v 2 a 5 ∧ v 2 a 5 < v 7 0 8 ∧ v 1 (v 2 a 5) 7 = 0)) ∧ (dlr v a = -1 ∨ (0 ≤ dlr v a ∧ ¬ dlr v a = v 2 a 3 ∧ 0 < v 2 a 4)) := by
  have hl1 := (h.l a ct.1 ct.2).1
  have hl2 := (h.l a ct.1 ct.2).2.1
  have hl3 := (h.l a ct.1 ct.2).2.2
  unfold ICo at hl2
  unfold ISa at hl3
  have hc := cha_eq h ct
  have hb := chF_b (v := v) 61 a
  refine ⟨?_, ?_, ?_, ?_⟩
  · unfold dayF
    by_cases s : v 2 a 7 = -1
    · rw [if_pos s] at hc ⊢
      exact Or.inl ⟨rfl, hc⟩
    · have s7 : v 2 a 7 = a := by omega
      rw [if_neg s] at hc ⊢
      rw [s7]
      refine Or.inr ⟨by omega, ?_⟩
      have hf : 0 ≤ v 2 a 2 ∧ v 2 a 2 < v 7 0 7 := by omega
      by_cases g : v 2 (v 2 a 2) 7 = -1
      · rw [if_pos g] at hc
        omega
      · rw [if_neg g] at hc
        by_cases g2 : 7 < v 4 a 0 - v 4 (v 2 a 2) 0
        · rw [if_pos g2] at hc
          omega
        · rw [if_neg g2] at hc
          have hb2 := chF_b (v := v) 61 (v 2 a 2)
          unfold cha at hc hb2 ⊢
          omega
  · unfold cha
    omega
  · omega
  · unfold dlr
    by_cases g : v 2 a 6 = -1
    · rw [if_pos g]
      exact Or.inl rfl
    · rw [if_neg g]
      right
      omega
/-- the counts before the lot t -/
def Cn (v u : V) (t : Int) : Prop := ∀ w : Int, 0 ≤ w → w < v 7 0 6 → (u 17 0 w + sumD (ptF v w) (v 7 0 7) t = 60 ∧ 0 ≤ u 17 0 w ∧ u 17 0 w ≤ 60 * t) ∧ (u 18 0 w + sumD (fLP v w) (v 7 0 7) t = sumD (fLP v w) (v 7 0 7) 0 ∧ 0 ≤ u 18 0 w ∧ u 18 0 w ≤ t)
theorem Cn_s (h : Inv v) (ct : 0 ≤ a ∧ a < v 7 0 7) (y : Int) (hy : y = if v 2 a 4 ≤ 0 then 0 else 1) (cn : Cn v u a) : Cn v (up (up u 17 0 (v 2 a 1) (u 17 0 (v 2 a 1) + v 2 a 4)) 18 0 (v 2 a 1) (u 18 0 (v 2 a 1) + y)) (a + 1) := by
  have hl1 := (h.l a ct.1 ct.2).1
  intro w g0 g1
  have c := cn w g0 g1
  have b1 := sumD_s (f := ptF v w) (N := v 7 0 7) (t := a) ct.2
  have b2 := sumD_s (f := fLP v w) (N := v 7 0 7) (t := a) ct.2
  unfold ptF at b1
  unfold fLP at b2
  have r1 : up (up u 17 0 (v 2 a 1) (u 17 0 (v 2 a 1) + v 2 a 4)) 18 0 (v 2 a 1) (u 18 0 (v 2 a 1) + y) 17 0 w = if w = v 2 a 1 then u 17 0 (v 2 a 1) + v 2 a 4 else u 17 0 w := by
    rw [up_o (by omega), up_r]
    by_cases e : w = v 2 a 1
    · rw [if_pos ⟨rfl, rfl, e⟩, if_pos e]
    · rw [if_neg (fun x => e x.2.2), if_neg e]
  have r2 : up (up u 17 0 (v 2 a 1) (u 17 0 (v 2 a 1) + v 2 a 4)) 18 0 (v 2 a 1) (u 18 0 (v 2 a 1) + y) 18 0 w = if w = v 2 a 1 then u 18 0 (v 2 a 1) + y else u 18 0 w := by
    rw [up_r]
    by_cases e : w = v 2 a 1
    · rw [if_pos ⟨rfl, rfl, e⟩, if_pos e]
    · rw [if_neg (fun x => e x.2.2), if_neg e, up_o (by omega)]
  rw [r1, r2]
  unfold ptF at c ⊢
  unfold fLP at c ⊢
  by_cases e : w = v 2 a 1
  · subst e
    rw [if_pos rfl] at b1 ⊢
    rw [if_pos rfl]
    by_cases e2 : v 2 a 4 ≤ 0
    · rw [if_neg (fun x => x.2 e2)] at b2
      rw [if_pos e2] at hy
      omega
    · rw [if_pos ⟨rfl, e2⟩] at b2
      rw [if_neg e2] at hy
      omega
  · have e3 : ¬ v 2 a 1 = w := fun x => e x.symm
    rw [if_neg e3] at b1
    rw [if_neg (fun x => e3 x.1)] at b2
    rw [if_neg e, if_neg e]
    omega
theorem kept_lp2 {k : V → Int → Int → Int → Res} (h : Inv v) (hq : ∀ u, Xa v u → Cn v u (v 7 0 7) → Wp (k u 1 (sumD (prtF v) (v 7 0 7) 0) (v 7 0 7)) Q E) : ∀ (n : Nat) (u : V) (l12 t : Int), Xa v u → Cn v u t → 0 ≤ t → t ≤ v 7 0 7 → v 7 0 7 - t < n → (l12 + sumD (prtF v) (v 7 0 7) t = sumD (prtF v) (v 7 0 7) 0 ∧ 0 ≤ l12 ∧ l12 ≤ 60 * t) → Wp (lp_L_areKept_4_134 l1 l4 l6 l8 l10 k n u 1 l12 t) Q E := by
  have hs := h.s
  unfold IS at hs
  intro n
  induction n with
  | zero => intro u l12 t x cn h0 h1 h2; omega
  | succ n ih =>
    intro u l12 t x cn h0 h1 h2 m
    unfold lp_L_areKept_4_134
    by_cases q : t = v 7 0 7
    · rw [x28_f h x (by omega), rB_ok, if_pos (by decide)]
      subst q
      rw [sumD_e (Int.le_refl _), Int.add_zero] at m
      rw [m.1]
      exact hq u x cn
    · have ct : 0 ≤ t ∧ t < v 7 0 7 := ⟨h0, by omega⟩
      have hl1 := (h.l t ct.1 ct.2).1
      obtain ⟨f1, f2, f3, f4⟩ := lot_f h ct
      have cw := cn (v 2 t 1) (by omega) (by omega)
      rw [sumD_s ct.2] at m
      have em : prtF v t = v 2 t 4 := rfl
      rw [em] at m
      have e12 : w32 (l12 + v 2 t 4) = l12 + v 2 t 4 := w32_i (by omega) (by omega)
      have e15 : w32 (t + 1) = t + 1 := w32_i (by omega) (by omega)
      have e17 : w32 (u 17 0 (v 2 t 1) + v 2 t 4) = u 17 0 (v 2 t 1) + v 2 t 4 := w32_i (by omega) (by omega)
      have ec : w32 (cha v t - 1) = cha v t - 1 := w32_i (by omega) (by omega)
      have r18 : ∀ z, up u 17 0 (v 2 t 1) z 18 0 (v 2 t 1) = u 18 0 (v 2 t 1) := fun z => up_o (by omega)
      rw [x28_t h x ct, rB_ok, if_neg (by omega), if_neg (by decide), xL_0 h x ct, rB_ok, xL_2 h x ct, rB_ok, chk_t (by omega), rLet_r, e17, r18, e12, e15]
      have step : ∀ u1, Xa v u1 → Cn v u1 (t + 1) → Wp (lp_L_areKept_4_134 l1 l4 l6 l8 l10 k n u1 1 (l12 + v 2 t 4) (t + 1)) Q E := fun u1 x1 c1 => ih u1 _ _ x1 c1 (by omega) (by omega) (by omega) ⟨by omega, by omega, by omega⟩
      by_cases p0 : v 2 t 4 ≤ 0
      · have x1 : Xa v (up (up u 17 0 (v 2 t 1) (u 17 0 (v 2 t 1) + v 2 t 4)) 18 0 (v 2 t 1) (u 18 0 (v 2 t 1) + 0)) := Xa_u ⟨Or.inr rfl, rfl⟩ (Xa_u ⟨Or.inl rfl, rfl⟩ x)
        have st := step _ x1 (Cn_s h ct 0 (by rw [if_pos p0]) cn)
        have p1 : ¬ v 2 t 4 < 0 ∧ v 2 t 2 < t := by omega
        rw [if_pos p0, rLet_r, w32_i (z := u 18 0 (v 2 t 1) + 0) (by omega) (by omega)]
        generalize up (up u 17 0 (v 2 t 1) (u 17 0 (v 2 t 1) + v 2 t 4)) 18 0 (v 2 t 1) (u 18 0 (v 2 t 1) + 0) = u1 at x1 st
        clear hl1 cw m e12 e15 e17 r18 hs
        repeat' (first | exact st | (with_reducible refine wp_B ?_) | (with_reducible refine wp_eq (xL_1 h x1 ct) (wp_ok ?_)) | (with_reducible refine wp_eq (xL_3 h x1 ct) (wp_ok ?_)) | (with_reducible refine wp_eq (xL_4 h x1 ct) (wp_ok ?_)) | (with_reducible refine wp_eq (xL_5 h x1 ct) (wp_ok ?_)) | (with_reducible refine wp_eq (xL_6 h x1 ct) (wp_ok ?_)) | (with_reducible refine wp_xL7 h x1 ct (fun z7 hz7 => ?_)) | (with_reducible refine wp_eq (xL_8 h x1 ct) (wp_ok ?_)) | (with_reducible refine wp_eq (xL_8 h x1 (a := v 2 t 2) (by omega)) (wp_ok ?_)) | (with_reducible refine wp_eq (xN_5 h x1 (by omega)) (wp_ok ?_)) | (with_reducible refine wp_i (fun hc => ?_) (fun hc => ?_)))
        all_goals (exfalso; omega)
      · have x1 : Xa v (up (up u 17 0 (v 2 t 1) (u 17 0 (v 2 t 1) + v 2 t 4)) 18 0 (v 2 t 1) (u 18 0 (v 2 t 1) + 1)) := Xa_u ⟨Or.inr rfl, rfl⟩ (Xa_u ⟨Or.inl rfl, rfl⟩ x)
        have st := step _ x1 (Cn_s h ct 1 (by rw [if_neg p0]) cn)
        have p1 : ¬ v 2 t 4 < 0 ∧ v 2 t 2 < t := by omega
        rw [if_neg p0, rLet_r, w32_i (z := u 18 0 (v 2 t 1) + 1) (by omega) (by omega)]
        generalize up (up u 17 0 (v 2 t 1) (u 17 0 (v 2 t 1) + v 2 t 4)) 18 0 (v 2 t 1) (u 18 0 (v 2 t 1) + 1) = u1 at x1 st
        clear hl1 cw m e12 e15 e17 r18 hs
        repeat' (first | exact st | (with_reducible refine wp_B ?_) | (with_reducible refine wp_eq (xL_1 h x1 ct) (wp_ok ?_)) | (with_reducible refine wp_eq (xL_3 h x1 ct) (wp_ok ?_)) | (with_reducible refine wp_eq (xL_4 h x1 ct) (wp_ok ?_)) | (with_reducible refine wp_eq (xL_5 h x1 ct) (wp_ok ?_)) | (with_reducible refine wp_eq (xL_6 h x1 ct) (wp_ok ?_)) | (with_reducible refine wp_xL7 h x1 ct (fun z7 hz7 => ?_)) | (with_reducible refine wp_eq (xL_8 h x1 ct) (wp_ok ?_)) | (with_reducible refine wp_eq (xL_8 h x1 (a := v 2 t 2) (by omega)) (wp_ok ?_)) | (with_reducible refine wp_eq (xN_5 h x1 (by omega)) (wp_ok ?_)) | (with_reducible refine wp_i (fun hc => ?_) (fun hc => ?_)))
        all_goals (exfalso; omega)
theorem kept_lp3 {k : V → Int → Int → Res} (h : Inv v) (h6 : v 7 0 6 = 4) (x : Xa v u) (cn : Cn v u (v 7 0 7)) (hk : Wp (k u 1 4) Q E) : ∀ (n : Nat) (t : Int), 0 ≤ t → t ≤ 4 → 4 - t < n → Wp (lp_L_areKept_4_375 l1 l4 l6 l8 l10 l12 k n u 1 t) Q E := by
  intro n
  induction n with
  | zero => intro t h0 h1 h2; omega
  | succ n ih =>
    intro t h0 h1 h2
    unfold lp_L_areKept_4_375
    by_cases q : 4 ≤ t
    · have : t = 4 := by omega
      subst this
      rw [if_pos q]
      exact hk
    · have ct : 0 ≤ t ∧ t < v 7 0 6 := ⟨h0, by omega⟩
      have c := cn t ct.1 ct.2
      rw [sumD_e (Int.le_refl _), sumD_e (Int.le_refl _)] at c
      have e15 : w32 (t + 1) = t + 1 := w32_i (by omega) (by omega)
      have st := ih (t + 1) (by omega) (by omega) (by omega)
      rw [if_neg q, if_neg (by decide), chk_t (by omega), if_neg (by omega), xW_5 h x ct, rB_ok, if_neg (by omega), e15]
      clear c cn q
      repeat' (first | exact st | (with_reducible refine wp_B ?_) | (with_reducible refine wp_eq (xW_4 h x ct) (wp_ok ?_)) | (with_reducible refine wp_xW3 h x ct (fun z7 hz7 => ?_)) | (with_reducible refine wp_i (fun hc => ?_) (fun hc => ?_)))
      all_goals (exfalso; omega)
theorem kept_1 (h : Inv v) (h5 : v 7 0 5 = 6) (h6 : v 7 0 6 = 4) (hz : ¬ v 99 17 0 = 1 ∧ ¬ v 99 18 0 = 1) (ha : a = mon v) : Wp (sp_L_areKept_4 a v) (fun z w => z = 1 ∧ Xa v w) NoE := by
  have hs := h.s
  unfold IS at hs
  have p1 := held_all h
  have p2 := owed_all h
  have p3 := gets_all h
  have p4 := parts_all h
  rw [h5] at p1 p2 p3
  rw [h6] at p4
  unfold sp_L_areKept_4
  refine kept_lp1 h h5 h6 ?_ 7 0 0 0 0 0 (by omega) (by omega) (by omega) ⟨by unfold mon; rw [h5]; omega, by omega, by omega⟩ ⟨by omega, by omega, by omega⟩ ⟨by omega, by omega, by omega⟩ ⟨by omega, by omega, by omega⟩
  have z1 : ¬ nw v 17 0 99 18 0 = 1 := by
    rw [nw_o (by omega) (by omega)]
    exact hz.2
  rw [chk_t ⟨by omega, hz.1⟩, rLet_r, chk_t ⟨by omega, z1⟩, rLet_r]
  have x0 : Xa v (nw (nw v 17 0) 18 0) := Xa_n ⟨Or.inr rfl, rfl⟩ (Xa_n ⟨Or.inl rfl, rfl⟩ Xa_r)
  have c0 : Cn v (nw (nw v 17 0) 18 0) 0 := fun w g0 g1 => by
    have r1 : nw (nw v 17 0) 18 0 17 0 w = 0 := by
      rw [nw_o (by omega) (by omega), nw_r, if_pos ⟨rfl, rfl⟩]
      rfl
    have r2 : nw (nw v 17 0) 18 0 18 0 w = 0 := by
      rw [nw_r, if_pos ⟨rfl, rfl⟩]
      rfl
    rw [r1, r2]
    have := h.t w g0 g1
    omega
  refine kept_lp2 h (fun u x cn => ?_) 62 _ 0 0 x0 c0 (by omega) (by omega) (by omega) ⟨by omega, by omega, by omega⟩
  refine kept_lp3 h h6 x cn ?_ 5 0 (by omega) (by omega) (by omega)
  have w9 : w32 (60 * 4) = 240 := by decide
  rw [if_neg (by decide), if_neg (by rw [lcmp_0]; omega), if_neg (by rw [lcmp_0]; omega), if_neg (by omega), if_neg (by rw [w9]; omega)]
  exact ⟨rfl, x⟩
end Ke

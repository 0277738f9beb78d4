/-! PURE 25: release, goesAway; repay -/
/-- the lots below t that f says -/
def pL (f : Int → Int) (a t : Int) : Int → Bool := fun j => decide (0 ≤ j ∧ j < t ∧ f j = a)
section Re
variable {v : V} {Q : Int → V → Prop} {E : Nat → V → Prop} {f : Int → Int} {a b c d i j t y z l N : Int} {K : Nat}
theorem pL_i : pL f a t j = true ↔ (0 ≤ j ∧ j < t ∧ f j = a) := by
  unfold pL
  exact decide_eq_true_iff
theorem pL_1 (h0 : 0 ≤ t) (c : f t = a) : ∀ i, pL f a (t + 1) i = true ↔ (pL f a t i = true ∨ i = t) := fun i => by
  rw [pL_i, pL_i]
  constructor
  · rintro ⟨z0, z1, z2⟩
    by_cases e : i = t
    · exact Or.inr e
    · exact Or.inl ⟨z0, by omega, z2⟩
  · rintro (⟨z0, z1, z2⟩ | rfl)
    · exact ⟨z0, by omega, z2⟩
    · exact ⟨h0, by omega, c⟩
theorem pL_0 (c : ¬ f t = a) : ∀ i, pL f a (t + 1) i = true ↔ pL f a t i = true := fun i => by
  rw [pL_i, pL_i]
  constructor
  · rintro ⟨z0, z1, z2⟩
    refine ⟨z0, ?_, z2⟩
    by_cases e : i = t
    · subst e
      exact absurd z2 c
    · omega
  · rintro ⟨z0, z1, z2⟩
    exact ⟨z0, by omega, z2⟩
theorem pL_n : ∀ i, ¬ pL f a 0 i = true := fun i z => by
  rw [pL_i] at z
  omega
def fCt (f : Int → Int) (a s : Int) : Int := if f s = a then 1 else 0
theorem fCt_b (s : Int) : 0 ≤ fCt f a s ∧ fCt f a s ≤ 1 := by
  unfold fCt
  split <;> omega
/-- the class: who bears the loan bears none -/
theorem x7_re (hN : v 7 0 7 = N) (hN2 : 0 ≤ N ∧ N ≤ 60) (h2 : v 7 0 2 = 0) (h12 : ∀ s, 0 ≤ s → s < N → v 12 0 s = s ∧ v 2 s 5 = f s) (ha : 0 ≤ a) (k : V → Int → Int → Res) : ∀ (n : Nat) (acc t : Int), 0 ≤ t → t ≤ N → N - t < n → 0 ≤ acc → acc ≤ t → lp_X7_release_9 0 a k n (muF v 2 5 (pL f a t) (-1)) acc t = k (muF v 2 5 (pL f a N) (-1)) (acc + sumD (fCt f a) N t) N := by
  intro n
  induction n with
  | zero => intro acc t h0 h1 h2; omega
  | succ n ih =>
    intro acc t h0 h1 h3 h4 h5
    unfold lp_X7_release_9
    have r7 : muF v 2 5 (pL f a t) (-1) 7 0 7 = N := by
      rw [muF_r, if_neg (by omega)]
      exact hN
    have r2 : muF v 2 5 (pL f a t) (-1) 7 0 2 = 0 := by
      rw [muF_r, if_neg (by omega)]
      exact h2
    rw [r7, r2]
    by_cases q : N ≤ t
    · rw [if_pos q, sumD_e q]
      have : t = N := by omega
      rw [this, Int.add_zero]
    · have x := h12 t h0 (by omega)
      have r12 : muF v 2 5 (pL f a t) (-1) 12 0 t = t := by
        rw [muF_r, if_neg (by omega)]
        exact x.1
      have r5 : muF v 2 5 (pL f a t) (-1) 2 t 5 = f t := by
        rw [muF_r, if_neg (by rw [pL_i]; omega)]
        exact x.2
      have e3 : w32 (t + 1) = t + 1 := w32_i (by omega) (by omega)
      rw [if_neg q, chk_t (by omega), chk_t (by omega), r12, chk_t (by omega), r5, e3, sumD_s (by omega)]
      by_cases c : f t = a
      · have hf : fCt f a t = 1 := if_pos c
        rw [if_pos c, rLet_r, muF_1 (pL_1 h0 c), w32_i (by omega) (by omega), ih _ _ (by omega) (by omega) (by omega) (by omega) (by omega), hf]
        congr 1
        omega
      · have hf : fCt f a t = 0 := if_neg c
        rw [if_neg c, muF_0 (fun i => (pL_0 c i)), ih _ _ (by omega) (by omega) (by omega) (by omega) (by omega), hf, Int.zero_add]
theorem muF_0' {v : V} {K0 : Nat} {j0 z : Int} {p p' : Int → Bool} (h : ∀ i, p' i = true ↔ p i = true) : muF v K0 j0 p z = muF v K0 j0 p' z := muF_0 h
theorem x8_ga2 (hN : v 8 0 21 = N) (hN2 : 0 ≤ N ∧ N ≤ 60) (h2 : v 8 0 25 = 0) (h12 : ∀ s, 0 ≤ s → s < N → v 65 0 s = f s) (k : V → Int → Res) : ∀ (n : Nat) (t : Int), 0 ≤ t → t ≤ N → N - t < n → lp_X8_goesAway_9 0 a k n (muA v 65 0 (pL f a t) (-1)) t = k (muA v 65 0 (pL f a N) (-1)) N := by
  intro n
  induction n with
  | zero => intro t h0 h1 h2; omega
  | succ n ih =>
    intro t h0 h1 h3
    unfold lp_X8_goesAway_9
    have r7 : muA v 65 0 (pL f a t) (-1) 8 0 21 = N := by
      rw [muA_r, if_neg (by omega)]
      exact hN
    have r2 : muA v 65 0 (pL f a t) (-1) 8 0 25 = 0 := by
      rw [muA_r, if_neg (by omega)]
      exact h2
    rw [r7, r2]
    by_cases q : N ≤ t
    · rw [if_pos q]
      have : t = N := by omega
      rw [this]
    · have x := h12 t h0 (by omega)
      have r5 : muA v 65 0 (pL f a t) (-1) 65 0 t = f t := by
        rw [muA_r, if_neg (by rw [pL_i]; omega)]
        exact x
      have e3 : w32 (t + 1) = t + 1 := w32_i (by omega) (by omega)
      rw [if_neg q, chk_t (by omega), chk_t (by omega), e3]
      by_cases c : f t = a
      · rw [if_neg (by rw [r5]; simpa using c), rLet_r, muA_1 (pL_1 h0 c), ih _ (by omega) (by omega) (by omega)]
      · rw [if_pos (by rw [r5]; exact c), rLet_r, up_sm, muA_0 (fun i => (pL_0 c i)), ih _ (by omega) (by omega) (by omega)]
/-- release: the loan gone, its lots free -/
def st7re (v : V) (a : Int) : V := muF (up v 1 a 7 1) 2 5 (pL (v 65 0) a (v 8 0 21)) (-1)
theorem wp_x7_re {w : V} (h7 : w 7 0 7 = v 8 0 21) (h72 : w 7 0 2 = 0) (h12 : ∀ s, 0 ≤ s → s < v 8 0 21 → w 12 0 s = s ∧ w 2 s 5 = v 65 0 s) (hI : Inv v) (ha : 0 ≤ a) (h : Q (sumD (fCt (v 65 0) a) (v 8 0 21) 0) (muF (up w 1 a 7 1) 2 5 (pL (v 65 0) a (v 8 0 21)) (-1))) : Wp (sp_X7_release 0 a w) Q E := by
  have hs := hI.s
  unfold IS at hs
  unfold sp_X7_release
  have e := x7_re (v := up w 1 a 7 1) (N := v 8 0 21) (f := v 65 0) (a := a) (by rw [up_o (by omega)]; exact h7) (by omega) (by rw [up_o (by omega)]; exact h72) (fun s g0 g1 => by
    rw [up_o (by omega), up_o (by omega)]
    exact h12 s g0 g1) ha (fun v9 u9_2 u9_3 => (rOk u9_2 v9)) 200 0 0 (by omega) (by omega) (by omega) (by omega) (by omega)
  rw [muF_n pL_n] at e
  refine wp_chk ha (wp_let ?_)
  rw [e, Int.zero_add]
  exact h
theorem wp_x8_ga2 {w : V} (h8 : w 8 0 21 = v 8 0 21) (hF : F8 w) (h65 : w 65 0 = v 65 0) (hI : Inv v) (ha : 0 ≤ a ∧ a < 20) (h : Q 0 (muA (up w 83 0 a 1) 65 0 (pL (v 65 0) a (v 8 0 21)) (-1))) : Wp (sp_X8_goesAway 0 a w) Q E := by
  have hs := hI.s
  unfold IS at hs
  unfold sp_X8_goesAway
  have c := f8all hF
  have e := x8_ga2 (v := up w 83 0 a 1) (N := v 8 0 21) (f := v 65 0) (a := a) (by rw [up_o (by omega)]; exact h8) (by omega) (by rw [up_o (by omega)]; exact c.2.2.2.2.2.2.2.2.2.2.2.2.2.2.2.2.2.2.2.2.1) (fun s g0 g1 => by
    rw [up_o (by omega), h65]) (fun v10 u10_2 => (rOk 0 v10)) 200 0 (by omega) (by omega) (by omega)
  rw [muA_n pL_n] at e
  simp only [c]
  refine wp_chk (by omega) (wp_chk ha (wp_let ?_))
  rw [e]
  exact h
end Re

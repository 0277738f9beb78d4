/-! PURE 28: seize -/
def T7 (v : V) (p : Int → Bool) (l : Int) : V := muF (muF (muF v 2 3 p l) 2 6 p (-1)) 2 7 p (-1)
def T8 (v : V) (p : Int → Bool) (l : Int) : V := muA (muA (muA v 63 0 p l) 66 0 p (-1)) 71 0 p (-1)
section Sz
variable {v : V} {Q : Int → V → Prop} {E : Nat → V → Prop} {f : Int → Int} {p p' : Int → Bool} {a b c d i j t y z l N : Int} {K K0 K2 : Nat} {j0 i0 : Int}
theorem up_muF (h : ¬ j = j0) : up (muF v K0 j0 p z) K0 t j y = muF (up v K0 t j y) K0 j0 p z := by
  funext K' i' j'
  simp only [up_r, muF_r]
  by_cases q : K' = K0 ∧ j' = j0 ∧ p i' = true
  · rw [if_neg (fun x => h (x.2.2.symm.trans q.2.1)), if_pos q, if_pos q]
  · rw [if_neg q, if_neg q]
theorem up_muA (h : ¬ K2 = K0) : up (muA v K0 i0 p z) K2 i t y = muA (up v K2 i t y) K0 i0 p z := by
  funext K' i' j'
  simp only [up_r, muA_r]
  by_cases q : K' = K0 ∧ i' = i0 ∧ p j' = true
  · rw [if_neg (fun x => h (x.1.symm.trans q.1)), if_pos q, if_pos q]
  · rw [if_neg q, if_neg q]
theorem T7_1 (h : ∀ i, p' i = true ↔ (p i = true ∨ i = t)) : up (up (up (T7 v p l) 2 t 3 l) 2 t 6 (-1)) 2 t 7 (-1) = T7 v p' l := by
  unfold T7
  rw [up_muF (j := 3) (by decide), up_muF (j := 3) (by decide), muF_1 h, up_muF (j := 6) (by decide), muF_1 h, muF_1 h]
theorem T8_1 (h : ∀ i, p' i = true ↔ (p i = true ∨ i = t)) : up (up (up (T8 v p l) 63 0 t l) 66 0 t (-1)) 71 0 t (-1) = T8 v p' l := by
  unfold T8
  rw [up_muA (K2 := 63) (by decide), up_muA (K2 := 63) (by decide), muA_1 h, up_muA (K2 := 66) (by decide), muA_1 h, muA_1 h]
theorem T7_0 (h : ∀ i, p' i = true ↔ p i = true) : T7 v p l = T7 v p' l := by
  unfold T7
  rw [muF_0 h, muF_0 h, muF_0 h]
theorem T8_0 (h : ∀ i, p' i = true ↔ p i = true) : T8 v p l = T8 v p' l := by
  unfold T8
  rw [muA_0 h, muA_0 h, muA_0 h]
theorem T7_n (h : ∀ i, ¬ p i = true) : T7 v p l = v := by
  unfold T7
  rw [muF_n h, muF_n h, muF_n h]
theorem T8_n (h : ∀ i, ¬ p i = true) : T8 v p l = v := by
  unfold T8
  rw [muA_n h, muA_n h, muA_n h]
theorem T7_o (h : ¬ K = 2) (i j : Int) : T7 v p l K i j = v K i j := by
  unfold T7
  rw [muF_o K i j h, muF_o K i j h, muF_o K i j h]
theorem T8_o (h : ¬ K = 63 ∧ ¬ K = 66 ∧ ¬ K = 71) (i j : Int) : T8 v p l K i j = v K i j := by
  unfold T8
  rw [muA_o K i j h.2.2, muA_o K i j h.2.1, muA_o K i j h.1]
theorem x7_sz (hN : v 7 0 7 = N) (hN2 : 0 ≤ N ∧ N ≤ 60) (h2 : v 7 0 2 = 0) (hl : v 1 a 6 = l) (h12 : ∀ s, 0 ≤ s → s < N → v 12 0 s = s ∧ v 2 s 5 = f s) (ha : 0 ≤ a) (k : V → Int → Res) : ∀ (n : Nat) (t : Int), 0 ≤ t → t ≤ N → N - t < n → lp_X7_seize_34 0 b a k n (T7 v (pL f a t) l) t = k (T7 v (pL f a N) l) N := by
  intro n
  induction n with
  | zero => intro t h0 h1 h2; omega
  | succ n ih =>
    intro t h0 h1 h3
    unfold lp_X7_seize_34
    rw [T7_o (by decide), T7_o (by decide), hN, h2]
    by_cases q : N ≤ t
    · rw [if_pos q]
      have : t = N := by omega
      rw [this]
    · have x := h12 t h0 (by omega)
      have r5 : T7 v (pL f a t) l 2 t 5 = f t := by
        unfold T7
        rw [muF_r, if_neg (by omega), muF_r, if_neg (by omega), muF_r, if_neg (by omega)]
        exact x.2
      have e3 : w32 (t + 1) = t + 1 := w32_i (by omega) (by omega)
      rw [if_neg q, chk_t (by omega), chk_t (by omega), T7_o (by decide), x.1, chk_t (by omega), r5, e3]
      by_cases c : f t = a
      · rw [if_pos c, chk_t (by omega), T7_o (by decide), hl]
        unfold sp_X2_takeOver
        rw [rLet_r, rLet_r, rLet_r, rB_ok, T7_1 (pL_1 h0 c), ih _ (by omega) (by omega) (by omega)]
      · rw [if_neg c, T7_0 (fun i => (pL_0 c i)), ih _ (by omega) (by omega) (by omega)]
theorem x8_sz (hN : v 8 0 21 = N) (hN2 : 0 ≤ N ∧ N ≤ 60) (hF : F8 v) (hl : v 78 0 a = l) (h12 : ∀ s, 0 ≤ s → s < N → v 65 0 s = f s) (ha : 0 ≤ a ∧ a < 20) (k : V → Int → Int → Res) : ∀ (n : Nat) (acc t : Int), 0 ≤ t → t ≤ N → N - t < n → 0 ≤ acc → acc ≤ t → lp_X8_seize_55 0 a b k n (T8 v (pL f a t) l) acc t = k (T8 v (pL f a N) l) (acc + sumD (fCt f a) N t) N := by
  intro n
  have c8 := f8all hF
  induction n with
  | zero => intro acc t h0 h1 h2; omega
  | succ n ih =>
    intro acc t h0 h1 h3 h4 h5
    unfold lp_X8_seize_55
    have r8 : ∀ j, T8 v (pL f a t) l 8 0 j = v 8 0 j := fun j => T8_o (by decide) 0 j
    simp only [r8, c8, hN]
    by_cases q : N ≤ t
    · rw [if_pos q, sumD_e q]
      have : t = N := by omega
      rw [this, Int.add_zero]
    · have x := h12 t h0 (by omega)
      have e3 : w32 (t + 1) = t + 1 := w32_i (by omega) (by omega)
      rw [if_neg q, chk_t (by omega), chk_t (by omega), T8_o (by decide), x, e3, sumD_s (by omega)]
      by_cases c : f t = a
      · have hf : fCt f a t = 1 := if_pos c
        rw [if_neg (by simpa using c), chk_t (by omega), chk_t (by omega), T8_o (by decide), hl]
        unfold sp_X8_takes
        simp only [r8, c8]
        have s8 : ∀ (w : V) (K : Nat) (i j z : Int), ¬ K = 8 → ∀ j', up w K i j z 8 0 j' = w 8 0 j' := fun w K i j z g j' => up_o (Or.inl (fun x => g x.symm))
        rw [chk_t (by omega), chk_t (by omega), rLet_r, s8 _ 63 _ _ _ (by decide), r8, c8.2.2.2.2.2.2.2.2.2.2.2.2.2.2.2.2.2.2.2.2.2.1, chk_t (by omega), rLet_r, s8 _ 66 _ _ _ (by decide), s8 _ 63 _ _ _ (by decide), r8]
        simp only [c8]
        rw [chk_t (by omega), rLet_r, rB_ok, T8_1 (pL_1 h0 c), w32_i (by omega) (by omega), ih _ _ (by omega) (by omega) (by omega) (by omega) (by omega), hf]
        congr 1
        omega
      · have hf : fCt f a t = 0 := if_neg c
        rw [if_pos c, T8_0 (fun i => (pL_0 c i)), ih _ _ (by omega) (by omega) (by omega) (by omega) (by omega), hf, Int.zero_add]
end Sz

/-! PURE 9: doubt, value, worth, owed -/
section W
variable {v : V} {Q : Int → V → Prop} {E : Nat → V → Prop} {a b i t lim : Int}
theorem dbt_lp (h : Inv v) (hi : 0 ≤ i ∧ i < v 7 0 6) (k : V → Int → Int → Int → Res) : ∀ (n : Nat) (acc m t : Int), -1 ≤ t → t < v 6 i 4 → t + 1 < n → ∃ acc' m' t', lp_X6_doubtOn_12 i lim k n v acc m t = k v acc' m' t' := by
  have hs := h.s
  unfold IS at hs
  have hw := h.w i hi.1 hi.2
  intro n
  induction n with
  | zero => intro acc m t h0 h1 h2; omega
  | succ n ih =>
    intro acc m t h0 h1 h2
    unfold lp_X6_doubtOn_12
    by_cases q : t < 0
    · exact ⟨acc, m, t, by rw [if_pos q]⟩
    · have hd := h.d i t hi.1 hi.2 (by omega) h1
      have e3 : w32 (t + -1) = t - 1 := w32_i (by omega) (by omega)
      rw [if_neg q, chk_t (by omega), chk_t (by omega), hw.2.2.2.2.1, hd.1, chk_t (by omega), chk_t (by omega), e3]
      split
      · exact ih _ _ (t - 1) (by omega) (by omega) (by omega)
      · split
        · exact ih _ _ (t - 1) (by omega) (by omega) (by omega)
        · split
          · exact ih _ _ (t - 1) (by omega) (by omega) (by omega)
          · exact ih _ _ (t - 1) (by omega) (by omega) (by omega)
theorem x7_doubt (h : Inv v) (hi : 0 ≤ i ∧ i < v 7 0 6) (lim : Int) : ∃ z, sp_X6_doubtOn i lim v = rOk z v := by
  have hw := h.w i hi.1 hi.2
  unfold sp_X6_doubtOn
  rw [w32_i (by omega) (by omega)]
  obtain ⟨z, m, t, e⟩ := dbt_lp (lim := lim) h hi (fun v9 u9_2 u9_3 u9_4 => (rOk u9_2 v9)) 200 0 0 (v 6 i 4 - 1) (by omega) (by omega) (by omega)
  exact ⟨z, e⟩
theorem wp_7dbt (hI : Inv v) (hi : 0 ≤ a ∧ a < v 7 0 6) (h : ∀ z, Q z v) : Wp (sp_X6_doubtOn a t v) Q E := by
  obtain ⟨z, e⟩ := x7_doubt hI hi t
  rw [e]
  exact h z
def valF (v : V) (a : Int) : Int := match sp_X6_valueOn a (v 7 0 9) v with
  | some (0, z, _) => z
  | _ => 0
def worF (v : V) (a : Int) : Int := (valF v (v 2 a 1) * v 2 a 4).tdiv 60
def oweF (v : V) (a : Int) : Int := if v 1 a 7 = 0 then v 1 a 2 + (v 1 a 2 * v 1 a 3 * (v 7 0 9 - v 1 a 4)).tdiv 10000 else 0
theorem tdiv_b {x d B : Int} (h0 : 0 ≤ x) (h1 : x ≤ B) (hd : 0 < d) : 0 ≤ x.tdiv d ∧ x.tdiv d ≤ B.tdiv d := by
  rw [Int.tdiv_eq_ediv_of_nonneg h0, Int.tdiv_eq_ediv_of_nonneg (by omega)]
  exact ⟨Int.ediv_nonneg h0 (by omega), Int.ediv_le_ediv hd h1⟩
theorem mul_b {x y X Y : Int} (h0 : 0 ≤ x) (h1 : x ≤ X) (g0 : 0 ≤ y) (g1 : y ≤ Y) : 0 ≤ x * y ∧ x * y ≤ X * Y := ⟨Int.mul_nonneg h0 g0, Int.mul_le_mul h1 g1 g0 (by omega)⟩
theorem x7_valueOn (h : Inv v) (ha : 0 ≤ a ∧ a < v 7 0 6) : sp_X6_valueOn a (v 7 0 9) v = rOk (valF v a) v ∧ 0 ≤ valF v a ∧ valF v a ≤ 1000000 := by
  have hw := h.w a ha.1 ha.2
  have e : (1000000 : Int).tdiv 10 = 100000 := by decide
  have hb := tdiv_b (x := v 6 a 5) (d := 10) (B := 1000000) (by omega) (by omega) (by decide)
  obtain ⟨z, ez⟩ := x7_doubt h ha (v 7 0 9)
  have e2 : sp_X6_valueOn a (v 7 0 9) v = rOk (if z ≤ 0 then v 6 a 5 else (v 6 a 5).tdiv 10) v := by
    unfold sp_X6_valueOn
    rw [ez, rB_ok]
    split
    · rfl
    · rw [w32_i (by omega) (by omega)]
  have e3 : valF v a = if z ≤ 0 then v 6 a 5 else (v 6 a 5).tdiv 10 := by
    unfold valF
    rw [e2]
    rfl
  rw [e3]
  refine ⟨e2, ?_⟩
  split <;> omega
theorem worF_m (h : Inv v) (ha : 0 ≤ a ∧ a < v 7 0 7) : 0 ≤ valF v (v 2 a 1) * v 2 a 4 ∧ valF v (v 2 a 1) * v 2 a 4 ≤ 60000000 := by
  have hl := (h.l a ha.1 ha.2).1
  have hv := (x7_valueOn h (a := v 2 a 1) (by omega)).2
  have m := mul_b (x := valF v (v 2 a 1)) (y := v 2 a 4) (X := 1000000) (Y := 60) hv.1 hv.2 (by omega) (by omega)
  omega
theorem worF_b (h : Inv v) (ha : 0 ≤ a ∧ a < v 7 0 7) : 0 ≤ worF v a ∧ worF v a ≤ 1000000 := by
  have m := worF_m h ha
  unfold worF
  have := tdiv_b (x := valF v (v 2 a 1) * v 2 a 4) (d := 60) (B := 60000000) m.1 m.2 (by decide)
  have e : (60000000 : Int).tdiv 60 = 1000000 := by decide
  omega
theorem x7_worth (h : Inv v) (ha : 0 ≤ a ∧ a < v 7 0 7) : sp_X2_worth a (v 7 0 9) v = rOk (worF v a) v := by
  have hl := (h.l a ha.1 ha.2).1
  have m := worF_m h ha
  have b := worF_b h ha
  unfold sp_X2_worth
  unfold worF at *
  rw [chk_t (by omega), (x7_valueOn h (by omega)).1, rB_ok, w32_i (z := valF v (v 2 a 1) * v 2 a 4) (by omega) (by omega), w32_i (by omega) (by omega)]
theorem oweF_m (h : Inv v) (ha : 0 ≤ a ∧ a < v 7 0 8) : 0 ≤ v 1 a 2 * v 1 a 3 ∧ v 1 a 2 * v 1 a 3 ≤ 50000000 ∧ 0 ≤ v 1 a 2 * v 1 a 3 * (v 7 0 9 - v 1 a 4) ∧ v 1 a 2 * v 1 a 3 * (v 7 0 9 - v 1 a 4) ≤ 1000000000000 := by
  have hs := h.s
  unfold IS at hs
  have hn := h.n a ha.1 ha.2
  have m := mul_b (x := v 1 a 2) (y := v 1 a 3) (X := 500000) (Y := 100) (by omega) (by omega) (by omega) (by omega)
  have m2 := mul_b (x := v 1 a 2 * v 1 a 3) (y := v 7 0 9 - v 1 a 4) (X := 50000000) (Y := 20000) (by omega) (by omega) (by omega) (by omega)
  omega
theorem oweF_b (h : Inv v) (ha : 0 ≤ a ∧ a < v 7 0 8) : 0 ≤ oweF v a ∧ oweF v a ≤ 100500000 := by
  have hn := h.n a ha.1 ha.2
  have m := oweF_m h ha
  unfold oweF
  split
  · have := tdiv_b (x := v 1 a 2 * v 1 a 3 * (v 7 0 9 - v 1 a 4)) (d := 10000) (B := 1000000000000) (by omega) (by omega) (by decide)
    have e : (1000000000000 : Int).tdiv 10000 = 100000000 := by decide
    omega
  · omega
theorem x7_owed (h : Inv v) (ha : 0 ≤ a ∧ a < v 7 0 8) : sp_X1_owed a (v 7 0 9) v = rOk (oweF v a) v := by
  have hs := h.s
  unfold IS at hs
  have hn := h.n a ha.1 ha.2
  have m := oweF_m h ha
  have b := oweF_b h ha
  have e : (1000000000000 : Int).tdiv 10000 = 100000000 := by decide
  have t := tdiv_b (x := v 1 a 2 * v 1 a 3 * (v 7 0 9 - v 1 a 4)) (d := 10000) (B := 1000000000000) (by omega) (by omega) (by decide)
  unfold sp_X1_owed
  unfold oweF at *
  by_cases g : v 1 a 7 = 0
  · rw [if_pos g] at b ⊢
    rw [if_pos g, w64_i (z := v 1 a 2 * v 1 a 3) (by omega) (by omega), w32_i (z := v 7 0 9 - v 1 a 4) (by omega) (by omega), w64_i (z := v 1 a 2 * v 1 a 3 * (v 7 0 9 - v 1 a 4)) (by omega) (by omega), w64_i (by omega) (by omega), w32_i (z := (v 1 a 2 * v 1 a 3 * (v 7 0 9 - v 1 a 4)).tdiv 10000) (by omega) (by omega), w32_i (by omega) (by omega)]
  · rw [if_neg g, if_neg g]
theorem wp_7val (hI : Inv v) (ht : t = v 7 0 9) (ha : 0 ≤ a ∧ a < v 7 0 6) (h : Q (valF v a) v) : Wp (sp_X6_valueOn a t v) Q E := by
  rw [ht, (x7_valueOn hI ha).1]
  exact h
theorem wp_7wor (hI : Inv v) (ht : t = v 7 0 9) (ha : 0 ≤ a ∧ a < v 7 0 7) (h : Q (worF v a) v) : Wp (sp_X2_worth a t v) Q E := by
  rw [ht, x7_worth hI ha]
  exact h
theorem wp_7owe (hI : Inv v) (ht : t = v 7 0 9) (ha : 0 ≤ a ∧ a < v 7 0 8) (h : Q (oweF v a) v) : Wp (sp_X1_owed a t v) Q E := by
  rw [ht, x7_owed hI ha]
  exact h
theorem upf {K K' : Nat} {i i' j z : Int} (h : ¬ K' = K) : up v K i j z K' i' = v K' i' := by
  funext j'
  exact up_o (Or.inl h)
end W

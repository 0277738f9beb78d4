/-! PURE 14: value, worth, owed -/
section W
variable {v : V} {a b lim : Int}
def valF (v : V) (a : Int) : Int := if dbt (v 58 0) (v 59 0) (v 60 0) (v 46 0) a (v 8 0 1) (v 57 0 a) (v 8 0 2) ≤ 0 then v 51 0 a else (v 51 0 a).tdiv 10
def worF (v : V) (a : Int) : Int := (valF v (v 62 0 a) * v 64 0 a).tdiv 60
def oweF (v : V) (a : Int) : Int := if v 83 0 a = 0 then v 79 0 a + (v 79 0 a * v 80 0 a * (v 8 0 1 - v 81 0 a)).tdiv 10000 else 0
theorem tdiv_b {x d B : Int} (h0 : 0 ≤ x) (h1 : x ≤ B) (hd : 0 < d) : 0 ≤ x.tdiv d ∧ x.tdiv d ≤ B.tdiv d := by
  rw [Int.tdiv_eq_ediv_of_nonneg h0, Int.tdiv_eq_ediv_of_nonneg (by omega)]
  exact ⟨Int.ediv_nonneg h0 (by omega), Int.ediv_le_ediv hd h1⟩
theorem valF_b (h : Inv v) (ha : 0 ≤ a ∧ a < v 8 0 9) : 0 ≤ valF v a ∧ valF v a ≤ 1000000 := by
  have hw := h.w a ha.1 ha.2
  unfold valF
  split
  · omega
  · have := tdiv_b (x := v 51 0 a) (d := 10) (B := 1000000) (by omega) (by omega) (by decide)
    have e : (1000000 : Int).tdiv 10 = 100000 := by decide
    omega
theorem mul_b {x y X Y : Int} (h0 : 0 ≤ x) (h1 : x ≤ X) (g0 : 0 ≤ y) (g1 : y ≤ Y) : 0 ≤ x * y ∧ x * y ≤ X * Y := ⟨Int.mul_nonneg h0 g0, Int.mul_le_mul h1 g1 g0 (by omega)⟩
theorem worF_b (h : Inv v) (ha : 0 ≤ a ∧ a < v 8 0 21) : 0 ≤ worF v a ∧ worF v a ≤ 1000000 := by
  have hl := (h.l a ha.1 ha.2).1
  have hv := valF_b h (a := v 62 0 a) (by omega)
  have m := mul_b (x := valF v (v 62 0 a)) (y := v 64 0 a) (X := 1000000) (Y := 60) hv.1 hv.2 (by omega) (by omega)
  unfold worF
  have := tdiv_b (x := valF v (v 62 0 a) * v 64 0 a) (d := 60) (B := 1000000 * 60) m.1 m.2 (by decide)
  have e : (1000000 * 60 : Int).tdiv 60 = 1000000 := by decide
  omega
theorem oweF_m (h : Inv v) (ha : 0 ≤ a ∧ a < v 8 0 36) : 0 ≤ v 79 0 a * v 80 0 a ∧ v 79 0 a * v 80 0 a ≤ 50000000 ∧ 0 ≤ v 79 0 a * v 80 0 a * (v 8 0 1 - v 81 0 a) ∧ v 79 0 a * v 80 0 a * (v 8 0 1 - v 81 0 a) ≤ 1000000000000 := by
  have hs := h.s
  unfold IS at hs
  have hn := h.n a ha.1 ha.2
  have m := mul_b (x := v 79 0 a) (y := v 80 0 a) (X := 500000) (Y := 100) (by omega) (by omega) (by omega) (by omega)
  have m2 := mul_b (x := v 79 0 a * v 80 0 a) (y := v 8 0 1 - v 81 0 a) (X := 50000000) (Y := 20000) (by omega) (by omega) (by omega) (by omega)
  omega
theorem oweF_b (h : Inv v) (ha : 0 ≤ a ∧ a < v 8 0 36) : 0 ≤ oweF v a ∧ oweF v a ≤ 100500000 := by
  have hn := h.n a ha.1 ha.2
  have m := oweF_m h ha
  unfold oweF
  split
  · have := tdiv_b (x := v 79 0 a * v 80 0 a * (v 8 0 1 - v 81 0 a)) (d := 10000) (B := 1000000000000) (by omega) (by omega) (by decide)
    have e : (1000000000000 : Int).tdiv 10000 = 100000000 := by decide
    omega
  · omega
end W

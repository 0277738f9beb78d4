/-! PURE 15: value, worth, owed: the two sides' specs -/
section S
variable {v : V} {a b i j z : Int} {K : Nat}
theorem Inv.w8 (h : Inv v) (ha : 0 ≤ a ∧ a < v 8 0 9) (lim : Int) : sp_X8_doubtOn 0 a lim v = rOk (dbt (v 58 0) (v 59 0) (v 60 0) (v 46 0) a lim (v 57 0 a) (v 8 0 2)) v := by
  have hs := h.s
  unfold IS at hs
  have hw := h.w a ha.1 ha.2
  exact x8_doubt h.f (by omega) (by omega) (by omega) (fun e g0 g1 => by
    have hp := h.p e g0 g1
    omega)
theorem x7_valueOn (h : Inv v) (ha : 0 ≤ a ∧ a < v 8 0 9) : sp_X6_valueOn a (v 8 0 1) v = rOk (valF v a) v := by
  have hw := h.w a ha.1 ha.2
  have x := IWx h ha
  have e : (1000000 : Int).tdiv 10 = 100000 := by decide
  have hb := tdiv_b (x := v 51 0 a) (d := 10) (B := 1000000) (by omega) (by omega) (by decide)
  unfold sp_X6_valueOn valF
  rw [x7_doubt h ha, rB_ok, x.2.2.2.2.2.2.1]
  split
  · rfl
  · rw [w32_i (by omega) (by omega)]
theorem x8_valueOf (h : Inv v) (ha : 0 ≤ a ∧ a < v 8 0 9) : sp_X8_valueOf 0 a v = rOk (valF v a) v := by
  have hs := h.s
  unfold IS at hs
  have hw := h.w a ha.1 ha.2
  have c := f8all h.f
  have e : (1000000 : Int).tdiv 10 = 100000 := by decide
  have hb := tdiv_b (x := v 51 0 a) (d := 10) (B := 1000000) (by omega) (by omega) (by decide)
  unfold sp_X8_valueOf valF
  rw [h.w8 ha, rB_ok]
  simp only [c]
  split
  · rw [chk_t (by omega), chk_t (by omega)]
  · rw [chk_t (by omega), chk_t (by omega), w32_i (by omega) (by omega)]
theorem worF_m (h : Inv v) (ha : 0 ≤ a ∧ a < v 8 0 21) : 0 ≤ valF v (v 62 0 a) * v 64 0 a ∧ valF v (v 62 0 a) * v 64 0 a ≤ 60000000 := by
  have hl := (h.l a ha.1 ha.2).1
  have hv := valF_b h (a := v 62 0 a) (by omega)
  have m := mul_b (x := valF v (v 62 0 a)) (y := v 64 0 a) (X := 1000000) (Y := 60) hv.1 hv.2 (by omega) (by omega)
  omega
theorem x7_worth (h : Inv v) (ha : 0 ≤ a ∧ a < v 8 0 21) : sp_X2_worth a (v 8 0 1) v = rOk (worF v a) v := by
  have hl := (h.l a ha.1 ha.2).1
  have x := ILx h ha
  have m := worF_m h ha
  have b := worF_b h ha
  unfold sp_X2_worth
  unfold worF at *
  rw [x.2.2.1, chk_t (by omega), x7_valueOn h (by omega), rB_ok, x.2.2.2.2.2.1, w32_i (z := valF v (v 62 0 a) * v 64 0 a) (by omega) (by omega), w32_i (by omega) (by omega)]
theorem x8_worth (h : Inv v) (ha : 0 ≤ a ∧ a < v 8 0 21) : sp_X8_worth 0 a v = rOk (worF v a) v := by
  have hs := h.s
  unfold IS at hs
  have hl := (h.l a ha.1 ha.2).1
  have m := worF_m h ha
  have b := worF_b h ha
  have c := f8all h.f
  unfold sp_X8_worth
  unfold worF at *
  simp only [c]
  rw [chk_t (by omega), chk_t (by omega), x8_valueOf h (by omega), rB_ok]
  simp only [c]
  rw [chk_t (by omega), w32_i (z := valF v (v 62 0 a) * v 64 0 a) (by omega) (by omega), w32_i (by omega) (by omega)]
theorem x7_owed (h : Inv v) (ha : 0 ≤ a ∧ a < v 8 0 36) : sp_X1_owed a (v 8 0 1) v = rOk (oweF v a) v := by
  have hs := h.s
  unfold IS at hs
  have hn := h.n a ha.1 ha.2
  have x := INx h ha
  have m := oweF_m h ha
  have b := oweF_b h ha
  have e : (1000000000000 : Int).tdiv 10000 = 100000000 := by decide
  have t := tdiv_b (x := v 79 0 a * v 80 0 a * (v 8 0 1 - v 81 0 a)) (d := 10000) (B := 1000000000000) (by omega) (by omega) (by decide)
  unfold sp_X1_owed
  unfold oweF at *
  simp only [x]
  by_cases g : v 83 0 a = 0
  · rw [if_pos g] at b ⊢
    rw [if_pos g, w64_i (z := v 79 0 a * v 80 0 a) (by omega) (by omega), w32_i (z := v 8 0 1 - v 81 0 a) (by omega) (by omega), w64_i (z := v 79 0 a * v 80 0 a * (v 8 0 1 - v 81 0 a)) (by omega) (by omega), w64_i (by omega) (by omega), w32_i (z := (v 79 0 a * v 80 0 a * (v 8 0 1 - v 81 0 a)).tdiv 10000) (by omega) (by omega), w32_i (by omega) (by omega)]
  · rw [if_neg g, if_neg g]
theorem x8_owed (h : Inv v) (ha : 0 ≤ a ∧ a < v 8 0 36) : sp_X8_owed 0 a v = rOk (oweF v a) v := by
  have hs := h.s
  unfold IS at hs
  have hn := h.n a ha.1 ha.2
  have m := oweF_m h ha
  have b := oweF_b h ha
  have c := f8all h.f
  have e : (1000000000000 : Int).tdiv 10000 = 100000000 := by decide
  have t := tdiv_b (x := v 79 0 a * v 80 0 a * (v 8 0 1 - v 81 0 a)) (d := 10000) (B := 1000000000000) (by omega) (by omega) (by decide)
  unfold sp_X8_owed
  unfold oweF at *
  simp only [c]
  rw [chk_t (by omega), chk_t (by omega), chk_t (by omega), chk_t (by omega), chk_t (by omega)]
  by_cases g : v 83 0 a = 0
  · rw [if_pos g] at b ⊢
    rw [if_pos g, w64_i (z := v 79 0 a * v 80 0 a) (by omega) (by omega), w32_i (z := v 8 0 1 - v 81 0 a) (by omega) (by omega), w64_i (z := v 79 0 a * v 80 0 a * (v 8 0 1 - v 81 0 a)) (by omega) (by omega), w64_i (z := (v 79 0 a * v 80 0 a * (v 8 0 1 - v 81 0 a)).tdiv 10000) (by omega) (by omega), w64_i (by omega) (by omega)]
  · rw [if_neg g, if_neg g]
theorem upf {K' : Nat} {i' : Int} (h : ¬ K' = K) : up v K i j z K' i' = v K' i' := by
  funext j'
  exact up_o (Or.inl h)
theorem valF_u (h : K ≠ 58 ∧ K ≠ 59 ∧ K ≠ 60 ∧ K ≠ 46 ∧ K ≠ 57 ∧ K ≠ 51 ∧ (K ≠ 8 ∨ (j ≠ 1 ∧ j ≠ 2))) : valF (up v K i j z) a = valF v a := by
  unfold valF
  rw [upf (K' := 58) (by omega), upf (K' := 59) (by omega), upf (K' := 60) (by omega), upf (K' := 46) (by omega), upf (K' := 57) (by omega), upf (K' := 51) (by omega), up_o (K' := 8) (j' := 1) (by omega), up_o (K' := 8) (j' := 2) (by omega)]
theorem worF_u (h : K ≠ 58 ∧ K ≠ 59 ∧ K ≠ 60 ∧ K ≠ 46 ∧ K ≠ 57 ∧ K ≠ 51 ∧ K ≠ 62 ∧ K ≠ 64 ∧ (K ≠ 8 ∨ (j ≠ 1 ∧ j ≠ 2))) : worF (up v K i j z) a = worF v a := by
  unfold worF
  rw [valF_u (by omega), upf (K' := 62) (by omega), upf (K' := 64) (by omega)]
theorem oweF_u (h : K ≠ 83 ∧ K ≠ 79 ∧ K ≠ 80 ∧ K ≠ 81 ∧ (K ≠ 8 ∨ j ≠ 1)) : oweF (up v K i j z) a = oweF v a := by
  unfold oweF
  rw [upf (K' := 83) (by omega), upf (K' := 79) (by omega), upf (K' := 80) (by omega), upf (K' := 81) (by omega), up_o (K' := 8) (j' := 1) (by omega)]
end S

section T1
variable {v : V} {a b : Int}
theorem x7_value (h : Inv v) : sp_X7_value 0 a b v = if 0 ≤ a ∧ a < v 8 0 9 then (if 0 ≤ b ∧ b ≤ 1000000 then rOk (v 51 0 a) (up v 6 a 5 b) else rEx 2 v) else rEx 1 v := by
  unfold sp_X7_value
  rw [e_workAt h]
  by_cases h1 : 0 ≤ a ∧ a < v 8 0 9
  · have hw := h.2.2.2.2.2.2.1 a h1.1 h1.2
    simp only [h1, if_true, rB_ok, e_range]
    by_cases h2 : 0 ≤ b ∧ b ≤ 1000000
    · simp [h2, h1, rB_ok, chk, rLet_r, hw]
    · rw [if_neg h2, if_neg h2, rB_ex]
  · simp only [h1, if_false, rB_ex]
theorem x8_value (h : MS v) : sp_X8_value 0 a b v = if 0 ≤ a ∧ a < v 8 0 9 then (if 0 ≤ b ∧ b ≤ 1000000 then rOk (v 51 0 a) (up (up v 8 0 0 0) 51 0 a b) else rOk 0 (up v 8 0 0 2)) else rOk 0 (up v 8 0 0 1) := by
  unfold sp_X8_value
  rw [e_isWork h]
  have e11 := h.1 11 (by omega)
  unfold MS at h
  by_cases h1 : 0 ≤ a ∧ a < v 8 0 9
  · simp only [h1, if_true, rB_ok, e_in, and_self, if_false, e_holds]
    by_cases h2 : 0 ≤ b ∧ b ≤ 1000000
    · have h3 : a < 12 := by omega
      simp [h2, h1, rB_ok, chk, rLet_r, up_r, e11, h3]
    · simp [h2, rB_ok, up_r]
  · simp [h1, rB_ok, e_holds]
end T1

/-! PURE 2: the accessors -/
section Acc
variable {v : V} {a b i : Int}
theorem e_partyAt (h : Inv v) : sp_X7_partyAt 0 a v = if 0 ≤ a ∧ a < v 8 0 2 then rOk a v else rEx 1 v := by
  obtain ⟨hs, -, -, hp, -⟩ := h
  unfold IS at hs
  unfold sp_X7_partyAt
  by_cases h1 : a < 0
  · rw [if_pos h1, if_neg (by omega)]
  · rw [if_neg h1]
    by_cases h2 : a < v 8 0 2
    · have h3 := hp a (by omega) h2
      rw [if_pos (by omega), if_pos (by omega), chk_t (by omega), chk_t (by omega), hs.1, h3.1]
    · rw [if_neg (by omega), if_neg (by omega)]
theorem e_workAt (h : Inv v) : sp_X7_workAt 0 a v = if 0 ≤ a ∧ a < v 8 0 9 then rOk a v else rEx 1 v := by
  obtain ⟨hs, -, -, -, -, -, hw, -⟩ := h
  unfold IS at hs
  unfold sp_X7_workAt
  by_cases h1 : a < 0
  · rw [if_pos h1, if_neg (by omega)]
  · rw [if_neg h1]
    by_cases h2 : a < v 8 0 9
    · have h3 := hw a (by omega) h2
      rw [if_pos (by omega), if_pos (by omega), chk_t (by omega), chk_t (by omega), hs.2.1, h3.1]
    · rw [if_neg (by omega), if_neg (by omega)]
theorem e_lotAt (h : Inv v) : sp_X7_lotAt 0 a v = if 0 ≤ a ∧ a < v 8 0 21 then rOk a v else rEx 1 v := by
  obtain ⟨hs, -, -, -, -, -, -, -, -, -, hw, -⟩ := h
  unfold IS at hs
  unfold sp_X7_lotAt
  by_cases h1 : a < 0
  · rw [if_pos h1, if_neg (by omega)]
  · rw [if_neg h1]
    by_cases h2 : a < v 8 0 21
    · have h3 := hw a (by omega) h2
      rw [if_pos (by omega), if_pos (by omega), chk_t (by omega), chk_t (by omega), hs.2.2.1, h3.1.1]
    · rw [if_neg (by omega), if_neg (by omega)]
theorem e_loanAt (h : Inv v) : sp_X7_loanAt 0 a v = if 0 ≤ a ∧ a < v 8 0 36 then rOk a v else rEx 1 v := by
  obtain ⟨hs, -, -, -, -, -, -, -, -, -, -, hw, -⟩ := h
  unfold IS at hs
  unfold sp_X7_loanAt
  by_cases h1 : a < 0
  · rw [if_pos h1, if_neg (by omega)]
  · rw [if_neg h1]
    by_cases h2 : a < v 8 0 36
    · have h3 := hw a (by omega) h2
      rw [if_pos (by omega), if_pos (by omega), chk_t (by omega), chk_t (by omega), hs.2.2.2.1, h3.1]
    · rw [if_neg (by omega), if_neg (by omega)]
/-- what the model's own reads need -/
def MS (v : V) : Prop := F8 v ∧ 0 ≤ v 8 0 1 ∧ v 8 0 1 ≤ 20000 ∧ 0 ≤ v 8 0 2 ∧ v 8 0 2 ≤ 10 ∧ 0 ≤ v 8 0 9 ∧ v 8 0 9 ≤ 12 ∧ 0 ≤ v 8 0 21 ∧ v 8 0 21 ≤ 60 ∧ 0 ≤ v 8 0 36 ∧ v 8 0 36 ≤ 20
theorem Inv.ms (h : Inv v) : MS v := by
  obtain ⟨hs, h8, -⟩ := h
  unfold IS at hs
  exact ⟨h8, by omega, by omega, by omega, by omega, by omega, by omega, by omega, by omega, by omega, by omega⟩
theorem e_isParty (h : MS v) : sp_X8_isParty 0 a v = rOk (if 0 ≤ a ∧ a < v 8 0 2 then 1 else 0) v := by
  unfold MS at h
  unfold sp_X8_isParty
  rw [e_in, rB_ok, w32_i (by omega) (by omega)]
  congr 1
  by_cases q : 0 ≤ a ∧ a < v 8 0 2
  · rw [if_pos q, if_pos (by omega)]
  · rw [if_neg q, if_neg (by omega)]
theorem e_isWork (h : MS v) : sp_X8_isWork 0 a v = rOk (if 0 ≤ a ∧ a < v 8 0 9 then 1 else 0) v := by
  unfold MS at h
  unfold sp_X8_isWork
  rw [e_in, rB_ok, w32_i (by omega) (by omega)]
  congr 1
  by_cases q : 0 ≤ a ∧ a < v 8 0 9
  · rw [if_pos q, if_pos (by omega)]
  · rw [if_neg q, if_neg (by omega)]
theorem e_isLot (h : MS v) : sp_X8_isLot 0 a v = rOk (if 0 ≤ a ∧ a < v 8 0 21 then 1 else 0) v := by
  unfold MS at h
  unfold sp_X8_isLot
  rw [e_in, rB_ok, w32_i (by omega) (by omega)]
  congr 1
  by_cases q : 0 ≤ a ∧ a < v 8 0 21
  · rw [if_pos q, if_pos (by omega)]
  · rw [if_neg q, if_neg (by omega)]
theorem e_isLoan (h : MS v) : sp_X8_isLoan 0 a v = rOk (if 0 ≤ a ∧ a < v 8 0 36 then 1 else 0) v := by
  unfold MS at h
  unfold sp_X8_isLoan
  rw [e_in, rB_ok, w32_i (by omega) (by omega)]
  congr 1
  by_cases q : 0 ≤ a ∧ a < v 8 0 36
  · rw [if_pos q, if_pos (by omega)]
  · rw [if_neg q, if_neg (by omega)]
theorem e_isLand : sp_X8_isLand a v = rOk (if 0 ≤ a ∧ a < 4 then 1 else 0) v := by
  unfold sp_X8_isLand
  rw [e_in, rB_ok]
  congr 1
  by_cases q : 0 ≤ a ∧ a < 4
  · rw [if_pos q, if_pos (by omega)]
  · rw [if_neg q, if_neg (by omega)]
end Acc

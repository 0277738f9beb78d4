/-! PURE 3: the accessors; the small steps -/
section Sel0
variable {v : V}
theorem Inv.s (h : Inv v) : IS v := h.1
theorem Inv.r (h : Inv v) : IR v := h.2.1
theorem Inv.p (h : Inv v) : IP v := h.2.2.1
theorem Inv.b (h : Inv v) : IB v := h.2.2.2.1
theorem Inv.w (h : Inv v) : IW v := h.2.2.2.2.1
theorem Inv.d (h : Inv v) : ID v := h.2.2.2.2.2.1
theorem Inv.l (h : Inv v) : IL v := h.2.2.2.2.2.2.1
theorem Inv.n (h : Inv v) : IN v := h.2.2.2.2.2.2.2.1
theorem Inv.a (h : Inv v) : IA v := h.2.2.2.2.2.2.2.2.1
theorem Inv.m (h : Inv v) : IM v := h.2.2.2.2.2.2.2.2.2.1
theorem Inv.t (h : Inv v) : IT v := h.2.2.2.2.2.2.2.2.2.2
end Sel0
section Sel
variable {v : V} {a b i : Int}
theorem Kp_r : Kp v v := ⟨rfl, rfl, rfl, rfl, rfl⟩
theorem i7 (h : Inv v) : v 7 0 0 = 0 ∧ v 7 0 1 = 0 ∧ v 7 0 2 = 0 ∧ v 7 0 3 = 0 ∧ v 7 0 4 = 0 := by
  have hs := h.s
  unfold IS at hs
  exact ⟨hs.1, hs.2.1, hs.2.2.1, hs.2.2.2.1, hs.2.2.2.2.1⟩
theorem k9 : ((0 : Nat) : Int) = 0 ∧ ((1 : Nat) : Int) = 1 ∧ ((2 : Nat) : Int) = 2 ∧ ((3 : Nat) : Int) = 3 ∧ ((4 : Nat) : Int) = 4 ∧ ((5 : Nat) : Int) = 5 ∧ ((6 : Nat) : Int) = 6 ∧ ((15 : Nat) : Int) = 15 ∧ ((16 : Nat) : Int) = 16 := ⟨rfl, rfl, rfl, rfl, rfl, rfl, rfl, rfl, rfl⟩
theorem df_a : df 3 3 = 0 ∧ df 3 4 = 0 ∧ df 3 5 = 0 ∧ df 6 4 = 0 ∧ df 6 7 = 0 ∧ df 6 8 = 0 ∧ df 2 6 = -1 ∧ df 2 7 = -1 ∧ df 4 4 = 0 ∧ df 1 7 = 0 := by decide
theorem df_16 (y : Int) : df 16 y = 0 := rfl
theorem e_partyAt (h : Inv v) : sp_X7_partyAt 0 a v = if 0 ≤ a ∧ a < v 7 0 5 then rOk a v else rEx 1 v := by
  have hs := h.s
  have h7 := (i7 h).1
  unfold IS at hs
  unfold sp_X7_partyAt
  by_cases h1 : a < 0
  · rw [if_pos h1, if_neg (by omega)]
  · rw [if_neg h1]
    by_cases h2 : a < v 7 0 5
    · have h3 := (h.p a (by omega) h2).1
      rw [if_pos (by omega), if_pos (by omega), chk_t (by omega), chk_t (by omega), h7, h3]
    · rw [if_neg (by omega), if_neg (by omega)]
theorem e_workAt (h : Inv v) : sp_X7_workAt 0 a v = if 0 ≤ a ∧ a < v 7 0 6 then rOk a v else rEx 1 v := by
  have hs := h.s
  have h7 := (i7 h).2.1
  unfold IS at hs
  unfold sp_X7_workAt
  by_cases h1 : a < 0
  · rw [if_pos h1, if_neg (by omega)]
  · rw [if_neg h1]
    by_cases h2 : a < v 7 0 6
    · have h3 := (h.w a (by omega) h2).1
      rw [if_pos (by omega), if_pos (by omega), chk_t (by omega), chk_t (by omega), h7, h3]
    · rw [if_neg (by omega), if_neg (by omega)]
theorem e_lotAt (h : Inv v) : sp_X7_lotAt 0 a v = if 0 ≤ a ∧ a < v 7 0 7 then rOk a v else rEx 1 v := by
  have hs := h.s
  have h7 := (i7 h).2.2.1
  unfold IS at hs
  unfold sp_X7_lotAt
  by_cases h1 : a < 0
  · rw [if_pos h1, if_neg (by omega)]
  · rw [if_neg h1]
    by_cases h2 : a < v 7 0 7
    · have h3 := (h.l a (by omega) h2).1.1
      rw [if_pos (by omega), if_pos (by omega), chk_t (by omega), chk_t (by omega), h7, h3]
    · rw [if_neg (by omega), if_neg (by omega)]
theorem e_loanAt (h : Inv v) : sp_X7_loanAt 0 a v = if 0 ≤ a ∧ a < v 7 0 8 then rOk a v else rEx 1 v := by
  have hs := h.s
  have h7 := (i7 h).2.2.2.1
  unfold IS at hs
  unfold sp_X7_loanAt
  by_cases h1 : a < 0
  · rw [if_pos h1, if_neg (by omega)]
  · rw [if_neg h1]
    by_cases h2 : a < v 7 0 8
    · have h3 := (h.n a (by omega) h2).1
      rw [if_pos (by omega), if_pos (by omega), chk_t (by omega), chk_t (by omega), h7, h3]
    · rw [if_neg (by omega), if_neg (by omega)]
end Sel
section Steps
variable {v : V} {Q : Int → V → Prop} {E : Nat → V → Prop} {a b c x lo hi n i j z : Int} {K : Nat}
theorem wp_7party_t (hI : Inv v) (hc : 0 ≤ a ∧ a < v 7 0 5) (h : Q a v) : Wp (sp_X7_partyAt 0 a v) Q E := by rw [e_partyAt hI, if_pos hc]; exact h
theorem wp_7party_f (hI : Inv v) (hc : ¬ (0 ≤ a ∧ a < v 7 0 5)) (h : E 1 v) : Wp (sp_X7_partyAt 0 a v) Q E := by rw [e_partyAt hI, if_neg hc]; exact h
theorem wp_7work_t (hI : Inv v) (hc : 0 ≤ a ∧ a < v 7 0 6) (h : Q a v) : Wp (sp_X7_workAt 0 a v) Q E := by rw [e_workAt hI, if_pos hc]; exact h
theorem wp_7work_f (hI : Inv v) (hc : ¬ (0 ≤ a ∧ a < v 7 0 6)) (h : E 1 v) : Wp (sp_X7_workAt 0 a v) Q E := by rw [e_workAt hI, if_neg hc]; exact h
theorem wp_7lot_t (hI : Inv v) (hc : 0 ≤ a ∧ a < v 7 0 7) (h : Q a v) : Wp (sp_X7_lotAt 0 a v) Q E := by rw [e_lotAt hI, if_pos hc]; exact h
theorem wp_7lot_f (hI : Inv v) (hc : ¬ (0 ≤ a ∧ a < v 7 0 7)) (h : E 1 v) : Wp (sp_X7_lotAt 0 a v) Q E := by rw [e_lotAt hI, if_neg hc]; exact h
theorem wp_7loan_t (hI : Inv v) (hc : 0 ≤ a ∧ a < v 7 0 8) (h : Q a v) : Wp (sp_X7_loanAt 0 a v) Q E := by rw [e_loanAt hI, if_pos hc]; exact h
theorem wp_7loan_f (hI : Inv v) (hc : ¬ (0 ≤ a ∧ a < v 7 0 8)) (h : E 1 v) : Wp (sp_X7_loanAt 0 a v) Q E := by rw [e_loanAt hI, if_neg hc]; exact h
theorem wp_range (ht : lo ≤ x ∧ x ≤ hi → Q 0 v) (hf : ¬ (lo ≤ x ∧ x ≤ hi) → E 2 v) : Wp (sp_X7_requireRange x lo hi v) Q E := by
  rw [e_range]
  exact wp_i ht hf
theorem wp_7land (ht : 0 ≤ x ∧ x < 4 → Q 0 v) (hf : ¬ (0 ≤ x ∧ x < 4) → E 1 v) : Wp (sp_X7_requireLand x v) Q E := by
  rw [e_land]
  exact wp_i ht hf
theorem wp_st0 (h : E 3 v) : Wp (sp_X7_requireState 0 v) Q E := by rw [e_state]; exact h
theorem wp_st1 (hb : ¬ b = 0) (h : Q 0 v) : Wp (sp_X7_requireState b v) Q E := by rw [e_state, if_neg hb]; exact h
theorem wp_other (ht : a = b → E 2 v) (hf : ¬ a = b → Q 0 v) : Wp (sp_X7_requireOther a b v) Q E := by
  unfold sp_X7_requireOther
  exact wp_i ht hf
theorem wp_range_t (hc : lo ≤ x ∧ x ≤ hi) (h : Q 0 v) : Wp (sp_X7_requireRange x lo hi v) Q E := wp_range (fun _ => h) (fun hn => absurd hc hn)
theorem wp_range_f (hc : ¬ (lo ≤ x ∧ x ≤ hi)) (h : E 2 v) : Wp (sp_X7_requireRange x lo hi v) Q E := wp_range (fun hn => absurd hn hc) (fun _ => h)
theorem wp_7land_t (hc : 0 ≤ x ∧ x < 4) (h : Q 0 v) : Wp (sp_X7_requireLand x v) Q E := wp_7land (fun _ => h) (fun hn => absurd hc hn)
theorem wp_7land_f (hc : ¬ (0 ≤ x ∧ x < 4)) (h : E 1 v) : Wp (sp_X7_requireLand x v) Q E := wp_7land (fun hn => absurd hn hc) (fun _ => h)
theorem wp_other_t (hc : a = b) (h : E 2 v) : Wp (sp_X7_requireOther a b v) Q E := wp_other (fun _ => h) (fun hn => absurd hc hn)
theorem wp_other_f (hc : ¬ a = b) (h : Q 0 v) : Wp (sp_X7_requireOther a b v) Q E := wp_other (fun hn => absurd hn hc) (fun _ => h)
theorem wp_max (h1 : a < b → Q b v) (h2 : ¬ a < b → Q a v) : Wp (sp_J9_max_7cf53 a b v) Q E := by
  unfold sp_J9_max_7cf53
  exact wp_i h1 h2
end Steps

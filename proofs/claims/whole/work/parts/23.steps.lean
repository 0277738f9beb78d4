/-! PURE 4: steps: the specs that others call, as goals -/
section Steps
variable {v : V} {Q : Int → V → Prop} {E : Nat → V → Prop} {a b c x lo hi n i j z : Int} {K : Nat}
theorem f8all (h : F8 v) : v 8 0 3 = 0 ∧ v 8 0 4 = 0 ∧ v 8 0 5 = 0 ∧ v 8 0 6 = 0 ∧ v 8 0 7 = 0 ∧ v 8 0 8 = 0 ∧ v 8 0 10 = 0 ∧ v 8 0 11 = 0 ∧ v 8 0 12 = 0 ∧ v 8 0 13 = 0 ∧ v 8 0 14 = 0 ∧ v 8 0 15 = 0 ∧ v 8 0 16 = 0 ∧ v 8 0 17 = 0 ∧ v 8 0 18 = 0 ∧ v 8 0 19 = 0 ∧ v 8 0 20 = 0 ∧ v 8 0 22 = 0 ∧ v 8 0 23 = 0 ∧ v 8 0 24 = 0 ∧ v 8 0 25 = 0 ∧ v 8 0 26 = 0 ∧ v 8 0 27 = 0 ∧ v 8 0 28 = 0 ∧ v 8 0 29 = 0 ∧ v 8 0 30 = 0 ∧ v 8 0 31 = 0 ∧ v 8 0 32 = 0 ∧ v 8 0 33 = 0 ∧ v 8 0 34 = 0 ∧ v 8 0 35 = 0 ∧ v 8 0 37 = 0 ∧ v 8 0 38 = 0 ∧ v 8 0 39 = 0 ∧ v 8 0 40 = 0 ∧ v 8 0 41 = 0 ∧ v 8 0 42 = 0 ∧ v 8 0 43 = 0 := by
  refine ⟨?_, ?_, ?_, ?_, ?_, ?_, ?_, ?_, ?_, ?_, ?_, ?_, ?_, ?_, ?_, ?_, ?_, ?_, ?_, ?_, ?_, ?_, ?_, ?_, ?_, ?_, ?_, ?_, ?_, ?_, ?_, ?_, ?_, ?_, ?_, ?_, ?_, ?_⟩ <;> exact h.c (by omega)
theorem MS_u (hK : K ≠ 8 ∨ j = 0 ∨ j = 44 ∨ j = 45) (h : MS v) : MS (up v K i j z) := by
  unfold MS at *
  refine ⟨F8_u (by omega) h.1, ?_⟩
  simp only [(up_o (by omega) : up v K i j z 8 0 1 = v 8 0 1), (up_o (by omega) : up v K i j z 8 0 2 = v 8 0 2), (up_o (by omega) : up v K i j z 8 0 9 = v 8 0 9), (up_o (by omega) : up v K i j z 8 0 21 = v 8 0 21), (up_o (by omega) : up v K i j z 8 0 36 = v 8 0 36)]
  exact h.2
theorem MS_n (hK : K ≠ 8) (h : MS v) : MS (nw v K i) := by
  unfold MS at *
  refine ⟨F8_n (by omega) h.1, ?_⟩
  simp only [(fun j => nw_o (by omega) (by omega) : ∀ j, nw v K i 8 0 j = v 8 0 j)]
  exact h.2
theorem wp_holds0 (h : Q 1 (up v 8 0 0 0)) : Wp (sp_X8_holds 0 0 v) Q E := by rw [e_holds]; exact h
theorem wp_holdsn (hn : ¬ n = 0) (h : Q 0 (up v 8 0 0 n)) : Wp (sp_X8_holds 0 n v) Q E := by rw [e_holds, if_neg hn]; exact h
theorem wp_in_t (hc : lo ≤ x ∧ x ≤ hi) (h : Q 1 v) : Wp (sp_X8_in x lo hi v) Q E := by rw [e_in, if_pos hc]; exact h
theorem wp_in_f (hc : ¬ (lo ≤ x ∧ x ≤ hi)) (h : Q 0 v) : Wp (sp_X8_in x lo hi v) Q E := by rw [e_in, if_neg hc]; exact h
theorem wp_8land_t (hc : 0 ≤ a ∧ a < 4) (h : Q 1 v) : Wp (sp_X8_isLand a v) Q E := by rw [e_isLand, if_pos hc]; exact h
theorem wp_8land_f (hc : ¬ (0 ≤ a ∧ a < 4)) (h : Q 0 v) : Wp (sp_X8_isLand a v) Q E := by rw [e_isLand, if_neg hc]; exact h
theorem wp_8party_t (hm : MS v) (hc : 0 ≤ a ∧ a < v 8 0 2) (h : Q 1 v) : Wp (sp_X8_isParty 0 a v) Q E := by rw [e_isParty hm, if_pos hc]; exact h
theorem wp_8party_f (hm : MS v) (hc : ¬ (0 ≤ a ∧ a < v 8 0 2)) (h : Q 0 v) : Wp (sp_X8_isParty 0 a v) Q E := by rw [e_isParty hm, if_neg hc]; exact h
theorem wp_8work_t (hm : MS v) (hc : 0 ≤ a ∧ a < v 8 0 9) (h : Q 1 v) : Wp (sp_X8_isWork 0 a v) Q E := by rw [e_isWork hm, if_pos hc]; exact h
theorem wp_8work_f (hm : MS v) (hc : ¬ (0 ≤ a ∧ a < v 8 0 9)) (h : Q 0 v) : Wp (sp_X8_isWork 0 a v) Q E := by rw [e_isWork hm, if_neg hc]; exact h
theorem wp_8lot_t (hm : MS v) (hc : 0 ≤ a ∧ a < v 8 0 21) (h : Q 1 v) : Wp (sp_X8_isLot 0 a v) Q E := by rw [e_isLot hm, if_pos hc]; exact h
theorem wp_8lot_f (hm : MS v) (hc : ¬ (0 ≤ a ∧ a < v 8 0 21)) (h : Q 0 v) : Wp (sp_X8_isLot 0 a v) Q E := by rw [e_isLot hm, if_neg hc]; exact h
theorem wp_8loan_t (hm : MS v) (hc : 0 ≤ a ∧ a < v 8 0 36) (h : Q 1 v) : Wp (sp_X8_isLoan 0 a v) Q E := by rw [e_isLoan hm, if_pos hc]; exact h
theorem wp_8loan_f (hm : MS v) (hc : ¬ (0 ≤ a ∧ a < v 8 0 36)) (h : Q 0 v) : Wp (sp_X8_isLoan 0 a v) Q E := by rw [e_isLoan hm, if_neg hc]; exact h
theorem wp_7party_t (hI : Inv v) (hc : 0 ≤ a ∧ a < v 8 0 2) (h : Q a v) : Wp (sp_X7_partyAt 0 a v) Q E := by rw [e_partyAt hI, if_pos hc]; exact h
theorem wp_7party_f (hI : Inv v) (hc : ¬ (0 ≤ a ∧ a < v 8 0 2)) (h : E 1 v) : Wp (sp_X7_partyAt 0 a v) Q E := by rw [e_partyAt hI, if_neg hc]; exact h
theorem wp_7work_t (hI : Inv v) (hc : 0 ≤ a ∧ a < v 8 0 9) (h : Q a v) : Wp (sp_X7_workAt 0 a v) Q E := by rw [e_workAt hI, if_pos hc]; exact h
theorem wp_7work_f (hI : Inv v) (hc : ¬ (0 ≤ a ∧ a < v 8 0 9)) (h : E 1 v) : Wp (sp_X7_workAt 0 a v) Q E := by rw [e_workAt hI, if_neg hc]; exact h
theorem wp_7lot_t (hI : Inv v) (hc : 0 ≤ a ∧ a < v 8 0 21) (h : Q a v) : Wp (sp_X7_lotAt 0 a v) Q E := by rw [e_lotAt hI, if_pos hc]; exact h
theorem wp_7lot_f (hI : Inv v) (hc : ¬ (0 ≤ a ∧ a < v 8 0 21)) (h : E 1 v) : Wp (sp_X7_lotAt 0 a v) Q E := by rw [e_lotAt hI, if_neg hc]; exact h
theorem wp_7loan_t (hI : Inv v) (hc : 0 ≤ a ∧ a < v 8 0 36) (h : Q a v) : Wp (sp_X7_loanAt 0 a v) Q E := by rw [e_loanAt hI, if_pos hc]; exact h
theorem wp_7loan_f (hI : Inv v) (hc : ¬ (0 ≤ a ∧ a < v 8 0 36)) (h : E 1 v) : Wp (sp_X7_loanAt 0 a v) Q E := by rw [e_loanAt hI, if_neg hc]; exact h
theorem wp_range (ht : lo ≤ x ∧ x ≤ hi → Q 0 v) (hf : ¬ (lo ≤ x ∧ x ≤ hi) → E 2 v) : Wp (sp_X7_requireRange x lo hi v) Q E := by
  rw [e_range]
  exact wp_i ht hf
theorem wp_7land (ht : 0 ≤ x ∧ x < 4 → Q 0 v) (hf : ¬ (0 ≤ x ∧ x < 4) → E 1 v) : Wp (sp_X7_requireLand x v) Q E := by
  rw [e_land]
  exact wp_i ht hf
theorem wp_st0 (h : E 3 v) : Wp (sp_X7_requireState 0 v) Q E := by rw [e_state]; exact h
theorem wp_st1 (hb : ¬ b = 0) (h : Q 0 v) : Wp (sp_X7_requireState b v) Q E := by rw [e_state, if_neg hb]; exact h
theorem wp_other (ht : a = b → E 2 v) (hf : ¬ a = b → Q 0 v) : Wp (sp_X7_requireOther a b v) Q E := by
  unfold sp_X7_requireOther
  exact wp_i ht hf
theorem wp_range_t (hc : lo ≤ x ∧ x ≤ hi) (h : Q 0 v) : Wp (sp_X7_requireRange x lo hi v) Q E := wp_range (fun _ => h) (fun hn => absurd hc hn)
theorem wp_range_f (hc : ¬ (lo ≤ x ∧ x ≤ hi)) (h : E 2 v) : Wp (sp_X7_requireRange x lo hi v) Q E := wp_range (fun hn => absurd hn hc) (fun _ => h)
theorem wp_7land_t (hc : 0 ≤ x ∧ x < 4) (h : Q 0 v) : Wp (sp_X7_requireLand x v) Q E := wp_7land (fun _ => h) (fun hn => absurd hc hn)
theorem wp_7land_f (hc : ¬ (0 ≤ x ∧ x < 4)) (h : E 1 v) : Wp (sp_X7_requireLand x v) Q E := wp_7land (fun hn => absurd hn hc) (fun _ => h)
theorem wp_other_t (hc : a = b) (h : E 2 v) : Wp (sp_X7_requireOther a b v) Q E := wp_other (fun _ => h) (fun hn => absurd hc hn)
theorem wp_other_f (hc : ¬ a = b) (h : Q 0 v) : Wp (sp_X7_requireOther a b v) Q E := wp_other (fun hn => absurd hn hc) (fun _ => h)
theorem wp_max (h1 : a < b → Q b v) (h2 : ¬ a < b → Q a v) : Wp (sp_J9_max_7cf53 a b v) Q E := by
  unfold sp_J9_max_7cf53
  exact wp_i h1 h2
end Steps
section Sel
variable {v : V}
theorem Inv.s (h : Inv v) : IS v := h.1
theorem Inv.f (h : Inv v) : F8 v := h.2.1
theorem Inv.r (h : Inv v) : IR v := h.2.2.1
theorem Inv.p (h : Inv v) : IP v := h.2.2.2.1
theorem Inv.p2 (h : Inv v) : IP2 v := h.2.2.2.2.1
theorem Inv.b (h : Inv v) : IB v := h.2.2.2.2.2.1
theorem Inv.w (h : Inv v) : IW v := h.2.2.2.2.2.2.1
theorem Inv.w2 (h : Inv v) : IW2 v := h.2.2.2.2.2.2.2.1
theorem Inv.d (h : Inv v) : ID v := h.2.2.2.2.2.2.2.2.1
theorem Inv.y (h : Inv v) : IY v := h.2.2.2.2.2.2.2.2.2.1
theorem Inv.l (h : Inv v) : IL v := h.2.2.2.2.2.2.2.2.2.2.1
theorem Inv.n (h : Inv v) : IN v := h.2.2.2.2.2.2.2.2.2.2.2.1
theorem Inv.n2 (h : Inv v) : IN2 v := h.2.2.2.2.2.2.2.2.2.2.2.2.1
theorem Inv.a (h : Inv v) : IA v := h.2.2.2.2.2.2.2.2.2.2.2.2.2.1
theorem Inv.m (h : Inv v) : IM v := h.2.2.2.2.2.2.2.2.2.2.2.2.2.2
theorem Inv.thr (h : Inv v) (t : Int) : Inv (up v 8 0 0 t) := by
  refine ⟨by ((repeat (first | with_reducible refine IS_u (by omega) ?_ | with_reducible refine IS_n (by omega) ?_)); exact h.s), by ((repeat (first | with_reducible refine F8_u (by omega) ?_ | with_reducible refine F8_n (by omega) ?_)); exact h.f), by ((repeat (first | with_reducible refine IR_u (by omega) ?_ | with_reducible refine IR_n (by omega) ?_)); exact h.r), by ((repeat (first | with_reducible refine IP_u (by omega) ?_ | with_reducible refine IP_n (by omega) ?_)); exact h.p), by ((repeat (first | with_reducible refine IP2_u (by omega) ?_ | with_reducible refine IP2_n (by omega) ?_)); exact h.p2), by ((repeat (first | with_reducible refine IB_u (by omega) ?_ | with_reducible refine IB_n (by omega) ?_)); exact h.b), by ((repeat (first | with_reducible refine IW_u (by omega) ?_ | with_reducible refine IW_n (by omega) ?_)); exact h.w), by ((repeat (first | with_reducible refine IW2_u (by omega) ?_ | with_reducible refine IW2_n (by omega) ?_)); exact h.w2), by ((repeat (first | with_reducible refine ID_u (by omega) ?_ | with_reducible refine ID_n (by omega) ?_)); exact h.d), by ((repeat (first | with_reducible refine IY_u (by omega) ?_ | with_reducible refine IY_n (by omega) ?_)); exact h.y), by ((repeat (first | with_reducible refine IL_u (by omega) ?_ | with_reducible refine IL_n (by omega) ?_)); exact h.l), by ((repeat (first | with_reducible refine IN_u (by omega) ?_ | with_reducible refine IN_n (by omega) ?_)); exact h.n), by ((repeat (first | with_reducible refine IN2_u (by omega) ?_ | with_reducible refine IN2_n (by omega) ?_)); exact h.n2), by ((repeat (first | with_reducible refine IA_u (by omega) ?_ | with_reducible refine IA_n (by omega) ?_)); exact h.a), by ((repeat (first | with_reducible refine IM_u (by omega) ?_ | with_reducible refine IM_n (by omega) ?_)); exact h.m)⟩
theorem i7 (h : Inv v) : v 7 0 0 = 0 ∧ v 7 0 1 = 0 ∧ v 7 0 2 = 0 ∧ v 7 0 3 = 0 ∧ v 7 0 4 = 0 ∧ v 7 0 5 = v 8 0 2 ∧ v 7 0 6 = v 8 0 9 ∧ v 7 0 7 = v 8 0 21 ∧ v 7 0 8 = v 8 0 36 ∧ v 7 0 9 = v 8 0 1 := by
  have hs := h.s
  unfold IS at hs
  refine ⟨?_, ?_, ?_, ?_, ?_, ?_, ?_, ?_, ?_, ?_⟩ <;> omega
theorem k9 : ((0 : Nat) : Int) = 0 ∧ ((1 : Nat) : Int) = 1 ∧ ((2 : Nat) : Int) = 2 ∧ ((3 : Nat) : Int) = 3 ∧ ((4 : Nat) : Int) = 4 ∧ ((5 : Nat) : Int) = 5 ∧ ((6 : Nat) : Int) = 6 ∧ ((15 : Nat) : Int) = 15 ∧ ((16 : Nat) : Int) = 16 := ⟨rfl, rfl, rfl, rfl, rfl, rfl, rfl, rfl, rfl⟩
theorem df_a : df 3 3 = 0 ∧ df 3 4 = 0 ∧ df 3 5 = 0 ∧ df 6 4 = 0 ∧ df 6 7 = 0 ∧ df 6 8 = 0 ∧ df 2 6 = -1 ∧ df 2 7 = -1 ∧ df 4 4 = 0 ∧ df 1 7 = 0 := by decide
theorem df_16 (y : Int) : df 16 y = 0 := rfl
theorem s10_up {n z : Int} (h0 : 0 ≤ n) (h1 : n < 10) : s10 (up v 43 0 n z 43 0) = s10 (v 43 0) - v 43 0 n + z := by
  have h : n = 0 ∨ n = 1 ∨ n = 2 ∨ n = 3 ∨ n = 4 ∨ n = 5 ∨ n = 6 ∨ n = 7 ∨ n = 8 ∨ n = 9 := by omega
  unfold s10
  rcases h with rfl | rfl | rfl | rfl | rfl | rfl | rfl | rfl | rfl | rfl <;> simp (decide := true) only [up_r, and_true, true_and, if_true, if_false] <;> omega
theorem s10_o {K : Nat} {i j z : Int} (hK : ¬ K = 43) : s10 (up v K i j z 43 0) = s10 (v 43 0) := by
  unfold s10
  simp only [(fun j' => up_o (by omega) : ∀ j' : Int, up v K i j z 43 0 j' = v 43 0 j')]
theorem s10_n {K : Nat} {i : Int} (hK : ¬ K = 43) : s10 (nw v K i 43 0) = s10 (v 43 0) := by
  unfold s10
  simp only [(fun j' => nw_o (by omega) (by omega) : ∀ j' : Int, nw v K i 43 0 j' = v 43 0 j')]
end Sel

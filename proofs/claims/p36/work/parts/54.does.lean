/-! PURE 20: the law's does, on one object; its act -/
/-- what a call of the law's does leaves: where it answers the mark, nothing has changed -/
def Dz (v : V) (z : Int) (w : V) : Prop := Inv w ∧ Kp v w ∧ (z = -2100000000 → w = v)
section Do
variable {v w : V} {Q : Int → V → Prop} {E : Nat → V → Prop} {r : Res} {a b c d : Int}
theorem dz_of (h : Inv v) (n : Nz v r) : Wp (rBx r (fun z1 v1 => (rOk z1 v1)) (kxC (-2100000000) [1, 2, 3])) (Dz v) NoE := by
  rcases wp_two n with ⟨z, w, rfl, g1, g2, g3⟩ | ⟨e, y, w, rfl, g1, rfl⟩
  · exact ⟨g3, g2, fun q => absurd q g1⟩
  · have hk : kxC (-2100000000) [1, 2, 3] e w = rOk (-2100000000) w := by
      unfold kxC
      rw [if_pos (by rcases g1 with rfl | rfl | rfl <;> decide)]
    show Wp (kxC (-2100000000) [1, 2, 3] e w) (Dz w) NoE
    rw [hk]
    exact ⟨h, Kp_r, fun _ => rfl⟩
theorem nz_id (n : Nz v r) : Nz v (rB r (fun z1 v1 => (rOk z1 v1))) := wp_B n
theorem nz_0 (n : Nz v r) : Nz v (rB r (fun z1 v1 => (rOk 0 v1))) := by
  rcases wp_two n with ⟨z, w, rfl, g1, g2, g3⟩ | ⟨e, y, w, rfl, g1, g2⟩
  · exact ⟨by omega, g2, g3⟩
  · exact ⟨g1, g2⟩
theorem nz_bit (n : Nz v r) : Nz v (rB r (fun z1 v1 => (rB (sp_L_bit z1 v1) (fun z2 v2 => (rOk z2 v2))))) := by
  rcases wp_two n with ⟨z, w, rfl, g1, g2, g3⟩ | ⟨e, y, w, rfl, g1, g2⟩
  · show Wp (rB (sp_L_bit z w) (fun z2 v2 => (rOk z2 v2))) (Gz v) (Ez v)
    unfold sp_L_bit
    by_cases q : z = 0
    · rw [if_pos q]
      exact ⟨by omega, g2, g3⟩
    · rw [if_neg q]
      exact ⟨by omega, g2, g3⟩
  · exact ⟨g1, g2⟩
theorem wp_low {x n : Int} (hn : ¬ n = 0) (h : ∀ z, Q z v) : Wp (sp_L_low x n v) Q E := by
  unfold sp_L_low
  rw [chk_t hn]
  exact h _
theorem dz_2 (h : Inv v) : Wp (sp_L_does_2 a b c d v) (Dz v) NoE := by
  unfold sp_L_does_2 sp_L_early_2
  exact dz_of h (nz_id (nz_value h))
theorem dz_3 (h : Inv v) : Wp (sp_L_does_3 a b c d v) (Dz v) NoE := by
  unfold sp_L_does_3 sp_L_early_3
  exact dz_of h (nz_id (nz_pass h))
theorem dz_4 (h : Inv v) : Wp (sp_L_does_4 a b c d v) (Dz v) NoE := by
  unfold sp_L_does_4 sp_L_early_4
  exact dz_of h (nz_id (nz_weight h))
theorem dz_7 (h : Inv v) : Wp (sp_L_does_7 a b c d v) (Dz v) NoE := by
  unfold sp_L_does_7 sp_L_early_7
  exact dz_of h (nz_id (nz_right h))
theorem dz_8 (h : Inv v) : Wp (sp_L_does_8 a b c d v) (Dz v) NoE := by
  unfold sp_L_does_8 sp_L_early_8
  exact dz_of h (nz_id (nz_bar h))
theorem dz_10 (h : Inv v) : Wp (sp_L_does_10 a b c d v) (Dz v) NoE := by
  unfold sp_L_does_10 sp_L_early_10
  exact dz_of h (nz_id (nz_bring h))
theorem dz_12 (h : Inv v) : Wp (sp_L_does_12 a b c d v) (Dz v) NoE := by
  unfold sp_L_does_12 sp_L_early_12
  exact dz_of h (nz_id (nz_fail h))
theorem dz_13 (h : Inv v) : Wp (sp_L_does_13 a b c d v) (Dz v) NoE := by
  unfold sp_L_does_13 sp_L_middle_13
  exact dz_of h (nz_id (nz_sell h))
theorem dz_15 (h : Inv v) : Wp (sp_L_does_15 a b c d v) (Dz v) NoE := by
  unfold sp_L_does_15 sp_L_middle_15
  exact dz_of h (nz_id (nz_back h))
theorem dz_16 (h : Inv v) : Wp (sp_L_does_16 a b c d v) (Dz v) NoE := by
  unfold sp_L_does_16 sp_L_middle_16
  exact dz_of h (nz_id (nz_deal h))
theorem dz_18 (h : Inv v) : Wp (sp_L_does_18 a b c d v) (Dz v) NoE := by
  unfold sp_L_does_18 sp_L_middle_18
  exact dz_of h (nz_id (nz_restore h))
theorem dz_19 (h : Inv v) : Wp (sp_L_does_19 a b c d v) (Dz v) NoE := by
  unfold sp_L_does_19 sp_L_middle_19
  exact dz_of h (nz_id (nz_lend h))
theorem dz_20 (h : Inv v) : Wp (sp_L_does_20 a b c d v) (Dz v) NoE := by
  unfold sp_L_does_20 sp_L_middle_20
  exact dz_of h (nz_id (nz_repay h))
theorem dz_21 (h : Inv v) : Wp (sp_L_does_21 a b c d v) (Dz v) NoE := by
  unfold sp_L_does_21 sp_L_middle_21
  exact dz_of h (nz_id (nz_seize h))
theorem dz_22 (h : Inv v) : Wp (sp_L_does_22 a b c d v) (Dz v) NoE := by
  unfold sp_L_does_22 sp_L_middle_22
  exact dz_of h (nz_id (nz_assign h))
theorem dz_5 (h : Inv v) : Wp (sp_L_does_5 a b c d v) (Dz v) NoE := by
  unfold sp_L_does_5 sp_L_early_5
  refine dz_of h ?_
  split
  · exact nz_id (nz_word (Or.inl rfl) h)
  · exact nz_id (nz_word (Or.inr rfl) h)
theorem dz_6 (h : Inv v) : Wp (sp_L_does_6 a b c d v) (Dz v) NoE := by
  unfold sp_L_does_6 sp_L_early_6 sp_L_papers
  exact dz_of h (nz_id (nz_0 (nz_paper h)))
theorem dz_9 (h : Inv v) : Wp (sp_L_does_9 a b c d v) (Dz v) NoE := by
  unfold sp_L_does_9 sp_L_early_9
  refine dz_of h ?_
  split
  · exact nz_bit (nz_seal (Or.inl rfl) h)
  · exact nz_bit (nz_seal (Or.inr rfl) h)
theorem dz_11 (h : Inv v) : Wp (sp_L_does_11 a b c d v) (Dz v) NoE := by
  unfold sp_L_does_11 sp_L_early_11 sp_L_lists
  exact dz_of h (nz_id (nz_0 (nz_list h)))
theorem dz_14 (h : Inv v) : Wp (sp_L_does_14 a b c d v) (Dz v) NoE := by
  unfold sp_L_does_14 sp_L_middle_14 sp_L_consigns
  exact dz_of h (nz_id (nz_0 (nz_consign h)))
theorem dz_17 (h : Inv v) : Wp (sp_L_does_17 a b c d v) (Dz v) NoE := by
  unfold sp_L_does_17 sp_L_middle_17
  exact dz_of h (nz_bit (nz_tell h))
theorem dw_2 (h : Inv v) : Wp (rB (sp_L_does_2 a b c d v) (fun z1 v1 => (rOk z1 v1))) (Dz v) NoE := wp_B (dz_2 h)
theorem dw_3 (h : Inv v) : Wp (rB (sp_L_does_3 a b c d v) (fun z1 v1 => (rOk z1 v1))) (Dz v) NoE := wp_B (dz_3 h)
theorem dw_4 (h : Inv v) : Wp (rB (sp_L_does_4 a b c d v) (fun z1 v1 => (rOk z1 v1))) (Dz v) NoE := wp_B (dz_4 h)
theorem dw_5 (h : Inv v) : Wp (rB (sp_L_does_5 a b c d v) (fun z1 v1 => (rOk z1 v1))) (Dz v) NoE := wp_B (dz_5 h)
theorem dw_6 (h : Inv v) : Wp (rB (sp_L_does_6 a b c d v) (fun z1 v1 => (rOk z1 v1))) (Dz v) NoE := wp_B (dz_6 h)
theorem dw_7 (h : Inv v) : Wp (rB (sp_L_does_7 a b c d v) (fun z1 v1 => (rOk z1 v1))) (Dz v) NoE := wp_B (dz_7 h)
theorem dw_8 (h : Inv v) : Wp (rB (sp_L_does_8 a b c d v) (fun z1 v1 => (rOk z1 v1))) (Dz v) NoE := wp_B (dz_8 h)
theorem dw_9 (h : Inv v) : Wp (rB (sp_L_does_9 a b c d v) (fun z1 v1 => (rOk z1 v1))) (Dz v) NoE := wp_B (dz_9 h)
theorem dw_10 (h : Inv v) : Wp (rB (sp_L_does_10 a b c d v) (fun z1 v1 => (rOk z1 v1))) (Dz v) NoE := wp_B (dz_10 h)
theorem dw_11 (h : Inv v) : Wp (rB (sp_L_does_11 a b c d v) (fun z1 v1 => (rOk z1 v1))) (Dz v) NoE := wp_B (dz_11 h)
theorem dw_12 (h : Inv v) : Wp (rB (sp_L_does_12 a b c d v) (fun z1 v1 => (rOk z1 v1))) (Dz v) NoE := wp_B (dz_12 h)
theorem dw_13 (h : Inv v) : Wp (rB (sp_L_does_13 a b c d v) (fun z1 v1 => (rOk z1 v1))) (Dz v) NoE := wp_B (dz_13 h)
theorem dw_14 (h : Inv v) : Wp (rB (sp_L_does_14 a b c d v) (fun z1 v1 => (rOk z1 v1))) (Dz v) NoE := wp_B (dz_14 h)
theorem dw_15 (h : Inv v) : Wp (rB (sp_L_does_15 a b c d v) (fun z1 v1 => (rOk z1 v1))) (Dz v) NoE := wp_B (dz_15 h)
theorem dw_16 (h : Inv v) : Wp (rB (sp_L_does_16 a b c d v) (fun z1 v1 => (rOk z1 v1))) (Dz v) NoE := wp_B (dz_16 h)
theorem dw_17 (h : Inv v) : Wp (rB (sp_L_does_17 a b c d v) (fun z1 v1 => (rOk z1 v1))) (Dz v) NoE := wp_B (dz_17 h)
theorem dw_18 (h : Inv v) : Wp (rB (sp_L_does_18 a b c d v) (fun z1 v1 => (rOk z1 v1))) (Dz v) NoE := wp_B (dz_18 h)
theorem dw_19 (h : Inv v) : Wp (rB (sp_L_does_19 a b c d v) (fun z1 v1 => (rOk z1 v1))) (Dz v) NoE := wp_B (dz_19 h)
theorem dw_20 (h : Inv v) : Wp (rB (sp_L_does_20 a b c d v) (fun z1 v1 => (rOk z1 v1))) (Dz v) NoE := wp_B (dz_20 h)
theorem dw_21 (h : Inv v) : Wp (rB (sp_L_does_21 a b c d v) (fun z1 v1 => (rOk z1 v1))) (Dz v) NoE := wp_B (dz_21 h)
theorem dw_22 (h : Inv v) : Wp (rB (sp_L_does_22 a b c d v) (fun z1 v1 => (rOk z1 v1))) (Dz v) NoE := wp_B (dz_22 h)
set_option maxHeartbeats 8000000 in
theorem dz_c0 {l1 l3 l4 l5 l6 l7 l8 l9 : Int} (h : Inv v) : Wp (cp_L_act_215 l1 l3 l4 l5 l6 l7 l8 l9 v) (Dz v) NoE := by
  unfold cp_L_act_215
  repeat' (first | with_reducible exact dw_2 h | with_reducible exact dw_3 h | with_reducible exact dw_4 h | with_reducible exact dw_5 h | with_reducible exact dw_6 h | with_reducible exact dw_7 h | with_reducible exact dw_8 h | with_reducible exact dw_9 h | with_reducible exact dw_10 h | with_reducible exact dw_11 h | with_reducible exact dw_12 h | with_reducible exact dw_13 h | with_reducible exact dw_14 h | with_reducible exact dw_15 h | with_reducible exact dw_16 h | with_reducible exact dw_17 h | with_reducible exact dw_18 h | with_reducible exact dw_19 h | with_reducible exact dw_20 h | with_reducible exact dw_21 h | with_reducible exact dw_22 h | (with_reducible refine wp_B ?_) | (with_reducible refine wp_low (by decide) (fun _ => ?_)) | (with_reducible refine wp_ok ?_) | (with_reducible refine wp_i (fun _ => ?_) (fun _ => ?_)))
  all_goals exact ⟨h, Kp_r, fun _ => rfl⟩
set_option maxHeartbeats 8000000 in
theorem dz_c1 {l1 l3 l4 l5 l6 l7 l8 l9 : Int} (h : Inv v) : Wp (cp_L_act_215_1 l1 l3 l4 l5 l6 l7 l8 l9 v) (Dz v) NoE := by
  unfold cp_L_act_215_1
  repeat' (first | with_reducible exact dw_2 h | with_reducible exact dw_3 h | with_reducible exact dw_4 h | with_reducible exact dw_5 h | with_reducible exact dw_6 h | with_reducible exact dw_7 h | with_reducible exact dw_8 h | with_reducible exact dw_9 h | with_reducible exact dw_10 h | with_reducible exact dw_11 h | with_reducible exact dw_12 h | with_reducible exact dw_13 h | with_reducible exact dw_14 h | with_reducible exact dw_15 h | with_reducible exact dw_16 h | with_reducible exact dw_17 h | with_reducible exact dw_18 h | with_reducible exact dw_19 h | with_reducible exact dw_20 h | with_reducible exact dw_21 h | with_reducible exact dw_22 h | (with_reducible refine wp_B ?_) | (with_reducible refine wp_low (by decide) (fun _ => ?_)) | (with_reducible refine wp_ok ?_) | (with_reducible refine wp_i (fun _ => ?_) (fun _ => ?_)))
  all_goals exact ⟨h, Kp_r, fun _ => rfl⟩
/-- an act of the law, on one object -/
theorem dz_act (h : Inv v) : Wp (sp_L_act a v) (Dz v) NoE := by
  unfold sp_L_act
  repeat' (first | (with_reducible exact dz_c0 h) | (with_reducible exact dz_c1 h) | (with_reducible refine wp_B ?_) | (with_reducible refine wp_low (by decide) (fun _ => ?_)) | (with_reducible refine wp_i (fun _ => ?_) (fun _ => ?_)))
end Do

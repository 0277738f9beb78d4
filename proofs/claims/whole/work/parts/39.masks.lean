/-! PURE 20: masked writes -/
def muF (v : V) (K0 : Nat) (j0 : Int) (p : Int → Bool) (z : Int) : V := fun K i j => if K = K0 ∧ j = j0 ∧ p i = true then z else v K i j
def muA (v : V) (K0 : Nat) (i0 : Int) (p : Int → Bool) (z : Int) : V := fun K i j => if K = K0 ∧ i = i0 ∧ p j = true then z else v K i j
def Off (v' v : V) (K0 : Nat) : Prop := ∀ (K' : Nat) (i' j' : Int), ¬ K' = K0 → v' K' i' j' = v K' i' j'
section Mu
variable {v v' : V} {K0 : Nat} {i j i0 j0 t z : Int} {p p' : Int → Bool}
theorem muF_r (K : Nat) (i j : Int) : muF v K0 j0 p z K i j = if K = K0 ∧ j = j0 ∧ p i = true then z else v K i j := rfl
theorem muA_r (K : Nat) (i j : Int) : muA v K0 i0 p z K i j = if K = K0 ∧ i = i0 ∧ p j = true then z else v K i j := rfl
theorem muF_o : Off (muF v K0 j0 p z) v K0 := fun K' i' j' h => by rw [muF_r, if_neg (fun x => h x.1)]
theorem muA_o : Off (muA v K0 i0 p z) v K0 := fun K' i' j' h => by rw [muA_r, if_neg (fun x => h x.1)]
theorem up_sm : up v K0 i j (v K0 i j) = v := by
  funext K' i' j'
  rw [up_r]
  split
  · rename_i h
    obtain ⟨rfl, rfl, rfl⟩ := h
    rfl
  · rfl
theorem muF_1 (h : ∀ i, p' i = true ↔ (p i = true ∨ i = t)) : up (muF v K0 j0 p z) K0 t j0 z = muF v K0 j0 p' z := by
  funext K' i' j'
  rw [up_r, muF_r, muF_r]
  have := h i'
  by_cases q : K' = K0 ∧ j' = j0
  · obtain ⟨rfl, rfl⟩ := q
    by_cases q2 : i' = t
    · rw [if_pos ⟨rfl, q2, rfl⟩, if_pos ⟨rfl, rfl, this.mpr (Or.inr q2)⟩]
    · rw [if_neg (fun x => q2 x.2.1)]
      by_cases q3 : p i' = true
      · rw [if_pos ⟨rfl, rfl, q3⟩, if_pos ⟨rfl, rfl, this.mpr (Or.inl q3)⟩]
      · rw [if_neg (fun x => q3 x.2.2), if_neg (fun x => (this.mp x.2.2).elim q3 q2)]
  · rw [if_neg (fun x => q ⟨x.1, x.2.2⟩), if_neg (fun x => q ⟨x.1, x.2.1⟩), if_neg (fun x => q ⟨x.1, x.2.1⟩)]
theorem muF_0 (h : ∀ i, p' i = true ↔ p i = true) : muF v K0 j0 p z = muF v K0 j0 p' z := by
  funext K' i' j'
  rw [muF_r, muF_r]
  simp only [h i']
theorem muA_1 (h : ∀ i, p' i = true ↔ (p i = true ∨ i = t)) : up (muA v K0 i0 p z) K0 i0 t z = muA v K0 i0 p' z := by
  funext K' i' j'
  rw [up_r, muA_r, muA_r]
  have := h j'
  by_cases q : K' = K0 ∧ i' = i0
  · obtain ⟨rfl, rfl⟩ := q
    by_cases q2 : j' = t
    · rw [if_pos ⟨rfl, rfl, q2⟩, if_pos ⟨rfl, rfl, this.mpr (Or.inr q2)⟩]
    · rw [if_neg (fun x => q2 x.2.2)]
      by_cases q3 : p j' = true
      · rw [if_pos ⟨rfl, rfl, q3⟩, if_pos ⟨rfl, rfl, this.mpr (Or.inl q3)⟩]
      · rw [if_neg (fun x => q3 x.2.2), if_neg (fun x => (this.mp x.2.2).elim q3 q2)]
  · rw [if_neg (fun x => q ⟨x.1, x.2.1⟩), if_neg (fun x => q ⟨x.1, x.2.1⟩), if_neg (fun x => q ⟨x.1, x.2.1⟩)]
theorem muA_0 (h : ∀ i, p' i = true ↔ p i = true) : muA v K0 i0 p z = muA v K0 i0 p' z := by
  funext K' i' j'
  rw [muA_r, muA_r]
  simp only [h j']
theorem muF_n (h : ∀ i, ¬ p i = true) : muF v K0 j0 p z = v := by
  funext K' i' j'
  rw [muF_r, if_neg (fun x => h i' x.2.2)]
theorem muA_n (h : ∀ i, ¬ p i = true) : muA v K0 i0 p z = v := by
  funext K' i' j'
  rw [muA_r, if_neg (fun x => h j' x.2.2)]
theorem IS_o (o : Off v' v K0) (hK : K0 ≠ 7 ∧ K0 ≠ 8 ∧ K0 ≠ 98) (h : IS v) : IS v' := by
  unfold IS at *
  simp only [(fun i' j' => o 7 i' j' (by omega) : ∀ i' j' : Int, v' 7 i' j' = v 7 i' j'), (fun i' j' => o 8 i' j' (by omega) : ∀ i' j' : Int, v' 8 i' j' = v 8 i' j'), (fun i' j' => o 98 i' j' (by omega) : ∀ i' j' : Int, v' 98 i' j' = v 98 i' j')]
  exact h
theorem F8_o (o : Off v' v K0) (hK : K0 ≠ 8) (h : F8 v) : F8 v' := by
  unfold F8 at *
  simp only [(fun i' j' => o 8 i' j' (by omega) : ∀ i' j' : Int, v' 8 i' j' = v 8 i' j')]
  exact h
theorem IR_o (o : Off v' v K0) (hK : K0 ≠ 14 ∧ K0 ≠ 48) (h : IR v) : IR v' := by
  unfold IR at *
  simp only [(fun i' j' => o 14 i' j' (by omega) : ∀ i' j' : Int, v' 14 i' j' = v 14 i' j'), (fun i' j' => o 48 i' j' (by omega) : ∀ i' j' : Int, v' 48 i' j' = v 48 i' j')]
  exact h
theorem IP_o (o : Off v' v K0) (hK : K0 ≠ 10 ∧ K0 ≠ 44 ∧ K0 ≠ 43 ∧ K0 ≠ 46 ∧ K0 ≠ 45 ∧ K0 ≠ 3 ∧ K0 ≠ 8) (h : IP v) : IP v' := by
  unfold IP at *
  simp only [(fun i' j' => o 10 i' j' (by omega) : ∀ i' j' : Int, v' 10 i' j' = v 10 i' j'), (fun i' j' => o 44 i' j' (by omega) : ∀ i' j' : Int, v' 44 i' j' = v 44 i' j'), (fun i' j' => o 43 i' j' (by omega) : ∀ i' j' : Int, v' 43 i' j' = v 43 i' j'), (fun i' j' => o 46 i' j' (by omega) : ∀ i' j' : Int, v' 46 i' j' = v 46 i' j'), (fun i' j' => o 45 i' j' (by omega) : ∀ i' j' : Int, v' 45 i' j' = v 45 i' j'), (fun i' j' => o 3 i' j' (by omega) : ∀ i' j' : Int, v' 3 i' j' = v 3 i' j'), (fun i' j' => o 8 i' j' (by omega) : ∀ i' j' : Int, v' 8 i' j' = v 8 i' j')]
  exact h
theorem IP2_o (o : Off v' v K0) (hK : K0 ≠ 43 ∧ K0 ≠ 46 ∧ K0 ≠ 45 ∧ K0 ≠ 8) (h : IP2 v) : IP2 v' := by
  unfold IP2 at *
  simp only [(fun i' j' => o 43 i' j' (by omega) : ∀ i' j' : Int, v' 43 i' j' = v 43 i' j'), (fun i' j' => o 46 i' j' (by omega) : ∀ i' j' : Int, v' 46 i' j' = v 46 i' j'), (fun i' j' => o 45 i' j' (by omega) : ∀ i' j' : Int, v' 45 i' j' = v 45 i' j'), (fun i' j' => o 8 i' j' (by omega) : ∀ i' j' : Int, v' 8 i' j' = v 8 i' j')]
  exact h
theorem IB_o (o : Off v' v K0) (hK : K0 ≠ 47 ∧ K0 ≠ 3 ∧ K0 ≠ 8) (h : IB v) : IB v' := by
  unfold IB at *
  simp only [(fun i' j' => o 47 i' j' (by omega) : ∀ i' j' : Int, v' 47 i' j' = v 47 i' j'), (fun i' j' => o 3 i' j' (by omega) : ∀ i' j' : Int, v' 3 i' j' = v 3 i' j'), (fun i' j' => o 8 i' j' (by omega) : ∀ i' j' : Int, v' 8 i' j' = v 8 i' j')]
  exact h
theorem IW_o (o : Off v' v K0) (hK : K0 ≠ 11 ∧ K0 ≠ 50 ∧ K0 ≠ 57 ∧ K0 ≠ 51 ∧ K0 ≠ 52 ∧ K0 ≠ 53 ∧ K0 ≠ 54 ∧ K0 ≠ 55 ∧ K0 ≠ 6 ∧ K0 ≠ 8) (h : IW v) : IW v' := by
  unfold IW at *
  simp only [(fun i' j' => o 11 i' j' (by omega) : ∀ i' j' : Int, v' 11 i' j' = v 11 i' j'), (fun i' j' => o 50 i' j' (by omega) : ∀ i' j' : Int, v' 50 i' j' = v 50 i' j'), (fun i' j' => o 57 i' j' (by omega) : ∀ i' j' : Int, v' 57 i' j' = v 57 i' j'), (fun i' j' => o 51 i' j' (by omega) : ∀ i' j' : Int, v' 51 i' j' = v 51 i' j'), (fun i' j' => o 52 i' j' (by omega) : ∀ i' j' : Int, v' 52 i' j' = v 52 i' j'), (fun i' j' => o 53 i' j' (by omega) : ∀ i' j' : Int, v' 53 i' j' = v 53 i' j'), (fun i' j' => o 54 i' j' (by omega) : ∀ i' j' : Int, v' 54 i' j' = v 54 i' j'), (fun i' j' => o 55 i' j' (by omega) : ∀ i' j' : Int, v' 55 i' j' = v 55 i' j'), (fun i' j' => o 6 i' j' (by omega) : ∀ i' j' : Int, v' 6 i' j' = v 6 i' j'), (fun i' j' => o 8 i' j' (by omega) : ∀ i' j' : Int, v' 8 i' j' = v 8 i' j')]
  exact h
theorem IW2_o (o : Off v' v K0) (hK : K0 ≠ 53 ∧ K0 ≠ 54 ∧ K0 ≠ 57 ∧ K0 ≠ 8) (h : IW2 v) : IW2 v' := by
  unfold IW2 at *
  simp only [(fun i' j' => o 53 i' j' (by omega) : ∀ i' j' : Int, v' 53 i' j' = v 53 i' j'), (fun i' j' => o 54 i' j' (by omega) : ∀ i' j' : Int, v' 54 i' j' = v 54 i' j'), (fun i' j' => o 57 i' j' (by omega) : ∀ i' j' : Int, v' 57 i' j' = v 57 i' j'), (fun i' j' => o 8 i' j' (by omega) : ∀ i' j' : Int, v' 8 i' j' = v 8 i' j')]
  exact h
theorem ID_o (o : Off v' v K0) (hK : K0 ≠ 57 ∧ K0 ≠ 15 ∧ K0 ≠ 5 ∧ K0 ≠ 58 ∧ K0 ≠ 59 ∧ K0 ≠ 60 ∧ K0 ≠ 8) (h : ID v) : ID v' := by
  unfold ID at *
  simp only [(fun i' j' => o 57 i' j' (by omega) : ∀ i' j' : Int, v' 57 i' j' = v 57 i' j'), (fun i' j' => o 15 i' j' (by omega) : ∀ i' j' : Int, v' 15 i' j' = v 15 i' j'), (fun i' j' => o 5 i' j' (by omega) : ∀ i' j' : Int, v' 5 i' j' = v 5 i' j'), (fun i' j' => o 58 i' j' (by omega) : ∀ i' j' : Int, v' 58 i' j' = v 58 i' j'), (fun i' j' => o 59 i' j' (by omega) : ∀ i' j' : Int, v' 59 i' j' = v 59 i' j'), (fun i' j' => o 60 i' j' (by omega) : ∀ i' j' : Int, v' 60 i' j' = v 60 i' j'), (fun i' j' => o 8 i' j' (by omega) : ∀ i' j' : Int, v' 8 i' j' = v 8 i' j')]
  exact h
theorem IY_o (o : Off v' v K0) (hK : K0 ≠ 16 ∧ K0 ≠ 56 ∧ K0 ≠ 8) (h : IY v) : IY v' := by
  unfold IY at *
  simp only [(fun i' j' => o 16 i' j' (by omega) : ∀ i' j' : Int, v' 16 i' j' = v 16 i' j'), (fun i' j' => o 56 i' j' (by omega) : ∀ i' j' : Int, v' 56 i' j' = v 56 i' j'), (fun i' j' => o 8 i' j' (by omega) : ∀ i' j' : Int, v' 8 i' j' = v 8 i' j')]
  exact h
theorem IL_o (o : Off v' v K0) (hK : K0 ≠ 12 ∧ K0 ≠ 62 ∧ K0 ≠ 70 ∧ K0 ≠ 63 ∧ K0 ≠ 64 ∧ K0 ≠ 65 ∧ K0 ≠ 66 ∧ K0 ≠ 0 ∧ K0 ≠ 67 ∧ K0 ≠ 68 ∧ K0 ≠ 69 ∧ K0 ≠ 71 ∧ K0 ≠ 4 ∧ K0 ≠ 72 ∧ K0 ≠ 73 ∧ K0 ≠ 74 ∧ K0 ≠ 75 ∧ K0 ≠ 98 ∧ K0 ≠ 2 ∧ K0 ≠ 8) (h : IL v) : IL v' := by
  unfold IL ICo ISa at *
  simp only [(fun i' j' => o 12 i' j' (by omega) : ∀ i' j' : Int, v' 12 i' j' = v 12 i' j'), (fun i' j' => o 62 i' j' (by omega) : ∀ i' j' : Int, v' 62 i' j' = v 62 i' j'), (fun i' j' => o 70 i' j' (by omega) : ∀ i' j' : Int, v' 70 i' j' = v 70 i' j'), (fun i' j' => o 63 i' j' (by omega) : ∀ i' j' : Int, v' 63 i' j' = v 63 i' j'), (fun i' j' => o 64 i' j' (by omega) : ∀ i' j' : Int, v' 64 i' j' = v 64 i' j'), (fun i' j' => o 65 i' j' (by omega) : ∀ i' j' : Int, v' 65 i' j' = v 65 i' j'), (fun i' j' => o 66 i' j' (by omega) : ∀ i' j' : Int, v' 66 i' j' = v 66 i' j'), (fun i' j' => o 0 i' j' (by omega) : ∀ i' j' : Int, v' 0 i' j' = v 0 i' j'), (fun i' j' => o 67 i' j' (by omega) : ∀ i' j' : Int, v' 67 i' j' = v 67 i' j'), (fun i' j' => o 68 i' j' (by omega) : ∀ i' j' : Int, v' 68 i' j' = v 68 i' j'), (fun i' j' => o 69 i' j' (by omega) : ∀ i' j' : Int, v' 69 i' j' = v 69 i' j'), (fun i' j' => o 71 i' j' (by omega) : ∀ i' j' : Int, v' 71 i' j' = v 71 i' j'), (fun i' j' => o 4 i' j' (by omega) : ∀ i' j' : Int, v' 4 i' j' = v 4 i' j'), (fun i' j' => o 72 i' j' (by omega) : ∀ i' j' : Int, v' 72 i' j' = v 72 i' j'), (fun i' j' => o 73 i' j' (by omega) : ∀ i' j' : Int, v' 73 i' j' = v 73 i' j'), (fun i' j' => o 74 i' j' (by omega) : ∀ i' j' : Int, v' 74 i' j' = v 74 i' j'), (fun i' j' => o 75 i' j' (by omega) : ∀ i' j' : Int, v' 75 i' j' = v 75 i' j'), (fun i' j' => o 98 i' j' (by omega) : ∀ i' j' : Int, v' 98 i' j' = v 98 i' j'), (fun i' j' => o 2 i' j' (by omega) : ∀ i' j' : Int, v' 2 i' j' = v 2 i' j'), (fun i' j' => o 8 i' j' (by omega) : ∀ i' j' : Int, v' 8 i' j' = v 8 i' j')]
  exact h
theorem IN_o (o : Off v' v K0) (hK : K0 ≠ 13 ∧ K0 ≠ 77 ∧ K0 ≠ 79 ∧ K0 ≠ 80 ∧ K0 ≠ 81 ∧ K0 ≠ 82 ∧ K0 ≠ 78 ∧ K0 ≠ 83 ∧ K0 ≠ 1 ∧ K0 ≠ 8) (h : IN v) : IN v' := by
  unfold IN at *
  simp only [(fun i' j' => o 13 i' j' (by omega) : ∀ i' j' : Int, v' 13 i' j' = v 13 i' j'), (fun i' j' => o 77 i' j' (by omega) : ∀ i' j' : Int, v' 77 i' j' = v 77 i' j'), (fun i' j' => o 79 i' j' (by omega) : ∀ i' j' : Int, v' 79 i' j' = v 79 i' j'), (fun i' j' => o 80 i' j' (by omega) : ∀ i' j' : Int, v' 80 i' j' = v 80 i' j'), (fun i' j' => o 81 i' j' (by omega) : ∀ i' j' : Int, v' 81 i' j' = v 81 i' j'), (fun i' j' => o 82 i' j' (by omega) : ∀ i' j' : Int, v' 82 i' j' = v 82 i' j'), (fun i' j' => o 78 i' j' (by omega) : ∀ i' j' : Int, v' 78 i' j' = v 78 i' j'), (fun i' j' => o 83 i' j' (by omega) : ∀ i' j' : Int, v' 83 i' j' = v 83 i' j'), (fun i' j' => o 1 i' j' (by omega) : ∀ i' j' : Int, v' 1 i' j' = v 1 i' j'), (fun i' j' => o 8 i' j' (by omega) : ∀ i' j' : Int, v' 8 i' j' = v 8 i' j')]
  exact h
theorem IN2_o (o : Off v' v K0) (hK : K0 ≠ 83 ∧ K0 ≠ 8) (h : IN2 v) : IN2 v' := by
  unfold IN2 at *
  simp only [(fun i' j' => o 83 i' j' (by omega) : ∀ i' j' : Int, v' 83 i' j' = v 83 i' j'), (fun i' j' => o 8 i' j' (by omega) : ∀ i' j' : Int, v' 8 i' j' = v 8 i' j')]
  exact h
theorem IA_o (o : Off v' v K0) (hK : K0 ≠ 99 ∧ K0 ≠ 98 ∧ K0 ≠ 57 ∧ K0 ≠ 8) (h : IA v) : IA v' := by
  unfold IA at *
  simp only [(fun i' j' => o 99 i' j' (by omega) : ∀ i' j' : Int, v' 99 i' j' = v 99 i' j'), (fun i' j' => o 98 i' j' (by omega) : ∀ i' j' : Int, v' 98 i' j' = v 98 i' j'), (fun i' j' => o 57 i' j' (by omega) : ∀ i' j' : Int, v' 57 i' j' = v 57 i' j'), (fun i' j' => o 8 i' j' (by omega) : ∀ i' j' : Int, v' 8 i' j' = v 8 i' j')]
  exact h
theorem IM_o (o : Off v' v K0) (hK : K0 ≠ 43 ∧ K0 ≠ 8) (h : IM v) : IM v' := by
  unfold IM s10 at *
  simp only [(fun i' j' => o 43 i' j' (by omega) : ∀ i' j' : Int, v' 43 i' j' = v 43 i' j'), (fun i' j' => o 8 i' j' (by omega) : ∀ i' j' : Int, v' 8 i' j' = v 8 i' j')]
  exact h
theorem MS_o (o : Off v' v K0) (hK : K0 ≠ 8) (h : MS v) : MS v' := by
  unfold MS F8 at *
  simp only [(fun i' j' => o 8 i' j' (by omega) : ∀ i' j' : Int, v' 8 i' j' = v 8 i' j')]
  exact h
end Mu

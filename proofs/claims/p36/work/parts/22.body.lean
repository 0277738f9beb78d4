/-! PURE 2: what a result must meet; masked writes; where each component of the invariant looks -/
def Wp (r : Res) (Q : Int → V → Prop) (E : Nat → V → Prop) : Prop := match r with
  | some (0, z, v) => Q z v
  | some (e + 1, _, v) => E e v
  | none => False
def NoE : Nat → V → Prop := fun _ _ => False
section WpR
variable {r a b : Res} {Q : Int → V → Prop} {E : Nat → V → Prop} {k : Int → V → Res} {kl : V → Res} {z : Int} {v : V} {e : Nat}
theorem wp_B (h : Wp r (fun z v => Wp (k z v) Q E) E) : Wp (rB r k) Q E := by
  match r, h with
  | some (0, z, v), h => exact h
  | some (e + 1, _, v), h => exact h
  | none, h => exact h.elim
theorem wp_ok (h : Q z v) : Wp (rOk z v) Q E := h
theorem wp_ex (h : E e v) : Wp (rEx e v) Q E := h
theorem wp_chk {q : Prop} [Decidable q] (hq : q) (h : Wp r Q E) : Wp (chk q r) Q E := by rw [chk_t hq]; exact h
theorem wp_let (h : Wp (kl v) Q E) : Wp (rLet v kl) Q E := h
theorem wp_up {K : Nat} {i j y i' j' z' : Int} (hi : i = i') (hj : j = j') (hz : y = z') (h : Wp (kl (up v K i' j' z')) Q E) : Wp (rLet (up v K i j y) kl) Q E := by subst hi hj hz; exact h
theorem wp_nw {K : Nat} {i i' : Int} (hi : i = i') (h : Wp (kl (nw v K i')) Q E) : Wp (rLet (nw v K i) kl) Q E := by subst hi; exact h
theorem wp_t {q : Prop} [Decidable q] (hc : q) (h : Wp a Q E) : Wp (if q then a else b) Q E := by rw [if_pos hc]; exact h
theorem wp_f {q : Prop} [Decidable q] (hc : ¬ q) (h : Wp b Q E) : Wp (if q then a else b) Q E := by rw [if_neg hc]; exact h
theorem wp_i {q : Prop} [Decidable q] (ha : q → Wp a Q E) (hb : ¬ q → Wp b Q E) : Wp (if q then a else b) Q E := by
  by_cases hc : q
  · rw [if_pos hc]; exact ha hc
  · rw [if_neg hc]; exact hb hc
theorem wp_eq {r' : Res} (he : r = r') (h : Wp r' Q E) : Wp r Q E := he ▸ h
theorem wp_get (h : Wp r Q NoE) : ∃ z v, r = rOk z v ∧ Q z v := by
  match r, h with
  | some (0, z, v), h => exact ⟨z, v, rfl, h⟩
  | some (e + 1, _, v), h => exact h.elim
  | none, h => exact h.elim
theorem wp_two (h : Wp r Q E) : (∃ z v, r = rOk z v ∧ Q z v) ∨ ∃ e y v, r = some (e + 1, y, v) ∧ E e v := by
  match r, h with
  | some (0, z, v), h => exact Or.inl ⟨z, v, rfl, h⟩
  | some (e + 1, y, v), h => exact Or.inr ⟨e, y, v, rfl, h⟩
  | none, h => exact h.elim
end WpR
/-- thrown: nothing has changed -/
abbrev Ez (v : V) (e : Nat) (w : V) : Prop := (e = 1 ∨ e = 2 ∨ e = 3) ∧ w = v
/-- answered: not the mark; money, parties, works are kept; the invariant holds -/
abbrev Gz (v : V) (z : Int) (w : V) : Prop := ¬ z = -2100000000 ∧ Kp v w ∧ Inv w
def Nz (v : V) (r : Res) : Prop := Wp r (Gz v) (Ez v)
def muF (v : V) (K0 : Nat) (j0 : Int) (p : Int → Bool) (z : Int) : V := fun K i j => if K = K0 ∧ j = j0 ∧ p i = true then z else v K i j
def muA (v : V) (K0 : Nat) (i0 : Int) (p : Int → Bool) (z : Int) : V := fun K i j => if K = K0 ∧ i = i0 ∧ p j = true then z else v K i j
def Off (v' v : V) (K0 : Nat) : Prop := ∀ (K' : Nat) (i' j' : Int), ¬ K' = K0 → v' K' i' j' = v K' i' j'
section Mu
variable {v v' : V} {K0 : Nat} {i j i0 j0 t z : Int} {p p' : Int → Bool}
theorem muF_r (K : Nat) (i j : Int) : muF v K0 j0 p z K i j = if K = K0 ∧ j = j0 ∧ p i = true then z else v K i j := rfl
theorem muA_r (K : Nat) (i j : Int) : muA v K0 i0 p z K i j = if K = K0 ∧ i = i0 ∧ p j = true then z else v K i j := rfl
theorem muF_o : Off (muF v K0 j0 p z) v K0 := fun K' i' j' h => by rw [muF_r, if_neg (fun x => h x.1)]
theorem muA_o : Off (muA v K0 i0 p z) v K0 := fun K' i' j' h => by rw [muA_r, if_neg (fun x => h x.1)]
theorem up_sm : up v K0 i j (v K0 i j) = v := by
  funext K' i' j'
  rw [up_r]
  split
  · rename_i h
    obtain ⟨rfl, rfl, rfl⟩ := h
    rfl
  · rfl
theorem muF_1 (h : ∀ i, p' i = true ↔ (p i = true ∨ i = t)) : up (muF v K0 j0 p z) K0 t j0 z = muF v K0 j0 p' z := by
  funext K' i' j'
  rw [up_r, muF_r, muF_r]
  have := h i'
  by_cases q : K' = K0 ∧ j' = j0
  · obtain ⟨rfl, rfl⟩ := q
    by_cases q2 : i' = t
    · rw [if_pos ⟨rfl, q2, rfl⟩, if_pos ⟨rfl, rfl, this.mpr (Or.inr q2)⟩]
    · rw [if_neg (fun x => q2 x.2.1)]
      by_cases q3 : p i' = true
      · rw [if_pos ⟨rfl, rfl, q3⟩, if_pos ⟨rfl, rfl, this.mpr (Or.inl q3)⟩]
      · rw [if_neg (fun x => q3 x.2.2), if_neg (fun x => (this.mp x.2.2).elim q3 q2)]
  · rw [if_neg (fun x => q ⟨x.1, x.2.2⟩), if_neg (fun x => q ⟨x.1, x.2.1⟩), if_neg (fun x => q ⟨x.1, x.2.1⟩)]
theorem muF_0 (h : ∀ i, p' i = true ↔ p i = true) : muF v K0 j0 p z = muF v K0 j0 p' z := by
  funext K' i' j'
  rw [muF_r, muF_r]
  simp only [h i']
theorem muA_1 (h : ∀ i, p' i = true ↔ (p i = true ∨ i = t)) : up (muA v K0 i0 p z) K0 i0 t z = muA v K0 i0 p' z := by
  funext K' i' j'
  rw [up_r, muA_r, muA_r]
  have := h j'
  by_cases q : K' = K0 ∧ i' = i0
  · obtain ⟨rfl, rfl⟩ := q
    by_cases q2 : j' = t
    · rw [if_pos ⟨rfl, rfl, q2⟩, if_pos ⟨rfl, rfl, this.mpr (Or.inr q2)⟩]
    · rw [if_neg (fun x => q2 x.2.2)]
      by_cases q3 : p j' = true
      · rw [if_pos ⟨rfl, rfl, q3⟩, if_pos ⟨rfl, rfl, this.mpr (Or.inl q3)⟩]
      · rw [if_neg (fun x => q3 x.2.2), if_neg (fun x => (this.mp x.2.2).elim q3 q2)]
  · rw [if_neg (fun x => q ⟨x.1, x.2.1⟩), if_neg (fun x => q ⟨x.1, x.2.1⟩), if_neg (fun x => q ⟨x.1, x.2.1⟩)]
theorem muA_0 (h : ∀ i, p' i = true ↔ p i = true) : muA v K0 i0 p z = muA v K0 i0 p' z := by
  funext K' i' j'
  rw [muA_r, muA_r]
  simp only [h j']
theorem muF_n (h : ∀ i, ¬ p i = true) : muF v K0 j0 p z = v := by
  funext K' i' j'
  rw [muF_r, if_neg (fun x => h i' x.2.2)]
theorem muA_n (h : ∀ i, ¬ p i = true) : muA v K0 i0 p z = v := by
  funext K' i' j'
  rw [muA_r, if_neg (fun x => h j' x.2.2)]
end Mu
section Loc
variable {u v v' : V} {i j z : Int} {K K0 : Nat}
theorem up_o {K' : Nat} {i' j' : Int} (h : ¬ K' = K ∨ ¬ i' = i ∨ ¬ j' = j) : up v K i j z K' i' j' = v K' i' j' := by
  rw [up_r, if_neg (by rintro ⟨rfl, rfl, rfl⟩; simp at h)]
theorem nw_o {K' : Nat} {i' j' : Int} (h : ¬ K' = K ∨ ¬ i' = i) (h9 : ¬ K' = 99 ∨ ¬ i' = (K : Int) ∨ ¬ j' = i) : nw v K i K' i' j' = v K' i' j' := by
  rw [nw_r, if_neg (by rintro ⟨rfl, rfl⟩; simp at h), if_neg (by rintro ⟨rfl, rfl, rfl⟩; simp at h9)]
theorem IS_u (hK : K ≠ 7 ∧ K ≠ 98) (h : IS v) : IS (up v K i j z) := by
  unfold IS at *
  simp only [(fun i' j' => up_o (by omega) : ∀ i' j' : Int, up v K i j z 7 i' j' = v 7 i' j'), (fun i' j' => up_o (by omega) : ∀ i' j' : Int, up v K i j z 98 i' j' = v 98 i' j')]
  exact h
theorem IS_n (hK : K ≠ 7 ∧ K ≠ 98) (h : IS v) : IS (nw v K i) := by
  unfold IS at *
  simp only [(fun i' j' => nw_o (by omega) (by omega) : ∀ i' j' : Int, nw v K i 7 i' j' = v 7 i' j'), (fun i' j' => nw_o (by omega) (by omega) : ∀ i' j' : Int, nw v K i 98 i' j' = v 98 i' j')]
  exact h
theorem IS_o (o : Off v' v K0) (hK : K0 ≠ 7 ∧ K0 ≠ 98) (h : IS v) : IS v' := by
  unfold IS at *
  simp only [(fun i' j' => o 7 _ _ (by omega) : ∀ i' j' : Int, v' 7 i' j' = v 7 i' j'), (fun i' j' => o 98 _ _ (by omega) : ∀ i' j' : Int, v' 98 i' j' = v 98 i' j')]
  exact h
theorem IR_u (hK : K ≠ 14) (h : IR v) : IR (up v K i j z) := by
  unfold IR at *
  simp only [(fun i' j' => up_o (by omega) : ∀ i' j' : Int, up v K i j z 14 i' j' = v 14 i' j')]
  exact h
theorem IR_n (hK : K ≠ 14) (h : IR v) : IR (nw v K i) := by
  unfold IR at *
  simp only [(fun i' j' => nw_o (by omega) (by omega) : ∀ i' j' : Int, nw v K i 14 i' j' = v 14 i' j')]
  exact h
theorem IR_o (o : Off v' v K0) (hK : K0 ≠ 14) (h : IR v) : IR v' := by
  unfold IR at *
  simp only [(fun i' j' => o 14 _ _ (by omega) : ∀ i' j' : Int, v' 14 i' j' = v 14 i' j')]
  exact h
theorem IP_u (hK : K ≠ 10 ∧ K ≠ 3 ∧ (K ≠ 7 ∨ j ≠ 5)) (h : IP v) : IP (up v K i j z) := by
  unfold IP at *
  simp only [(fun i' j' => up_o (by omega) : ∀ i' j' : Int, up v K i j z 10 i' j' = v 10 i' j'), (fun i' j' => up_o (by omega) : ∀ i' j' : Int, up v K i j z 3 i' j' = v 3 i' j'), (fun i' => up_o (by omega) : ∀ i' : Int, up v K i j z 7 i' 5 = v 7 i' 5)]
  exact h
theorem IP_n (hK : K ≠ 3 ∧ K ≠ 7 ∧ K ≠ 10) (h : IP v) : IP (nw v K i) := by
  unfold IP at *
  simp only [(fun i' j' => nw_o (by omega) (by omega) : ∀ i' j' : Int, nw v K i 10 i' j' = v 10 i' j'), (fun i' j' => nw_o (by omega) (by omega) : ∀ i' j' : Int, nw v K i 3 i' j' = v 3 i' j'), (fun i' => nw_o (by omega) (by omega) : ∀ i' : Int, nw v K i 7 i' 5 = v 7 i' 5)]
  exact h
theorem IP_o (o : Off v' v K0) (hK : K0 ≠ 3 ∧ K0 ≠ 7 ∧ K0 ≠ 10) (h : IP v) : IP v' := by
  unfold IP at *
  simp only [(fun i' j' => o 10 _ _ (by omega) : ∀ i' j' : Int, v' 10 i' j' = v 10 i' j'), (fun i' j' => o 3 _ _ (by omega) : ∀ i' j' : Int, v' 3 i' j' = v 3 i' j'), (fun i' => o 7 _ _ (by omega) : ∀ i' : Int, v' 7 i' 5 = v 7 i' 5)]
  exact h
theorem IB_u (hK : (K ≠ 3 ∨ j ≠ 5) ∧ (K ≠ 6 ∨ j ≠ 1) ∧ (K ≠ 7 ∨ j ≠ 5) ∧ (K ≠ 7 ∨ j ≠ 6)) (h : IB v) : IB (up v K i j z) := by
  unfold IB at *
  simp only [(fun i' => up_o (by omega) : ∀ i' : Int, up v K i j z 3 i' 5 = v 3 i' 5), (fun i' => up_o (by omega) : ∀ i' : Int, up v K i j z 6 i' 1 = v 6 i' 1), (fun i' => up_o (by omega) : ∀ i' : Int, up v K i j z 7 i' 5 = v 7 i' 5), (fun i' => up_o (by omega) : ∀ i' : Int, up v K i j z 7 i' 6 = v 7 i' 6)]
  exact h
theorem IB_n (hK : K ≠ 3 ∧ K ≠ 6 ∧ K ≠ 7) (h : IB v) : IB (nw v K i) := by
  unfold IB at *
  simp only [(fun i' => nw_o (by omega) (by omega) : ∀ i' : Int, nw v K i 3 i' 5 = v 3 i' 5), (fun i' => nw_o (by omega) (by omega) : ∀ i' : Int, nw v K i 6 i' 1 = v 6 i' 1), (fun i' => nw_o (by omega) (by omega) : ∀ i' : Int, nw v K i 7 i' 5 = v 7 i' 5), (fun i' => nw_o (by omega) (by omega) : ∀ i' : Int, nw v K i 7 i' 6 = v 7 i' 6)]
  exact h
theorem IB_o (o : Off v' v K0) (hK : K0 ≠ 3 ∧ K0 ≠ 6 ∧ K0 ≠ 7) (h : IB v) : IB v' := by
  unfold IB at *
  simp only [(fun i' => o 3 _ _ (by omega) : ∀ i' : Int, v' 3 i' 5 = v 3 i' 5), (fun i' => o 6 _ _ (by omega) : ∀ i' : Int, v' 6 i' 1 = v 6 i' 1), (fun i' => o 7 _ _ (by omega) : ∀ i' : Int, v' 7 i' 5 = v 7 i' 5), (fun i' => o 7 _ _ (by omega) : ∀ i' : Int, v' 7 i' 6 = v 7 i' 6)]
  exact h
theorem IW_u (hK : K ≠ 11 ∧ K ≠ 6 ∧ (K ≠ 7 ∨ j ≠ 5) ∧ (K ≠ 7 ∨ j ≠ 6) ∧ (K ≠ 7 ∨ j ≠ 9)) (h : IW v) : IW (up v K i j z) := by
  unfold IW at *
  simp only [(fun i' j' => up_o (by omega) : ∀ i' j' : Int, up v K i j z 11 i' j' = v 11 i' j'), (fun i' j' => up_o (by omega) : ∀ i' j' : Int, up v K i j z 6 i' j' = v 6 i' j'), (fun i' => up_o (by omega) : ∀ i' : Int, up v K i j z 7 i' 5 = v 7 i' 5), (fun i' => up_o (by omega) : ∀ i' : Int, up v K i j z 7 i' 6 = v 7 i' 6), (fun i' => up_o (by omega) : ∀ i' : Int, up v K i j z 7 i' 9 = v 7 i' 9)]
  exact h
theorem IW_n (hK : K ≠ 6 ∧ K ≠ 7 ∧ K ≠ 11) (h : IW v) : IW (nw v K i) := by
  unfold IW at *
  simp only [(fun i' j' => nw_o (by omega) (by omega) : ∀ i' j' : Int, nw v K i 11 i' j' = v 11 i' j'), (fun i' j' => nw_o (by omega) (by omega) : ∀ i' j' : Int, nw v K i 6 i' j' = v 6 i' j'), (fun i' => nw_o (by omega) (by omega) : ∀ i' : Int, nw v K i 7 i' 5 = v 7 i' 5), (fun i' => nw_o (by omega) (by omega) : ∀ i' : Int, nw v K i 7 i' 6 = v 7 i' 6), (fun i' => nw_o (by omega) (by omega) : ∀ i' : Int, nw v K i 7 i' 9 = v 7 i' 9)]
  exact h
theorem IW_o (o : Off v' v K0) (hK : K0 ≠ 6 ∧ K0 ≠ 7 ∧ K0 ≠ 11) (h : IW v) : IW v' := by
  unfold IW at *
  simp only [(fun i' j' => o 11 _ _ (by omega) : ∀ i' j' : Int, v' 11 i' j' = v 11 i' j'), (fun i' j' => o 6 _ _ (by omega) : ∀ i' j' : Int, v' 6 i' j' = v 6 i' j'), (fun i' => o 7 _ _ (by omega) : ∀ i' : Int, v' 7 i' 5 = v 7 i' 5), (fun i' => o 7 _ _ (by omega) : ∀ i' : Int, v' 7 i' 6 = v 7 i' 6), (fun i' => o 7 _ _ (by omega) : ∀ i' : Int, v' 7 i' 9 = v 7 i' 9)]
  exact h
theorem ID_u (hK : K ≠ 15 ∧ K ≠ 5 ∧ (K ≠ 6 ∨ j ≠ 4) ∧ (K ≠ 7 ∨ j ≠ 5) ∧ (K ≠ 7 ∨ j ≠ 6)) (h : ID v) : ID (up v K i j z) := by
  unfold ID at *
  simp only [(fun i' j' => up_o (by omega) : ∀ i' j' : Int, up v K i j z 15 i' j' = v 15 i' j'), (fun i' j' => up_o (by omega) : ∀ i' j' : Int, up v K i j z 5 i' j' = v 5 i' j'), (fun i' => up_o (by omega) : ∀ i' : Int, up v K i j z 6 i' 4 = v 6 i' 4), (fun i' => up_o (by omega) : ∀ i' : Int, up v K i j z 7 i' 5 = v 7 i' 5), (fun i' => up_o (by omega) : ∀ i' : Int, up v K i j z 7 i' 6 = v 7 i' 6)]
  exact h
theorem ID_n (hK : K ≠ 5 ∧ K ≠ 6 ∧ K ≠ 7 ∧ K ≠ 15) (h : ID v) : ID (nw v K i) := by
  unfold ID at *
  simp only [(fun i' j' => nw_o (by omega) (by omega) : ∀ i' j' : Int, nw v K i 15 i' j' = v 15 i' j'), (fun i' j' => nw_o (by omega) (by omega) : ∀ i' j' : Int, nw v K i 5 i' j' = v 5 i' j'), (fun i' => nw_o (by omega) (by omega) : ∀ i' : Int, nw v K i 6 i' 4 = v 6 i' 4), (fun i' => nw_o (by omega) (by omega) : ∀ i' : Int, nw v K i 7 i' 5 = v 7 i' 5), (fun i' => nw_o (by omega) (by omega) : ∀ i' : Int, nw v K i 7 i' 6 = v 7 i' 6)]
  exact h
theorem ID_o (o : Off v' v K0) (hK : K0 ≠ 5 ∧ K0 ≠ 6 ∧ K0 ≠ 7 ∧ K0 ≠ 15) (h : ID v) : ID v' := by
  unfold ID at *
  simp only [(fun i' j' => o 15 _ _ (by omega) : ∀ i' j' : Int, v' 15 i' j' = v 15 i' j'), (fun i' j' => o 5 _ _ (by omega) : ∀ i' j' : Int, v' 5 i' j' = v 5 i' j'), (fun i' => o 6 _ _ (by omega) : ∀ i' : Int, v' 6 i' 4 = v 6 i' 4), (fun i' => o 7 _ _ (by omega) : ∀ i' : Int, v' 7 i' 5 = v 7 i' 5), (fun i' => o 7 _ _ (by omega) : ∀ i' : Int, v' 7 i' 6 = v 7 i' 6)]
  exact h
theorem IL_u (hK : K ≠ 12 ∧ K ≠ 2 ∧ K ≠ 0 ∧ K ≠ 4 ∧ (K ≠ 1 ∨ j ≠ 7) ∧ K ≠ 98 ∧ (K ≠ 7 ∨ j ≠ 5) ∧ (K ≠ 7 ∨ j ≠ 6) ∧ (K ≠ 7 ∨ j ≠ 7) ∧ (K ≠ 7 ∨ j ≠ 8) ∧ (K ≠ 7 ∨ j ≠ 9)) (h : IL v) : IL (up v K i j z) := by
  unfold IL ICo ISa at *
  simp only [(fun i' j' => up_o (by omega) : ∀ i' j' : Int, up v K i j z 12 i' j' = v 12 i' j'), (fun i' j' => up_o (by omega) : ∀ i' j' : Int, up v K i j z 2 i' j' = v 2 i' j'), (fun i' j' => up_o (by omega) : ∀ i' j' : Int, up v K i j z 0 i' j' = v 0 i' j'), (fun i' j' => up_o (by omega) : ∀ i' j' : Int, up v K i j z 4 i' j' = v 4 i' j'), (fun i' => up_o (by omega) : ∀ i' : Int, up v K i j z 1 i' 7 = v 1 i' 7), (fun i' j' => up_o (by omega) : ∀ i' j' : Int, up v K i j z 98 i' j' = v 98 i' j'), (fun i' => up_o (by omega) : ∀ i' : Int, up v K i j z 7 i' 5 = v 7 i' 5), (fun i' => up_o (by omega) : ∀ i' : Int, up v K i j z 7 i' 6 = v 7 i' 6), (fun i' => up_o (by omega) : ∀ i' : Int, up v K i j z 7 i' 7 = v 7 i' 7), (fun i' => up_o (by omega) : ∀ i' : Int, up v K i j z 7 i' 8 = v 7 i' 8), (fun i' => up_o (by omega) : ∀ i' : Int, up v K i j z 7 i' 9 = v 7 i' 9)]
  exact h
theorem IL_n (hK : K ≠ 0 ∧ K ≠ 1 ∧ K ≠ 2 ∧ K ≠ 4 ∧ K ≠ 7 ∧ K ≠ 12 ∧ K ≠ 98) (h : IL v) : IL (nw v K i) := by
  unfold IL ICo ISa at *
  simp only [(fun i' j' => nw_o (by omega) (by omega) : ∀ i' j' : Int, nw v K i 12 i' j' = v 12 i' j'), (fun i' j' => nw_o (by omega) (by omega) : ∀ i' j' : Int, nw v K i 2 i' j' = v 2 i' j'), (fun i' j' => nw_o (by omega) (by omega) : ∀ i' j' : Int, nw v K i 0 i' j' = v 0 i' j'), (fun i' j' => nw_o (by omega) (by omega) : ∀ i' j' : Int, nw v K i 4 i' j' = v 4 i' j'), (fun i' => nw_o (by omega) (by omega) : ∀ i' : Int, nw v K i 1 i' 7 = v 1 i' 7), (fun i' j' => nw_o (by omega) (by omega) : ∀ i' j' : Int, nw v K i 98 i' j' = v 98 i' j'), (fun i' => nw_o (by omega) (by omega) : ∀ i' : Int, nw v K i 7 i' 5 = v 7 i' 5), (fun i' => nw_o (by omega) (by omega) : ∀ i' : Int, nw v K i 7 i' 6 = v 7 i' 6), (fun i' => nw_o (by omega) (by omega) : ∀ i' : Int, nw v K i 7 i' 7 = v 7 i' 7), (fun i' => nw_o (by omega) (by omega) : ∀ i' : Int, nw v K i 7 i' 8 = v 7 i' 8), (fun i' => nw_o (by omega) (by omega) : ∀ i' : Int, nw v K i 7 i' 9 = v 7 i' 9)]
  exact h
theorem IL_o (o : Off v' v K0) (hK : K0 ≠ 0 ∧ K0 ≠ 1 ∧ K0 ≠ 2 ∧ K0 ≠ 4 ∧ K0 ≠ 7 ∧ K0 ≠ 12 ∧ K0 ≠ 98) (h : IL v) : IL v' := by
  unfold IL ICo ISa at *
  simp only [(fun i' j' => o 12 _ _ (by omega) : ∀ i' j' : Int, v' 12 i' j' = v 12 i' j'), (fun i' j' => o 2 _ _ (by omega) : ∀ i' j' : Int, v' 2 i' j' = v 2 i' j'), (fun i' j' => o 0 _ _ (by omega) : ∀ i' j' : Int, v' 0 i' j' = v 0 i' j'), (fun i' j' => o 4 _ _ (by omega) : ∀ i' j' : Int, v' 4 i' j' = v 4 i' j'), (fun i' => o 1 _ _ (by omega) : ∀ i' : Int, v' 1 i' 7 = v 1 i' 7), (fun i' j' => o 98 _ _ (by omega) : ∀ i' j' : Int, v' 98 i' j' = v 98 i' j'), (fun i' => o 7 _ _ (by omega) : ∀ i' : Int, v' 7 i' 5 = v 7 i' 5), (fun i' => o 7 _ _ (by omega) : ∀ i' : Int, v' 7 i' 6 = v 7 i' 6), (fun i' => o 7 _ _ (by omega) : ∀ i' : Int, v' 7 i' 7 = v 7 i' 7), (fun i' => o 7 _ _ (by omega) : ∀ i' : Int, v' 7 i' 8 = v 7 i' 8), (fun i' => o 7 _ _ (by omega) : ∀ i' : Int, v' 7 i' 9 = v 7 i' 9)]
  exact h
theorem IN_u (hK : K ≠ 13 ∧ K ≠ 1 ∧ (K ≠ 7 ∨ j ≠ 5) ∧ (K ≠ 7 ∨ j ≠ 8) ∧ (K ≠ 7 ∨ j ≠ 9)) (h : IN v) : IN (up v K i j z) := by
  unfold IN at *
  simp only [(fun i' j' => up_o (by omega) : ∀ i' j' : Int, up v K i j z 13 i' j' = v 13 i' j'), (fun i' j' => up_o (by omega) : ∀ i' j' : Int, up v K i j z 1 i' j' = v 1 i' j'), (fun i' => up_o (by omega) : ∀ i' : Int, up v K i j z 7 i' 5 = v 7 i' 5), (fun i' => up_o (by omega) : ∀ i' : Int, up v K i j z 7 i' 8 = v 7 i' 8), (fun i' => up_o (by omega) : ∀ i' : Int, up v K i j z 7 i' 9 = v 7 i' 9)]
  exact h
theorem IN_n (hK : K ≠ 1 ∧ K ≠ 7 ∧ K ≠ 13) (h : IN v) : IN (nw v K i) := by
  unfold IN at *
  simp only [(fun i' j' => nw_o (by omega) (by omega) : ∀ i' j' : Int, nw v K i 13 i' j' = v 13 i' j'), (fun i' j' => nw_o (by omega) (by omega) : ∀ i' j' : Int, nw v K i 1 i' j' = v 1 i' j'), (fun i' => nw_o (by omega) (by omega) : ∀ i' : Int, nw v K i 7 i' 5 = v 7 i' 5), (fun i' => nw_o (by omega) (by omega) : ∀ i' : Int, nw v K i 7 i' 8 = v 7 i' 8), (fun i' => nw_o (by omega) (by omega) : ∀ i' : Int, nw v K i 7 i' 9 = v 7 i' 9)]
  exact h
theorem IN_o (o : Off v' v K0) (hK : K0 ≠ 1 ∧ K0 ≠ 7 ∧ K0 ≠ 13) (h : IN v) : IN v' := by
  unfold IN at *
  simp only [(fun i' j' => o 13 _ _ (by omega) : ∀ i' j' : Int, v' 13 i' j' = v 13 i' j'), (fun i' j' => o 1 _ _ (by omega) : ∀ i' j' : Int, v' 1 i' j' = v 1 i' j'), (fun i' => o 7 _ _ (by omega) : ∀ i' : Int, v' 7 i' 5 = v 7 i' 5), (fun i' => o 7 _ _ (by omega) : ∀ i' : Int, v' 7 i' 8 = v 7 i' 8), (fun i' => o 7 _ _ (by omega) : ∀ i' : Int, v' 7 i' 9 = v 7 i' 9)]
  exact h
theorem IA_u (hK : K ≠ 99 ∧ K ≠ 98 ∧ (K ≠ 6 ∨ j ≠ 4) ∧ (K ≠ 7 ∨ j ≠ 5) ∧ (K ≠ 7 ∨ j ≠ 6) ∧ (K ≠ 7 ∨ j ≠ 7) ∧ (K ≠ 7 ∨ j ≠ 8)) (h : IA v) : IA (up v K i j z) := by
  unfold IA at *
  simp only [(fun i' j' => up_o (by omega) : ∀ i' j' : Int, up v K i j z 99 i' j' = v 99 i' j'), (fun i' j' => up_o (by omega) : ∀ i' j' : Int, up v K i j z 98 i' j' = v 98 i' j'), (fun i' => up_o (by omega) : ∀ i' : Int, up v K i j z 6 i' 4 = v 6 i' 4), (fun i' => up_o (by omega) : ∀ i' : Int, up v K i j z 7 i' 5 = v 7 i' 5), (fun i' => up_o (by omega) : ∀ i' : Int, up v K i j z 7 i' 6 = v 7 i' 6), (fun i' => up_o (by omega) : ∀ i' : Int, up v K i j z 7 i' 7 = v 7 i' 7), (fun i' => up_o (by omega) : ∀ i' : Int, up v K i j z 7 i' 8 = v 7 i' 8)]
  exact h
theorem IA_n (hK : K ≠ 99 ∧ K ≠ 98 ∧ K ≠ 7 ∧ K ≠ 3 ∧ K ≠ 6 ∧ K ≠ 15 ∧ K ≠ 16 ∧ K ≠ 2 ∧ K ≠ 4 ∧ K ≠ 1 ∧ K ≠ 0 ∧ K ≠ 5) (h : IA v) : IA (nw v K i) := by
  unfold IA at *
  simp only [(fun i' j' => nw_o (by omega) (by omega) : ∀ i' j' : Int, nw v K i 98 i' j' = v 98 i' j'), (fun i' j' => nw_o (by omega) (by omega) : ∀ i' j' : Int, nw v K i 6 i' j' = v 6 i' j'), (fun i' j' => nw_o (by omega) (by omega) : ∀ i' j' : Int, nw v K i 7 i' j' = v 7 i' j'), (fun j' => nw_o (by omega) (by omega) : ∀ j' : Int, nw v K i 99 3 j' = v 99 3 j'), (fun j' => nw_o (by omega) (by omega) : ∀ j' : Int, nw v K i 99 6 j' = v 99 6 j'), (fun j' => nw_o (by omega) (by omega) : ∀ j' : Int, nw v K i 99 15 j' = v 99 15 j'), (fun j' => nw_o (by omega) (by omega) : ∀ j' : Int, nw v K i 99 16 j' = v 99 16 j'), (fun j' => nw_o (by omega) (by omega) : ∀ j' : Int, nw v K i 99 2 j' = v 99 2 j'), (fun j' => nw_o (by omega) (by omega) : ∀ j' : Int, nw v K i 99 4 j' = v 99 4 j'), (fun j' => nw_o (by omega) (by omega) : ∀ j' : Int, nw v K i 99 1 j' = v 99 1 j'), (fun j' => nw_o (by omega) (by omega) : ∀ j' : Int, nw v K i 99 0 j' = v 99 0 j'), (fun j' => nw_o (by omega) (by omega) : ∀ j' : Int, nw v K i 99 5 j' = v 99 5 j')]
  exact h
theorem IA_o (o : Off v' v K0) (hK : K0 ≠ 6 ∧ K0 ≠ 7 ∧ K0 ≠ 98 ∧ K0 ≠ 99) (h : IA v) : IA v' := by
  unfold IA at *
  simp only [(fun i' j' => o 99 _ _ (by omega) : ∀ i' j' : Int, v' 99 i' j' = v 99 i' j'), (fun i' j' => o 98 _ _ (by omega) : ∀ i' j' : Int, v' 98 i' j' = v 98 i' j'), (fun i' => o 6 _ _ (by omega) : ∀ i' : Int, v' 6 i' 4 = v 6 i' 4), (fun i' => o 7 _ _ (by omega) : ∀ i' : Int, v' 7 i' 5 = v 7 i' 5), (fun i' => o 7 _ _ (by omega) : ∀ i' : Int, v' 7 i' 6 = v 7 i' 6), (fun i' => o 7 _ _ (by omega) : ∀ i' : Int, v' 7 i' 7 = v 7 i' 7), (fun i' => o 7 _ _ (by omega) : ∀ i' : Int, v' 7 i' 8 = v 7 i' 8)]
  exact h
theorem IM_u (hK : (K ≠ 3 ∨ j ≠ 2) ∧ (K ≠ 7 ∨ j ≠ 5)) (h : IM v) : IM (up v K i j z) := by
  unfold IM mon monF at *
  simp only [(fun i' => up_o (by omega) : ∀ i' : Int, up v K i j z 3 i' 2 = v 3 i' 2), (fun i' => up_o (by omega) : ∀ i' : Int, up v K i j z 7 i' 5 = v 7 i' 5)]
  exact h
theorem IM_n (hK : K ≠ 3 ∧ K ≠ 7) (h : IM v) : IM (nw v K i) := by
  unfold IM mon monF at *
  simp only [(fun i' => nw_o (by omega) (by omega) : ∀ i' : Int, nw v K i 3 i' 2 = v 3 i' 2), (fun i' => nw_o (by omega) (by omega) : ∀ i' : Int, nw v K i 7 i' 5 = v 7 i' 5)]
  exact h
theorem IM_o (o : Off v' v K0) (hK : K0 ≠ 3 ∧ K0 ≠ 7) (h : IM v) : IM v' := by
  unfold IM mon monF at *
  simp only [(fun i' => o 3 _ _ (by omega) : ∀ i' : Int, v' 3 i' 2 = v 3 i' 2), (fun i' => o 7 _ _ (by omega) : ∀ i' : Int, v' 7 i' 5 = v 7 i' 5)]
  exact h
theorem IT_u (hK : (K ≠ 2 ∨ j ≠ 1) ∧ (K ≠ 2 ∨ j ≠ 4) ∧ (K ≠ 7 ∨ j ≠ 6) ∧ (K ≠ 7 ∨ j ≠ 7)) (h : IT v) : IT (up v K i j z) := by
  unfold IT ptF at *
  simp only [(fun i' => up_o (by omega) : ∀ i' : Int, up v K i j z 2 i' 1 = v 2 i' 1), (fun i' => up_o (by omega) : ∀ i' : Int, up v K i j z 2 i' 4 = v 2 i' 4), (fun i' => up_o (by omega) : ∀ i' : Int, up v K i j z 7 i' 6 = v 7 i' 6), (fun i' => up_o (by omega) : ∀ i' : Int, up v K i j z 7 i' 7 = v 7 i' 7)]
  exact h
theorem IT_n (hK : K ≠ 2 ∧ K ≠ 7) (h : IT v) : IT (nw v K i) := by
  unfold IT ptF at *
  simp only [(fun i' => nw_o (by omega) (by omega) : ∀ i' : Int, nw v K i 2 i' 1 = v 2 i' 1), (fun i' => nw_o (by omega) (by omega) : ∀ i' : Int, nw v K i 2 i' 4 = v 2 i' 4), (fun i' => nw_o (by omega) (by omega) : ∀ i' : Int, nw v K i 7 i' 6 = v 7 i' 6), (fun i' => nw_o (by omega) (by omega) : ∀ i' : Int, nw v K i 7 i' 7 = v 7 i' 7)]
  exact h
theorem IT_o (o : Off v' v K0) (hK : K0 ≠ 2 ∧ K0 ≠ 7) (h : IT v) : IT v' := by
  unfold IT ptF at *
  simp only [(fun i' => o 2 _ _ (by omega) : ∀ i' : Int, v' 2 i' 1 = v 2 i' 1), (fun i' => o 2 _ _ (by omega) : ∀ i' : Int, v' 2 i' 4 = v 2 i' 4), (fun i' => o 7 _ _ (by omega) : ∀ i' : Int, v' 7 i' 6 = v 7 i' 6), (fun i' => o 7 _ _ (by omega) : ∀ i' : Int, v' 7 i' 7 = v 7 i' 7)]
  exact h
theorem Kp_u (hK : (K ≠ 7 ∨ (j ≠ 5 ∧ j ≠ 6)) ∧ (K ≠ 3 ∨ j ≠ 2) ∧ K ≠ 99) (h : Kp u v) : Kp u (up v K i j z) := by
  unfold Kp mon monF at *
  simp only [(fun i' => up_o (by omega) : ∀ i' : Int, up v K i j z 7 i' 5 = v 7 i' 5), (fun i' => up_o (by omega) : ∀ i' : Int, up v K i j z 7 i' 6 = v 7 i' 6), (fun i' => up_o (by omega) : ∀ i' : Int, up v K i j z 3 i' 2 = v 3 i' 2), (fun i' j' => up_o (by omega) : ∀ i' j' : Int, up v K i j z 99 i' j' = v 99 i' j')]
  exact h
theorem Kp_n (hK : K ≠ 7 ∧ K ≠ 3 ∧ K ≠ 99 ∧ K ≠ 17 ∧ K ≠ 18) (h : Kp u v) : Kp u (nw v K i) := by
  unfold Kp mon monF at *
  simp only [(fun i' j' => nw_o (by omega) (by omega) : ∀ i' j' : Int, nw v K i 7 i' j' = v 7 i' j'), (fun i' j' => nw_o (by omega) (by omega) : ∀ i' j' : Int, nw v K i 3 i' j' = v 3 i' j'), (fun j' => nw_o (by omega) (by omega) : ∀ j' : Int, nw v K i 99 17 j' = v 99 17 j'), (fun j' => nw_o (by omega) (by omega) : ∀ j' : Int, nw v K i 99 18 j' = v 99 18 j')]
  exact h
theorem Kp_o (o : Off v' v K0) (hK : K0 ≠ 7 ∧ K0 ≠ 3 ∧ K0 ≠ 99) (h : Kp u v) : Kp u v' := by
  unfold Kp mon monF at *
  simp only [(fun i' j' => o 7 i' j' (by omega) : ∀ i' j' : Int, v' 7 i' j' = v 7 i' j'), (fun i' j' => o 3 i' j' (by omega) : ∀ i' j' : Int, v' 3 i' j' = v 3 i' j'), (fun i' j' => o 99 i' j' (by omega) : ∀ i' j' : Int, v' 99 i' j' = v 99 i' j')]
  exact h
end Loc

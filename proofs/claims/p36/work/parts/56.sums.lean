/-! PURE 22: sums of sums -/
section Su
variable {f g : Int → Int} {N M t c x : Int}
theorem sumR_add (n : Nat) : ∀ t : Int, sumR (fun s => f s + g s) n t = sumR f n t + sumR g n t := by
  induction n with
  | zero => intro t; rfl
  | succ n ih =>
    intro t
    simp only [sumR]
    rw [ih]
    omega
theorem sumD_add : sumD (fun s => f s + g s) N t = sumD f N t + sumD g N t := sumR_add _ t
theorem sumR_mono (n : Nat) : ∀ t : Int, (∀ s, t ≤ s → s < t + n → f s ≤ g s) → sumR f n t ≤ sumR g n t := by
  induction n with
  | zero => intro t h; exact Int.le_refl _
  | succ n ih =>
    intro t h
    have h1 := ih (t + 1) (fun s a b => h s (by omega) (by omega))
    have h2 := h t (by omega) (by omega)
    simp only [sumR]
    omega
theorem sumD_mono (h : ∀ s, t ≤ s → s < N → f s ≤ g s) : sumD f N t ≤ sumD g N t := sumR_mono _ t (fun s a b => h s a (by omega))
theorem sumD_ind (h0 : 0 ≤ x) (h1 : x < N) : sumD (fun s => if x = s then c else 0) N 0 = c := by
  rw [sumD_1 (f := fun _ => 0) (g := fun s => if x = s then c else 0) (e := x) (d := c) h0 h1 (fun s _ _ hne => if_neg (fun q => hne q.symm)) (by rw [if_pos rfl]; omega), sumD_z (by omega) (fun _ _ _ => rfl)]
  omega
theorem sumD_swap {F : Int → Int → Int} (n : Nat) : ∀ t : Int, sumR (fun k => sumD (fun i => F k i) M 0) n t = sumD (fun i => sumR (fun k => F k i) n t) M 0 := by
  induction n with
  | zero =>
    intro t
    show 0 = _
    by_cases q : 0 ≤ M
    · exact (sumD_z q (fun _ _ _ => rfl)).symm
    · rw [sumD_e (by omega)]
  | succ n ih =>
    intro t
    simp only [sumR]
    rw [ih (t + 1), ← sumD_add]
/-- each thing counts with its one holder -/
theorem sumD_hold {h p : Int → Int} (hh : ∀ i, 0 ≤ i → i < M → 0 ≤ h i ∧ h i < N) : sumD (fun k => sumD (fun i => if h i = k then p i else 0) M 0) N 0 = sumD p M 0 := by
  unfold sumD
  rw [show sumR (fun k => sumR (fun i => if h i = k then p i else 0) (M - 0).toNat 0) (N - 0).toNat 0 = sumR (fun k => sumD (fun i => if h i = k then p i else 0) M 0) (N - 0).toNat 0 from rfl, sumD_swap]
  refine sumD_c (fun i g0 g1 => ?_)
  have h1 := sumD_ind (N := N) (c := p i) (hh i g0 g1).1 (hh i g0 g1).2
  exact h1
end Su
section Sk
variable {v : V} {a : Int}
/-- the parts of all -/
def prtF (v : V) (i : Int) : Int := v 2 i 4
theorem held_all (h : Inv v) : sumD (fun k => sumD (fPH v k) (v 7 0 7) 0) (v 7 0 5) 0 = sumD (prtF v) (v 7 0 7) 0 := by
  refine (sumD_hold (h := fun i => v 2 i 3) (p := prtF v) (fun i g0 g1 => ?_))
  have hi := (h.l i g0 g1).1
  omega
theorem owed_all (h : Inv v) : sumD (fun k => sumD (fOB v k) (v 7 0 8) 0) (v 7 0 5) 0 = sumD (oweF v) (v 7 0 8) 0 := by
  refine (sumD_hold (h := fun i => v 1 i 1) (p := oweF v) (fun i g0 g1 => ?_))
  have hi := h.n i g0 g1
  omega
theorem gets_all (h : Inv v) : sumD (fun k => sumD (fOT v k) (v 7 0 8) 0) (v 7 0 5) 0 = sumD (oweF v) (v 7 0 8) 0 := by
  refine (sumD_hold (h := fun i => v 1 i 6) (p := oweF v) (fun i g0 g1 => ?_))
  have hi := h.n i g0 g1
  omega
theorem parts_all (h : Inv v) : sumD (prtF v) (v 7 0 7) 0 = 60 * v 7 0 6 := by
  have hs := h.s
  unfold IS at hs
  have h1 := sumD_hold (N := v 7 0 6) (M := v 7 0 7) (h := fun i => v 2 i 1) (p := prtF v) (fun i g0 g1 => by
    have hi := (h.l i g0 g1).1
    omega)
  rw [← h1]
  have h2 : sumD (fun k => sumD (ptF v k) (v 7 0 7) 0) (v 7 0 6) 0 = sumD (fun _ => 60) (v 7 0 6) 0 := sumD_c (fun k g0 g1 => h.t k g0 g1)
  have h3 := sumD_b (f := fun _ => 60) (B := 60) (N := v 7 0 6) (t := 0) (by omega) (fun _ _ _ => by omega)
  have h4 : ∀ n : Nat, sumR (fun _ => 60) n 0 = 60 * n := fun n => by
    have : ∀ (n : Nat) (t : Int), sumR (fun _ => 60) n t = 60 * n := by
      intro n
      induction n with
      | zero => intro t; rfl
      | succ n ih =>
        intro t
        simp only [sumR]
        rw [ih]
        omega
    exact this n 0
  refine h2.trans ?_
  unfold sumD
  rw [h4]
  omega
/-- at most as many punish as there are works -/
theorem pun_b (h : Inv v) (ca : 0 ≤ a ∧ a < v 7 0 5) (h6 : v 7 0 6 = 4) : bcF (v 3 a 5) ≤ 4 := by
  have hs := h.s
  unfold IS at hs
  have w0 := h.w 0 (by omega) (by omega)
  have w1 := h.w 1 (by omega) (by omega)
  have w2 := h.w 2 (by omega) (by omega)
  have w3 := h.w 3 (by omega) (by omega)
  have e0 := sumD_ind (N := 10) (c := 1) (x := v 6 0 1) (by omega) (by omega)
  have e1 := sumD_ind (N := 10) (c := 1) (x := v 6 1 1) (by omega) (by omega)
  have e2 := sumD_ind (N := 10) (c := 1) (x := v 6 2 1) (by omega) (by omega)
  have e3 := sumD_ind (N := 10) (c := 1) (x := v 6 3 1) (by omega) (by omega)
  have hm : bcF (v 3 a 5) ≤ sumD (fun s => ((if v 6 0 1 = s then 1 else 0) + (if v 6 1 1 = s then 1 else 0)) + ((if v 6 2 1 = s then 1 else 0) + (if v 6 3 1 = s then 1 else 0))) 10 0 := by
    unfold bcF
    refine sumD_mono (fun s g0 g1 => ?_)
    by_cases q : and32 (v 3 a 5) (shl32 1 s) = 0
    · rw [if_pos q]
      split <;> split <;> split <;> split <;> omega
    · rw [if_neg q]
      obtain ⟨w, y0, y1, y2⟩ := h.b a s ca.1 ca.2 g0 g1 q
      have y3 : w = 0 ∨ w = 1 ∨ w = 2 ∨ w = 3 := by omega
      rcases y3 with rfl | rfl | rfl | rfl
      · rw [if_pos y2]
        split <;> split <;> split <;> omega
      · rw [if_pos (show v 6 1 1 = s from y2)]
        split <;> split <;> split <;> omega
      · rw [if_pos (show v 6 2 1 = s from y2)]
        split <;> split <;> split <;> omega
      · rw [if_pos (show v 6 3 1 = s from y2)]
        split <;> split <;> split <;> omega
  rw [sumD_add, sumD_add, sumD_add, e0, e1, e2, e3] at hm
  omega
end Sk

/-! PURE 3: what a result must meet; the bodies of the law's cases; where each component of the invariant looks -/
def Wp (r : Res) (Q : Int → V → Prop) (E : Nat → V → Prop) : Prop := match r with
  | some (0, z, v) => Q z v
  | some (e + 1, _, v) => E e v
  | none => False
def NoE : Nat → V → Prop := fun _ _ => False
section WpR
variable {r a b : Res} {Q : Int → V → Prop} {E : Nat → V → Prop} {k : Int → V → Res} {kl : V → Res} {z : Int} {v : V} {e : Nat}
theorem wp_B (h : Wp r (fun z v => Wp (k z v) Q E) E) : Wp (rB r k) Q E := by
  match r, h with
  | some (0, z, v), h => exact h
  | some (e + 1, _, v), h => exact h
  | none, h => exact h.elim
theorem wp_ok (h : Q z v) : Wp (rOk z v) Q E := h
theorem wp_ex (h : E e v) : Wp (rEx e v) Q E := h
theorem wp_chk {q : Prop} [Decidable q] (hq : q) (h : Wp r Q E) : Wp (chk q r) Q E := by rw [chk_t hq]; exact h
theorem wp_let (h : Wp (kl v) Q E) : Wp (rLet v kl) Q E := h
theorem wp_up {K : Nat} {i j y i' j' z' : Int} (hi : i = i') (hj : j = j') (hz : y = z') (h : Wp (kl (up v K i' j' z')) Q E) : Wp (rLet (up v K i j y) kl) Q E := by subst hi hj hz; exact h
theorem wp_nw {K : Nat} {i i' : Int} (hi : i = i') (h : Wp (kl (nw v K i')) Q E) : Wp (rLet (nw v K i) kl) Q E := by subst hi; exact h
theorem wp_t {q : Prop} [Decidable q] (hc : q) (h : Wp a Q E) : Wp (if q then a else b) Q E := by rw [if_pos hc]; exact h
theorem wp_f {q : Prop} [Decidable q] (hc : ¬ q) (h : Wp b Q E) : Wp (if q then a else b) Q E := by rw [if_neg hc]; exact h
theorem wp_i {q : Prop} [Decidable q] (ha : q → Wp a Q E) (hb : ¬ q → Wp b Q E) : Wp (if q then a else b) Q E := by
  by_cases hc : q
  · rw [if_pos hc]; exact ha hc
  · rw [if_neg hc]; exact hb hc
theorem wp_eq {r' : Res} (he : r = r') (h : Wp r' Q E) : Wp r Q E := he ▸ h
theorem wp_get (h : Wp r Q NoE) : ∃ z v, r = rOk z v ∧ Q z v := by
  match r, h with
  | some (0, z, v), h => exact ⟨z, v, rfl, h⟩
  | some (e + 1, _, v), h => exact h.elim
  | none, h => exact h.elim
theorem wp_two (h : Wp r Q E) : (∃ z v, r = rOk z v ∧ Q z v) ∨ ∃ e y v, r = some (e + 1, y, v) ∧ E e v := by
  match r, h with
  | some (0, z, v), h => exact Or.inl ⟨z, v, rfl, h⟩
  | some (e + 1, y, v), h => exact Or.inr ⟨e, y, v, rfl, h⟩
  | none, h => exact h.elim
end WpR
def bI (r7 : Res) (xs : List Nat) (f8 : V → Res) (k : V → Res) : Res := rB (rBx r7 (fun z1 v1 => (chk ((0 : Int) ≤ 0) (rLet (up v1 9 0 0 z1) (fun v4 => (rOk 0 v4))))) (kxAt 1 xs)) (fun z3 v3 => (rB (f8 v3) (fun z4 v4 => (rB (sp_X8_thrown 0 v4) (fun z5 v5 => (if z5 = z3 then (if ¬ z3 = 0 then (k v5) else (if (lcmp (v5 9 0 0) z4) = 0 then (k v5) else (rOk 0 v5))) else (rOk 0 v5)))))))
def bV (r7 : Res) (xs : List Nat) (f8 : V → Res) (k : V → Res) : Res := rB (rBx r7 (fun z1 v1 => (rOk 0 v1)) (kxAt 1 xs)) (fun z3 v3 => (rB (f8 v3) (fun z4 v4 => (rB (sp_X8_thrown 0 v4) (fun z5 v5 => (if z5 = z3 then (k v5) else (rOk 0 v5)))))))
def bB (r7 : Res) (xs : List Nat) (f8 : V → Res) (k : V → Res) : Res := rB (rBx r7 (fun z1 v1 => (if z1 = 0 then (chk ((0 : Int) ≤ 0) (rLet (up v1 9 0 0 0) (fun v5 => (rOk 0 v5)))) else (chk ((0 : Int) ≤ 0) (rLet (up v1 9 0 0 1) (fun v7 => (rOk 0 v7)))))) (kxAt 1 xs)) (fun z3 v3 => (rB (f8 v3) (fun z4 v4 => (rB (sp_X8_thrown 0 v4) (fun z5 v5 => (if z5 = z3 then (if ¬ z3 = 0 then (k v5) else (if z4 = 0 then (if (lcmp (v5 9 0 0) 0) = 0 then (k v5) else (rOk 0 v5)) else (if (lcmp (v5 9 0 0) 1) = 0 then (k v5) else (rOk 0 v5)))) else (rOk 0 v5)))))))
/-- class and model threw alike -/
def AgE (xs : List Nat) (f8 : V → Res) (P : V → Prop) : Nat → V → Prop := fun e v1 => ∃ i, kxAt 1 xs e v1 = rOk i v1 ∧ ¬ i = 0 ∧ Wp (f8 v1) (fun _ w => w 8 0 0 = i ∧ P w) NoE
def AgI (r7 : Res) (xs : List Nat) (f8 : V → Res) (P : V → Prop) : Prop := Wp r7 (fun z v1 => Wp (f8 (up v1 9 0 0 z)) (fun z' w => z' = z ∧ w 8 0 0 = 0 ∧ w 9 0 0 = z ∧ P w) NoE) (AgE xs f8 P)
def AgV (r7 : Res) (xs : List Nat) (f8 : V → Res) (P : V → Prop) : Prop := Wp r7 (fun _ v1 => Wp (f8 v1) (fun _ w => w 8 0 0 = 0 ∧ P w) NoE) (AgE xs f8 P)
def AgB (r7 : Res) (xs : List Nat) (f8 : V → Res) (P : V → Prop) : Prop := Wp r7 (fun z v1 => (z = 0 ∨ z = 1) ∧ Wp (f8 (up v1 9 0 0 z)) (fun z' w => z' = z ∧ w 8 0 0 = 0 ∧ w 9 0 0 = z ∧ P w) NoE) (AgE xs f8 P)
section Body
variable {v : V} {a b i j z : Int} {K : Nat} {r7 : Res} {xs : List Nat} {f8 k : V → Res} {P : V → Prop}
theorem stI (h : AgI r7 xs f8 P) : ∃ v', P v' ∧ bI r7 xs f8 k = k v' := by
  rcases wp_two h with ⟨z, v1, rfl, h3⟩ | ⟨e, y, v1, rfl, i, h2, h5, h3⟩
  · obtain ⟨z', v', h3, h6, h4, h5, h7⟩ := wp_get h3
    refine ⟨v', h7, ?_⟩
    unfold bI
    rw [rBx_ok, chk_t (by decide), rLet_r, rB_ok, h3, rB_ok]
    unfold sp_X8_thrown
    rw [rB_ok, if_pos h4, if_neg (by decide), if_pos ((lcmp_0 _ _).mpr (h5.trans h6.symm))]
  · obtain ⟨z', v', h3, h4, h7⟩ := wp_get h3
    refine ⟨v', h7, ?_⟩
    unfold bI
    rw [show ∀ k kx, rBx (some (e + 1, y, v1)) k kx = kx e v1 from fun _ _ => rfl, h2, rB_ok, h3, rB_ok]
    unfold sp_X8_thrown
    rw [rB_ok, if_pos h4, if_pos h5]
theorem stV (h : AgV r7 xs f8 P) : ∃ v', P v' ∧ bV r7 xs f8 k = k v' := by
  rcases wp_two h with ⟨z, v1, rfl, h3⟩ | ⟨e, y, v1, rfl, i, h2, h5, h3⟩
  · obtain ⟨z', v', h3, h4, h7⟩ := wp_get h3
    refine ⟨v', h7, ?_⟩
    unfold bV
    rw [rBx_ok, rB_ok, h3, rB_ok]
    unfold sp_X8_thrown
    rw [rB_ok, if_pos h4]
  · obtain ⟨z', v', h3, h4, h7⟩ := wp_get h3
    refine ⟨v', h7, ?_⟩
    unfold bV
    rw [show ∀ k kx, rBx (some (e + 1, y, v1)) k kx = kx e v1 from fun _ _ => rfl, h2, rB_ok, h3, rB_ok]
    unfold sp_X8_thrown
    rw [rB_ok, if_pos h4]
theorem stB (h : AgB r7 xs f8 P) : ∃ v', P v' ∧ bB r7 xs f8 k = k v' := by
  rcases wp_two h with ⟨z, v1, rfl, hz, h3⟩ | ⟨e, y, v1, rfl, i, h2, h5, h3⟩
  · obtain ⟨z', v', h3, h6, h4, h5, h7⟩ := wp_get h3
    subst h6
    refine ⟨v', h7, ?_⟩
    unfold bB
    rcases hz with rfl | rfl
    · rw [rBx_ok, if_pos rfl, chk_t (by decide), rLet_r, rB_ok, h3, rB_ok]
      unfold sp_X8_thrown
      rw [rB_ok, if_pos h4, if_neg (by decide), if_pos rfl, if_pos ((lcmp_0 _ _).mpr h5)]
    · rw [rBx_ok, if_neg (by decide), chk_t (by decide), rLet_r, rB_ok, h3, rB_ok]
      unfold sp_X8_thrown
      rw [rB_ok, if_pos h4, if_neg (by decide), if_neg (by decide), if_pos ((lcmp_0 _ _).mpr h5)]
  · obtain ⟨z', v', h3, h4, h7⟩ := wp_get h3
    refine ⟨v', h7, ?_⟩
    unfold bB
    rw [show ∀ k kx, rBx (some (e + 1, y, v1)) k kx = kx e v1 from fun _ _ => rfl, h2, rB_ok, h3, rB_ok]
    unfold sp_X8_thrown
    rw [rB_ok, if_pos h4, if_pos h5]
end Body
section Loc
variable {v : V} {i j z : Int} {K : Nat}
theorem up_o {K' : Nat} {i' j' : Int} (h : ¬ K' = K ∨ ¬ i' = i ∨ ¬ j' = j) : up v K i j z K' i' j' = v K' i' j' := by
  rw [up_r, if_neg (by rintro ⟨rfl, rfl, rfl⟩; simp at h)]
theorem nw_o {K' : Nat} {i' j' : Int} (h : ¬ K' = K ∨ ¬ i' = i) (h9 : ¬ K' = 99 ∨ ¬ i' = (K : Int) ∨ ¬ j' = i) : nw v K i K' i' j' = v K' i' j' := by
  rw [nw_r, if_neg (by rintro ⟨rfl, rfl⟩; simp at h), if_neg (by rintro ⟨rfl, rfl, rfl⟩; simp at h9)]
theorem F8_u (hK : K ≠ 8 ∨ j = 0 ∨ j = 1 ∨ j = 2 ∨ j = 9 ∨ j = 21 ∨ j = 36 ∨ j = 44 ∨ j = 45) (h : F8 v) : F8 (up v K i j z) := fun j' hj' => by
  rw [up_o (by omega)]
  exact h j' hj'
theorem F8_n (hK : K ≠ 8) (h : F8 v) : F8 (nw v K i) := fun j' hj' => by
  rw [nw_o (by omega) (by omega)]
  exact h j' hj'
theorem F8.c (h : F8 v) {j : Int} (hj : (3 ≤ j ∧ j ≤ 8) ∨ (10 ≤ j ∧ j ≤ 20) ∨ (22 ≤ j ∧ j ≤ 35) ∨ (37 ≤ j ∧ j ≤ 43)) : v 8 0 j = 0 := h j hj
theorem IS_u (hK : K ≠ 7 ∧ (K ≠ 8 ∨ j ≠ 1) ∧ (K ≠ 8 ∨ j ≠ 2) ∧ (K ≠ 8 ∨ j ≠ 9) ∧ (K ≠ 8 ∨ j ≠ 21) ∧ (K ≠ 8 ∨ j ≠ 36) ∧ K ≠ 98) (h : IS v) : IS (up v K i j z) := by
  unfold IS at *
  simp only [(fun i' j' => up_o (by omega) : ∀ i' j' : Int, up v K i j z 7 i' j' = v 7 i' j'), (fun i' => up_o (by omega) : ∀ i' : Int, up v K i j z 8 i' 1 = v 8 i' 1), (fun i' => up_o (by omega) : ∀ i' : Int, up v K i j z 8 i' 2 = v 8 i' 2), (fun i' => up_o (by omega) : ∀ i' : Int, up v K i j z 8 i' 9 = v 8 i' 9), (fun i' => up_o (by omega) : ∀ i' : Int, up v K i j z 8 i' 21 = v 8 i' 21), (fun i' => up_o (by omega) : ∀ i' : Int, up v K i j z 8 i' 36 = v 8 i' 36), (fun i' j' => up_o (by omega) : ∀ i' j' : Int, up v K i j z 98 i' j' = v 98 i' j')]
  exact h
theorem IS_n (hK : K ≠ 7 ∧ K ≠ 8 ∧ K ≠ 98) (h : IS v) : IS (nw v K i) := by
  unfold IS at *
  simp only [(fun i' j' => nw_o (by omega) (by omega) : ∀ i' j' : Int, nw v K i 7 i' j' = v 7 i' j'), (fun i' j' => nw_o (by omega) (by omega) : ∀ i' j' : Int, nw v K i 8 i' j' = v 8 i' j'), (fun i' j' => nw_o (by omega) (by omega) : ∀ i' j' : Int, nw v K i 98 i' j' = v 98 i' j')]
  exact h
theorem IR_u (hK : K ≠ 14 ∧ K ≠ 48) (h : IR v) : IR (up v K i j z) := by
  unfold IR at *
  simp only [(fun i' j' => up_o (by omega) : ∀ i' j' : Int, up v K i j z 14 i' j' = v 14 i' j'), (fun i' j' => up_o (by omega) : ∀ i' j' : Int, up v K i j z 48 i' j' = v 48 i' j')]
  exact h
theorem IR_n (hK : K ≠ 14 ∧ K ≠ 48) (h : IR v) : IR (nw v K i) := by
  unfold IR at *
  simp only [(fun i' j' => nw_o (by omega) (by omega) : ∀ i' j' : Int, nw v K i 14 i' j' = v 14 i' j'), (fun i' j' => nw_o (by omega) (by omega) : ∀ i' j' : Int, nw v K i 48 i' j' = v 48 i' j')]
  exact h
theorem IP_u (hK : K ≠ 10 ∧ K ≠ 44 ∧ K ≠ 43 ∧ K ≠ 46 ∧ K ≠ 45 ∧ (K ≠ 3 ∨ j ≠ 0) ∧ (K ≠ 3 ∨ j ≠ 1) ∧ (K ≠ 3 ∨ j ≠ 2) ∧ (K ≠ 3 ∨ j ≠ 3) ∧ (K ≠ 3 ∨ j ≠ 4) ∧ (K ≠ 8 ∨ j ≠ 2)) (h : IP v) : IP (up v K i j z) := by
  unfold IP at *
  simp only [(fun i' j' => up_o (by omega) : ∀ i' j' : Int, up v K i j z 10 i' j' = v 10 i' j'), (fun i' j' => up_o (by omega) : ∀ i' j' : Int, up v K i j z 44 i' j' = v 44 i' j'), (fun i' j' => up_o (by omega) : ∀ i' j' : Int, up v K i j z 43 i' j' = v 43 i' j'), (fun i' j' => up_o (by omega) : ∀ i' j' : Int, up v K i j z 46 i' j' = v 46 i' j'), (fun i' j' => up_o (by omega) : ∀ i' j' : Int, up v K i j z 45 i' j' = v 45 i' j'), (fun i' => up_o (by omega) : ∀ i' : Int, up v K i j z 3 i' 0 = v 3 i' 0), (fun i' => up_o (by omega) : ∀ i' : Int, up v K i j z 3 i' 1 = v 3 i' 1), (fun i' => up_o (by omega) : ∀ i' : Int, up v K i j z 3 i' 2 = v 3 i' 2), (fun i' => up_o (by omega) : ∀ i' : Int, up v K i j z 3 i' 3 = v 3 i' 3), (fun i' => up_o (by omega) : ∀ i' : Int, up v K i j z 3 i' 4 = v 3 i' 4), (fun i' => up_o (by omega) : ∀ i' : Int, up v K i j z 8 i' 2 = v 8 i' 2)]
  exact h
theorem IP_n (hK : K ≠ 3 ∧ K ≠ 8 ∧ K ≠ 10 ∧ K ≠ 43 ∧ K ≠ 44 ∧ K ≠ 45 ∧ K ≠ 46) (h : IP v) : IP (nw v K i) := by
  unfold IP at *
  simp only [(fun i' j' => nw_o (by omega) (by omega) : ∀ i' j' : Int, nw v K i 3 i' j' = v 3 i' j'), (fun i' j' => nw_o (by omega) (by omega) : ∀ i' j' : Int, nw v K i 8 i' j' = v 8 i' j'), (fun i' j' => nw_o (by omega) (by omega) : ∀ i' j' : Int, nw v K i 10 i' j' = v 10 i' j'), (fun i' j' => nw_o (by omega) (by omega) : ∀ i' j' : Int, nw v K i 43 i' j' = v 43 i' j'), (fun i' j' => nw_o (by omega) (by omega) : ∀ i' j' : Int, nw v K i 44 i' j' = v 44 i' j'), (fun i' j' => nw_o (by omega) (by omega) : ∀ i' j' : Int, nw v K i 45 i' j' = v 45 i' j'), (fun i' j' => nw_o (by omega) (by omega) : ∀ i' j' : Int, nw v K i 46 i' j' = v 46 i' j')]
  exact h
theorem IP2_u (hK : K ≠ 43 ∧ K ≠ 46 ∧ K ≠ 45 ∧ (K ≠ 8 ∨ j ≠ 2)) (h : IP2 v) : IP2 (up v K i j z) := by
  unfold IP2 at *
  simp only [(fun i' j' => up_o (by omega) : ∀ i' j' : Int, up v K i j z 43 i' j' = v 43 i' j'), (fun i' j' => up_o (by omega) : ∀ i' j' : Int, up v K i j z 46 i' j' = v 46 i' j'), (fun i' j' => up_o (by omega) : ∀ i' j' : Int, up v K i j z 45 i' j' = v 45 i' j'), (fun i' => up_o (by omega) : ∀ i' : Int, up v K i j z 8 i' 2 = v 8 i' 2)]
  exact h
theorem IP2_n (hK : K ≠ 8 ∧ K ≠ 43 ∧ K ≠ 45 ∧ K ≠ 46) (h : IP2 v) : IP2 (nw v K i) := by
  unfold IP2 at *
  simp only [(fun i' j' => nw_o (by omega) (by omega) : ∀ i' j' : Int, nw v K i 8 i' j' = v 8 i' j'), (fun i' j' => nw_o (by omega) (by omega) : ∀ i' j' : Int, nw v K i 43 i' j' = v 43 i' j'), (fun i' j' => nw_o (by omega) (by omega) : ∀ i' j' : Int, nw v K i 45 i' j' = v 45 i' j'), (fun i' j' => nw_o (by omega) (by omega) : ∀ i' j' : Int, nw v K i 46 i' j' = v 46 i' j')]
  exact h
theorem IB_u (hK : K ≠ 47 ∧ (K ≠ 3 ∨ j ≠ 5) ∧ (K ≠ 8 ∨ j ≠ 2)) (h : IB v) : IB (up v K i j z) := by
  unfold IB at *
  simp only [(fun i' j' => up_o (by omega) : ∀ i' j' : Int, up v K i j z 47 i' j' = v 47 i' j'), (fun i' => up_o (by omega) : ∀ i' : Int, up v K i j z 3 i' 5 = v 3 i' 5), (fun i' => up_o (by omega) : ∀ i' : Int, up v K i j z 8 i' 2 = v 8 i' 2)]
  exact h
theorem IB_n (hK : K ≠ 3 ∧ K ≠ 8 ∧ K ≠ 47) (h : IB v) : IB (nw v K i) := by
  unfold IB at *
  simp only [(fun i' j' => nw_o (by omega) (by omega) : ∀ i' j' : Int, nw v K i 3 i' j' = v 3 i' j'), (fun i' j' => nw_o (by omega) (by omega) : ∀ i' j' : Int, nw v K i 8 i' j' = v 8 i' j'), (fun i' j' => nw_o (by omega) (by omega) : ∀ i' j' : Int, nw v K i 47 i' j' = v 47 i' j')]
  exact h
theorem IW_u (hK : K ≠ 11 ∧ K ≠ 50 ∧ K ≠ 57 ∧ K ≠ 51 ∧ K ≠ 52 ∧ K ≠ 53 ∧ K ≠ 54 ∧ K ≠ 55 ∧ K ≠ 6 ∧ (K ≠ 8 ∨ j ≠ 9) ∧ (K ≠ 8 ∨ j ≠ 2) ∧ (K ≠ 8 ∨ j ≠ 1)) (h : IW v) : IW (up v K i j z) := by
  unfold IW at *
  simp only [(fun i' j' => up_o (by omega) : ∀ i' j' : Int, up v K i j z 11 i' j' = v 11 i' j'), (fun i' j' => up_o (by omega) : ∀ i' j' : Int, up v K i j z 50 i' j' = v 50 i' j'), (fun i' j' => up_o (by omega) : ∀ i' j' : Int, up v K i j z 57 i' j' = v 57 i' j'), (fun i' j' => up_o (by omega) : ∀ i' j' : Int, up v K i j z 51 i' j' = v 51 i' j'), (fun i' j' => up_o (by omega) : ∀ i' j' : Int, up v K i j z 52 i' j' = v 52 i' j'), (fun i' j' => up_o (by omega) : ∀ i' j' : Int, up v K i j z 53 i' j' = v 53 i' j'), (fun i' j' => up_o (by omega) : ∀ i' j' : Int, up v K i j z 54 i' j' = v 54 i' j'), (fun i' j' => up_o (by omega) : ∀ i' j' : Int, up v K i j z 55 i' j' = v 55 i' j'), (fun i' j' => up_o (by omega) : ∀ i' j' : Int, up v K i j z 6 i' j' = v 6 i' j'), (fun i' => up_o (by omega) : ∀ i' : Int, up v K i j z 8 i' 9 = v 8 i' 9), (fun i' => up_o (by omega) : ∀ i' : Int, up v K i j z 8 i' 2 = v 8 i' 2), (fun i' => up_o (by omega) : ∀ i' : Int, up v K i j z 8 i' 1 = v 8 i' 1)]
  exact h
theorem IW_n (hK : K ≠ 6 ∧ K ≠ 8 ∧ K ≠ 11 ∧ K ≠ 50 ∧ K ≠ 51 ∧ K ≠ 52 ∧ K ≠ 53 ∧ K ≠ 54 ∧ K ≠ 55 ∧ K ≠ 57) (h : IW v) : IW (nw v K i) := by
  unfold IW at *
  simp only [(fun i' j' => nw_o (by omega) (by omega) : ∀ i' j' : Int, nw v K i 6 i' j' = v 6 i' j'), (fun i' j' => nw_o (by omega) (by omega) : ∀ i' j' : Int, nw v K i 8 i' j' = v 8 i' j'), (fun i' j' => nw_o (by omega) (by omega) : ∀ i' j' : Int, nw v K i 11 i' j' = v 11 i' j'), (fun i' j' => nw_o (by omega) (by omega) : ∀ i' j' : Int, nw v K i 50 i' j' = v 50 i' j'), (fun i' j' => nw_o (by omega) (by omega) : ∀ i' j' : Int, nw v K i 51 i' j' = v 51 i' j'), (fun i' j' => nw_o (by omega) (by omega) : ∀ i' j' : Int, nw v K i 52 i' j' = v 52 i' j'), (fun i' j' => nw_o (by omega) (by omega) : ∀ i' j' : Int, nw v K i 53 i' j' = v 53 i' j'), (fun i' j' => nw_o (by omega) (by omega) : ∀ i' j' : Int, nw v K i 54 i' j' = v 54 i' j'), (fun i' j' => nw_o (by omega) (by omega) : ∀ i' j' : Int, nw v K i 55 i' j' = v 55 i' j'), (fun i' j' => nw_o (by omega) (by omega) : ∀ i' j' : Int, nw v K i 57 i' j' = v 57 i' j')]
  exact h
theorem IW2_u (hK : K ≠ 53 ∧ K ≠ 54 ∧ K ≠ 57 ∧ (K ≠ 8 ∨ j ≠ 9)) (h : IW2 v) : IW2 (up v K i j z) := by
  unfold IW2 at *
  simp only [(fun i' j' => up_o (by omega) : ∀ i' j' : Int, up v K i j z 53 i' j' = v 53 i' j'), (fun i' j' => up_o (by omega) : ∀ i' j' : Int, up v K i j z 54 i' j' = v 54 i' j'), (fun i' j' => up_o (by omega) : ∀ i' j' : Int, up v K i j z 57 i' j' = v 57 i' j'), (fun i' => up_o (by omega) : ∀ i' : Int, up v K i j z 8 i' 9 = v 8 i' 9)]
  exact h
theorem IW2_n (hK : K ≠ 8 ∧ K ≠ 53 ∧ K ≠ 54 ∧ K ≠ 57) (h : IW2 v) : IW2 (nw v K i) := by
  unfold IW2 at *
  simp only [(fun i' j' => nw_o (by omega) (by omega) : ∀ i' j' : Int, nw v K i 8 i' j' = v 8 i' j'), (fun i' j' => nw_o (by omega) (by omega) : ∀ i' j' : Int, nw v K i 53 i' j' = v 53 i' j'), (fun i' j' => nw_o (by omega) (by omega) : ∀ i' j' : Int, nw v K i 54 i' j' = v 54 i' j'), (fun i' j' => nw_o (by omega) (by omega) : ∀ i' j' : Int, nw v K i 57 i' j' = v 57 i' j')]
  exact h
theorem ID_u (hK : K ≠ 57 ∧ K ≠ 15 ∧ K ≠ 5 ∧ K ≠ 58 ∧ K ≠ 59 ∧ K ≠ 60 ∧ (K ≠ 8 ∨ j ≠ 9) ∧ (K ≠ 8 ∨ j ≠ 2) ∧ (K ≠ 8 ∨ j ≠ 1)) (h : ID v) : ID (up v K i j z) := by
  unfold ID at *
  simp only [(fun i' j' => up_o (by omega) : ∀ i' j' : Int, up v K i j z 57 i' j' = v 57 i' j'), (fun i' j' => up_o (by omega) : ∀ i' j' : Int, up v K i j z 15 i' j' = v 15 i' j'), (fun i' j' => up_o (by omega) : ∀ i' j' : Int, up v K i j z 5 i' j' = v 5 i' j'), (fun i' j' => up_o (by omega) : ∀ i' j' : Int, up v K i j z 58 i' j' = v 58 i' j'), (fun i' j' => up_o (by omega) : ∀ i' j' : Int, up v K i j z 59 i' j' = v 59 i' j'), (fun i' j' => up_o (by omega) : ∀ i' j' : Int, up v K i j z 60 i' j' = v 60 i' j'), (fun i' => up_o (by omega) : ∀ i' : Int, up v K i j z 8 i' 9 = v 8 i' 9), (fun i' => up_o (by omega) : ∀ i' : Int, up v K i j z 8 i' 2 = v 8 i' 2), (fun i' => up_o (by omega) : ∀ i' : Int, up v K i j z 8 i' 1 = v 8 i' 1)]
  exact h
theorem ID_n (hK : K ≠ 5 ∧ K ≠ 8 ∧ K ≠ 15 ∧ K ≠ 57 ∧ K ≠ 58 ∧ K ≠ 59 ∧ K ≠ 60) (h : ID v) : ID (nw v K i) := by
  unfold ID at *
  simp only [(fun i' j' => nw_o (by omega) (by omega) : ∀ i' j' : Int, nw v K i 5 i' j' = v 5 i' j'), (fun i' j' => nw_o (by omega) (by omega) : ∀ i' j' : Int, nw v K i 8 i' j' = v 8 i' j'), (fun i' j' => nw_o (by omega) (by omega) : ∀ i' j' : Int, nw v K i 15 i' j' = v 15 i' j'), (fun i' j' => nw_o (by omega) (by omega) : ∀ i' j' : Int, nw v K i 57 i' j' = v 57 i' j'), (fun i' j' => nw_o (by omega) (by omega) : ∀ i' j' : Int, nw v K i 58 i' j' = v 58 i' j'), (fun i' j' => nw_o (by omega) (by omega) : ∀ i' j' : Int, nw v K i 59 i' j' = v 59 i' j'), (fun i' j' => nw_o (by omega) (by omega) : ∀ i' j' : Int, nw v K i 60 i' j' = v 60 i' j')]
  exact h
theorem IY_u (hK : K ≠ 16 ∧ K ≠ 56 ∧ (K ≠ 8 ∨ j ≠ 9)) (h : IY v) : IY (up v K i j z) := by
  unfold IY at *
  simp only [(fun i' j' => up_o (by omega) : ∀ i' j' : Int, up v K i j z 16 i' j' = v 16 i' j'), (fun i' j' => up_o (by omega) : ∀ i' j' : Int, up v K i j z 56 i' j' = v 56 i' j'), (fun i' => up_o (by omega) : ∀ i' : Int, up v K i j z 8 i' 9 = v 8 i' 9)]
  exact h
theorem IY_n (hK : K ≠ 8 ∧ K ≠ 16 ∧ K ≠ 56) (h : IY v) : IY (nw v K i) := by
  unfold IY at *
  simp only [(fun i' j' => nw_o (by omega) (by omega) : ∀ i' j' : Int, nw v K i 8 i' j' = v 8 i' j'), (fun i' j' => nw_o (by omega) (by omega) : ∀ i' j' : Int, nw v K i 16 i' j' = v 16 i' j'), (fun i' j' => nw_o (by omega) (by omega) : ∀ i' j' : Int, nw v K i 56 i' j' = v 56 i' j')]
  exact h
theorem IL_u (hK : K ≠ 12 ∧ K ≠ 62 ∧ K ≠ 70 ∧ K ≠ 63 ∧ K ≠ 64 ∧ K ≠ 65 ∧ K ≠ 66 ∧ K ≠ 0 ∧ K ≠ 67 ∧ K ≠ 68 ∧ K ≠ 69 ∧ K ≠ 71 ∧ K ≠ 4 ∧ K ≠ 72 ∧ K ≠ 73 ∧ K ≠ 74 ∧ K ≠ 75 ∧ K ≠ 98 ∧ K ≠ 2 ∧ (K ≠ 8 ∨ j ≠ 21) ∧ (K ≠ 8 ∨ j ≠ 9) ∧ (K ≠ 8 ∨ j ≠ 2) ∧ (K ≠ 8 ∨ j ≠ 36) ∧ (K ≠ 8 ∨ j ≠ 1)) (h : IL v) : IL (up v K i j z) := by
  unfold IL ICo ISa at *
  simp only [(fun i' j' => up_o (by omega) : ∀ i' j' : Int, up v K i j z 12 i' j' = v 12 i' j'), (fun i' j' => up_o (by omega) : ∀ i' j' : Int, up v K i j z 62 i' j' = v 62 i' j'), (fun i' j' => up_o (by omega) : ∀ i' j' : Int, up v K i j z 70 i' j' = v 70 i' j'), (fun i' j' => up_o (by omega) : ∀ i' j' : Int, up v K i j z 63 i' j' = v 63 i' j'), (fun i' j' => up_o (by omega) : ∀ i' j' : Int, up v K i j z 64 i' j' = v 64 i' j'), (fun i' j' => up_o (by omega) : ∀ i' j' : Int, up v K i j z 65 i' j' = v 65 i' j'), (fun i' j' => up_o (by omega) : ∀ i' j' : Int, up v K i j z 66 i' j' = v 66 i' j'), (fun i' j' => up_o (by omega) : ∀ i' j' : Int, up v K i j z 0 i' j' = v 0 i' j'), (fun i' j' => up_o (by omega) : ∀ i' j' : Int, up v K i j z 67 i' j' = v 67 i' j'), (fun i' j' => up_o (by omega) : ∀ i' j' : Int, up v K i j z 68 i' j' = v 68 i' j'), (fun i' j' => up_o (by omega) : ∀ i' j' : Int, up v K i j z 69 i' j' = v 69 i' j'), (fun i' j' => up_o (by omega) : ∀ i' j' : Int, up v K i j z 71 i' j' = v 71 i' j'), (fun i' j' => up_o (by omega) : ∀ i' j' : Int, up v K i j z 4 i' j' = v 4 i' j'), (fun i' j' => up_o (by omega) : ∀ i' j' : Int, up v K i j z 72 i' j' = v 72 i' j'), (fun i' j' => up_o (by omega) : ∀ i' j' : Int, up v K i j z 73 i' j' = v 73 i' j'), (fun i' j' => up_o (by omega) : ∀ i' j' : Int, up v K i j z 74 i' j' = v 74 i' j'), (fun i' j' => up_o (by omega) : ∀ i' j' : Int, up v K i j z 75 i' j' = v 75 i' j'), (fun i' j' => up_o (by omega) : ∀ i' j' : Int, up v K i j z 98 i' j' = v 98 i' j'), (fun i' j' => up_o (by omega) : ∀ i' j' : Int, up v K i j z 2 i' j' = v 2 i' j'), (fun i' => up_o (by omega) : ∀ i' : Int, up v K i j z 8 i' 21 = v 8 i' 21), (fun i' => up_o (by omega) : ∀ i' : Int, up v K i j z 8 i' 9 = v 8 i' 9), (fun i' => up_o (by omega) : ∀ i' : Int, up v K i j z 8 i' 2 = v 8 i' 2), (fun i' => up_o (by omega) : ∀ i' : Int, up v K i j z 8 i' 36 = v 8 i' 36), (fun i' => up_o (by omega) : ∀ i' : Int, up v K i j z 8 i' 1 = v 8 i' 1)]
  exact h
theorem IL_n (hK : K ≠ 0 ∧ K ≠ 2 ∧ K ≠ 4 ∧ K ≠ 8 ∧ K ≠ 12 ∧ K ≠ 62 ∧ K ≠ 63 ∧ K ≠ 64 ∧ K ≠ 65 ∧ K ≠ 66 ∧ K ≠ 67 ∧ K ≠ 68 ∧ K ≠ 69 ∧ K ≠ 70 ∧ K ≠ 71 ∧ K ≠ 72 ∧ K ≠ 73 ∧ K ≠ 74 ∧ K ≠ 75 ∧ K ≠ 98) (h : IL v) : IL (nw v K i) := by
  unfold IL ICo ISa at *
  simp only [(fun i' j' => nw_o (by omega) (by omega) : ∀ i' j' : Int, nw v K i 0 i' j' = v 0 i' j'), (fun i' j' => nw_o (by omega) (by omega) : ∀ i' j' : Int, nw v K i 2 i' j' = v 2 i' j'), (fun i' j' => nw_o (by omega) (by omega) : ∀ i' j' : Int, nw v K i 4 i' j' = v 4 i' j'), (fun i' j' => nw_o (by omega) (by omega) : ∀ i' j' : Int, nw v K i 8 i' j' = v 8 i' j'), (fun i' j' => nw_o (by omega) (by omega) : ∀ i' j' : Int, nw v K i 12 i' j' = v 12 i' j'), (fun i' j' => nw_o (by omega) (by omega) : ∀ i' j' : Int, nw v K i 62 i' j' = v 62 i' j'), (fun i' j' => nw_o (by omega) (by omega) : ∀ i' j' : Int, nw v K i 63 i' j' = v 63 i' j'), (fun i' j' => nw_o (by omega) (by omega) : ∀ i' j' : Int, nw v K i 64 i' j' = v 64 i' j'), (fun i' j' => nw_o (by omega) (by omega) : ∀ i' j' : Int, nw v K i 65 i' j' = v 65 i' j'), (fun i' j' => nw_o (by omega) (by omega) : ∀ i' j' : Int, nw v K i 66 i' j' = v 66 i' j'), (fun i' j' => nw_o (by omega) (by omega) : ∀ i' j' : Int, nw v K i 67 i' j' = v 67 i' j'), (fun i' j' => nw_o (by omega) (by omega) : ∀ i' j' : Int, nw v K i 68 i' j' = v 68 i' j'), (fun i' j' => nw_o (by omega) (by omega) : ∀ i' j' : Int, nw v K i 69 i' j' = v 69 i' j'), (fun i' j' => nw_o (by omega) (by omega) : ∀ i' j' : Int, nw v K i 70 i' j' = v 70 i' j'), (fun i' j' => nw_o (by omega) (by omega) : ∀ i' j' : Int, nw v K i 71 i' j' = v 71 i' j'), (fun i' j' => nw_o (by omega) (by omega) : ∀ i' j' : Int, nw v K i 72 i' j' = v 72 i' j'), (fun i' j' => nw_o (by omega) (by omega) : ∀ i' j' : Int, nw v K i 73 i' j' = v 73 i' j'), (fun i' j' => nw_o (by omega) (by omega) : ∀ i' j' : Int, nw v K i 74 i' j' = v 74 i' j'), (fun i' j' => nw_o (by omega) (by omega) : ∀ i' j' : Int, nw v K i 75 i' j' = v 75 i' j'), (fun i' j' => nw_o (by omega) (by omega) : ∀ i' j' : Int, nw v K i 98 i' j' = v 98 i' j')]
  exact h
theorem IN_u (hK : K ≠ 13 ∧ K ≠ 77 ∧ K ≠ 79 ∧ K ≠ 80 ∧ K ≠ 81 ∧ K ≠ 82 ∧ K ≠ 78 ∧ K ≠ 83 ∧ K ≠ 1 ∧ (K ≠ 8 ∨ j ≠ 36) ∧ (K ≠ 8 ∨ j ≠ 2) ∧ (K ≠ 8 ∨ j ≠ 1)) (h : IN v) : IN (up v K i j z) := by
  unfold IN at *
  simp only [(fun i' j' => up_o (by omega) : ∀ i' j' : Int, up v K i j z 13 i' j' = v 13 i' j'), (fun i' j' => up_o (by omega) : ∀ i' j' : Int, up v K i j z 77 i' j' = v 77 i' j'), (fun i' j' => up_o (by omega) : ∀ i' j' : Int, up v K i j z 79 i' j' = v 79 i' j'), (fun i' j' => up_o (by omega) : ∀ i' j' : Int, up v K i j z 80 i' j' = v 80 i' j'), (fun i' j' => up_o (by omega) : ∀ i' j' : Int, up v K i j z 81 i' j' = v 81 i' j'), (fun i' j' => up_o (by omega) : ∀ i' j' : Int, up v K i j z 82 i' j' = v 82 i' j'), (fun i' j' => up_o (by omega) : ∀ i' j' : Int, up v K i j z 78 i' j' = v 78 i' j'), (fun i' j' => up_o (by omega) : ∀ i' j' : Int, up v K i j z 83 i' j' = v 83 i' j'), (fun i' j' => up_o (by omega) : ∀ i' j' : Int, up v K i j z 1 i' j' = v 1 i' j'), (fun i' => up_o (by omega) : ∀ i' : Int, up v K i j z 8 i' 36 = v 8 i' 36), (fun i' => up_o (by omega) : ∀ i' : Int, up v K i j z 8 i' 2 = v 8 i' 2), (fun i' => up_o (by omega) : ∀ i' : Int, up v K i j z 8 i' 1 = v 8 i' 1)]
  exact h
theorem IN_n (hK : K ≠ 1 ∧ K ≠ 8 ∧ K ≠ 13 ∧ K ≠ 77 ∧ K ≠ 78 ∧ K ≠ 79 ∧ K ≠ 80 ∧ K ≠ 81 ∧ K ≠ 82 ∧ K ≠ 83) (h : IN v) : IN (nw v K i) := by
  unfold IN at *
  simp only [(fun i' j' => nw_o (by omega) (by omega) : ∀ i' j' : Int, nw v K i 1 i' j' = v 1 i' j'), (fun i' j' => nw_o (by omega) (by omega) : ∀ i' j' : Int, nw v K i 8 i' j' = v 8 i' j'), (fun i' j' => nw_o (by omega) (by omega) : ∀ i' j' : Int, nw v K i 13 i' j' = v 13 i' j'), (fun i' j' => nw_o (by omega) (by omega) : ∀ i' j' : Int, nw v K i 77 i' j' = v 77 i' j'), (fun i' j' => nw_o (by omega) (by omega) : ∀ i' j' : Int, nw v K i 78 i' j' = v 78 i' j'), (fun i' j' => nw_o (by omega) (by omega) : ∀ i' j' : Int, nw v K i 79 i' j' = v 79 i' j'), (fun i' j' => nw_o (by omega) (by omega) : ∀ i' j' : Int, nw v K i 80 i' j' = v 80 i' j'), (fun i' j' => nw_o (by omega) (by omega) : ∀ i' j' : Int, nw v K i 81 i' j' = v 81 i' j'), (fun i' j' => nw_o (by omega) (by omega) : ∀ i' j' : Int, nw v K i 82 i' j' = v 82 i' j'), (fun i' j' => nw_o (by omega) (by omega) : ∀ i' j' : Int, nw v K i 83 i' j' = v 83 i' j')]
  exact h
theorem IN2_u (hK : K ≠ 83 ∧ (K ≠ 8 ∨ j ≠ 36)) (h : IN2 v) : IN2 (up v K i j z) := by
  unfold IN2 at *
  simp only [(fun i' j' => up_o (by omega) : ∀ i' j' : Int, up v K i j z 83 i' j' = v 83 i' j'), (fun i' => up_o (by omega) : ∀ i' : Int, up v K i j z 8 i' 36 = v 8 i' 36)]
  exact h
theorem IN2_n (hK : K ≠ 8 ∧ K ≠ 83) (h : IN2 v) : IN2 (nw v K i) := by
  unfold IN2 at *
  simp only [(fun i' j' => nw_o (by omega) (by omega) : ∀ i' j' : Int, nw v K i 8 i' j' = v 8 i' j'), (fun i' j' => nw_o (by omega) (by omega) : ∀ i' j' : Int, nw v K i 83 i' j' = v 83 i' j')]
  exact h
theorem IA_u (hK : K ≠ 99 ∧ K ≠ 98 ∧ K ≠ 57 ∧ (K ≠ 8 ∨ j ≠ 2) ∧ (K ≠ 8 ∨ j ≠ 9) ∧ (K ≠ 8 ∨ j ≠ 21) ∧ (K ≠ 8 ∨ j ≠ 36)) (h : IA v) : IA (up v K i j z) := by
  unfold IA at *
  simp only [(fun i' j' => up_o (by omega) : ∀ i' j' : Int, up v K i j z 99 i' j' = v 99 i' j'), (fun i' j' => up_o (by omega) : ∀ i' j' : Int, up v K i j z 98 i' j' = v 98 i' j'), (fun i' j' => up_o (by omega) : ∀ i' j' : Int, up v K i j z 57 i' j' = v 57 i' j'), (fun i' => up_o (by omega) : ∀ i' : Int, up v K i j z 8 i' 2 = v 8 i' 2), (fun i' => up_o (by omega) : ∀ i' : Int, up v K i j z 8 i' 9 = v 8 i' 9), (fun i' => up_o (by omega) : ∀ i' : Int, up v K i j z 8 i' 21 = v 8 i' 21), (fun i' => up_o (by omega) : ∀ i' : Int, up v K i j z 8 i' 36 = v 8 i' 36)]
  exact h
theorem IM_u (hK : K ≠ 43 ∧ (K ≠ 8 ∨ j ≠ 2)) (h : IM v) : IM (up v K i j z) := by
  unfold IM s10 at *
  simp only [(fun i' j' => up_o (by omega) : ∀ i' j' : Int, up v K i j z 43 i' j' = v 43 i' j'), (fun i' => up_o (by omega) : ∀ i' : Int, up v K i j z 8 i' 2 = v 8 i' 2)]
  exact h
theorem IM_n (hK : K ≠ 8 ∧ K ≠ 43) (h : IM v) : IM (nw v K i) := by
  unfold IM s10 at *
  simp only [(fun i' j' => nw_o (by omega) (by omega) : ∀ i' j' : Int, nw v K i 8 i' j' = v 8 i' j'), (fun i' j' => nw_o (by omega) (by omega) : ∀ i' j' : Int, nw v K i 43 i' j' = v 43 i' j')]
  exact h
theorem IA_n (hK : K ≠ 99 ∧ K ≠ 98 ∧ K ≠ 57 ∧ K ≠ 8 ∧ K ≠ 3 ∧ K ≠ 6 ∧ K ≠ 15 ∧ K ≠ 16 ∧ K ≠ 2 ∧ K ≠ 4 ∧ K ≠ 1 ∧ K ≠ 0 ∧ K ≠ 5) (h : IA v) : IA (nw v K i) := by
  unfold IA at *
  simp only [(fun i' j' => nw_o (by omega) (by omega) : ∀ i' j' : Int, nw v K i 98 i' j' = v 98 i' j'), (fun i' j' => nw_o (by omega) (by omega) : ∀ i' j' : Int, nw v K i 57 i' j' = v 57 i' j'), (fun i' j' => nw_o (by omega) (by omega) : ∀ i' j' : Int, nw v K i 8 i' j' = v 8 i' j'), (fun j' => nw_o (by omega) (by omega) : ∀ j' : Int, nw v K i 99 3 j' = v 99 3 j'), (fun j' => nw_o (by omega) (by omega) : ∀ j' : Int, nw v K i 99 6 j' = v 99 6 j'), (fun j' => nw_o (by omega) (by omega) : ∀ j' : Int, nw v K i 99 15 j' = v 99 15 j'), (fun j' => nw_o (by omega) (by omega) : ∀ j' : Int, nw v K i 99 16 j' = v 99 16 j'), (fun j' => nw_o (by omega) (by omega) : ∀ j' : Int, nw v K i 99 2 j' = v 99 2 j'), (fun j' => nw_o (by omega) (by omega) : ∀ j' : Int, nw v K i 99 4 j' = v 99 4 j'), (fun j' => nw_o (by omega) (by omega) : ∀ j' : Int, nw v K i 99 1 j' = v 99 1 j'), (fun j' => nw_o (by omega) (by omega) : ∀ j' : Int, nw v K i 99 0 j' = v 99 0 j'), (fun j' => nw_o (by omega) (by omega) : ∀ j' : Int, nw v K i 99 5 j' = v 99 5 j')]
  exact h
end Loc

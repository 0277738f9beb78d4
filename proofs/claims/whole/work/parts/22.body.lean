/-! PURE 3: the bodies of the law's cases; writes that the invariant doesn't see -/
def bI (r7 : Res) (xs : List Nat) (f8 : V → Res) (k : V → Res) : Res := rB (rBx r7 (fun z1 v1 => (chk ((0 : Int) ≤ 0) (rLet (up v1 9 0 0 z1) (fun v4 => (rOk 0 v4))))) (kxAt 1 xs)) (fun z3 v3 => (rB (f8 v3) (fun z4 v4 => (rB (sp_X8_thrown 0 v4) (fun z5 v5 => (if z5 = z3 then (if ¬ z3 = 0 then (k v5) else (if (lcmp (v5 9 0 0) z4) = 0 then (k v5) else (rOk 0 v5))) else (rOk 0 v5)))))))
def bV (r7 : Res) (xs : List Nat) (f8 : V → Res) (k : V → Res) : Res := rB (rBx r7 (fun z1 v1 => (rOk 0 v1)) (kxAt 1 xs)) (fun z3 v3 => (rB (f8 v3) (fun z4 v4 => (rB (sp_X8_thrown 0 v4) (fun z5 v5 => (if z5 = z3 then (k v5) else (rOk 0 v5)))))))
def bB (r7 : Res) (xs : List Nat) (f8 : V → Res) (k : V → Res) : Res := rB (rBx r7 (fun z1 v1 => (if z1 = 0 then (chk ((0 : Int) ≤ 0) (rLet (up v1 9 0 0 0) (fun v5 => (rOk 0 v5)))) else (chk ((0 : Int) ≤ 0) (rLet (up v1 9 0 0 1) (fun v7 => (rOk 0 v7)))))) (kxAt 1 xs)) (fun z3 v3 => (rB (f8 v3) (fun z4 v4 => (rB (sp_X8_thrown 0 v4) (fun z5 v5 => (if z5 = z3 then (if ¬ z3 = 0 then (k v5) else (if z4 = 0 then (if (lcmp (v5 9 0 0) 0) = 0 then (k v5) else (rOk 0 v5)) else (if (lcmp (v5 9 0 0) 1) = 0 then (k v5) else (rOk 0 v5)))) else (rOk 0 v5)))))))
/-- class and model threw alike, or answered alike -/
def AgX (r7 : Res) (xs : List Nat) (f8 : V → Res) (P : V → Prop) : Prop := ∃ (e : Nat) (v1 : V) (i z' : Int) (v' : V), r7 = rEx e v1 ∧ kxAt 1 xs e v1 = rOk i v1 ∧ f8 v1 = rOk z' v' ∧ v' 8 0 0 = i ∧ ¬ i = 0 ∧ P v'
def AgI (r7 : Res) (xs : List Nat) (f8 : V → Res) (P : V → Prop) : Prop := AgX r7 xs f8 P ∨ ∃ (z : Int) (v1 v' : V), r7 = rOk z v1 ∧ f8 (up v1 9 0 0 z) = rOk z v' ∧ v' 8 0 0 = 0 ∧ v' 9 0 0 = z ∧ P v'
def AgV (r7 : Res) (xs : List Nat) (f8 : V → Res) (P : V → Prop) : Prop := AgX r7 xs f8 P ∨ ∃ (z z' : Int) (v1 v' : V), r7 = rOk z v1 ∧ f8 v1 = rOk z' v' ∧ v' 8 0 0 = 0 ∧ P v'
def AgB (r7 : Res) (xs : List Nat) (f8 : V → Res) (P : V → Prop) : Prop := AgX r7 xs f8 P ∨ ∃ (z : Int) (v1 v' : V), (z = 0 ∨ z = 1) ∧ r7 = rOk z v1 ∧ f8 (up v1 9 0 0 z) = rOk z v' ∧ v' 8 0 0 = 0 ∧ v' 9 0 0 = z ∧ P v'
section Body
variable {v : V} {a b i j z : Int} {K : Nat} {r7 : Res} {xs : List Nat} {f8 k : V → Res} {P : V → Prop}
theorem stI (h : AgI r7 xs f8 P) : ∃ v', P v' ∧ bI r7 xs f8 k = k v' := by
  rcases h with ⟨e, v1, i, z', v', rfl, h2, h3, h4, h5, h6⟩ | ⟨z, v1, v', rfl, h3, h4, h5, h6⟩
  · refine ⟨v', h6, ?_⟩
    unfold bI
    rw [rBx_ex, h2, rB_ok, h3, rB_ok]
    unfold sp_X8_thrown
    rw [rB_ok, if_pos h4, if_pos h5]
  · refine ⟨v', h6, ?_⟩
    unfold bI
    rw [rBx_ok, chk_t (by decide), rLet_r, rB_ok, h3, rB_ok]
    unfold sp_X8_thrown
    rw [rB_ok, if_pos h4, if_neg (by decide), if_pos ((lcmp_0 _ _).mpr h5)]
theorem stV (h : AgV r7 xs f8 P) : ∃ v', P v' ∧ bV r7 xs f8 k = k v' := by
  rcases h with ⟨e, v1, i, z', v', rfl, h2, h3, h4, h5, h6⟩ | ⟨z, z', v1, v', rfl, h3, h4, h6⟩
  · refine ⟨v', h6, ?_⟩
    unfold bV
    rw [rBx_ex, h2, rB_ok, h3, rB_ok]
    unfold sp_X8_thrown
    rw [rB_ok, if_pos h4]
  · refine ⟨v', h6, ?_⟩
    unfold bV
    rw [rBx_ok, rB_ok, h3, rB_ok]
    unfold sp_X8_thrown
    rw [rB_ok, if_pos h4]
theorem stB (h : AgB r7 xs f8 P) : ∃ v', P v' ∧ bB r7 xs f8 k = k v' := by
  rcases h with ⟨e, v1, i, z', v', rfl, h2, h3, h4, h5, h6⟩ | ⟨z, v1, v', hz, rfl, h3, h4, h5, h6⟩
  · refine ⟨v', h6, ?_⟩
    unfold bB
    rw [rBx_ex, h2, rB_ok, h3, rB_ok]
    unfold sp_X8_thrown
    rw [rB_ok, if_pos h4, if_pos h5]
  · refine ⟨v', h6, ?_⟩
    unfold bB
    rcases hz with rfl | rfl
    · rw [rBx_ok, if_pos rfl, chk_t (by decide), rLet_r, rB_ok, h3, rB_ok]
      unfold sp_X8_thrown
      rw [rB_ok, if_pos h4, if_neg (by decide), if_pos rfl, if_pos ((lcmp_0 _ _).mpr h5)]
    · rw [rBx_ok, if_neg (by decide), chk_t (by decide), rLet_r, rB_ok, h3, rB_ok]
      unfold sp_X8_thrown
      rw [rB_ok, if_pos h4, if_neg (by decide), if_neg (by decide), if_pos ((lcmp_0 _ _).mpr h5)]
theorem F8.up (h : F8 v) (hK : K ≠ 8 ∨ j = 0 ∨ j = 1 ∨ j = 2 ∨ j = 9 ∨ j = 21 ∨ j = 36 ∨ j = 44 ∨ j = 45) : F8 (up v K i j z) := fun j' hj' => by
  rw [up_r, if_neg (by omega)]
  exact h j' hj'
theorem F8.nw (h : F8 v) (hK : K ≠ 8) : F8 (nw v K i) := fun j' hj' => by
  rw [nw_r, if_neg (by omega), if_neg (by omega)]
  exact h j' hj'
theorem Inv.thr (h : Inv v) (t : Int) : Inv (up v 8 0 0 t) := by
  obtain ⟨hs, h8, hr, hp, hp2, hb, hw, hw2, hd, hy, hl, hn, hn2, ha, hm⟩ := h
  refine ⟨?_, h8.up (by omega), ?_, ?_, ?_, ?_, ?_, ?_, ?_, ?_, ?_, ?_, ?_, ?_, ?_⟩
  · simpa [IS, up_r] using hs
  · simpa [IR, up_r] using hr
  · simpa [IP, up_r] using hp
  · simpa [IP2, up_r] using hp2
  · simpa [IB, up_r] using hb
  · simpa [IW, up_r] using hw
  · simpa [IW2, up_r] using hw2
  · simpa [ID, up_r] using hd
  · simpa [IY, up_r] using hy
  · simpa [IL, ICo, ISa, up_r] using hl
  · simpa [IN, up_r] using hn
  · simpa [IN2, up_r] using hn2
  · simpa [IA, up_r] using ha
  · simpa [IM, s10, up_r] using hm
theorem Inv.out (h : Inv v) (t : Int) : Inv (up v 9 0 0 t) := by
  obtain ⟨hs, h8, hr, hp, hp2, hb, hw, hw2, hd, hy, hl, hn, hn2, ha, hm⟩ := h
  refine ⟨?_, h8.up (by omega), ?_, ?_, ?_, ?_, ?_, ?_, ?_, ?_, ?_, ?_, ?_, ?_, ?_⟩
  · simpa [IS, up_r] using hs
  · simpa [IR, up_r] using hr
  · simpa [IP, up_r] using hp
  · simpa [IP2, up_r] using hp2
  · simpa [IB, up_r] using hb
  · simpa [IW, up_r] using hw
  · simpa [IW2, up_r] using hw2
  · simpa [ID, up_r] using hd
  · simpa [IY, up_r] using hy
  · simpa [IL, ICo, ISa, up_r] using hl
  · simpa [IN, up_r] using hn
  · simpa [IN2, up_r] using hn2
  · simpa [IA, up_r] using ha
  · simpa [IM, s10, up_r] using hm
theorem up_swap {K2 : Nat} {i2 j2 z2 : Int} (h : ¬ (K = K2 ∧ i = i2 ∧ j = j2)) : up (up v K i j z) K2 i2 j2 z2 = up (up v K2 i2 j2 z2) K i j z := by
  funext K' i' j'
  simp only [up_r]
  by_cases h1 : K' = K2 ∧ i' = i2 ∧ j' = j2
  · rw [if_pos h1, if_neg (by rintro ⟨rfl, rfl, rfl⟩; exact h h1), if_pos h1]
  · rw [if_neg h1, if_neg h1]
theorem ms_of {v' : V} (h : MS v) (e : ∀ j : Int, v' 8 0 j = v 8 0 j) : MS v' := by
  unfold MS F8 at h ⊢
  simp only [e]
  exact h
end Body

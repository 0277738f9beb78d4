/-! PURE 11: chain, index -/
def chF (v : V) : Nat → Int → Int
  | 0, _ => 0
  | n + 1, l => if l = -1 then 0 else if v 2 l 7 = -1 then 0 else 1 + (if v 2 (v 2 l 2) 7 = -1 then 0 else if 7 < v 4 l 0 - v 4 (v 2 l 2) 0 then 0 else chF v n (v 2 l 2))
def cha (v : V) (l : Int) : Int := chF v 61 l
section Ch
variable {v w : V} {Q : Int → V → Prop} {E : Nat → V → Prop} {a b c : Int}
theorem eq_wp {r : Res} {y : Int} (h : Wp r (fun z w => z = y ∧ w = v) NoE) : r = rOk y v := by
  obtain ⟨z, w, rfl, rfl, rfl⟩ := wp_get h
  rfl
theorem lcmp_l (a b : Int) : (lcmp a b < 0) = (a < b) := by
  unfold lcmp
  apply propext
  split
  · constructor <;> intro _ <;> omega
  · split <;> constructor <;> intro _ <;> omega
theorem lcmp_g (a b : Int) : (0 ≤ lcmp a b) = (b ≤ a) := by
  unfold lcmp
  apply propext
  split
  · constructor <;> intro _ <;> omega
  · split <;> constructor <;> intro _ <;> omega
theorem lcmp_e (a b : Int) : (lcmp a b ≤ 0) = (a ≤ b) := by
  unfold lcmp
  apply propext
  split
  · constructor <;> intro _ <;> omega
  · split <;> constructor <;> intro _ <;> omega
theorem chF_s (v : V) (n : Nat) (l : Int) : chF v (n + 1) l = if l = -1 then 0 else if v 2 l 7 = -1 then 0 else 1 + (if v 2 (v 2 l 2) 7 = -1 then 0 else if 7 < v 4 l 0 - v 4 (v 2 l 2) 0 then 0 else chF v n (v 2 l 2)) := rfl
theorem x4_rise (hb : 0 ≤ b) : ∃ z, sp_X4_riseSince a b v = rOk z v := by
  unfold sp_X4_riseSince
  rw [chk_t hb]
  by_cases q : lcmp (w64 (v 4 b 1 * v 4 a 2)) 0 = 0
  · exact ⟨_, by rw [if_neg (by simpa using q)]⟩
  · exact ⟨_, by rw [if_pos q, chk_t (show ¬ w64 (v 4 b 1 * v 4 a 2) = 0 from fun z => q ((lcmp_0 _ _).mpr z))]⟩
/-- enough fuel is enough -/
theorem chF_f (h : Inv v) : ∀ (n m : Nat) (l : Int), -1 ≤ l → l < v 7 0 7 → l < n → l < m → chF v (n + 1) l = chF v (m + 1) l := by
  intro n
  induction n with
  | zero =>
    intro m l h0 h1 h2 h3
    have : l = -1 := by omega
    subst this
    simp [chF]
  | succ n ih =>
    intro m l h0 h1 h2 h3
    rw [chF_s v (n + 1) l, chF_s v m l]
    by_cases q : l = -1
    · rw [if_pos q, if_pos q]
    · have hl := h.l l (by omega) h1
      have hl3 := hl.2.2
      unfold ISa at hl3
      rw [if_neg q, if_neg q]
      by_cases s : v 2 l 7 = -1
      · rw [if_pos s, if_pos s]
      · rw [if_neg s, if_neg s]
        obtain ⟨m', rfl⟩ : ∃ m', m = m' + 1 := ⟨m - 1, by omega⟩
        rw [ih m' (v 2 l 2) (by omega) (by omega) (by omega) (by omega)]
theorem cha_eq (h : Inv v) (h0 : 0 ≤ a ∧ a < v 7 0 7) : cha v a = if v 2 a 7 = -1 then 0 else 1 + (if v 2 (v 2 a 2) 7 = -1 then 0 else if 7 < v 4 a 0 - v 4 (v 2 a 2) 0 then 0 else cha v (v 2 a 2)) := by
  have hs := h.s
  unfold IS at hs
  have hl := h.l a h0.1 h0.2
  have hl3 := hl.2.2
  unfold ISa at hl3
  unfold cha
  rw [chF, if_neg (by omega)]
  by_cases s : v 2 a 7 = -1
  · rw [if_pos s, if_pos s]
  · rw [if_neg s, if_neg s, chF_f h 59 60 (v 2 a 2) (by omega) (by omega) (by omega) (by omega)]
theorem chF_b (n : Nat) : ∀ l : Int, 0 ≤ chF v n l ∧ chF v n l ≤ n := by
  induction n with
  | zero => intro l; simp [chF]
  | succ n ih =>
    intro l
    have h1 := ih (v 2 l 2)
    rw [chF]
    split
    · omega
    · split
      · omega
      · split
        · omega
        · split <;> omega
theorem chain_lp (h : Inv v) (k : V → Int → Int → Res) : ∀ (n : Nat) (acc l : Int), -1 ≤ l → l < v 7 0 7 → l < n → 0 ≤ acc → acc + l < 100 → ∃ x, lp_X2_chain_4 c k (n + 1) v acc l = k v (acc + chF v (n + 1) l) x := by
  have hs := h.s
  unfold IS at hs
  intro n
  induction n with
  | zero =>
    intro acc l h0 h1 h2 h3 h4
    have : l = -1 := by omega
    subst this
    refine ⟨-1, ?_⟩
    unfold lp_X2_chain_4
    rw [if_pos (by omega), chF, if_pos rfl, Int.add_zero]
  | succ n ih =>
    intro acc l h0 h1 h2 h3 h4
    unfold lp_X2_chain_4
    rw [chF]
    by_cases q : l = -1
    · exact ⟨l, by rw [if_pos (by omega), if_pos q, Int.add_zero]⟩
    · have hl := h.l l (by omega) h1
      have hl1 := hl.1
      have hl3 := hl.2.2
      unfold ISa at hl3
      by_cases s : v 2 l 7 = -1
      · exact ⟨l, by rw [if_neg (by omega), if_pos (by omega), if_neg q, if_pos s, Int.add_zero]⟩
      · have hf := h.l (v 2 l 2) (by omega) (by omega)
        have hf3 := hf.2.2
        unfold ISa at hf3
        have e1 : w32 (acc + 1) = acc + 1 := w32_i (by omega) (by omega)
        have s7 : v 2 l 7 = l := by omega
        have hd : sp_X2_saleAhead l v = rOk (v 2 (v 2 l 2) 7) v := by
          unfold sp_X2_saleAhead
          rw [if_neg (by omega)]
        rw [if_neg (by omega), if_neg (by omega), if_neg q, if_neg s, hd, rB_ok, e1]
        by_cases g : v 2 (v 2 l 2) 7 = -1
        · rw [if_pos (by omega), if_pos g]
          obtain ⟨x, e⟩ := ih (acc + 1) (-1) (by omega) (by omega) (by omega) (by omega) (by omega)
          rw [e]
          refine ⟨x, ?_⟩
          rw [chF, if_pos rfl]
          congr 1
          omega
        · have s8 : v 2 (v 2 l 2) 7 = v 2 l 2 := by omega
          rw [if_neg (by omega), if_neg g, chk_t (by omega), s7, s8]
          have e9 : w32 (v 4 l 0 - v 4 (v 2 l 2) 0) = v 4 l 0 - v 4 (v 2 l 2) 0 := w32_i (by omega) (by omega)
          rw [e9]
          by_cases g2 : 7 < v 4 l 0 - v 4 (v 2 l 2) 0
          · rw [if_pos g2, if_pos g2]
            obtain ⟨x, e⟩ := ih (acc + 1) (-1) (by omega) (by omega) (by omega) (by omega) (by omega)
            rw [e]
            refine ⟨x, ?_⟩
            rw [chF, if_pos rfl]
            congr 1
            omega
          · rw [if_neg g2, if_neg g2]
            obtain ⟨x, e⟩ := ih (acc + 1) (v 2 l 2) (by omega) (by omega) (by omega) (by omega) (by omega)
            rw [e]
            refine ⟨x, ?_⟩
            congr 1
            omega
theorem x2_chain (h : Inv v) (ha : 0 ≤ a ∧ a < v 7 0 7) : sp_X2_chain a v = rOk (cha v a) v := by
  have hs := h.s
  unfold IS at hs
  unfold sp_X2_chain cha
  obtain ⟨x, e⟩ := chain_lp (c := a) h (fun v7 u7_1 u7_2 => (rOk u7_1 v7)) 199 0 a (by omega) ha.2 (by omega) (by omega) (by omega)
  rw [e, chF_f h 199 60 a (by omega) ha.2 (by omega) (by omega), Int.zero_add]
theorem wp_chain (hI : Inv v) (ha : 0 ≤ a ∧ a < v 7 0 7) (h : Q (cha v a) v) : Wp (sp_X2_chain a v) Q E := by
  rw [x2_chain hI ha]
  exact h
theorem index_lp (h : Inv v) (k : V → Int → Int → Int → Res) : ∀ (n : Nat) (l1 l3 l : Int), 0 ≤ l → l ≤ v 7 0 7 → v 7 0 7 - l < n → ∃ r1 r3 r, lp_X7_index_7 0 k n v l1 l3 l = k v r1 r3 r := by
  have hs := h.s
  unfold IS at hs
  have c7 := i7 h
  intro n
  induction n with
  | zero => intro l1 l3 l h0 h1 h2; omega
  | succ n ih =>
    intro l1 l3 l h0 h1 h2
    unfold lp_X7_index_7
    simp only [c7]
    by_cases q : v 7 0 7 ≤ l
    · exact ⟨l1, l3, l, by rw [if_pos q]⟩
    · have x := ILx h (a := l) ⟨h0, by omega⟩
      have e1 : w32 (l + 1) = l + 1 := w32_i (by omega) (by omega)
      have hd : sp_X2_saleAhead l v = rOk (if v 2 l 2 < 0 then -1 else v 2 (v 2 l 2) 7) v := by
        unfold sp_X2_saleAhead
        split <;> rfl
      rw [if_neg q, chk_t (by omega), chk_t (by omega), x.1, chk_t h0, hd, rB_ok, e1]
      have go := fun l1 l3 => ih l1 l3 (l + 1) (by omega) (by omega) (by omega)
      by_cases g : v 2 l 2 < 0
      · rw [if_pos g]
        split
        · exact go _ _
        · rw [if_pos (by decide)]
          exact go _ _
      · rw [if_neg g]
        split
        · exact go _ _
        · split
          · exact go _ _
          · split
            · exact go _ _
            · split
              · exact go _ _
              · obtain ⟨z, ez⟩ := x4_rise (v := v) (a := v 2 l 7) (b := v 2 (v 2 l 2) 7) (by omega)
                rw [ez, rB_ok]
                exact go _ _
theorem rz_index (h : Inv v) : ∃ z, sp_X7_index 0 v = rOk z v := by
  have hs := h.s
  unfold IS at hs
  obtain ⟨r1, r3, r, e⟩ := index_lp h (fun v11 u11_1 u11_3 u11_4 => (if u11_3 ≤ 0 then (rOk (-1) v11)
   else (chk (¬ u11_3 = 0) (rOk (w64 (u11_1.tdiv u11_3)) v11)))) 200 0 0 0 (by omega) (by omega) (by omega)
  unfold sp_X7_index
  rw [e]
  by_cases q : r3 ≤ 0
  · exact ⟨_, by rw [if_pos q]⟩
  · exact ⟨_, by rw [if_neg q, chk_t (by omega)]⟩
end Ch


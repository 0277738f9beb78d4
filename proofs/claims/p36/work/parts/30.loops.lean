/-! PURE 10: the loops that only read -/
def fPH (v : V) (a s : Int) : Int := if v 2 s 3 = a then v 2 s 4 else 0
def fLP (v : V) (a s : Int) : Int := if v 2 s 1 = a ∧ ¬ v 2 s 4 ≤ 0 then 1 else 0
def fOB (v : V) (a s : Int) : Int := if v 1 s 1 = a then oweF v s else 0
def fOT (v : V) (a s : Int) : Int := if v 1 s 6 = a then oweF v s else 0
section Lp
variable {v : V} {Q : Int → V → Prop} {E : Nat → V → Prop} {a b i j z m t : Int} {K : Nat} {k : V → Int → Int → Res}
theorem fPH_b (h : Inv v) (s : Int) (h0 : 0 ≤ s) (h1 : s < v 7 0 7) : 0 ≤ fPH v a s ∧ fPH v a s ≤ 60 := by
  have hs := h.l s h0 h1
  skip
  unfold fPH
  split <;> omega
theorem x7_ph (h : Inv v) (k : V → Int → Int → Res) : ∀ (n : Nat) (acc t : Int), 0 ≤ t → t ≤ v 7 0 7 → v 7 0 7 - t < n → 0 ≤ acc → acc ≤ 60 * t → lp_X7_partsHeldBy_4 0 a k n v acc t = k v (acc + sumD (fPH v a) (v 7 0 7) t) (v 7 0 7) := by
  intro n
  have hs := h.s
  unfold IS at hs
  have c7 := i7 h
  induction n with
  | zero => intro acc t h0 h1 h2; omega
  | succ n ih =>
    intro acc t h0 h1 h2 h3 h4
    unfold lp_X7_partsHeldBy_4
    simp only [c7]
    by_cases q : v 7 0 7 ≤ t
    · rw [if_pos q, sumD_e q]
      have : t = v 7 0 7 := by omega
      rw [this, Int.add_zero]
    · have x := ILx h (a := t) ⟨h0, by omega⟩
      have e3 : w32 (t + 1) = t + 1 := w32_i (by omega) (by omega)
      have hb := fPH_b (a := a) h t h0 (by omega)
      rw [if_neg q, sumD_s (by omega), e3]
      rw [chk_t (by omega), chk_t (by omega)]
      simp only [x]
      rw [chk_t (by omega)]
      by_cases c : v 2 t 3 = a
      · have hf : fPH v a t = _ := if_pos c
        rw [hf] at hb
        rw [if_pos c, w32_i (by omega) (by omega), ih _ _ (by omega) (by omega) (by omega) (by omega) (by omega), hf]
        congr 1
        omega
      · have hf : fPH v a t = _ := if_neg c
        rw [if_neg c]
        rw [ih _ _ (by omega) (by omega) (by omega) (by omega) (by omega), hf, Int.zero_add]
theorem wp_x7_ph (hI : Inv v) (h : Wp (k v (sumD (fPH v a) (v 7 0 7) 0) (v 7 0 7)) Q E) : Wp (lp_X7_partsHeldBy_4 0 a k 200 v 0 0) Q E := by
  have hs := hI.s
  unfold IS at hs
  rw [x7_ph hI k 200 0 0 (by omega) (by omega) (by omega) (by omega) (by omega), Int.zero_add]
  exact h
theorem fLP_b (h : Inv v) (s : Int) (h0 : 0 ≤ s) (h1 : s < v 7 0 7) : 0 ≤ fLP v a s ∧ fLP v a s ≤ 1 := by
  have hs := h.l s h0 h1
  skip
  unfold fLP
  split <;> omega
theorem x7_lp (h : Inv v) (k : V → Int → Int → Res) : ∀ (n : Nat) (acc t : Int), 0 ≤ t → t ≤ v 7 0 7 → v 7 0 7 - t < n → 0 ≤ acc → acc ≤ 1 * t → lp_X7_lotsWithParts_4 0 a k n v acc t = k v (acc + sumD (fLP v a) (v 7 0 7) t) (v 7 0 7) := by
  intro n
  have hs := h.s
  unfold IS at hs
  have c7 := i7 h
  induction n with
  | zero => intro acc t h0 h1 h2; omega
  | succ n ih =>
    intro acc t h0 h1 h2 h3 h4
    unfold lp_X7_lotsWithParts_4
    simp only [c7]
    by_cases q : v 7 0 7 ≤ t
    · rw [if_pos q, sumD_e q]
      have : t = v 7 0 7 := by omega
      rw [this, Int.add_zero]
    · have x := ILx h (a := t) ⟨h0, by omega⟩
      have e3 : w32 (t + 1) = t + 1 := w32_i (by omega) (by omega)
      have hb := fLP_b (a := a) h t h0 (by omega)
      rw [if_neg q, sumD_s (by omega), e3]
      rw [chk_t (by omega), chk_t (by omega)]
      simp only [x]
      rw [chk_t (by omega)]
      by_cases c : v 2 t 1 = a
      · by_cases d : v 2 t 4 ≤ 0
        · have hf : fLP v a t = 0 := if_neg (by omega)
          rw [if_pos c, if_pos d]
          rw [ih _ _ (by omega) (by omega) (by omega) (by omega) (by omega), hf, Int.zero_add]
        · have hf : fLP v a t = 1 := if_pos (by omega)
          rw [if_pos c, if_neg d]
          rw [w32_i (by omega) (by omega), ih _ _ (by omega) (by omega) (by omega) (by omega) (by omega), hf]
          congr 1
          omega
      · have hf : fLP v a t = 0 := if_neg (by omega)
        rw [if_neg c]
        rw [ih _ _ (by omega) (by omega) (by omega) (by omega) (by omega), hf, Int.zero_add]
theorem wp_x7_lp (hI : Inv v) (h : Wp (k v (sumD (fLP v a) (v 7 0 7) 0) (v 7 0 7)) Q E) : Wp (lp_X7_lotsWithParts_4 0 a k 200 v 0 0) Q E := by
  have hs := hI.s
  unfold IS at hs
  rw [x7_lp hI k 200 0 0 (by omega) (by omega) (by omega) (by omega) (by omega), Int.zero_add]
  exact h
theorem fOB_b (h : Inv v) (s : Int) (h0 : 0 ≤ s) (h1 : s < v 7 0 8) : 0 ≤ fOB v a s ∧ fOB v a s ≤ 100500000 := by
  have hs := h.n s h0 h1
  have hw := oweF_b h (a := s) ⟨h0, h1⟩
  unfold fOB
  split <;> omega
theorem x7_ob (h : Inv v) (k : V → Int → Int → Res) : ∀ (n : Nat) (acc t : Int), 0 ≤ t → t ≤ v 7 0 8 → v 7 0 8 - t < n → 0 ≤ acc → acc ≤ 100500000 * t → lp_X7_owedBy_4 0 a k n v acc t = k v (acc + sumD (fOB v a) (v 7 0 8) t) (v 7 0 8) := by
  intro n
  have hs := h.s
  unfold IS at hs
  have c7 := i7 h
  induction n with
  | zero => intro acc t h0 h1 h2; omega
  | succ n ih =>
    intro acc t h0 h1 h2 h3 h4
    unfold lp_X7_owedBy_4
    simp only [c7]
    by_cases q : v 7 0 8 ≤ t
    · rw [if_pos q, sumD_e q]
      have : t = v 7 0 8 := by omega
      rw [this, Int.add_zero]
    · have x := INx h (a := t) ⟨h0, by omega⟩
      have e3 : w32 (t + 1) = t + 1 := w32_i (by omega) (by omega)
      have hb := fOB_b (a := a) h t h0 (by omega)
      rw [if_neg q, sumD_s (by omega), e3]
      rw [chk_t (by omega), chk_t (by omega)]
      simp only [x]
      rw [chk_t (by omega)]
      by_cases c : v 1 t 1 = a
      · have hf : fOB v a t = _ := if_pos c
        rw [hf] at hb
        rw [if_pos c, x7_owed h ⟨h0, by omega⟩, rB_ok, w32_i (by omega) (by omega), ih _ _ (by omega) (by omega) (by omega) (by omega) (by omega), hf]
        congr 1
        omega
      · have hf : fOB v a t = _ := if_neg c
        rw [if_neg c]
        rw [ih _ _ (by omega) (by omega) (by omega) (by omega) (by omega), hf, Int.zero_add]
theorem wp_x7_ob (hI : Inv v) (h : Wp (k v (sumD (fOB v a) (v 7 0 8) 0) (v 7 0 8)) Q E) : Wp (lp_X7_owedBy_4 0 a k 200 v 0 0) Q E := by
  have hs := hI.s
  unfold IS at hs
  rw [x7_ob hI k 200 0 0 (by omega) (by omega) (by omega) (by omega) (by omega), Int.zero_add]
  exact h
theorem fOT_b (h : Inv v) (s : Int) (h0 : 0 ≤ s) (h1 : s < v 7 0 8) : 0 ≤ fOT v a s ∧ fOT v a s ≤ 100500000 := by
  have hs := h.n s h0 h1
  have hw := oweF_b h (a := s) ⟨h0, h1⟩
  unfold fOT
  split <;> omega
theorem x7_ot (h : Inv v) (k : V → Int → Int → Res) : ∀ (n : Nat) (acc t : Int), 0 ≤ t → t ≤ v 7 0 8 → v 7 0 8 - t < n → 0 ≤ acc → acc ≤ 100500000 * t → lp_X7_owedTo_4 0 a k n v acc t = k v (acc + sumD (fOT v a) (v 7 0 8) t) (v 7 0 8) := by
  intro n
  have hs := h.s
  unfold IS at hs
  have c7 := i7 h
  induction n with
  | zero => intro acc t h0 h1 h2; omega
  | succ n ih =>
    intro acc t h0 h1 h2 h3 h4
    unfold lp_X7_owedTo_4
    simp only [c7]
    by_cases q : v 7 0 8 ≤ t
    · rw [if_pos q, sumD_e q]
      have : t = v 7 0 8 := by omega
      rw [this, Int.add_zero]
    · have x := INx h (a := t) ⟨h0, by omega⟩
      have e3 : w32 (t + 1) = t + 1 := w32_i (by omega) (by omega)
      have hb := fOT_b (a := a) h t h0 (by omega)
      rw [if_neg q, sumD_s (by omega), e3]
      rw [chk_t (by omega), chk_t (by omega)]
      simp only [x]
      rw [chk_t (by omega)]
      by_cases c : v 1 t 6 = a
      · have hf : fOT v a t = _ := if_pos c
        rw [hf] at hb
        rw [if_pos c, x7_owed h ⟨h0, by omega⟩, rB_ok, w32_i (by omega) (by omega), ih _ _ (by omega) (by omega) (by omega) (by omega) (by omega), hf]
        congr 1
        omega
      · have hf : fOT v a t = _ := if_neg c
        rw [if_neg c]
        rw [ih _ _ (by omega) (by omega) (by omega) (by omega) (by omega), hf, Int.zero_add]
theorem wp_x7_ot (hI : Inv v) (h : Wp (k v (sumD (fOT v a) (v 7 0 8) 0) (v 7 0 8)) Q E) : Wp (lp_X7_owedTo_4 0 a k 200 v 0 0) Q E := by
  have hs := hI.s
  unfold IS at hs
  rw [x7_ot hI k 200 0 0 (by omega) (by omega) (by omega) (by omega) (by omega), Int.zero_add]
  exact h
theorem x7_wu (h : Inv v) (k : V → Int → Int → Res) : ∀ (n : Nat) (acc t : Int), 0 ≤ t → t ≤ v 7 0 7 → v 7 0 7 - t < n → ∃ z m, lp_X7_worthUnder_4 0 a k n v acc t = k v z m := by
  intro n
  have hs := h.s
  unfold IS at hs
  have c7 := i7 h
  induction n with
  | zero => intro acc t h0 h1 h2; omega
  | succ n ih =>
    intro acc t h0 h1 h2
    unfold lp_X7_worthUnder_4
    simp only [c7]
    by_cases q : v 7 0 7 ≤ t
    · exact ⟨acc, t, by rw [if_pos q]⟩
    · have x := ILx h (a := t) ⟨h0, by omega⟩
      have e3 : w32 (t + 1) = t + 1 := w32_i (by omega) (by omega)
      rw [if_neg q, e3]
      rw [chk_t (by omega), chk_t (by omega)]
      simp only [x]
      rw [chk_t (by omega)]
      by_cases c : v 2 t 5 = a
      · rw [if_pos c, x7_worth h ⟨h0, by omega⟩, rB_ok]
        exact ih _ _ (by omega) (by omega) (by omega)
      · rw [if_neg c]
        exact ih _ _ (by omega) (by omega) (by omega)
theorem wp_x7_wu (hI : Inv v) (h : ∀ z m, Wp (k v z m) Q E) : Wp (lp_X7_worthUnder_4 0 a k 200 v 0 0) Q E := by
  have hs := hI.s
  unfold IS at hs
  obtain ⟨z, m, e⟩ := x7_wu (a := a) hI k 200 0 0 (by omega) (by omega) (by omega)
  rw [e]
  exact h z m
theorem x7_wh (h : Inv v) (k : V → Int → Int → Res) : ∀ (n : Nat) (acc t : Int), 0 ≤ t → t ≤ v 7 0 7 → v 7 0 7 - t < n → ∃ z m, lp_X7_worthHeldBy_4 0 a k n v acc t = k v z m := by
  intro n
  have hs := h.s
  unfold IS at hs
  have c7 := i7 h
  induction n with
  | zero => intro acc t h0 h1 h2; omega
  | succ n ih =>
    intro acc t h0 h1 h2
    unfold lp_X7_worthHeldBy_4
    simp only [c7]
    by_cases q : v 7 0 7 ≤ t
    · exact ⟨acc, t, by rw [if_pos q]⟩
    · have x := ILx h (a := t) ⟨h0, by omega⟩
      have e3 : w32 (t + 1) = t + 1 := w32_i (by omega) (by omega)
      rw [if_neg q, e3]
      rw [chk_t (by omega), chk_t (by omega)]
      simp only [x]
      rw [chk_t (by omega)]
      by_cases c : v 2 t 3 = a
      · rw [if_pos c, x7_worth h ⟨h0, by omega⟩, rB_ok]
        exact ih _ _ (by omega) (by omega) (by omega)
      · rw [if_neg c]
        exact ih _ _ (by omega) (by omega) (by omega)
theorem wp_x7_wh (hI : Inv v) (h : ∀ z m, Wp (k v z m) Q E) : Wp (lp_X7_worthHeldBy_4 0 a k 200 v 0 0) Q E := by
  have hs := hI.s
  unfold IS at hs
  obtain ⟨z, m, e⟩ := x7_wh (a := a) hI k 200 0 0 (by omega) (by omega) (by omega)
  rw [e]
  exact h z m
end Lp

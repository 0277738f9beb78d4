/-! PURE 16: the loops that only read -/
def fWU (v : V) (a s : Int) : Int := if v 65 0 s = a then worF v s else 0
def fPH (v : V) (a s : Int) : Int := if v 63 0 s = a then v 64 0 s else 0
def fWH (v : V) (a s : Int) : Int := if v 63 0 s = a then worF v s else 0
def fLP (v : V) (a s : Int) : Int := if v 62 0 s = a ∧ ¬ v 64 0 s ≤ 0 then 1 else 0
def fOB (v : V) (a s : Int) : Int := if v 77 0 s = a then oweF v s else 0
def fOT (v : V) (a s : Int) : Int := if v 78 0 s = a then oweF v s else 0
section Lp
variable {v : V} {a i j z : Int} {K : Nat}
theorem fWU_b (h : Inv v) (s : Int) (h0 : 0 ≤ s) (h1 : s < v 8 0 21) : 0 ≤ fWU v a s ∧ fWU v a s ≤ 1000000 := by
  have hs := h.l s h0 h1
  have hw := worF_b h (a := s) ⟨h0, h1⟩
  unfold fWU
  split <;> omega
theorem fPH_b (h : Inv v) (s : Int) (h0 : 0 ≤ s) (h1 : s < v 8 0 21) : 0 ≤ fPH v a s ∧ fPH v a s ≤ 60 := by
  have hs := h.l s h0 h1
  unfold fPH
  split <;> omega
theorem fWH_b (h : Inv v) (s : Int) (h0 : 0 ≤ s) (h1 : s < v 8 0 21) : 0 ≤ fWH v a s ∧ fWH v a s ≤ 1000000 := by
  have hs := h.l s h0 h1
  have hw := worF_b h (a := s) ⟨h0, h1⟩
  unfold fWH
  split <;> omega
theorem fLP_b (h : Inv v) (s : Int) (h0 : 0 ≤ s) (h1 : s < v 8 0 21) : 0 ≤ fLP v a s ∧ fLP v a s ≤ 1 := by
  have hs := h.l s h0 h1
  unfold fLP
  split <;> omega
theorem fOB_b (h : Inv v) (s : Int) (h0 : 0 ≤ s) (h1 : s < v 8 0 36) : 0 ≤ fOB v a s ∧ fOB v a s ≤ 100500000 := by
  have hs := h.n s h0 h1
  have hw := oweF_b h (a := s) ⟨h0, h1⟩
  unfold fOB
  split <;> omega
theorem fOT_b (h : Inv v) (s : Int) (h0 : 0 ≤ s) (h1 : s < v 8 0 36) : 0 ≤ fOT v a s ∧ fOT v a s ≤ 100500000 := by
  have hs := h.n s h0 h1
  have hw := oweF_b h (a := s) ⟨h0, h1⟩
  unfold fOT
  split <;> omega
theorem x7_wu (h : Inv v) (k : V → Int → Int → Res) : ∀ (n : Nat) (acc t : Int), 0 ≤ t → t ≤ v 8 0 21 → v 8 0 21 - t < n → 0 ≤ acc → acc ≤ 1000000 * t → lp_X7_worthUnder_4 0 a k n v acc t = k v (acc + sumD (fWU v a) (v 8 0 21) t) (v 8 0 21) := by
  intro n
  have hs := h.s
  unfold IS at hs
  have c7 := i7 h
  have c8 := f8all h.f
  induction n with
  | zero => intro acc t h0 h1 h2; omega
  | succ n ih =>
    intro acc t h0 h1 h2 h3 h4
    unfold lp_X7_worthUnder_4
    simp only [c7]
    by_cases q : v 8 0 21 ≤ t
    · rw [if_pos q, sumD_e q]
      have : t = v 8 0 21 := by omega
      rw [this, Int.add_zero]
    · have x := ILx h (a := t) ⟨h0, by omega⟩
      have e3 : w32 (t + 1) = t + 1 := w32_i (by omega) (by omega)
      have hb := fWU_b (a := a) h t h0 (by omega)
      rw [if_neg q, sumD_s (by omega), e3]
      rw [chk_t (by omega), chk_t (by omega)]
      simp only [x]
      rw [chk_t (by omega)]
      by_cases c : v 65 0 t = a
      · have hf : fWU v a t = _ := if_pos c
        rw [hf] at hb
        rw [if_pos c, x7_worth h ⟨h0, by omega⟩, rB_ok]
        rw [w32_i (by omega) (by omega), ih _ _ (by omega) (by omega) (by omega) (by omega) (by omega), hf]
        congr 1
        omega
      · have hf : fWU v a t = _ := if_neg c
        rw [if_neg c]
        rw [ih _ _ (by omega) (by omega) (by omega) (by omega) (by omega), hf, Int.zero_add]
theorem x7_ph (h : Inv v) (k : V → Int → Int → Res) : ∀ (n : Nat) (acc t : Int), 0 ≤ t → t ≤ v 8 0 21 → v 8 0 21 - t < n → 0 ≤ acc → acc ≤ 60 * t → lp_X7_partsHeldBy_4 0 a k n v acc t = k v (acc + sumD (fPH v a) (v 8 0 21) t) (v 8 0 21) := by
  intro n
  have hs := h.s
  unfold IS at hs
  have c7 := i7 h
  have c8 := f8all h.f
  induction n with
  | zero => intro acc t h0 h1 h2; omega
  | succ n ih =>
    intro acc t h0 h1 h2 h3 h4
    unfold lp_X7_partsHeldBy_4
    simp only [c7]
    by_cases q : v 8 0 21 ≤ t
    · rw [if_pos q, sumD_e q]
      have : t = v 8 0 21 := by omega
      rw [this, Int.add_zero]
    · have x := ILx h (a := t) ⟨h0, by omega⟩
      have e3 : w32 (t + 1) = t + 1 := w32_i (by omega) (by omega)
      have hb := fPH_b (a := a) h t h0 (by omega)
      rw [if_neg q, sumD_s (by omega), e3]
      rw [chk_t (by omega), chk_t (by omega)]
      simp only [x]
      rw [chk_t (by omega)]
      by_cases c : v 63 0 t = a
      · have hf : fPH v a t = _ := if_pos c
        rw [hf] at hb
        rw [if_pos c]
        rw [w32_i (by omega) (by omega), ih _ _ (by omega) (by omega) (by omega) (by omega) (by omega), hf]
        congr 1
        omega
      · have hf : fPH v a t = _ := if_neg c
        rw [if_neg c]
        rw [ih _ _ (by omega) (by omega) (by omega) (by omega) (by omega), hf, Int.zero_add]
theorem x7_wh (h : Inv v) (k : V → Int → Int → Res) : ∀ (n : Nat) (acc t : Int), 0 ≤ t → t ≤ v 8 0 21 → v 8 0 21 - t < n → 0 ≤ acc → acc ≤ 1000000 * t → lp_X7_worthHeldBy_4 0 a k n v acc t = k v (acc + sumD (fWH v a) (v 8 0 21) t) (v 8 0 21) := by
  intro n
  have hs := h.s
  unfold IS at hs
  have c7 := i7 h
  have c8 := f8all h.f
  induction n with
  | zero => intro acc t h0 h1 h2; omega
  | succ n ih =>
    intro acc t h0 h1 h2 h3 h4
    unfold lp_X7_worthHeldBy_4
    simp only [c7]
    by_cases q : v 8 0 21 ≤ t
    · rw [if_pos q, sumD_e q]
      have : t = v 8 0 21 := by omega
      rw [this, Int.add_zero]
    · have x := ILx h (a := t) ⟨h0, by omega⟩
      have e3 : w32 (t + 1) = t + 1 := w32_i (by omega) (by omega)
      have hb := fWH_b (a := a) h t h0 (by omega)
      rw [if_neg q, sumD_s (by omega), e3]
      rw [chk_t (by omega), chk_t (by omega)]
      simp only [x]
      rw [chk_t (by omega)]
      by_cases c : v 63 0 t = a
      · have hf : fWH v a t = _ := if_pos c
        rw [hf] at hb
        rw [if_pos c, x7_worth h ⟨h0, by omega⟩, rB_ok]
        rw [w32_i (by omega) (by omega), ih _ _ (by omega) (by omega) (by omega) (by omega) (by omega), hf]
        congr 1
        omega
      · have hf : fWH v a t = _ := if_neg c
        rw [if_neg c]
        rw [ih _ _ (by omega) (by omega) (by omega) (by omega) (by omega), hf, Int.zero_add]
theorem x7_ob (h : Inv v) (k : V → Int → Int → Res) : ∀ (n : Nat) (acc t : Int), 0 ≤ t → t ≤ v 8 0 36 → v 8 0 36 - t < n → 0 ≤ acc → acc ≤ 100500000 * t → lp_X7_owedBy_4 0 a k n v acc t = k v (acc + sumD (fOB v a) (v 8 0 36) t) (v 8 0 36) := by
  intro n
  have hs := h.s
  unfold IS at hs
  have c7 := i7 h
  have c8 := f8all h.f
  induction n with
  | zero => intro acc t h0 h1 h2; omega
  | succ n ih =>
    intro acc t h0 h1 h2 h3 h4
    unfold lp_X7_owedBy_4
    simp only [c7]
    by_cases q : v 8 0 36 ≤ t
    · rw [if_pos q, sumD_e q]
      have : t = v 8 0 36 := by omega
      rw [this, Int.add_zero]
    · have x := INx h (a := t) ⟨h0, by omega⟩
      have e3 : w32 (t + 1) = t + 1 := w32_i (by omega) (by omega)
      have hb := fOB_b (a := a) h t h0 (by omega)
      rw [if_neg q, sumD_s (by omega), e3]
      rw [chk_t (by omega), chk_t (by omega)]
      simp only [x]
      rw [chk_t (by omega)]
      by_cases c : v 77 0 t = a
      · have hf : fOB v a t = _ := if_pos c
        rw [hf] at hb
        rw [if_pos c, x7_owed h ⟨h0, by omega⟩, rB_ok]
        rw [w32_i (by omega) (by omega), ih _ _ (by omega) (by omega) (by omega) (by omega) (by omega), hf]
        congr 1
        omega
      · have hf : fOB v a t = _ := if_neg c
        rw [if_neg c]
        rw [ih _ _ (by omega) (by omega) (by omega) (by omega) (by omega), hf, Int.zero_add]
theorem x7_ot (h : Inv v) (k : V → Int → Int → Res) : ∀ (n : Nat) (acc t : Int), 0 ≤ t → t ≤ v 8 0 36 → v 8 0 36 - t < n → 0 ≤ acc → acc ≤ 100500000 * t → lp_X7_owedTo_4 0 a k n v acc t = k v (acc + sumD (fOT v a) (v 8 0 36) t) (v 8 0 36) := by
  intro n
  have hs := h.s
  unfold IS at hs
  have c7 := i7 h
  have c8 := f8all h.f
  induction n with
  | zero => intro acc t h0 h1 h2; omega
  | succ n ih =>
    intro acc t h0 h1 h2 h3 h4
    unfold lp_X7_owedTo_4
    simp only [c7]
    by_cases q : v 8 0 36 ≤ t
    · rw [if_pos q, sumD_e q]
      have : t = v 8 0 36 := by omega
      rw [this, Int.add_zero]
    · have x := INx h (a := t) ⟨h0, by omega⟩
      have e3 : w32 (t + 1) = t + 1 := w32_i (by omega) (by omega)
      have hb := fOT_b (a := a) h t h0 (by omega)
      rw [if_neg q, sumD_s (by omega), e3]
      rw [chk_t (by omega), chk_t (by omega)]
      simp only [x]
      rw [chk_t (by omega)]
      by_cases c : v 78 0 t = a
      · have hf : fOT v a t = _ := if_pos c
        rw [hf] at hb
        rw [if_pos c, x7_owed h ⟨h0, by omega⟩, rB_ok]
        rw [w32_i (by omega) (by omega), ih _ _ (by omega) (by omega) (by omega) (by omega) (by omega), hf]
        congr 1
        omega
      · have hf : fOT v a t = _ := if_neg c
        rw [if_neg c]
        rw [ih _ _ (by omega) (by omega) (by omega) (by omega) (by omega), hf, Int.zero_add]
theorem x7_lp (h : Inv v) (k : V → Int → Int → Res) : ∀ (n : Nat) (acc t : Int), 0 ≤ t → t ≤ v 8 0 21 → v 8 0 21 - t < n → 0 ≤ acc → acc ≤ 1 * t → lp_X7_lotsWithParts_4 0 a k n v acc t = k v (acc + sumD (fLP v a) (v 8 0 21) t) (v 8 0 21) := by
  intro n
  have hs := h.s
  unfold IS at hs
  have c7 := i7 h
  have c8 := f8all h.f
  induction n with
  | zero => intro acc t h0 h1 h2; omega
  | succ n ih =>
    intro acc t h0 h1 h2 h3 h4
    unfold lp_X7_lotsWithParts_4
    simp only [c7]
    by_cases q : v 8 0 21 ≤ t
    · rw [if_pos q, sumD_e q]
      have : t = v 8 0 21 := by omega
      rw [this, Int.add_zero]
    · have x := ILx h (a := t) ⟨h0, by omega⟩
      have e3 : w32 (t + 1) = t + 1 := w32_i (by omega) (by omega)
      have hb := fLP_b (a := a) h t h0 (by omega)
      rw [if_neg q, sumD_s (by omega), e3]
      rw [chk_t (by omega), chk_t (by omega)]
      simp only [x]
      rw [chk_t (by omega)]
      by_cases c : v 62 0 t = a
      · by_cases d : v 64 0 t ≤ 0
        · have hf : fLP v a t = 0 := if_neg (by omega)
          rw [if_pos c, if_pos d]
          rw [ih _ _ (by omega) (by omega) (by omega) (by omega) (by omega), hf, Int.zero_add]
        · have hf : fLP v a t = 1 := if_pos (by omega)
          rw [if_pos c, if_neg d]
          rw [w32_i (by omega) (by omega), ih _ _ (by omega) (by omega) (by omega) (by omega) (by omega), hf]
          congr 1
          omega
      · have hf : fLP v a t = 0 := if_neg (by omega)
        rw [if_neg c]
        rw [ih _ _ (by omega) (by omega) (by omega) (by omega) (by omega), hf, Int.zero_add]
theorem x8_wu (h : Inv v) (k : V → Int → Int → Res) : ∀ (n : Nat) (acc t : Int), 0 ≤ t → t ≤ v 8 0 21 → v 8 0 21 - t < n → 0 ≤ acc → acc ≤ 1000000 * t → lp_X8_canSeize_5 0 a k n v acc t = k v (acc + sumD (fWU v a) (v 8 0 21) t) (v 8 0 21) := by
  intro n
  have hs := h.s
  unfold IS at hs
  have c7 := i7 h
  have c8 := f8all h.f
  induction n with
  | zero => intro acc t h0 h1 h2; omega
  | succ n ih =>
    intro acc t h0 h1 h2 h3 h4
    unfold lp_X8_canSeize_5
    simp only [c8]
    by_cases q : v 8 0 21 ≤ t
    · rw [if_pos q, sumD_e q]
      have : t = v 8 0 21 := by omega
      rw [this, Int.add_zero]
    · have x := ILx h (a := t) ⟨h0, by omega⟩
      have e3 : w32 (t + 1) = t + 1 := w32_i (by omega) (by omega)
      have hb := fWU_b (a := a) h t h0 (by omega)
      rw [if_neg q, sumD_s (by omega), e3]
      rw [chk_t (by omega), chk_t (by omega)]
      by_cases c : v 65 0 t = a
      · have hf : fWU v a t = _ := if_pos c
        rw [hf] at hb
        rw [if_neg (by simpa using c)]
        rw [x8_worth h ⟨h0, by omega⟩, rB_ok, w64_i (by omega) (by omega), ih _ _ (by omega) (by omega) (by omega) (by omega) (by omega), hf]
        congr 1
        omega
      · have hf : fWU v a t = _ := if_neg c
        rw [if_pos c, w64_i (by omega) (by omega)]
        rw [ih _ _ (by omega) (by omega) (by omega) (by omega) (by omega), hf, Int.zero_add, Int.add_zero]
theorem x8_ob (h : Inv v) (k : V → Int → Int → Res) : ∀ (n : Nat) (acc t : Int), 0 ≤ t → t ≤ v 8 0 36 → v 8 0 36 - t < n → 0 ≤ acc → acc ≤ 100500000 * t → lp_X8_owes_5 0 a 0 k n v acc t = k v (acc + sumD (fOB v a) (v 8 0 36) t) (v 8 0 36) := by
  intro n
  have hs := h.s
  unfold IS at hs
  have c7 := i7 h
  have c8 := f8all h.f
  induction n with
  | zero => intro acc t h0 h1 h2; omega
  | succ n ih =>
    intro acc t h0 h1 h2 h3 h4
    unfold lp_X8_owes_5
    simp only [c8]
    by_cases q : v 8 0 36 ≤ t
    · rw [if_pos q, sumD_e q]
      have : t = v 8 0 36 := by omega
      rw [this, Int.add_zero]
    · have x := INx h (a := t) ⟨h0, by omega⟩
      have e3 : w32 (t + 1) = t + 1 := w32_i (by omega) (by omega)
      have hb := fOB_b (a := a) h t h0 (by omega)
      rw [if_neg q, sumD_s (by omega), e3]
      rw [if_pos trivial]
      rw [chk_t (by omega), chk_t (by omega)]
      by_cases c : v 77 0 t = a
      · have hf : fOB v a t = _ := if_pos c
        rw [hf] at hb
        rw [if_neg (by simpa using c)]
        rw [x8_owed h ⟨h0, by omega⟩, rB_ok, w64_i (by omega) (by omega), ih _ _ (by omega) (by omega) (by omega) (by omega) (by omega), hf]
        congr 1
        omega
      · have hf : fOB v a t = _ := if_neg c
        rw [if_pos c, w64_i (by omega) (by omega)]
        rw [ih _ _ (by omega) (by omega) (by omega) (by omega) (by omega), hf, Int.zero_add, Int.add_zero]
theorem x8_ot (h : Inv v) (k : V → Int → Int → Res) : ∀ (n : Nat) (acc t : Int), 0 ≤ t → t ≤ v 8 0 36 → v 8 0 36 - t < n → 0 ≤ acc → acc ≤ 100500000 * t → lp_X8_owes_5 0 a 1 k n v acc t = k v (acc + sumD (fOT v a) (v 8 0 36) t) (v 8 0 36) := by
  intro n
  have hs := h.s
  unfold IS at hs
  have c7 := i7 h
  have c8 := f8all h.f
  induction n with
  | zero => intro acc t h0 h1 h2; omega
  | succ n ih =>
    intro acc t h0 h1 h2 h3 h4
    unfold lp_X8_owes_5
    simp only [c8]
    by_cases q : v 8 0 36 ≤ t
    · rw [if_pos q, sumD_e q]
      have : t = v 8 0 36 := by omega
      rw [this, Int.add_zero]
    · have x := INx h (a := t) ⟨h0, by omega⟩
      have e3 : w32 (t + 1) = t + 1 := w32_i (by omega) (by omega)
      have hb := fOT_b (a := a) h t h0 (by omega)
      rw [if_neg q, sumD_s (by omega), e3]
      rw [if_neg (by decide)]
      rw [chk_t (by omega), chk_t (by omega)]
      by_cases c : v 78 0 t = a
      · have hf : fOT v a t = _ := if_pos c
        rw [hf] at hb
        rw [if_neg (by simpa using c)]
        rw [x8_owed h ⟨h0, by omega⟩, rB_ok, w64_i (by omega) (by omega), ih _ _ (by omega) (by omega) (by omega) (by omega) (by omega), hf]
        congr 1
        omega
      · have hf : fOT v a t = _ := if_neg c
        rw [if_pos c, w64_i (by omega) (by omega)]
        rw [ih _ _ (by omega) (by omega) (by omega) (by omega) (by omega), hf, Int.zero_add, Int.add_zero]
theorem x8_ph (h : Inv v) (k : V → Int → Int → Res) : ∀ (n : Nat) (acc t : Int), 0 ≤ t → t ≤ v 8 0 21 → v 8 0 21 - t < n → 0 ≤ acc → acc ≤ 60 * t → lp_X8_held_5 0 a 0 k n v acc t = k v (acc + sumD (fPH v a) (v 8 0 21) t) (v 8 0 21) := by
  intro n
  have hs := h.s
  unfold IS at hs
  have c7 := i7 h
  have c8 := f8all h.f
  induction n with
  | zero => intro acc t h0 h1 h2; omega
  | succ n ih =>
    intro acc t h0 h1 h2 h3 h4
    unfold lp_X8_held_5
    simp only [c8]
    by_cases q : v 8 0 21 ≤ t
    · rw [if_pos q, sumD_e q]
      have : t = v 8 0 21 := by omega
      rw [this, Int.add_zero]
    · have x := ILx h (a := t) ⟨h0, by omega⟩
      have e3 : w32 (t + 1) = t + 1 := w32_i (by omega) (by omega)
      have hb := fPH_b (a := a) h t h0 (by omega)
      rw [if_neg q, sumD_s (by omega), e3]
      rw [chk_t (by omega), chk_t (by omega)]
      by_cases c : v 63 0 t = a
      · have hf : fPH v a t = _ := if_pos c
        rw [hf] at hb
        rw [if_pos c]
        rw [if_pos trivial, chk_t (by omega)]
        rw [w32_i (by omega) (by omega), ih _ _ (by omega) (by omega) (by omega) (by omega) (by omega), hf]
        congr 1
        omega
      · have hf : fPH v a t = _ := if_neg c
        rw [if_neg c, w32_i (by omega) (by omega)]
        rw [ih _ _ (by omega) (by omega) (by omega) (by omega) (by omega), hf, Int.zero_add, Int.add_zero]
theorem x8_wh (h : Inv v) (k : V → Int → Int → Res) : ∀ (n : Nat) (acc t : Int), 0 ≤ t → t ≤ v 8 0 21 → v 8 0 21 - t < n → 0 ≤ acc → acc ≤ 1000000 * t → lp_X8_held_5 0 a 1 k n v acc t = k v (acc + sumD (fWH v a) (v 8 0 21) t) (v 8 0 21) := by
  intro n
  have hs := h.s
  unfold IS at hs
  have c7 := i7 h
  have c8 := f8all h.f
  induction n with
  | zero => intro acc t h0 h1 h2; omega
  | succ n ih =>
    intro acc t h0 h1 h2 h3 h4
    unfold lp_X8_held_5
    simp only [c8]
    by_cases q : v 8 0 21 ≤ t
    · rw [if_pos q, sumD_e q]
      have : t = v 8 0 21 := by omega
      rw [this, Int.add_zero]
    · have x := ILx h (a := t) ⟨h0, by omega⟩
      have e3 : w32 (t + 1) = t + 1 := w32_i (by omega) (by omega)
      have hb := fWH_b (a := a) h t h0 (by omega)
      rw [if_neg q, sumD_s (by omega), e3]
      rw [chk_t (by omega), chk_t (by omega)]
      by_cases c : v 63 0 t = a
      · have hf : fWH v a t = _ := if_pos c
        rw [hf] at hb
        rw [if_pos c]
        rw [if_neg (by decide)]
        rw [x8_worth h ⟨h0, by omega⟩, rB_ok, w32_i (by omega) (by omega), ih _ _ (by omega) (by omega) (by omega) (by omega) (by omega), hf]
        congr 1
        omega
      · have hf : fWH v a t = _ := if_neg c
        rw [if_neg c, w32_i (by omega) (by omega)]
        rw [ih _ _ (by omega) (by omega) (by omega) (by omega) (by omega), hf, Int.zero_add, Int.add_zero]
theorem x8_lp (h : Inv v) (k : V → Int → Int → Res) : ∀ (n : Nat) (acc t : Int), 0 ≤ t → t ≤ v 8 0 21 → v 8 0 21 - t < n → 0 ≤ acc → acc ≤ 1 * t → lp_X8_ofWork_86 0 a z k n v acc t = k v (acc + sumD (fLP v a) (v 8 0 21) t) (v 8 0 21) := by
  intro n
  have hs := h.s
  unfold IS at hs
  have c7 := i7 h
  have c8 := f8all h.f
  induction n with
  | zero => intro acc t h0 h1 h2; omega
  | succ n ih =>
    intro acc t h0 h1 h2 h3 h4
    unfold lp_X8_ofWork_86
    simp only [c8]
    by_cases q : v 8 0 21 ≤ t
    · rw [if_pos q, sumD_e q]
      have : t = v 8 0 21 := by omega
      rw [this, Int.add_zero]
    · have x := ILx h (a := t) ⟨h0, by omega⟩
      have e3 : w32 (t + 1) = t + 1 := w32_i (by omega) (by omega)
      have hb := fLP_b (a := a) h t h0 (by omega)
      rw [if_neg q, sumD_s (by omega), e3]
      rw [chk_t (by omega), chk_t (by omega)]
      by_cases c : v 62 0 t = a
      · rw [if_neg (by simpa using c), chk_t (by omega)]
        by_cases d : v 64 0 t ≤ 0
        · have hf : fLP v a t = 0 := if_neg (by omega)
          rw [if_pos d, w32_i (by omega) (by omega)]
          rw [ih _ _ (by omega) (by omega) (by omega) (by omega) (by omega), hf, Int.zero_add, Int.add_zero]
        · have hf : fLP v a t = 1 := if_pos (by omega)
          rw [if_neg d]
          rw [w32_i (by omega) (by omega), ih _ _ (by omega) (by omega) (by omega) (by omega) (by omega), hf]
          congr 1
          omega
      · have hf : fLP v a t = 0 := if_neg (by omega)
        rw [if_pos c, w32_i (by omega) (by omega)]
        rw [ih _ _ (by omega) (by omega) (by omega) (by omega) (by omega), hf, Int.zero_add, Int.add_zero]
end Lp

/-! PURE 13: doubt -/
def lst (X D : Int → Int) (i lim e : Int) : Nat → Int
  | 0 => -1
  | n + 1 => if X (50 * i + n) = e ∧ ¬ lim < D (50 * i + n) then (n : Int) else lst X D i lim e n
def con (X D R wt : Int → Int) (i lim W e : Int) : Int := if lst X D i lim e W.toNat = -1 then 0 else if R (50 * i + lst X D i lim e W.toNat) = 0 then wt e else - wt e
def dbt (X D R wt : Int → Int) (i lim W P : Int) : Int := sumD (con X D R wt i lim W) P 0
section Dbt
variable {X D R wt f : Int → Int} {i lim e W P N t B : Int}
theorem sumR_b2 (n : Nat) : ∀ t : Int, (∀ s, t ≤ s → s < t + n → -B ≤ f s ∧ f s ≤ B) → -(n * B) ≤ sumR f n t ∧ sumR f n t ≤ n * B := by
  induction n with
  | zero => intro t h; simp [sumR]
  | succ n ih =>
    intro t h
    have h1 := ih (t + 1) (fun s a b => h s (by omega) (by omega))
    have h2 := h t (by omega) (by omega)
    simp only [sumR]
    rw [show ((n + 1 : Nat) : Int) * B = n * B + B by rw [Int.natCast_add, Int.add_mul]; simp]
    omega
theorem sumD_b2 (ht : t ≤ N) (h : ∀ s, t ≤ s → s < N → -B ≤ f s ∧ f s ≤ B) : -((N - t) * B) ≤ sumD f N t ∧ sumD f N t ≤ (N - t) * B := by
  have h1 := sumR_b2 (f := f) (B := B) (N - t).toNat t (fun s a b => h s a (by omega))
  rw [show (((N - t).toNat : Nat) : Int) = N - t by omega] at h1
  exact h1
theorem lst_rng (n : Nat) : lst X D i lim e n = -1 ∨ (0 ≤ lst X D i lim e n ∧ lst X D i lim e n < n) := by
  induction n with
  | zero => exact Or.inl rfl
  | succ n ih =>
    simp only [lst]
    split
    · right; omega
    · omega
theorem lst_none (n : Nat) : lst X D i lim e n = -1 ↔ ∀ k : Int, 0 ≤ k → k < n → ¬ (X (50 * i + k) = e ∧ ¬ lim < D (50 * i + k)) := by
  induction n with
  | zero =>
    constructor
    · intro _ k h1 h2; omega
    · intro _; rfl
  | succ n ih =>
    simp only [lst]
    constructor
    · intro h k h1 h2
      split at h
      · omega
      · rename_i hn
        by_cases q : k = n
        · subst q; exact hn
        · exact ih.mp h k h1 (by omega)
    · intro h
      rw [if_neg (h n (by omega) (by omega))]
      exact ih.mpr (fun k a b => h k a (by omega))
theorem lst_top (n : Nat) : ∀ k : Int, 0 ≤ k → k < n → (X (50 * i + k) = e ∧ ¬ lim < D (50 * i + k)) → (∀ j : Int, k < j → j < n → ¬ (X (50 * i + j) = e ∧ ¬ lim < D (50 * i + j))) → lst X D i lim e n = k := by
  induction n with
  | zero => intro k h1 h2; omega
  | succ n ih =>
    intro k h1 h2 h3 h4
    simp only [lst]
    by_cases q : k = n
    · subst q
      rw [if_pos h3]
    · rw [if_neg (h4 n (by omega) (by omega))]
      exact ih k h1 (by omega) h3 (fun j a b => h4 j a (by omega))
theorem con_b (hw : 0 ≤ wt e ∧ wt e ≤ 9) : -9 ≤ con X D R wt i lim W e ∧ con X D R wt i lim W e ≤ 9 := by
  unfold con
  split
  · omega
  · split <;> omega
theorem dbt_b (hP : 0 ≤ P ∧ P ≤ 10) (hw : ∀ e, 0 ≤ e → e < P → 0 ≤ wt e ∧ wt e ≤ 9) : -90 ≤ dbt X D R wt i lim W P ∧ dbt X D R wt i lim W P ≤ 90 := by
  have h := sumD_b2 (f := con X D R wt i lim W) (N := P) (t := 0) (B := 9) hP.1 (fun s a b => con_b (hw s a b))
  unfold dbt
  omega
end Dbt
section M8
variable {v : V} {i lim e l3 : Int}
/-- the model's last word of one expert -/
theorem m8_last (hF : F8 v) (hi : 0 ≤ i ∧ i < 12) (hW : 0 ≤ v 57 0 i ∧ v 57 0 i ≤ 50) (k : V → Int → Int → Res) : ∀ (n : Nat) (l5 t : Int), 0 ≤ t → t ≤ v 57 0 i → v 57 0 i - t < n → l5 = (if lst (v 58 0) (v 59 0) i lim e t.toNat = -1 then -1 else 50 * i + lst (v 58 0) (v 59 0) i lim e t.toNat) → lp_X8_doubtOn_20 0 i lim l3 e k n v l5 t = k v (if lst (v 58 0) (v 59 0) i lim e (v 57 0 i).toNat = -1 then -1 else 50 * i + lst (v 58 0) (v 59 0) i lim e (v 57 0 i).toNat) (v 57 0 i) := by
  intro n
  induction n with
  | zero => intro l5 t h0 h1 h2; omega
  | succ n ih =>
    intro l5 t h0 h1 h2 h3
    unfold lp_X8_doubtOn_20
    have c := f8all hF
    simp only [c]
    rw [chk_t (by omega), chk_t (by omega)]
    by_cases q : v 57 0 i ≤ t
    · rw [if_pos q]
      have : t = v 57 0 i := by omega
      rw [h3, this]
    · have e1 : w32 (50 * i) = 50 * i := w32_i (by omega) (by omega)
      have e2 : w32 (50 * i + t) = 50 * i + t := w32_i (by omega) (by omega)
      have e3 : w32 (t + 1) = t + 1 := w32_i (by omega) (by omega)
      have e4 : (t + 1).toNat = t.toNat + 1 := by omega
      have e5 : ((t.toNat : Nat) : Int) = t := by omega
      have es : lst (v 58 0) (v 59 0) i lim e (t + 1).toNat = if v 58 0 (50 * i + t) = e ∧ ¬ lim < v 59 0 (50 * i + t) then t else lst (v 58 0) (v 59 0) i lim e t.toNat := by
        rw [e4]
        simp only [lst]
        rw [e5]
      rw [if_neg q, e1, e2, e3, chk_t (by omega), chk_t (by omega)]
      by_cases m : v 58 0 (50 * i + t) = e
      · rw [if_neg (by simpa using m), chk_t (by omega)]
        by_cases m2 : lim < v 59 0 (50 * i + t)
        · rw [if_pos m2]
          refine ih l5 (t + 1) (by omega) (by omega) (by omega) ?_
          rw [if_neg (by omega)] at es
          rw [es]
          exact h3
        · rw [if_neg m2]
          refine ih _ (t + 1) (by omega) (by omega) (by omega) ?_
          rw [if_pos ⟨m, m2⟩] at es
          rw [es, if_neg (by omega)]
      · rw [if_pos m]
        refine ih l5 (t + 1) (by omega) (by omega) (by omega) ?_
        rw [if_neg (fun hh => m hh.1)] at es
        rw [es]
        exact h3
theorem m8_doubt (hF : F8 v) (hi : 0 ≤ i ∧ i < 12) (hW : 0 ≤ v 57 0 i ∧ v 57 0 i ≤ 50) (hP : 0 ≤ v 8 0 2 ∧ v 8 0 2 ≤ 10) (hw : ∀ e, 0 ≤ e → e < v 8 0 2 → 0 ≤ v 46 0 e ∧ v 46 0 e ≤ 9) (k : V → Int → Int → Res) : ∀ (n : Nat) (acc t : Int), 0 ≤ t → t ≤ v 8 0 2 → v 8 0 2 - t < n → -(9 * t) ≤ acc → acc ≤ 9 * t → lp_X8_doubtOn_5 0 i lim k n v acc t = k v (acc + sumD (con (v 58 0) (v 59 0) (v 60 0) (v 46 0) i lim (v 57 0 i)) (v 8 0 2) t) (v 8 0 2) := by
  intro n
  induction n with
  | zero => intro acc t h0 h1 h2; omega
  | succ n ih =>
    intro acc t h0 h1 h2 h3 h4
    unfold lp_X8_doubtOn_5
    by_cases q : v 8 0 2 ≤ t
    · rw [if_pos q, sumD_e q]
      have : t = v 8 0 2 := by omega
      rw [this, Int.add_zero]
    · have e3 : w32 (t + 1) = t + 1 := w32_i (by omega) (by omega)
      have c := f8all hF
      have hwt := hw t h0 (by omega)
      have hc := con_b (X := v 58 0) (D := v 59 0) (R := v 60 0) (wt := v 46 0) (i := i) (lim := lim) (W := v 57 0 i) hwt
      have hr := lst_rng (X := v 58 0) (D := v 59 0) (i := i) (lim := lim) (e := t) (v 57 0 i).toNat
      rw [if_neg q, m8_last hF hi hW _ 200 (-1) 0 (by omega) (by omega) (by omega) (by rfl), sumD_s (by omega)]
      unfold con at hc ⊢
      by_cases g : lst (v 58 0) (v 59 0) i lim t (v 57 0 i).toNat = -1
      · rw [if_pos g] at hc ⊢
        rw [if_neg (by omega), if_pos g, w32_i (by omega) (by omega), e3, ih _ _ (by omega) (by omega) (by omega) (by omega) (by omega)]
        unfold con
        congr 1
        omega
      · rw [if_neg g] at hc ⊢
        rw [if_neg g]
        rw [if_pos (by omega)]
        simp only [c]
        rw [chk_t (by omega), chk_t (by omega)]
        by_cases r : v 60 0 (50 * i + lst (v 58 0) (v 59 0) i lim t (v 57 0 i).toNat) = 0
        · rw [if_pos r] at hc ⊢
          rw [if_pos r, chk_t (by omega), chk_t (by omega), w32_i (by omega) (by omega), e3, ih _ _ (by omega) (by omega) (by omega) (by omega) (by omega)]
          unfold con
          congr 1
          omega
        · rw [if_neg r] at hc ⊢
          rw [if_neg r, chk_t (by omega), chk_t (by omega), w32_i (z := -(v 46 0 t)) (by omega) (by omega), w32_i (by omega) (by omega), e3, ih _ _ (by omega) (by omega) (by omega) (by omega) (by omega)]
          unfold con
          congr 1
          omega
theorem x8_doubt (hF : F8 v) (hi : 0 ≤ i ∧ i < 12) (hW : 0 ≤ v 57 0 i ∧ v 57 0 i ≤ 50) (hP : 0 ≤ v 8 0 2 ∧ v 8 0 2 ≤ 10) (hw : ∀ e, 0 ≤ e → e < v 8 0 2 → 0 ≤ v 46 0 e ∧ v 46 0 e ≤ 9) : sp_X8_doubtOn 0 i lim v = rOk (dbt (v 58 0) (v 59 0) (v 60 0) (v 46 0) i lim (v 57 0 i) (v 8 0 2)) v := by
  unfold sp_X8_doubtOn
  rw [m8_doubt hF hi hW hP hw _ 200 0 0 (by omega) (by omega) (by omega) (by omega) (by omega)]
  unfold dbt
  rw [Int.zero_add]
end M8
section M7
variable {v : V} {i lim : Int}
/-- what the class has heard: the bit of e is set when a word from t on is e's -/
def hrd (X D : Int → Int) (i lim W t h : Int) : Prop := 0 ≤ h ∧ h < 1024 ∧ ∀ e : Int, 0 ≤ e → e < 10 → (and32 h (shl32 1 e) = 0 ↔ ∀ j : Int, t ≤ j → j < W → ¬ (X (50 * i + j) = e ∧ ¬ lim < D (50 * i + j)))
def msk (h : Int) (f : Int → Int) (e : Int) : Int := if and32 h (shl32 1 e) = 0 then 0 else f e
theorem m7_doubt (hI : Inv v) (hi : 0 ≤ i ∧ i < v 8 0 9) (k : V → Int → Int → Int → Res) : ∀ (n : Nat) (acc h t : Int), 0 ≤ t → t ≤ v 57 0 i → t < n → hrd (v 58 0) (v 59 0) i lim (v 57 0 i) t h → acc = sumD (msk h (con (v 58 0) (v 59 0) (v 60 0) (v 46 0) i lim (v 57 0 i))) (v 8 0 2) 0 → ∃ h', lp_X6_doubtOn_12 i lim k n v acc h (t - 1) = k v (dbt (v 58 0) (v 59 0) (v 60 0) (v 46 0) i lim (v 57 0 i) (v 8 0 2)) h' (-1) := by
  intro n
  have hs := hI.s
  unfold IS at hs
  have hw := hI.w i hi.1 hi.2
  induction n with
  | zero => intro acc h t h0 h1 h2; omega
  | succ n ih =>
    intro acc h t h0 h1 h2 hh ha
    unfold lp_X6_doubtOn_12
    have hbb : ∀ e, 0 ≤ e → e < v 8 0 2 → -9 ≤ msk h (con (v 58 0) (v 59 0) (v 60 0) (v 46 0) i lim (v 57 0 i)) e ∧ msk h (con (v 58 0) (v 59 0) (v 60 0) (v 46 0) i lim (v 57 0 i)) e ≤ 9 := by
      intro e g0 g1
      have hp := hI.p e g0 g1
      unfold msk
      split
      · omega
      · exact con_b (by omega)
    have hab := sumD_b2 (B := 9) (N := v 8 0 2) (t := 0) (by omega) hbb
    rw [← ha] at hab
    by_cases q : t - 1 < 0
    · rw [if_pos q]
      have t0 : t = 0 := by omega
      subst t0
      refine ⟨h, ?_⟩
      have : acc = dbt (v 58 0) (v 59 0) (v 60 0) (v 46 0) i lim (v 57 0 i) (v 8 0 2) := by
        rw [ha]
        unfold dbt
        refine sumD_c (fun e g0 g1 => ?_)
        unfold msk
        by_cases b : and32 h (shl32 1 e) = 0
        · rw [if_pos b]
          have hn := (hh.2.2 e g0 (by omega)).mp b
          have hl := (lst_none (X := v 58 0) (D := v 59 0) (i := i) (lim := lim) (e := e) (v 57 0 i).toNat).mpr (fun k a b => hn k a (by omega))
          unfold con
          rw [if_pos hl]
        · rw [if_neg b]
      rw [this]
      rfl
    · have hd := hI.d i (t - 1) hi.1 hi.2 (by omega) (by omega)
      have hp := hI.p (v 58 0 (50 * i + (t - 1))) (by omega) (by omega)
      have e3 : w32 (t - 1 + -1) = (t - 1) - 1 := w32_i (by omega) (by omega)
      rw [if_neg q, chk_t (by omega), chk_t (by omega), hw.2.2.2.2.2.1, chk_t (by omega), hd.1, hd.2.1, hd.2.2.2.2.1, chk_t (by omega), e3]
      by_cases m : lim < v 59 0 (50 * i + (t - 1))
      · rw [if_pos m]
        refine ih acc h (t - 1) (by omega) (by omega) (by omega) ⟨hh.1, hh.2.1, fun e g0 g1 => ?_⟩ ha
        rw [hh.2.2 e g0 g1]
        constructor
        · intro z j a b
          by_cases q2 : j = t - 1
          · subst q2; omega
          · exact z j (by omega) b
        · intro z j a b
          exact z j (by omega) b
      · rw [if_neg m, hp.2.1]
        by_cases b : and32 h (shl32 1 (v 58 0 (50 * i + (t - 1)))) = 0
        · rw [if_neg (by omega)]
          have hn := (hh.2.2 _ (by omega) (by omega)).mp b
          have hl : lst (v 58 0) (v 59 0) i lim (v 58 0 (50 * i + (t - 1))) (v 57 0 i).toNat = t - 1 := lst_top _ (t - 1) (by omega) (by omega) ⟨rfl, m⟩ (fun j a b => hn j (by omega) (by omega))
          have hO := or_rng (h := h) (e := v 58 0 (50 * i + (t - 1))) hh.1 hh.2.1 (by omega) (by omega)
          have hnew : hrd (v 58 0) (v 59 0) i lim (v 57 0 i) (t - 1) (or32 h (shl32 1 (v 58 0 (50 * i + (t - 1))))) := by
            refine ⟨hO.1, hO.2.1, fun e g0 g1 => ?_⟩
            rw [or_bit hh.1 hh.2.1 (by omega) (by omega) g0 g1, hh.2.2 e g0 g1]
            constructor
            · intro z j a b c
              by_cases q2 : j = t - 1
              · subst q2; exact z.1 c.1.symm
              · exact z.2 j (by omega) b c
            · intro z
              refine ⟨fun c => z (t - 1) (by omega) (by omega) ⟨c.symm, m⟩, fun j a b => z j (by omega) b⟩
          have hsum : sumD (msk (or32 h (shl32 1 (v 58 0 (50 * i + (t - 1))))) (con (v 58 0) (v 59 0) (v 60 0) (v 46 0) i lim (v 57 0 i))) (v 8 0 2) 0 = acc + con (v 58 0) (v 59 0) (v 60 0) (v 46 0) i lim (v 57 0 i) (v 58 0 (50 * i + (t - 1))) := by
            rw [ha]
            refine sumD_1 (e := v 58 0 (50 * i + (t - 1))) (by omega) (by omega) (fun s a c d => ?_) ?_
            · unfold msk
              have z := or_bit (h := h) (e := v 58 0 (50 * i + (t - 1))) (e' := s) hh.1 hh.2.1 (by omega) (by omega) (by omega) (by omega)
              by_cases y : and32 h (shl32 1 s) = 0
              · rw [if_pos y, if_pos (z.mpr ⟨d, y⟩)]
              · rw [if_neg y, if_neg (fun x => y (z.mp x).2)]
            · unfold msk
              have z := or_bit (h := h) (e := v 58 0 (50 * i + (t - 1))) (e' := v 58 0 (50 * i + (t - 1))) hh.1 hh.2.1 (by omega) (by omega) (by omega) (by omega)
              rw [if_pos b, if_neg (fun x => (z.mp x).1 rfl), Int.zero_add]
          rw [hd.2.2.2.2.2.2.2.1]
          have hcon : con (v 58 0) (v 59 0) (v 60 0) (v 46 0) i lim (v 57 0 i) (v 58 0 (50 * i + (t - 1))) = if v 60 0 (50 * i + (t - 1)) = 0 then v 46 0 (v 58 0 (50 * i + (t - 1))) else - v 46 0 (v 58 0 (50 * i + (t - 1))) := by
            unfold con
            rw [hl, if_neg (by omega)]
          rw [hcon] at hsum
          rw [hp.2.2.2.2.2.2.2.1]
          by_cases r : v 60 0 (50 * i + (t - 1)) = 0
          · rw [if_pos r] at hsum ⊢
            rw [w32_i (by omega) (by omega)]
            exact ih _ _ (t - 1) (by omega) (by omega) (by omega) hnew hsum.symm
          · rw [if_neg r] at hsum ⊢
            rw [w32_i (z := -(v 46 0 (v 58 0 (50 * i + (t - 1))))) (by omega) (by omega), w32_i (by omega) (by omega)]
            exact ih _ _ (t - 1) (by omega) (by omega) (by omega) hnew hsum.symm
        · rw [if_pos b]
          refine ih acc h (t - 1) (by omega) (by omega) (by omega) ⟨hh.1, hh.2.1, fun e g0 g1 => ?_⟩ ha
          rw [hh.2.2 e g0 g1]
          constructor
          · intro z j a b2
            by_cases q2 : j = t - 1
            · subst q2
              intro c
              exact b ((hh.2.2 _ (by omega) (by omega)).mpr (by rw [c.1]; exact z))
            · exact z j (by omega) b2
          · intro z j a b2
            exact z j (by omega) b2
theorem sumD_z {f : Int → Int} {N t : Int} (ht : t ≤ N) (h : ∀ s, t ≤ s → s < N → f s = 0) : sumD f N t = 0 := by
  have h3 := sumD_b (f := f) (B := 0) (N := N) (t := t) ht (fun s a b => by rw [h s a b]; omega)
  omega
theorem and0 (e : Int) (h0 : 0 ≤ e) (h1 : e < 10) : and32 0 (shl32 1 e) = 0 := (and_bit (by omega) (by omega) h0 h1).mpr (Nat.zero_testBit _)
theorem x7_doubt (hI : Inv v) (hi : 0 ≤ i ∧ i < v 8 0 9) : sp_X6_doubtOn i lim v = rOk (dbt (v 58 0) (v 59 0) (v 60 0) (v 46 0) i lim (v 57 0 i) (v 8 0 2)) v := by
  have hs := hI.s
  unfold IS at hs
  have hw := hI.w i hi.1 hi.2
  unfold sp_X6_doubtOn
  rw [hw.2.2.2.2.2.2.2.1, w32_i (by omega) (by omega)]
  obtain ⟨h', e⟩ := m7_doubt (lim := lim) hI hi (fun v9 u9_2 u9_3 u9_4 => (rOk u9_2 v9)) 200 0 0 (v 57 0 i) (by omega) (by omega) (by omega) ⟨by omega, by omega, fun e g0 g1 => ⟨fun _ j a b => by omega, fun _ => and0 e g0 g1⟩⟩ (by
    refine (sumD_z (by omega) (fun e g0 g1 => ?_)).symm
    unfold msk
    rw [if_pos (and0 e g0 (by omega))])
  rw [e]
end M7

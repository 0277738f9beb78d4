/-! PURE 24a: the model reads only its own rows -/
def Md (w v : V) : Prop := (∀ j : Int, ¬ j = 0 → w 8 0 j = v 8 0 j) ∧ ∀ (K : Nat) (i j : Int), 43 ≤ K → K < 98 → w K i j = v K i j
section Mdd
variable {v w : V} {Q : Int → V → Prop} {E : Nat → V → Prop} {a b c i j t y z m lim : Int} {K : Nat} {p : Int → Bool}
theorem Md_r : Md v v := ⟨fun _ _ => rfl, fun _ _ _ _ _ => rfl⟩
theorem Md_u (h : K < 8 ∨ (K = 8 ∧ j = 0) ∨ (9 ≤ K ∧ K < 43) ∨ 98 ≤ K) (m : Md w v) : Md (up w K i j z) v := ⟨fun j' h' => by rw [up_o (by omega)]; exact m.1 j' h', fun K' i' j' h1 h2 => by rw [up_o (by omega)]; exact m.2 K' i' j' h1 h2⟩
theorem Md_n (h : K < 8 ∨ (9 ≤ K ∧ K < 43)) (m : Md w v) : Md (nw w K i) v := ⟨fun j' h' => by rw [nw_o (by omega) (by omega)]; exact m.1 j' h', fun K' i' j' h1 h2 => by rw [nw_o (by omega) (by omega)]; exact m.2 K' i' j' h1 h2⟩
theorem Md_f (h : K < 8 ∨ (9 ≤ K ∧ K < 43)) (m : Md w v) : Md (muF w K j p z) v := ⟨fun j' h' => by rw [muF_r, if_neg (by omega)]; exact m.1 j' h', fun K' i' j' h1 h2 => by rw [muF_r, if_neg (by omega)]; exact m.2 K' i' j' h1 h2⟩
theorem MS_M (m : Md w v) (h : MS v) : MS w := by
  unfold MS at *
  refine ⟨fun j hj => ?_, ?_⟩
  · rw [m.1 j (by omega)]
    exact h.1 j hj
  · rw [m.1 1 (by omega), m.1 2 (by omega), m.1 9 (by omega), m.1 21 (by omega), m.1 36 (by omega)]
    exact h.2
theorem F8_M (m : Md w v) (h : F8 v) : F8 w := fun j hj => by
  rw [m.1 j (by omega)]
  exact h j hj
theorem Md_2 (m : Md w v) (h1 : 43 ≤ K) (h2 : K < 98) : w K i = v K i := by
  funext j
  exact m.2 K i j h1 h2
theorem x8_valueOfM (h : Inv v) (m : Md w v) (ha : 0 ≤ a ∧ a < v 8 0 9) : sp_X8_valueOf 0 a w = rOk (valF v a) w := by
  have hs := h.s
  unfold IS at hs
  have hw := h.w a ha.1 ha.2
  have hF := F8_M m h.f
  have c := f8all hF
  have e : (1000000 : Int).tdiv 10 = 100000 := by decide
  have hb := tdiv_b (x := v 51 0 a) (d := 10) (B := 1000000) (by omega) (by omega) (by decide)
  have hd : ∀ lim, sp_X8_doubtOn 0 a lim w = rOk (dbt (v 58 0) (v 59 0) (v 60 0) (v 46 0) a lim (v 57 0 a) (v 8 0 2)) w := fun lim => by
    have g := x8_doubt (v := w) (i := a) (lim := lim) hF (by omega) (by rw [m.2 57 0 a (by omega) (by omega)]; omega) (by rw [m.1 2 (by omega)]; omega) (fun e g0 g1 => by
      rw [m.1 2 (by omega)] at g1
      rw [m.2 46 0 e (by omega) (by omega)]
      have hp := h.p e g0 g1
      omega)
    rw [Md_2 m (K := 58) (by omega) (by omega), Md_2 m (K := 59) (by omega) (by omega), Md_2 m (K := 60) (by omega) (by omega), Md_2 m (K := 46) (by omega) (by omega), Md_2 m (K := 57) (by omega) (by omega), m.1 2 (by omega)] at g
    exact g
  unfold sp_X8_valueOf valF
  rw [hd, rB_ok, m.1 1 (by omega)]
  simp only [c]
  rw [m.2 51 0 a (by omega) (by omega)]
  split
  · rw [chk_t (by omega), chk_t (by omega)]
  · rw [chk_t (by omega), chk_t (by omega), w32_i (by omega) (by omega)]
theorem x8_worthM (h : Inv v) (m : Md w v) (ha : 0 ≤ a ∧ a < v 8 0 21) : sp_X8_worth 0 a w = rOk (worF v a) w := by
  have hs := h.s
  unfold IS at hs
  have hl := (h.l a ha.1 ha.2).1
  have mm := worF_m h ha
  have b := worF_b h ha
  have c := f8all (F8_M m h.f)
  unfold sp_X8_worth
  unfold worF at *
  simp only [c]
  rw [m.2 62 0 a (by omega) (by omega), chk_t (by omega), chk_t (by omega), x8_valueOfM h m (by omega), rB_ok]
  simp only [c]
  rw [m.2 64 0 a (by omega) (by omega), chk_t (by omega), w32_i (z := valF v (v 62 0 a) * v 64 0 a) (by omega) (by omega), w32_i (by omega) (by omega)]
theorem x8_owedM (h : Inv v) (m : Md w v) (ha : 0 ≤ a ∧ a < v 8 0 36) : sp_X8_owed 0 a w = rOk (oweF v a) w := by
  have g := x8_owed h ha
  have c := f8all (F8_M m h.f)
  have c' := f8all h.f
  have f1 := m.2 83 0 a (by omega) (by omega)
  have f2 := m.2 79 0 a (by omega) (by omega)
  have f3 := m.2 80 0 a (by omega) (by omega)
  have f4 := m.2 81 0 a (by omega) (by omega)
  have f5 := m.1 1 (by omega)
  have hs := h.s
  unfold IS at hs
  unfold sp_X8_owed at *
  simp only [c, c', f1, f2, f3, f4, f5] at g ⊢
  rw [chk_t (by omega), chk_t (by omega), chk_t (by omega), chk_t (by omega), chk_t (by omega)] at g ⊢
  split at g
  · rename_i q
    rw [if_pos q]
    have g2 : ∀ x y : Int, rOk x v = rOk y v → rOk x w = rOk y w := by
      intro x y e
      unfold rOk at e ⊢
      simp only [Option.some.injEq, Prod.mk.injEq, true_and, and_true] at e
      rw [e]
    exact g2 _ _ g
  · rename_i q
    rw [if_neg q]
    have g2 : ∀ x y : Int, rOk x v = rOk y v → rOk x w = rOk y w := by
      intro x y e
      unfold rOk at e ⊢
      simp only [Option.some.injEq, Prod.mk.injEq, true_and, and_true] at e
      rw [e]
    exact g2 _ _ g
theorem x8_wuM (h : Inv v) (mm : Md w v) (k : V → Int → Int → Res) : ∀ (n : Nat) (acc t : Int), 0 ≤ t → t ≤ v 8 0 21 → v 8 0 21 - t < n → 0 ≤ acc → acc ≤ 1000000 * t → lp_X8_canSeize_5 0 a k n w acc t = k w (acc + sumD (fWU v a) (v 8 0 21) t) (v 8 0 21) := by
  intro n
  have hs := h.s
  unfold IS at hs
  have c8 := f8all (F8_M mm h.f)
  have n21 := mm.1 21 (by omega)
  induction n with
  | zero => intro acc t h0 h1 h2; omega
  | succ n ih =>
    intro acc t h0 h1 h2 h3 h4
    unfold lp_X8_canSeize_5
    simp only [c8, n21]
    by_cases q : v 8 0 21 ≤ t
    · rw [if_pos q, sumD_e q]
      have : t = v 8 0 21 := by omega
      rw [this, Int.add_zero]
    · have e3 : w32 (t + 1) = t + 1 := w32_i (by omega) (by omega)
      have hb := fWU_b (a := a) h t h0 (by omega)
      rw [if_neg q, sumD_s (by omega), e3, chk_t (by omega), chk_t (by omega), mm.2 65 0 t (by omega) (by omega)]
      by_cases c : v 65 0 t = a
      · have hf : fWU v a t = _ := if_pos c
        rw [hf] at hb
        rw [if_neg (by simpa using c), x8_worthM h mm ⟨h0, by omega⟩, rB_ok, w64_i (by omega) (by omega), ih _ _ (by omega) (by omega) (by omega) (by omega) (by omega), hf]
        congr 1
        omega
      · have hf : fWU v a t = _ := if_neg c
        rw [if_pos c, w64_i (by omega) (by omega)]
        rw [ih _ _ (by omega) (by omega) (by omega) (by omega) (by omega), hf, Int.zero_add, Int.add_zero]
theorem wp_8worM (hI : Inv v) (m : Md w v) (ha : 0 ≤ a ∧ a < v 8 0 21) (h : Q (worF v a) w) : Wp (sp_X8_worth 0 a w) Q E := by
  rw [x8_worthM hI m ha]
  exact h
theorem wp_8oweM (hI : Inv v) (m : Md w v) (ha : 0 ≤ a ∧ a < v 8 0 36) (h : Q (oweF v a) w) : Wp (sp_X8_owed 0 a w) Q E := by
  rw [x8_owedM hI m ha]
  exact h
theorem wp_x8_wuM {k : V → Int → Int → Res} (hI : Inv v) (m : Md w v) (h : Wp (k w (sumD (fWU v a) (v 8 0 21) 0) (v 8 0 21)) Q E) : Wp (lp_X8_canSeize_5 0 a k 200 w 0 0) Q E := by
  have hs := hI.s
  unfold IS at hs
  rw [x8_wuM hI m k 200 0 0 (by omega) (by omega) (by omega) (by omega) (by omega), Int.zero_add]
  exact h
end Mdd

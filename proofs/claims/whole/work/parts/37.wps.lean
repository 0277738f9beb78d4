/-! PURE 18: the loops and specs as goals -/
section Wl
variable {v : V} {Q : Int → V → Prop} {E : Nat → V → Prop} {a b c i j z y m t : Int} {K : Nat} {k : V → Int → Int → Res}
theorem wp_x7_wu (hI : Inv v) (hn : v 8 0 21 = m) (he : sumD (fWU v a) (v 8 0 21) 0 = y) (h : Wp (k v y m) Q E) : Wp (lp_X7_worthUnder_4 0 a k 200 v 0 0) Q E := by
  have hs := hI.s
  unfold IS at hs
  rw [x7_wu hI k 200 0 0 (by omega) (by omega) (by omega) (by omega) (by omega), Int.zero_add, he, hn]
  exact h
theorem wp_x7_ph (hI : Inv v) (hn : v 8 0 21 = m) (he : sumD (fPH v a) (v 8 0 21) 0 = y) (h : Wp (k v y m) Q E) : Wp (lp_X7_partsHeldBy_4 0 a k 200 v 0 0) Q E := by
  have hs := hI.s
  unfold IS at hs
  rw [x7_ph hI k 200 0 0 (by omega) (by omega) (by omega) (by omega) (by omega), Int.zero_add, he, hn]
  exact h
theorem wp_x7_wh (hI : Inv v) (hn : v 8 0 21 = m) (he : sumD (fWH v a) (v 8 0 21) 0 = y) (h : Wp (k v y m) Q E) : Wp (lp_X7_worthHeldBy_4 0 a k 200 v 0 0) Q E := by
  have hs := hI.s
  unfold IS at hs
  rw [x7_wh hI k 200 0 0 (by omega) (by omega) (by omega) (by omega) (by omega), Int.zero_add, he, hn]
  exact h
theorem wp_x7_ob (hI : Inv v) (hn : v 8 0 36 = m) (he : sumD (fOB v a) (v 8 0 36) 0 = y) (h : Wp (k v y m) Q E) : Wp (lp_X7_owedBy_4 0 a k 200 v 0 0) Q E := by
  have hs := hI.s
  unfold IS at hs
  rw [x7_ob hI k 200 0 0 (by omega) (by omega) (by omega) (by omega) (by omega), Int.zero_add, he, hn]
  exact h
theorem wp_x7_ot (hI : Inv v) (hn : v 8 0 36 = m) (he : sumD (fOT v a) (v 8 0 36) 0 = y) (h : Wp (k v y m) Q E) : Wp (lp_X7_owedTo_4 0 a k 200 v 0 0) Q E := by
  have hs := hI.s
  unfold IS at hs
  rw [x7_ot hI k 200 0 0 (by omega) (by omega) (by omega) (by omega) (by omega), Int.zero_add, he, hn]
  exact h
theorem wp_x7_lp (hI : Inv v) (hn : v 8 0 21 = m) (he : sumD (fLP v a) (v 8 0 21) 0 = y) (h : Wp (k v y m) Q E) : Wp (lp_X7_lotsWithParts_4 0 a k 200 v 0 0) Q E := by
  have hs := hI.s
  unfold IS at hs
  rw [x7_lp hI k 200 0 0 (by omega) (by omega) (by omega) (by omega) (by omega), Int.zero_add, he, hn]
  exact h
theorem wp_x8_wu (hI : Inv v) (hn : v 8 0 21 = m) (he : sumD (fWU v a) (v 8 0 21) 0 = y) (h : Wp (k v y m) Q E) : Wp (lp_X8_canSeize_5 0 a k 200 v 0 0) Q E := by
  have hs := hI.s
  unfold IS at hs
  rw [x8_wu hI k 200 0 0 (by omega) (by omega) (by omega) (by omega) (by omega), Int.zero_add, he, hn]
  exact h
theorem wp_x8_ob (hI : Inv v) (hn : v 8 0 36 = m) (he : sumD (fOB v a) (v 8 0 36) 0 = y) (h : Wp (k v y m) Q E) : Wp (lp_X8_owes_5 0 a 0 k 200 v 0 0) Q E := by
  have hs := hI.s
  unfold IS at hs
  rw [x8_ob hI k 200 0 0 (by omega) (by omega) (by omega) (by omega) (by omega), Int.zero_add, he, hn]
  exact h
theorem wp_x8_ot (hI : Inv v) (hn : v 8 0 36 = m) (he : sumD (fOT v a) (v 8 0 36) 0 = y) (h : Wp (k v y m) Q E) : Wp (lp_X8_owes_5 0 a 1 k 200 v 0 0) Q E := by
  have hs := hI.s
  unfold IS at hs
  rw [x8_ot hI k 200 0 0 (by omega) (by omega) (by omega) (by omega) (by omega), Int.zero_add, he, hn]
  exact h
theorem wp_x8_ph (hI : Inv v) (hn : v 8 0 21 = m) (he : sumD (fPH v a) (v 8 0 21) 0 = y) (h : Wp (k v y m) Q E) : Wp (lp_X8_held_5 0 a 0 k 200 v 0 0) Q E := by
  have hs := hI.s
  unfold IS at hs
  rw [x8_ph hI k 200 0 0 (by omega) (by omega) (by omega) (by omega) (by omega), Int.zero_add, he, hn]
  exact h
theorem wp_x8_wh (hI : Inv v) (hn : v 8 0 21 = m) (he : sumD (fWH v a) (v 8 0 21) 0 = y) (h : Wp (k v y m) Q E) : Wp (lp_X8_held_5 0 a 1 k 200 v 0 0) Q E := by
  have hs := hI.s
  unfold IS at hs
  rw [x8_wh hI k 200 0 0 (by omega) (by omega) (by omega) (by omega) (by omega), Int.zero_add, he, hn]
  exact h
theorem wp_x8_lp (hI : Inv v) (hn : v 8 0 21 = m) (he : sumD (fLP v a) (v 8 0 21) 0 = y) (h : Wp (k v y m) Q E) : Wp (lp_X8_ofWork_86 0 a b k 200 v 0 0) Q E := by
  have hs := hI.s
  unfold IS at hs
  rw [x8_lp hI k 200 0 0 (by omega) (by omega) (by omega) (by omega) (by omega), Int.zero_add, he, hn]
  exact h
theorem fWU_u (h : K ≠ 58 ∧ K ≠ 59 ∧ K ≠ 60 ∧ K ≠ 46 ∧ K ≠ 57 ∧ K ≠ 51 ∧ K ≠ 62 ∧ K ≠ 64 ∧ K ≠ 65 ∧ (K ≠ 8 ∨ (j ≠ 1 ∧ j ≠ 2))) : fWU (up v K i j z) a = fWU v a := by
  funext s
  unfold fWU
  rw [upf (K' := 65) (by omega), worF_u (by omega)]
theorem fPH_u (h : K ≠ 63 ∧ K ≠ 64) : fPH (up v K i j z) a = fPH v a := by
  funext s
  unfold fPH
  rw [upf (K' := 63) (by omega), upf (K' := 64) (by omega)]
theorem fWH_u (h : K ≠ 58 ∧ K ≠ 59 ∧ K ≠ 60 ∧ K ≠ 46 ∧ K ≠ 57 ∧ K ≠ 51 ∧ K ≠ 62 ∧ K ≠ 64 ∧ K ≠ 63 ∧ (K ≠ 8 ∨ (j ≠ 1 ∧ j ≠ 2))) : fWH (up v K i j z) a = fWH v a := by
  funext s
  unfold fWH
  rw [upf (K' := 63) (by omega), worF_u (by omega)]
theorem fLP_u (h : K ≠ 62 ∧ K ≠ 64) : fLP (up v K i j z) a = fLP v a := by
  funext s
  unfold fLP
  rw [upf (K' := 62) (by omega), upf (K' := 64) (by omega)]
theorem fOB_u (h : K ≠ 83 ∧ K ≠ 79 ∧ K ≠ 80 ∧ K ≠ 81 ∧ K ≠ 77 ∧ (K ≠ 8 ∨ j ≠ 1)) : fOB (up v K i j z) a = fOB v a := by
  funext s
  unfold fOB
  rw [upf (K' := 77) (by omega), oweF_u (by omega)]
theorem fOT_u (h : K ≠ 83 ∧ K ≠ 79 ∧ K ≠ 80 ∧ K ≠ 81 ∧ K ≠ 78 ∧ (K ≠ 8 ∨ j ≠ 1)) : fOT (up v K i j z) a = fOT v a := by
  funext s
  unfold fOT
  rw [upf (K' := 78) (by omega), oweF_u (by omega)]
theorem Inv_u (hK : K = 9 ∨ (K = 8 ∧ (j = 0 ∨ j = 44 ∨ j = 45))) (h : Inv v) : Inv (up v K i j z) := by
  refine ⟨by ((repeat (first | with_reducible refine IS_u (by omega) ?_ | with_reducible refine IS_n (by omega) ?_)); exact h.s), by ((repeat (first | with_reducible refine F8_u (by omega) ?_ | with_reducible refine F8_n (by omega) ?_)); exact h.f), by ((repeat (first | with_reducible refine IR_u (by omega) ?_ | with_reducible refine IR_n (by omega) ?_)); exact h.r), by ((repeat (first | with_reducible refine IP_u (by omega) ?_ | with_reducible refine IP_n (by omega) ?_)); exact h.p), by ((repeat (first | with_reducible refine IP2_u (by omega) ?_ | with_reducible refine IP2_n (by omega) ?_)); exact h.p2), by ((repeat (first | with_reducible refine IB_u (by omega) ?_ | with_reducible refine IB_n (by omega) ?_)); exact h.b), by ((repeat (first | with_reducible refine IW_u (by omega) ?_ | with_reducible refine IW_n (by omega) ?_)); exact h.w), by ((repeat (first | with_reducible refine IW2_u (by omega) ?_ | with_reducible refine IW2_n (by omega) ?_)); exact h.w2), by ((repeat (first | with_reducible refine ID_u (by omega) ?_ | with_reducible refine ID_n (by omega) ?_)); exact h.d), by ((repeat (first | with_reducible refine IY_u (by omega) ?_ | with_reducible refine IY_n (by omega) ?_)); exact h.y), by ((repeat (first | with_reducible refine IL_u (by omega) ?_ | with_reducible refine IL_n (by omega) ?_)); exact h.l), by ((repeat (first | with_reducible refine IN_u (by omega) ?_ | with_reducible refine IN_n (by omega) ?_)); exact h.n), by ((repeat (first | with_reducible refine IN2_u (by omega) ?_ | with_reducible refine IN2_n (by omega) ?_)); exact h.n2), by ((repeat (first | with_reducible refine IA_u (by omega) ?_ | with_reducible refine IA_n (by omega) ?_)); exact h.a), by ((repeat (first | with_reducible refine IM_u (by omega) ?_ | with_reducible refine IM_n (by omega) ?_)); exact h.m)⟩
theorem wp_7val (hI : Inv v) (ht : t = v 8 0 1) (ha : 0 ≤ a ∧ a < v 8 0 9) (h : Q (valF v a) v) : Wp (sp_X6_valueOn a t v) Q E := by
  rw [ht, x7_valueOn hI ha]
  exact h
theorem wp_7wor (hI : Inv v) (ht : t = v 8 0 1) (ha : 0 ≤ a ∧ a < v 8 0 21) (h : Q (worF v a) v) : Wp (sp_X2_worth a t v) Q E := by
  rw [ht, x7_worth hI ha]
  exact h
theorem wp_7owe (hI : Inv v) (ht : t = v 8 0 1) (ha : 0 ≤ a ∧ a < v 8 0 36) (h : Q (oweF v a) v) : Wp (sp_X1_owed a t v) Q E := by
  rw [ht, x7_owed hI ha]
  exact h
theorem wp_8val (hI : Inv v) (ha : 0 ≤ a ∧ a < v 8 0 9) (he : valF v a = y) (h : Q y v) : Wp (sp_X8_valueOf 0 a v) Q E := by
  rw [x8_valueOf hI ha, he]
  exact h
theorem wp_8wor (hI : Inv v) (ha : 0 ≤ a ∧ a < v 8 0 21) (he : worF v a = y) (h : Q y v) : Wp (sp_X8_worth 0 a v) Q E := by
  rw [x8_worth hI ha, he]
  exact h
theorem wp_8owe (hI : Inv v) (ha : 0 ≤ a ∧ a < v 8 0 36) (he : oweF v a = y) (h : Q y v) : Wp (sp_X8_owed 0 a v) Q E := by
  rw [x8_owed hI ha, he]
  exact h
theorem wp_7dbt (hI : Inv v) (ha : 0 ≤ a ∧ a < v 8 0 9) (h : Q (dbt (v 58 0) (v 59 0) (v 60 0) (v 46 0) a t (v 57 0 a) (v 8 0 2)) v) : Wp (sp_X6_doubtOn a t v) Q E := by
  rw [x7_doubt hI ha]
  exact h
theorem wp_8dbt (hI : Inv v) (ha : 0 ≤ a ∧ a < v 8 0 9) (he : dbt (v 58 0) (v 59 0) (v 60 0) (v 46 0) a t (v 57 0 a) (v 8 0 2) = y) (h : Q y v) : Wp (sp_X8_doubtOn 0 a t v) Q E := by
  rw [hI.w8 ha, he]
  exact h
/-- how many punish one party -/
def fPU (v : V) (a s : Int) : Int := if v 47 0 (10 * s + a) = 0 then 0 else 1
theorem x8_pu (hF : F8 v) (ha : 0 ≤ a ∧ a < 10) (k : V → Int → Int → Res) : ∀ (n : Nat) (acc t : Int), 0 ≤ t → t ≤ 10 → 10 - t < n → 0 ≤ acc → acc ≤ 1 * t → lp_X8_ofParty_85 0 a b k n v acc t = k v (acc + sumD (fPU v a) 10 t) 10 := by
  intro n
  have c8 := f8all hF
  induction n with
  | zero => intro acc t h0 h1 h2; omega
  | succ n ih =>
    intro acc t h0 h1 h2 h3 h4
    unfold lp_X8_ofParty_85
    simp only [c8]
    by_cases q : 10 ≤ t
    · rw [if_pos q, sumD_e q]
      have : t = 10 := by omega
      rw [this, Int.add_zero]
    · have e3 : w32 (t + 1) = t + 1 := w32_i (by omega) (by omega)
      rw [if_neg q, sumD_s (by omega), e3, chk_t (by omega), w32_i (z := 10 * t) (by omega) (by omega), w32_i (z := 10 * t + a) (by omega) (by omega), chk_t (by omega)]
      by_cases c : v 47 0 (10 * t + a) = 0
      · have hf : fPU v a t = 0 := if_pos c
        rw [if_pos c, w32_i (by omega) (by omega), ih _ _ (by omega) (by omega) (by omega) (by omega) (by omega), hf, Int.zero_add, Int.add_zero]
      · have hf : fPU v a t = 1 := if_neg c
        rw [if_neg c, w32_i (by omega) (by omega), ih _ _ (by omega) (by omega) (by omega) (by omega) (by omega), hf]
        congr 1
        omega
theorem wp_x8_pu (hF : F8 v) (ha : 0 ≤ a ∧ a < 10) (he : sumD (fPU v a) 10 0 = y) (h : Wp (k v y 10) Q E) : Wp (lp_X8_ofParty_85 0 a b k 200 v 0 0) Q E := by
  rw [x8_pu hF ha k 200 0 0 (by omega) (by omega) (by omega) (by omega) (by omega), Int.zero_add, he]
  exact h
theorem fPU_u (h : K ≠ 47) : fPU (up v K i j z) a = fPU v a := by
  funext s
  unfold fPU
  rw [upf (K' := 47) (by omega)]
theorem bc_pu (h : Inv v) (ha : 0 ≤ a ∧ a < v 8 0 2) : bcF (v 3 a 5) = sumD (fPU v a) 10 0 := by
  unfold bcF
  refine sumD_c (fun s g0 g1 => ?_)
  have hb := (h.b.2.1 a s ha.1 ha.2 g0 g1).2
  unfold fPU
  by_cases q : v 47 0 (10 * s + a) = 0
  · rw [if_pos q, if_pos (hb.mpr q)]
  · rw [if_neg q, if_neg (fun x => q (hb.mp x))]
theorem wp_bc (hI : Inv v) (ha : 0 ≤ a ∧ a < v 8 0 2) (h : Q (sumD (fPU v a) 10 0) v) : Wp (sp_J6_bitCount_0f7a4 (v 3 a 5) v) Q E := by
  have hb := hI.b.1 a ha.1 ha.2
  rw [bc_spec hb.1 hb.2, bc_pu hI ha]
  exact h
theorem sP_b (h : Inv v) : (0 ≤ sumD (fOB v a) (v 8 0 36) 0 ∧ sumD (fOB v a) (v 8 0 36) 0 ≤ 2010000000) ∧ (0 ≤ sumD (fOT v a) (v 8 0 36) 0 ∧ sumD (fOT v a) (v 8 0 36) 0 ≤ 2010000000) ∧ (0 ≤ sumD (fWU v a) (v 8 0 21) 0 ∧ sumD (fWU v a) (v 8 0 21) 0 ≤ 60000000) := by
  have hs := h.s
  unfold IS at hs
  have h1 := sumD_b (f := fOB v a) (N := v 8 0 36) (t := 0) (by omega) (fun s p q => fOB_b h s p q)
  have h2 := sumD_b (f := fOT v a) (N := v 8 0 36) (t := 0) (by omega) (fun s p q => fOT_b h s p q)
  have h3 := sumD_b (f := fWU v a) (N := v 8 0 21) (t := 0) (by omega) (fun s p q => fWU_b h s p q)
  omega
end Wl

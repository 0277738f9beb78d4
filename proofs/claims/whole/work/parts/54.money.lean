/-! PURE 34: the money of a sale; what a sale lays down: class -/
def d1 (i x k : Int) : Int := if k = i then x else 0
def pmC (v : V) (f : Int → Int) : V := fun K i j => if K = 3 ∧ j = 2 then v K i j + f i else v K i j
def pmM (v : V) (f : Int → Int) : V := fun K i j => if K = 43 ∧ i = 0 then v K i j + f j else v K i j
/-- the artist's share; what goes where; whom the artist punishes then -/
def shF (v : V) (a d : Int) : Int := if v 63 0 a = v 50 0 (v 62 0 a) then 0 else (d * v 48 0 (v 44 0 (v 63 0 a))).tdiv 100
def dlF (v : V) (a c d s e k : Int) : Int := 0 - d1 c d k + d1 (v 50 0 (v 62 0 a)) (shF v a d) k + d1 (v 63 0 a) (d - shF v a d - e) k + d1 s e k
def m1F (v : V) (a c d k : Int) : Int := 0 - d1 c (shF v a d) k + d1 (v 50 0 (v 62 0 a)) (shF v a d) k
def m2F (v : V) (a c d s e k : Int) : Int := m1F v a c d k - d1 c e k + d1 s e k
def flF (v : V) (a : Int) : Prop := ¬ v 63 0 a = v 50 0 (v 62 0 a) ∧ ¬ v 71 0 a = -1 ∧ ¬ v 74 0 a = 0 ∧ v 8 0 1 - v 71 0 a ≤ 100
def hdF (v : V) (a : Int) : Int := if v 63 0 a = v 50 0 (v 62 0 a) then 1 else 0
def cP (v y : V) (a : Int) : V := up y 3 (v 63 0 a) 5 (or32 (v 3 (v 63 0 a) 5) (shl32 1 (v 50 0 (v 62 0 a))))
def cT (v y : V) (a b c d s : Int) : V :=
  up (up (up (up (up (up (up (up (up (nw (up (up (up (up (up (up (up (nw y 4 (v 8 0 21)) 4 (v 8 0 21) 0 (v 8 0 1)) 4 (v 8 0 21) 1 d) 4 (v 8 0 21) 2 b) 4 (v 8 0 21) 3 (hdF v a)) 4 (v 8 0 21) 4 (or32 0 (shl32 1 c))) 4 (v 8 0 21) 4 (or32 (or32 0 (shl32 1 c)) (shl32 1 s))) 2 a 4 (v 64 0 a - b)) 2 (v 8 0 21)) 2 (v 8 0 21) 0 (v 8 0 21)) 2 (v 8 0 21) 1 (v 62 0 a)) 2 (v 8 0 21) 3 c) 2 (v 8 0 21) 4 b) 2 (v 8 0 21) 5 (v 65 0 a)) 2 (v 8 0 21) 2 a) 2 (v 8 0 21) 7 (v 8 0 21)) 12 0 (v 8 0 21) (v 8 0 21)) 7 0 7 (v 8 0 21 + 1)
section Mo
variable {v w u y : V} {Q : Int → V → Prop} {E : Nat → V → Prop} {a b c d e i j s x z p q B : Int} {K : Nat} {r : Res} {f g : Int → Int}
theorem d1_s : d1 i x i = x := if_pos rfl
theorem d1_0 (k : Int) : d1 i 0 k = 0 := by
  unfold d1
  split <;> rfl
theorem d1_b (h0 : 0 ≤ x) (h1 : x ≤ B) (k : Int) : 0 ≤ d1 i x k ∧ d1 i x k ≤ B := by
  unfold d1
  split <;> omega
theorem d1_o {k : Int} (h : ¬ k = i) : d1 i x k = 0 := if_neg h
theorem pmC_r (K : Nat) (i j : Int) : pmC v f K i j = if K = 3 ∧ j = 2 then v K i j + f i else v K i j := rfl
theorem pmM_r (K : Nat) (i j : Int) : pmM v f K i j = if K = 43 ∧ i = 0 then v K i j + f j else v K i j := rfl
theorem pmC_o : Off (pmC v f) v 3 := fun K' i' j' h => by rw [pmC_r, if_neg (fun x => h x.1)]
theorem pmM_o : Off (pmM v f) v 43 := fun K' i' j' h => by rw [pmM_r, if_neg (fun x => h x.1)]
theorem pmC_0 (h : ∀ k, f k = 0) : pmC v f = v := by
  funext K i j
  rw [pmC_r, h, Int.add_zero]
  split <;> rfl
theorem pmM_0 (h : ∀ k, f k = 0) : pmM v f = v := by
  funext K i j
  rw [pmM_r, h, Int.add_zero]
  split <;> rfl
theorem pmC_u (hy : z = v 3 i 2 + g i) (h : ∀ k, ¬ k = i → g k = f k) : up (pmC v f) 3 i 2 z = pmC v g := by
  funext K' i' j'
  rw [up_r, pmC_r, pmC_r]
  by_cases q : K' = 3 ∧ j' = 2
  · obtain ⟨rfl, rfl⟩ := q
    by_cases q2 : i' = i
    · subst q2
      rw [if_pos ⟨rfl, rfl, rfl⟩, if_pos ⟨rfl, rfl⟩, hy]
    · rw [if_neg (fun x => q2 x.2.1), if_pos ⟨rfl, rfl⟩, if_pos ⟨rfl, rfl⟩, h _ q2]
  · rw [if_neg (fun x => q ⟨x.1, x.2.2⟩), if_neg q, if_neg q]
theorem pmM_u (hy : z = v 43 0 i + g i) (h : ∀ k, ¬ k = i → g k = f k) : up (pmM v f) 43 0 i z = pmM v g := by
  funext K' i' j'
  rw [up_r, pmM_r, pmM_r]
  by_cases q : K' = 43 ∧ i' = 0
  · obtain ⟨rfl, rfl⟩ := q
    by_cases q2 : j' = i
    · subst q2
      rw [if_pos ⟨rfl, rfl, rfl⟩, if_pos ⟨rfl, rfl⟩, hy]
    · rw [if_neg (fun x => q2 x.2.2), if_pos ⟨rfl, rfl⟩, if_pos ⟨rfl, rfl⟩, h _ q2]
  · rw [if_neg (fun x => q ⟨x.1, x.2.1⟩), if_neg q, if_neg q]
theorem Md4_C (m : Md4 w v) : Md4 (pmC w f) v := ⟨fun j h1 h2 h3 => by rw [pmC_r, if_neg (by omega)]; exact m.1 j h1 h2 h3, fun K i j h1 h2 => by rw [pmC_r, if_neg (by omega)]; exact m.2 K i j h1 h2⟩
theorem fl_c (v : V) (a : Int) : (v 63 0 a = v 50 0 (v 62 0 a)) ∨ (¬ v 63 0 a = v 50 0 (v 62 0 a) ∧ v 71 0 a = -1) ∨ (¬ v 63 0 a = v 50 0 (v 62 0 a) ∧ ¬ v 71 0 a = -1 ∧ v 74 0 a = 0) ∨ (¬ v 63 0 a = v 50 0 (v 62 0 a) ∧ ¬ v 71 0 a = -1 ∧ ¬ v 74 0 a = 0 ∧ 100 < v 8 0 1 - v 71 0 a) ∨ (¬ v 63 0 a = v 50 0 (v 62 0 a) ∧ ¬ v 71 0 a = -1 ∧ ¬ v 74 0 a = 0 ∧ v 8 0 1 - v 71 0 a ≤ 100) := by omega
theorem shF_b (h : Inv v) (ca : 0 ≤ a ∧ a < v 8 0 21) (cd : 0 ≤ d ∧ d ≤ 1000000) : 0 ≤ shF v a d ∧ 5 * shF v a d ≤ d := by
  have hl1 := (h.l a ca.1 ca.2).1
  have hp := h.p (v 63 0 a) (by omega) (by omega)
  have hr := h.r (v 44 0 (v 63 0 a)) (by omega) (by omega)
  unfold shF
  split
  · omega
  · have hm := mul_b (x := d) (X := d) (y := v 48 0 (v 44 0 (v 63 0 a))) (Y := 20) (by omega) (by omega) (by omega) (by omega)
    rw [Int.tdiv_eq_ediv_of_nonneg hm.1]
    omega
/-- one payment of the class -/
theorem x7_pay (hp : 0 ≤ p) (hq : 0 ≤ q) (hx : 0 ≤ x ∧ x ≤ 1000000) (b1 : -1000000000 ≤ v 3 p 2 + f p ∧ v 3 p 2 + f p ≤ 1000000000) (b2 : -1000000000 ≤ v 3 q 2 + f q ∧ v 3 q 2 + f q ≤ 1000000000) : sp_X7_pay p q x (pmC v f) = rOk 0 (pmC v (fun k => f k - d1 p x k + d1 q x k)) := by
  have b3 := d1_b (i := p) hx.1 hx.2 q
  have e1 : up (pmC v f) 3 p 2 (w32 (pmC v f 3 p 2 - x)) = pmC v (fun k => f k - d1 p x k) := by
    refine pmC_u ?_ (fun k hk => ?_)
    · rw [pmC_r, if_pos ⟨rfl, rfl⟩, w32_i (by omega) (by omega), d1_s]
      omega
    · rw [d1_o hk, Int.sub_zero]
  have e2 : up (pmC v (fun k => f k - d1 p x k)) 3 q 2 (w32 (pmC v (fun k => f k - d1 p x k) 3 q 2 + x)) = pmC v (fun k => f k - d1 p x k + d1 q x k) := by
    refine pmC_u ?_ (fun k hk => ?_)
    · rw [pmC_r, if_pos ⟨rfl, rfl⟩, w32_i (by omega) (by omega), d1_s]
      omega
    · rw [d1_o hk, Int.add_zero]
  unfold sp_X7_pay
  rw [chk_t hp, rLet_r, e1, chk_t hq, rLet_r, e2]
theorem wp_pay7 {p' q' x' : Int} (ep : p' = p) (eq : q' = q) (ex : x' = x) (he : sp_X7_pay p q x u = r) (h : Wp r Q E) : Wp (sp_X7_pay p' q' x' u) Q E := by
  subst ep eq ex
  rw [he]
  exact h
theorem x7_share (h : Inv v) (ca : 0 ≤ a ∧ a < v 8 0 21) (cd : 0 ≤ d ∧ d ≤ 1000000) : sp_X7_shareOfArtist 0 a d (up v 2 a 6 (-1)) = rOk (shF v a d) (up v 2 a 6 (-1)) := by
  have nn : Unit → True := fun _ => trivial
  have hs := h.s
  have hF := h.f
  unfold IS at hs
  have hl1 := (h.l a ca.1 ca.2).1
  have b1 := (h.w (v 62 0 a) (by omega) (by omega)).2.2.2
  have b2 : 0 ≤ v 50 0 (v 62 0 a) ∧ v 50 0 (v 62 0 a) < v 8 0 2 := ⟨by omega, by omega⟩
  clear b1
  have hp := (h.p (v 63 0 a) (by omega) (by omega)).2.2.2
  have b3 : 0 ≤ v 44 0 (v 63 0 a) ∧ v 44 0 (v 63 0 a) < 4 := ⟨by omega, by omega⟩
  clear hp
  have hr := h.r (v 44 0 (v 63 0 a)) (by omega) (by omega)
  have hx := And.intro (ILx h ca) (And.intro (IWx h (a := v 62 0 a) (by omega)) (And.intro (IPx h (a := v 63 0 a) (by omega)) (And.intro (IPx h (a := v 50 0 (v 62 0 a)) (by omega)) hr.1)))
  have hm := mul_b (x := d) (X := 1000000) (y := v 48 0 (v 44 0 (v 63 0 a))) (Y := 20) (by omega) (by omega) (by omega) (by omega)
  have sb := shF_b h ca cd
  have c63 : 0 ≤ v 63 0 a ∧ v 63 0 a < 10 := ⟨by omega, by omega⟩
  have c62 : 0 ≤ v 62 0 a ∧ v 62 0 a < 12 := ⟨by omega, by omega⟩
  unfold shF at sb ⊢
  unfold sp_X7_shareOfArtist sp_X7_rightOf sp_X2_isHeldByArtist
  clear hs hl1 hr
  apply eq_wp
  by_cases q : v 63 0 a = v 50 0 (v 62 0 a)
  all_goals simp only [q, ↓reduceIte] at sb
  all_goals repeat' (first | (with_reducible refine wp_B ?_) | (with_reducible refine wp_ok ?_) | (with_reducible refine wp_ex ?_) | (with_reducible refine wp_chk ?_ ?_; (· (first | omega | (simp (decide := true) (disch := omega) only [hx, up_r, nw_r, f8all hF, i7 h, k9, df_a, df_16, w32_i, w64_i, ↓reduceIte, if_true, if_false, false_and, and_false, true_and, and_true, and_self, not_true, not_false_iff, upf, lcmp_l, lcmp_g, lcmp_e, pmC_r, pmM_r, d1_s, nn ()] <;> omega)))) | (with_reducible refine wp_t ?_ ?_; (· (first | omega | (simp (decide := true) (disch := omega) only [hx, up_r, nw_r, f8all hF, i7 h, k9, df_a, df_16, w32_i, w64_i, ↓reduceIte, if_true, if_false, false_and, and_false, true_and, and_true, and_self, not_true, not_false_iff, upf, lcmp_l, lcmp_g, lcmp_e, pmC_r, pmM_r, d1_s, nn ()] <;> omega)))) | (with_reducible refine wp_f ?_ ?_; (· (first | omega | (simp (decide := true) (disch := omega) only [hx, up_r, nw_r, f8all hF, i7 h, k9, df_a, df_16, w32_i, w64_i, ↓reduceIte, if_true, if_false, false_and, and_false, true_and, and_true, and_self, not_true, not_false_iff, upf, lcmp_l, lcmp_g, lcmp_e, pmC_r, pmM_r, d1_s, nn ()] <;> omega)))) | (with_reducible apply wp_up; (· (first | (simp (decide := true) (disch := omega) only [hx, up_r, nw_r, f8all hF, i7 h, k9, df_a, df_16, w32_i, w64_i, ↓reduceIte, if_true, if_false, false_and, and_false, true_and, and_true, and_self, not_true, not_false_iff, upf, lcmp_l, lcmp_g, lcmp_e, pmC_r, pmM_r, d1_s, nn ()] <;> rfl) | rfl)); (· (first | (simp (decide := true) (disch := omega) only [hx, up_r, nw_r, f8all hF, i7 h, k9, df_a, df_16, w32_i, w64_i, ↓reduceIte, if_true, if_false, false_and, and_false, true_and, and_true, and_self, not_true, not_false_iff, upf, lcmp_l, lcmp_g, lcmp_e, pmC_r, pmM_r, d1_s, nn ()] <;> rfl) | rfl)); (· (first | (simp (decide := true) (disch := omega) only [hx, up_r, nw_r, f8all hF, i7 h, k9, df_a, df_16, w32_i, w64_i, ↓reduceIte, if_true, if_false, false_and, and_false, true_and, and_true, and_self, not_true, not_false_iff, upf, lcmp_l, lcmp_g, lcmp_e, pmC_r, pmM_r, d1_s, nn ()] <;> rfl) | rfl))) | (with_reducible apply wp_nw; (· (first | (simp (decide := true) (disch := omega) only [hx, up_r, nw_r, f8all hF, i7 h, k9, df_a, df_16, w32_i, w64_i, ↓reduceIte, if_true, if_false, false_and, and_false, true_and, and_true, and_self, not_true, not_false_iff, upf, lcmp_l, lcmp_g, lcmp_e, pmC_r, pmM_r, d1_s, nn ()] <;> rfl) | rfl))))
  all_goals refine ⟨?_, rfl⟩
  all_goals ((repeat (first | rw [if_pos (by omega)] | rw [if_neg (by omega)])))
  all_goals simp (decide := true) (disch := omega) only [hx, up_r, nw_r, f8all hF, i7 h, k9, df_a, df_16, w32_i, w64_i, ↓reduceIte, if_true, if_false, false_and, and_false, true_and, and_true, and_self, not_true, not_false_iff, upf, lcmp_l, lcmp_g, lcmp_e, pmC_r, pmM_r, d1_s, nn ()]
set_option maxHeartbeats 8000000 in
theorem x7_carry (h : Inv v) (ca : 0 ≤ a ∧ a < v 8 0 21) (cc : 0 ≤ c ∧ c < v 8 0 2) (cs : 0 ≤ s ∧ s < v 8 0 2) (cb : 1 ≤ b ∧ b ≤ v 64 0 a) (cd : 0 ≤ d ∧ d ≤ 1000000) (ce : 0 ≤ e ∧ 2 * e ≤ d) (cn : v 8 0 21 < 60) (y : V) (hy : (flF v a → y = cP v (pmC (up v 2 a 6 (-1)) (dlF v a c d s e)) a) ∧ (¬ flF v a → y = pmC (up v 2 a 6 (-1)) (dlF v a c d s e))) : sp_X7_carryOut 0 a b c d s e (up v 2 a 6 (-1)) = rOk (v 8 0 21) (cT v y a b c d s) := by
  have hs := h.s
  have hF := h.f
  unfold IS at hs
  have hl := h.l a ca.1 ca.2
  have hl1 := hl.1
  have hl3 := hl.2.2
  unfold ISa at hl3
  clear hl
  have hw := h.w (v 62 0 a) (by omega) (by omega)
  have hp := h.p (v 63 0 a) (by omega) (by omega)
  have hr := h.r (v 44 0 (v 63 0 a)) (by omega) (by omega)
  have hx := And.intro (ILx h ca) (And.intro (IWx h (a := v 62 0 a) (by omega)) (And.intro (IPx h cc) (And.intro (IPx h (a := v 63 0 a) (by omega)) (And.intro (IPx h (a := v 50 0 (v 62 0 a)) (by omega)) (And.intro (IPx h cs) hr.1)))))
  have sb := shF_b h ca cd
  have m1 := mon_b h (a := c) (by omega)
  have m2 := mon_b h (a := v 50 0 (v 62 0 a)) (by omega)
  have m3 := mon_b h (a := v 63 0 a) (by omega)
  have m4 := mon_b h (a := s) (by omega)
  have k1 := d1_b (i := c) (x := shF v a d) (B := 1000000) (by omega) (by omega)
  have k2 := d1_b (i := v 50 0 (v 62 0 a)) (x := shF v a d) (B := 1000000) (by omega) (by omega)
  have k3 := d1_b (i := c) (x := e) (B := 1000000) (by omega) (by omega)
  have k4 := d1_b (i := s) (x := e) (B := 1000000) (by omega) (by omega)
  have k1c := k1 c
  have k2c := k2 c
  have k3c := k3 c
  have k4c := k4 c
  have k1a := k1 (v 50 0 (v 62 0 a))
  have k2a := k2 (v 50 0 (v 62 0 a))
  have k1s := k1 s
  have k2s := k2 s
  have k1h := k1 (v 63 0 a)
  have k2h := k2 (v 63 0 a)
  have k3h := k3 (v 63 0 a)
  have k4h := k4 (v 63 0 a)
  clear k1 k2 k3 k4
  have e0 : (up v 2 a 6 (-1)) = pmC (up v 2 a 6 (-1)) (fun _ => 0) := (pmC_0 (fun _ => rfl)).symm
  have r3 : ∀ k, up v 2 a 6 (-1) 3 k 2 = v 3 k 2 := fun k => up_o (by omega)
  have es := x7_share h ca cd
  have e1 : sp_X7_pay c (v 50 0 (v 62 0 a)) (shF v a d) (up v 2 a 6 (-1)) = rOk 0 (pmC (up v 2 a 6 (-1)) (m1F v a c d)) := by
    have t := x7_pay (v := up v 2 a 6 (-1)) (f := fun _ => 0) (p := c) (q := v 50 0 (v 62 0 a)) (x := shF v a d) (by omega) (by omega) (by omega) (by rw [r3]; omega) (by rw [r3]; omega)
    rw [← e0] at t
    exact t
  have f1 : ∀ k, m1F v a c d k = 0 - d1 c (shF v a d) k + d1 (v 50 0 (v 62 0 a)) (shF v a d) k := fun _ => rfl
  have f2 : ∀ k, m2F v a c d s e k = m1F v a c d k - d1 c e k + d1 s e k := fun _ => rfl
  have e2 : sp_X7_pay c s e (pmC (up v 2 a 6 (-1)) (m1F v a c d)) = rOk 0 (pmC (up v 2 a 6 (-1)) (m2F v a c d s e)) := x7_pay (v := up v 2 a 6 (-1)) (f := m1F v a c d) (p := c) (q := s) (x := e) (by omega) (by omega) (by omega) (by rw [r3, f1]; omega) (by rw [r3, f1]; omega)
  have e3 := x7_pay (v := up v 2 a 6 (-1)) (f := m2F v a c d s e) (p := c) (q := v 63 0 a) (x := d - shF v a d - e) (by omega) (by omega) (by omega) (by rw [r3, f2, f1]; omega) (by rw [r3, f2, f1]; omega)
  have e4 : (fun k => m2F v a c d s e k - d1 c (d - shF v a d - e) k + d1 (v 63 0 a) (d - shF v a d - e) k) = dlF v a c d s e := by
    funext k
    unfold dlF
    rw [f2, f1]
    have : d1 c (shF v a d) k + d1 c e k + d1 c (d - shF v a d - e) k = d1 c d k := by
      unfold d1
      split <;> omega
    omega
  rw [e4] at e3
  have l3 := hl1
  have w3 := IWx h (a := v 62 0 a) (by omega)
  have g1 : up v 2 a 6 (-1) 6 (up v 2 a 6 (-1) 2 a 1) 1 = v 50 0 (v 62 0 a) := by
    rw [up_o (by omega), up_o (by omega), (ILx h ca).2.2.1]
    exact w3.2.2.1
  have g3 : pmC (up v 2 a 6 (-1)) (m2F v a c d s e) 2 a 3 = v 63 0 a := by
    rw [pmC_r, if_neg (by omega), up_o (by omega)]
    exact (ILx h ca).2.2.2.2.1
  have g4 : w32 (w32 (d - shF v a d) - e) = d - shF v a d - e := by
    rw [w32_i (z := d - shF v a d) (by omega) (by omega), w32_i (by omega) (by omega)]
  rw [← g1] at e1
  rw [← g3, ← g4] at e3
  clear l3 w3 g1 g3 g4
  have i71 : ¬ v 71 0 a = -1 → v 2 a 7 = a ∧ v 4 a 0 = v 71 0 a ∧ v 4 a 3 = v 74 0 a := fun z => by omega
  have ha := h.a.2.2.1 (v 8 0 21) (by omega)
  have nn : Unit → ((a = v 8 0 21) = False ∧ (v 8 0 21 = a) = False) := fun _ => ⟨eq_false (by omega), eq_false (by omega)⟩
  have b1 : 0 ≤ v 62 0 a ∧ v 62 0 a < 12 ∧ 0 ≤ v 63 0 a ∧ v 63 0 a < 10 ∧ 0 ≤ v 50 0 (v 62 0 a) ∧ v 50 0 (v 62 0 a) < 10 ∧ 0 ≤ v 8 0 21 ∧ v 64 0 a ≤ 60 ∧ 0 ≤ v 8 0 1 ∧ v 8 0 1 ≤ 20000 := ⟨by omega, by omega, by omega, by omega, by omega, by omega, by omega, by omega, by omega, by omega⟩
  have b71 : ¬ v 71 0 a = -1 → 0 ≤ v 71 0 a ∧ v 71 0 a ≤ v 8 0 1 := fun z => by omega
  have m7 : v 71 0 a = -1 → v 2 a 7 = -1 := fun z => by omega
  unfold sp_X7_carryOut sp_X2_isFlippedOn sp_X2_isHeldByArtist sp_X3_punishBy sp_X4_init sp_X4_learn sp_X2_init sp_X7_keepLot
  apply eq_wp
  rcases fl_c v a with t | t | t | t | t
  case' inl => have e9 := hy.2 (fun z => z.1 t)
  case' inr.inl => have e9 := hy.2 (fun z => z.2.1 t.2)
  case' inr.inr.inl => have e9 := hy.2 (fun z => z.2.2.1 t.2.2)
  case' inr.inr.inr.inl => have e9 := hy.2 (fun z => absurd z.2.2.2 (by omega))
  case' inr.inr.inr.inr => have e9 := hy.1 t
  case' inr.inl => replace hx := And.intro hx (m7 t.2)
  case' inr.inr.inl => replace hx := And.intro hx (i71 t.2.1)
  case' inr.inr.inr.inl => replace hx := And.intro hx (i71 t.2.1)
  case' inr.inr.inr.inr => replace hx := And.intro hx (i71 t.2.1)
  case' inr.inr.inl => have t9 := b71 t.2.1
  case' inr.inr.inr.inl => have t9 := b71 t.2.1
  case' inr.inr.inr.inr => have t9 := b71 t.2.1
  all_goals clear f1 f2 k1c k2c k3c k4c k1a k2a k1s k2s k1h k2h k3h k4h m1 m2 m3 m4 e0 r3 e4 hr hy i71 b71 m7 hs hl1 hl3 hw hp
  all_goals repeat' (first | (with_reducible refine wp_eq es ?_) | (with_reducible refine wp_eq e1 ?_) | (with_reducible refine wp_eq e2 ?_) | (with_reducible refine wp_eq e3 ?_) | (with_reducible refine wp_eq e2 ?_) | first | (with_reducible refine wp_B ?_) | (with_reducible refine wp_ok ?_) | (with_reducible refine wp_ex ?_) | (with_reducible refine wp_chk ?_ ?_; (· (first | omega | (simp (decide := true) (disch := omega) only [hx, up_r, nw_r, f8all hF, i7 h, k9, df_a, df_16, w32_i, w64_i, ↓reduceIte, if_true, if_false, false_and, and_false, true_and, and_true, and_self, not_true, not_false_iff, upf, lcmp_l, lcmp_g, lcmp_e, pmC_r, pmM_r, d1_s, nn ()] <;> omega)))) | (with_reducible refine wp_t ?_ ?_; (· (first | omega | (simp (decide := true) (disch := omega) only [hx, up_r, nw_r, f8all hF, i7 h, k9, df_a, df_16, w32_i, w64_i, ↓reduceIte, if_true, if_false, false_and, and_false, true_and, and_true, and_self, not_true, not_false_iff, upf, lcmp_l, lcmp_g, lcmp_e, pmC_r, pmM_r, d1_s, nn ()] <;> omega)))) | (with_reducible refine wp_f ?_ ?_; (· (first | omega | (simp (decide := true) (disch := omega) only [hx, up_r, nw_r, f8all hF, i7 h, k9, df_a, df_16, w32_i, w64_i, ↓reduceIte, if_true, if_false, false_and, and_false, true_and, and_true, and_self, not_true, not_false_iff, upf, lcmp_l, lcmp_g, lcmp_e, pmC_r, pmM_r, d1_s, nn ()] <;> omega)))) | (with_reducible apply wp_up; (· (first | (simp (decide := true) (disch := omega) only [hx, up_r, nw_r, f8all hF, i7 h, k9, df_a, df_16, w32_i, w64_i, ↓reduceIte, if_true, if_false, false_and, and_false, true_and, and_true, and_self, not_true, not_false_iff, upf, lcmp_l, lcmp_g, lcmp_e, pmC_r, pmM_r, d1_s, nn ()] <;> rfl) | rfl)); (· (first | (simp (decide := true) (disch := omega) only [hx, up_r, nw_r, f8all hF, i7 h, k9, df_a, df_16, w32_i, w64_i, ↓reduceIte, if_true, if_false, false_and, and_false, true_and, and_true, and_self, not_true, not_false_iff, upf, lcmp_l, lcmp_g, lcmp_e, pmC_r, pmM_r, d1_s, nn ()] <;> rfl) | rfl)); (· (first | (simp (decide := true) (disch := omega) only [hx, up_r, nw_r, f8all hF, i7 h, k9, df_a, df_16, w32_i, w64_i, ↓reduceIte, if_true, if_false, false_and, and_false, true_and, and_true, and_self, not_true, not_false_iff, upf, lcmp_l, lcmp_g, lcmp_e, pmC_r, pmM_r, d1_s, nn ()] <;> rfl) | rfl))) | (with_reducible apply wp_nw; (· (first | (simp (decide := true) (disch := omega) only [hx, up_r, nw_r, f8all hF, i7 h, k9, df_a, df_16, w32_i, w64_i, ↓reduceIte, if_true, if_false, false_and, and_false, true_and, and_true, and_self, not_true, not_false_iff, upf, lcmp_l, lcmp_g, lcmp_e, pmC_r, pmM_r, d1_s, nn ()] <;> rfl) | rfl))))
  all_goals (refine ⟨by first | omega | (simp (decide := true) (disch := omega) only [hx, up_r, nw_r, f8all hF, i7 h, k9, df_a, df_16, w32_i, w64_i, ↓reduceIte, if_true, if_false, false_and, and_false, true_and, and_true, and_self, not_true, not_false_iff, upf, lcmp_l, lcmp_g, lcmp_e, pmC_r, pmM_r, d1_s, nn ()] <;> omega), ?_⟩; rw [e9]; unfold cT hdF; (try unfold cP))
  all_goals ((repeat (first | rw [if_pos (by omega)] | rw [if_neg (by omega)])))
  all_goals rfl
end Mo

/-! PURE 24: both objects: areAlike, areKept, isBarred -/
/-- both are alike, and all is kept -/
def T2 (M : Int) (W : V) : Prop := vP W = vO W ∧ Inv (vO W) ∧ vO W 7 0 5 = 6 ∧ vO W 7 0 6 = 4 ∧ mon (vO W) = M ∧ ¬ vO W 99 17 0 = 1 ∧ ¬ vO W 99 18 0 = 1
section Tw
variable {v w W : V} {Q : Int → V → Prop} {E : Nat → V → Prop} {f : V → Res} {r : Res} {a b c d x n z M : Int}
theorem sO_id : sO W (vO W) = W := by
  funext K i j
  unfold sO vO
  by_cases q : 1000 ≤ K ∧ K % 2 = 0
  · rw [if_pos q, show 1000 + 2 * ((K - 1000) / 2) = K by omega]
  · rw [if_neg q]
theorem sP_id : sP W (vP W) = W := by
  funext K i j
  unfold sP vP
  by_cases q : 1000 ≤ K ∧ K % 2 = 1
  · rw [if_pos q, show 1001 + 2 * ((K - 1001) / 2) = K by omega]
  · rw [if_neg q]
theorem lO_ok (h : f (vO W) = rOk z w) : lO f W = rOk z (sO W w) := by
  unfold lO
  rw [h]
  rfl
theorem lP_ok (h : f (vP W) = rOk z w) : lP f W = rOk z (sP W w) := by
  unfold lP
  rw [h]
  rfl
theorem lO_rd (h : f (vO W) = rOk z (vO W)) : lO f W = rOk z W := by rw [lO_ok h, sO_id]
theorem lP_rd (h : f (vP W) = rOk z (vP W)) : lP f W = rOk z W := by rw [lP_ok h, sP_id]
theorem low_rd (hn : ¬ n = 0) (x : Int) (W : V) : lZ (sp_L_low x n) W = rOk (rem32 (and32 x 2147483647) n) W := by
  unfold lZ sp_L_low
  rw [chk_t hn]
  rfl
theorem rz_of (h : Rz v r) : ∃ z, rBx r (fun z1 v1 => (rOk z1 v1)) (kxC (-2100000000) [1, 2, 3]) = rOk z v := by
  rcases wp_two h with ⟨z, w, rfl, rfl⟩ | ⟨e, y, w, rfl, g1, rfl⟩
  · exact ⟨z, rfl⟩
  · refine ⟨-2100000000, ?_⟩
    show kxC (-2100000000) [1, 2, 3] e w = _
    unfold kxC
    rw [if_pos (by rcases g1 with rfl | rfl | rfl <;> decide)]
theorem rz_id (h : Rz v r) : Rz v (rB r (fun z1 v1 => (rOk z1 v1))) := wp_B h
theorem rz_bars (h : Inv v) : Rz v (sp_X7_bars 0 a b c d v) := by
  unfold Rz
  rw [x7_bars h]
  split
  · split
    · exact wp_ok rfl
    · exact wp_ex ⟨Or.inr (Or.inl rfl), rfl⟩
  · exact wp_ex ⟨Or.inl rfl, rfl⟩
theorem rz_bby (h : Inv v) : Rz v (sp_X7_barredBy 0 a b c d v) := by
  unfold Rz
  rw [x7_bby h]
  split
  · split
    · exact wp_ok rfl
    · exact wp_ex ⟨Or.inr (Or.inl rfl), rfl⟩
  · exact wp_ex ⟨Or.inl rfl, rfl⟩
theorem dr_24 (h : Inv v) : ∃ z, sp_L_does_24 a b c d v = rOk z v := by
  unfold sp_L_does_24 sp_L_middle_24
  exact rz_of (rz_id (rz_bby h))
theorem dr_25 (h : Inv v) : ∃ z, sp_L_does_25 a b c d v = rOk z v := rz_of (rz_price h)
theorem dr_26 (h : Inv v) : ∃ z, sp_L_does_26 a b c d v = rOk z v := rz_of (rz_ofParty h)
theorem dr_27 (h : Inv v) : ∃ z, sp_L_does_27 a b c d v = rOk z v := rz_of (rz_ofWork h)
theorem dr_28 (h : Inv v) : ∃ z, sp_L_does_28 a b c d v = rOk z v := rz_of (rz_ofLot h)
theorem dr_29 (h : Inv v) : ∃ z, sp_L_does_29 a b c d v = rOk z v := rz_of (rz_ofLoan h)
/-- a reader answers alike on both -/
theorem both (he : vP W = vO W) (h : ∃ z, f (vO W) = rOk z (vO W)) : ∃ z, lO f W = rOk z W ∧ lP f W = rOk z W := by
  obtain ⟨z, e⟩ := h
  exact ⟨z, lO_rd e, lP_rd (by rw [he]; exact e)⟩
theorem alike_in (he : vP W = vO W) (h : Inv (vO W)) {l2 l4 l5 : Int} (k : V → Int → Int → Res) : ∀ (n : Nat) (t : Int), 0 ≤ t → t ≤ 9 → 9 - t < n → lp_L_areAlike_131 l2 l4 l5 k n W 1 t = k W 1 9 := by
  intro n
  induction n with
  | zero => intro t h0 h1 h2; omega
  | succ n ih =>
    intro t h0 h1 h2
    unfold lp_L_areAlike_131
    by_cases q : 9 ≤ t
    · have : t = 9 := by omega
      subst this
      rw [if_pos q]
    · have e6 : w32 (t + 1) = t + 1 := w32_i (by omega) (by omega)
      obtain ⟨z28, o28, p28⟩ := both (f := sp_L_does_28 l5 t 0 0) he (dr_28 h)
      obtain ⟨z26, o26, p26⟩ := both (f := sp_L_does_26 l5 t 0 0) he (dr_26 h)
      obtain ⟨z27, o27, p27⟩ := both (f := sp_L_does_27 l5 t 0 0) he (dr_27 h)
      obtain ⟨z29, o29, p29⟩ := both (f := sp_L_does_29 l5 t 0 0) he (dr_29 h)
      have st := ih (t + 1) (by omega) (by omega) (by omega)
      simp only [o28, p28, o26, p26, o27, p27, o29, p29, rB_ok, e6, st, q, if_false, not_true_eq_false, if_neg (show ¬ (1 : Int) = 0 by decide), ite_self]
theorem alike_out (he : vP W = vO W) (h : Inv (vO W)) {l2 l4 : Int} (k : V → Int → Int → Res) : ∀ (n : Nat) (t : Int), 0 ≤ t → t ≤ 60 → 60 - t < n → lp_L_areAlike_29 l2 l4 k n W 1 t = k W 1 60 := by
  intro n
  induction n with
  | zero => intro t h0 h1 h2; omega
  | succ n ih =>
    intro t h0 h1 h2
    unfold lp_L_areAlike_29
    by_cases q : 60 ≤ t
    · have : t = 60 := by omega
      subst this
      rw [if_pos q]
    · have e6 : w32 (t + 1) = t + 1 := w32_i (by omega) (by omega)
      obtain ⟨z25, o25, p25⟩ := both (f := sp_L_does_25 t l4 0 0) he (dr_25 h)
      obtain ⟨z24, o24, p24⟩ := both (f := sp_L_does_24 t (w32 (1 + (rem32 t 9))) l4 (rem32 (and32 (shr32 l2 2) 2147483647) 3000)) he (dr_24 h)
      have st := ih (t + 1) (by omega) (by omega) (by omega)
      rw [if_neg q, if_neg (by decide), o25, rB_ok, p25, rB_ok, if_neg (fun z => z rfl), low_rd (by decide), rB_ok, o24, rB_ok, low_rd (by decide), rB_ok, p24, rB_ok, if_neg (fun z => z rfl), alike_in he h _ 10 0 (by omega) (by omega) (by omega), e6, st]
theorem alike_1 (he : vP W = vO W) (h : Inv (vO W)) : sp_L_areAlike a W = rOk 1 W := by
  unfold sp_L_areAlike
  obtain ⟨z, o, p⟩ := both (f := sp_X7_index 0) he (rz_index h)
  rw [o, rB_ok, p, rB_ok, if_neg (fun q => q ((lcmp_0 _ _).mpr rfl)), low_rd (by decide), rB_ok, alike_out he h _ 61 0 (by omega) (by omega) (by omega)]
theorem wp_alike (t : T2 M W) (hq : Q 1 W) : Wp (sp_L_areAlike a W) Q E := by
  rw [alike_1 t.1 t.2.1]
  exact hq
theorem fgt_1 (h : Inv v) (h5 : v 7 0 5 = 6) (h6 : v 7 0 6 = 4) (hz : ¬ v 99 17 0 = 1 ∧ ¬ v 99 18 0 = 1) (ha : a = mon v) : fgt (sp_L_areKept_4 a) v = rOk 1 v := by
  obtain ⟨z, w, e, rfl, x⟩ := wp_get (kept_1 h h5 h6 hz ha)
  refine fgt_ok e (fun K i j hK hi => x K i j ?_ ?_ (Or.inl (by omega)))
  · by_cases q : K = 17
    · subst q
      right
      intro q2
      subst q2
      exact hz.1 hi
    · exact Or.inl q
  · by_cases q : K = 18
    · subst q
      right
      intro q2
      subst q2
      exact hz.2 hi
    · exact Or.inl q
theorem wp_kO (t : T2 M W) (hq : Q 1 W) : Wp (lO (fgt (sp_L_areKept_4 M)) W) Q E := by
  obtain ⟨t1, t2, t3, t4, t5, t6⟩ := t
  rw [lO_rd (fgt_1 t2 t3 t4 t6 t5.symm)]
  exact hq
theorem wp_kP (t : T2 M W) (hq : Q 1 W) : Wp (lP (fgt (sp_L_areKept_4 M)) W) Q E := by
  obtain ⟨t1, t2, t3, t4, t5, t6⟩ := t
  rw [lP_rd (by rw [t1]; exact fgt_1 t2 t3 t4 t6 t5.symm)]
  exact hq
theorem T2_kp (t : T2 M W) (h : Inv w) (k : Kp (vO W) w) {X : V} (h1 : vO X = w) (h2 : vP X = w) : T2 M X := by
  obtain ⟨t1, t2, t3, t4, t5, t6, t7⟩ := t
  obtain ⟨k1, k2, k3, k4, k5⟩ := k
  unfold T2
  rw [h1, h2]
  exact ⟨rfl, h, k1.trans t3, k2.trans t4, k3.trans t5, fun q => t6 (k4 ▸ q), fun q => t7 (k5 ▸ q)⟩
/-- what bars against what a sale does, behind the drawn price -/
def barR (z1 p z2 z5 : Int) (v5 : V) : Res := (rB (lO (sp_L_does_23 z1 p z2 z5) v5) (fun z6 v6 => (rB (lO (sp_L_does_24 z1 p z2 z5) v6) (fun z7 v7 => (rB (lO (sp_L_does_26 z2 0 0 0) v7) (fun z8 v8 => (rB (lO (sp_L_does_13 z1 p z2 z5) v8) (fun z9 v9 => (rB (lP (sp_L_does_13 z1 p z2 z5) v9) (fun z10 v10 => (if ¬ z10 = z9 then (if z9 < 0 then (rOk 0 v10)
   else (rOk 0 v10))
   else (if ¬ z6 = 0 then (if z9 < 0 then (if z6 ≤ 0 then (rB (lO (sp_L_does_26 z2 0 0 0) v10) (fun z16 v16 => (if ¬ z16 = z8 then (rOk 0 v16)
   else (rOk 1 v16))))
   else (if 8 ≤ z6 then (rOk 0 v10)
   else (if z7 < 0 then (rOk 0 v10)
   else (rB (lO (sp_L_does_26 z2 0 0 0) v10) (fun z20 v20 => (if ¬ z20 = z8 then (rOk 0 v20)
   else (rOk 1 v20)))))))
   else (rOk 0 v10))
   else (if z9 < 0 then (rOk 0 v10)
   else (if z6 ≤ 0 then (if ¬ z7 = (-1) then (rOk 0 v10)
   else (rB (lO (sp_X7_ofLot 0 z9 1) v10) (fun z25 v25 => (if ¬ z25 = z2 then (rOk 0 v25)
   else (rB (lO (sp_X7_ofLot 0 z9 2) v25) (fun z27 v27 => (if ¬ z27 = p then (rOk 0 v27)
   else (rB (lO (sp_X7_ofLot 0 z9 5) v27) (fun z29 v29 => (if ¬ z29 = z1 then (rOk 0 v29)
   else (rB (lO (sp_X7_price 0 z9 z2) v29) (fun z31 v31 => (if ¬ z31 = z5 then (rOk 0 v31)
   else (rB (lO (sp_X7_ofLot 0 z9 3) v31) (fun z33 v33 => (rB (lO (sp_X7_ofLot 0 z1 3) v33) (fun z34 v34 => (if ¬ z33 = z34 then (rOk 0 v34)
   else (rB (lO (sp_X7_ofLot 0 z9 4) v34) (fun z36 v36 => (if ¬ z36 = (-1) then (rOk 0 v36)
   else (rB (lO (sp_X7_ofLot 0 z9 8) v36) (fun z38 v38 => (if z38 ≤ 0 then (rOk 0 v38)
   else (rOk 1 v38)))))))))))))))))))))))))
   else (if 8 ≤ z6 then (rOk 0 v10)
   else (if z7 < 0 then (rOk 0 v10)
   else (if ¬ z7 = (-1) then (rOk 0 v10)
   else (rB (lO (sp_X7_ofLot 0 z9 1) v10) (fun z43 v43 => (if ¬ z43 = z2 then (rOk 0 v43)
   else (rB (lO (sp_X7_ofLot 0 z9 2) v43) (fun z45 v45 => (if ¬ z45 = p then (rOk 0 v45)
   else (rB (lO (sp_X7_ofLot 0 z9 5) v45) (fun z47 v47 => (if ¬ z47 = z1 then (rOk 0 v47)
   else (rB (lO (sp_X7_price 0 z9 z2) v47) (fun z49 v49 => (if ¬ z49 = z5 then (rOk 0 v49)
   else (rB (lO (sp_X7_ofLot 0 z9 3) v49) (fun z51 v51 => (rB (lO (sp_X7_ofLot 0 z1 3) v51) (fun z52 v52 => (if ¬ z51 = z52 then (rOk 0 v52)
   else (rB (lO (sp_X7_ofLot 0 z9 4) v52) (fun z54 v54 => (if ¬ z54 = (-1) then (rOk 0 v54)
   else (rB (lO (sp_X7_ofLot 0 z9 8) v54) (fun z56 v56 => (if z56 ≤ 0 then (rOk 0 v56)
   else (rOk 1 v56)))))))))))))))))))))))))))))))))))))))))
theorem barR_t (t : T2 M W) (q : oks (vO W) a b c d) : ∃ W', barR a b c d W = rOk 1 W' ∧ T2 M W' := by
  obtain ⟨t1, t2, -⟩ := id t
  have hs := t2.s
  unfold IS at hs
  obtain ⟨w, e, g1, g2, g3⟩ := sell_t t2 q
  obtain ⟨⟨ca, cc⟩, q2, q3⟩ := q
  have hc := salB_c (b := b) (d := d) t2 ca cc
  have hc2 : (salB (vO W) a b c d).2 = -1 := by omega
  obtain ⟨n1, n2, n3, n4, n5, n6, n7, n8, n9, n10⟩ := g3
  have e23 : sp_L_does_23 a b c d (vO W) = rOk 0 (vO W) := by
    unfold sp_L_does_23 sp_L_middle_23
    rw [x7_bars t2, if_pos ⟨ca, cc⟩, if_pos q2, q3, rB_ok, rBx_ok]
  have e24 : sp_L_does_24 a b c d (vO W) = rOk (-1) (vO W) := by
    unfold sp_L_does_24 sp_L_middle_24
    rw [x7_bby t2, if_pos ⟨ca, cc⟩, if_pos q2, hc2, rB_ok, rBx_ok]
  obtain ⟨z8, e26⟩ := dr_26 (a := c) (b := 0) (c := 0) (d := 0) t2
  have e13 : sp_L_does_13 a b c d (vO W) = rOk (vO W 7 0 7) w := by
    unfold sp_L_does_13 sp_L_middle_13
    rw [e, rB_ok, rBx_ok]
  have e13p : lP (sp_L_does_13 a b c d) (sO W w) = rOk (vO W 7 0 7) (sP (sO W w) w) := lP_ok (by rw [vP_sO, t1]; exact e13)
  have hT : T2 M (sP (sO W w) w) := T2_kp t g1 g2 (by rw [vO_sP, vO_sO]) (by rw [vP_sP])
  have hw : vO (sP (sO W w) w) = w := by rw [vO_sP, vO_sO]
  have cn : 0 ≤ vO W 7 0 7 ∧ vO W 7 0 7 < w 7 0 7 := by omega
  have cn2 : 0 ≤ a ∧ a < w 7 0 7 := by omega
  have hl := lot_f g1 cn
  have rd : ∀ (f : V → Res) (z : Int), f w = rOk z w → lO f (sP (sO W w) w) = rOk z (sP (sO W w) w) := fun f z h => lO_rd (by rw [hw]; exact h)
  have hpr : sp_X7_price 0 (vO W 7 0 7) c w = rOk d w := by
    have h := g1
    have cc2 : 0 ≤ c ∧ c < w 7 0 5 := by rw [g2.1]; exact cc
    have hx := And.intro (IPx h cc2) (And.intro n8 n9)
    unfold sp_X7_price sp_X4_isKnownTo
    rw [e_lotAt h, if_pos cn, rB_ok, chk_t cn.1, e_partyAt h, if_pos cc2, rB_ok, n8, if_neg (by omega), chk_t cc2.1, (IPx h cc2).2, if_neg n10, rB_ok, if_neg (by decide), n9]
  have hd4 : dlr w (vO W 7 0 7) = -1 := by
    unfold dlr
    rw [if_pos n7]
  have hcha : ¬ cha w (vO W 7 0 7) ≤ 0 := by
    have e0 := cha_eq g1 cn
    rw [n8, if_neg (by omega)] at e0
    have hb := chF_b (v := w) 61 (w 2 (vO W 7 0 7) 2)
    unfold cha at e0 ⊢
    split at e0
    · omega
    · split at e0
      · omega
      · omega
  refine ⟨sP (sO W w) w, ?_, hT⟩
  unfold barR
  rw [lO_rd e23, rB_ok, lO_rd e24, rB_ok, lO_rd e26, rB_ok, lO_ok e13, rB_ok, e13p, rB_ok, if_neg (fun z => z rfl), if_neg (by decide), if_neg (by omega), if_pos (by decide), if_neg (fun z => z rfl)]
  rw [rd _ _ (oL_1 g1 cn), rB_ok, n2, if_neg (fun z => z rfl), rd _ _ (oL_2 g1 cn), rB_ok, n3, if_neg (fun z => z rfl), rd _ _ (oL_5 g1 cn), rB_ok, n4, if_neg (fun z => z rfl), rd _ _ hpr, rB_ok, if_neg (fun z => z rfl), rd _ _ (oL_3 g1 cn), rB_ok, rd _ _ (oL_3 g1 cn2), rB_ok, n5, n6, if_neg (fun z => z rfl), rd _ _ (oL_4 g1 cn), rB_ok, hd4, if_neg (fun z => z rfl), rd _ _ (oL_8 g1 cn), rB_ok, if_neg hcha]
theorem barR_f (t : T2 M W) (q : ¬ oks (vO W) a b c d) : barR a b c d W = rOk 1 W := by
  obtain ⟨t1, t2, -⟩ := id t
  obtain ⟨e, e1, e2⟩ := sell_f t2 q
  have hk : kxC (-2100000000) [1, 2, 3] e (vO W) = rOk (-2100000000) (vO W) := by
    unfold kxC
    rw [if_pos (by rcases e2 with rfl | rfl | rfl <;> decide)]
  have e13 : sp_L_does_13 a b c d (vO W) = rOk (-2100000000) (vO W) := by
    unfold sp_L_does_13 sp_L_middle_13
    rw [e1, rB_ex, rBx_ex, hk]
  have k1 : ∀ e, (e = 1 ∨ e = 2) → kxC (-2100000000) [1, 2, 3] e (vO W) = rOk (-2100000000) (vO W) := fun e h => by
    unfold kxC
    rw [if_pos (by rcases h with rfl | rfl <;> decide)]
  obtain ⟨z8, e26⟩ := dr_26 (a := c) (b := 0) (c := 0) (d := 0) t2
  have e23 : ∃ z6 z7, sp_L_does_23 a b c d (vO W) = rOk z6 (vO W) ∧ sp_L_does_24 a b c d (vO W) = rOk z7 (vO W) ∧ (z6 = -2100000000 ∨ (1 ≤ z6 ∧ z6 ≤ 7 ∧ 0 ≤ z7)) := by
    unfold sp_L_does_23 sp_L_middle_23 sp_L_does_24 sp_L_middle_24
    rw [x7_bars t2, x7_bby t2]
    by_cases q1 : (0 ≤ a ∧ a < vO W 7 0 7) ∧ (0 ≤ c ∧ c < vO W 7 0 5)
    · rw [if_pos q1, if_pos q1]
      by_cases q2 : (1 ≤ b ∧ b ≤ 60) ∧ (0 ≤ d ∧ d ≤ 1000000) ∧ ¬ c = vO W 2 a 3
      · rw [if_pos q2, if_pos q2]
        have hc := salB_c (b := b) (d := d) t2 q1.1 q1.2
        have hn : ¬ (salB (vO W) a b c d).1 = 0 := fun z => q ⟨q1, q2, z⟩
        exact ⟨_, _, rfl, rfl, by omega⟩
      · rw [if_neg q2, if_neg q2, rB_ex, rBx_ex, k1 2 (Or.inr rfl)]
        exact ⟨_, _, rfl, rfl, Or.inl rfl⟩
    · rw [if_neg q1, if_neg q1, rB_ex, rBx_ex, k1 1 (Or.inl rfl)]
      exact ⟨_, _, rfl, rfl, Or.inl rfl⟩
  obtain ⟨z6, z7, e23, e24, hz⟩ := e23
  unfold barR
  rw [lO_rd e23, rB_ok, lO_rd e24, rB_ok, lO_rd e26, rB_ok, lO_rd e13, rB_ok, lP_rd (by rw [t1]; exact e13), rB_ok, if_neg (fun z => z rfl), if_pos (by omega), if_pos (by decide)]
  by_cases g : z6 ≤ 0
  · rw [if_pos g, lO_rd e26, rB_ok, if_neg (fun z => z rfl)]
  · rw [if_neg g, if_neg (by omega), if_neg (by omega), lO_rd e26, rB_ok, if_neg (fun z => z rfl)]
theorem wp_barred (t : T2 M W) (hq : ∀ W', T2 M W' → Q 1 W') : Wp (sp_L_isBarred a W) Q E := by
  have key : ∀ z1 p z2 z5, Wp (barR z1 p z2 z5 W) Q E := fun z1 p z2 z5 => by
    by_cases q : oks (vO W) z1 p z2 z5
    · obtain ⟨W', e, t'⟩ := barR_t t q
      rw [e]
      exact hq W' t'
    · rw [barR_f t q]
      exact hq W t
  unfold sp_L_isBarred
  rw [low_rd (by decide), rB_ok, low_rd (by decide), rB_ok, low_rd (by decide), rB_ok]
  by_cases g : and32 a 3 = 0
  · rw [if_neg (by omega), low_rd (by decide), rB_ok]
    exact key _ _ _ _
  · rw [if_pos g, low_rd (by decide), rB_ok]
    exact key _ _ _ _
end Tw

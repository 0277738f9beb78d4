/-! PURE 37: sell -/
section Se
variable {v w y7 y8 : V} {Q : Int → V → Prop} {E : Nat → V → Prop} {a b c d e i j s x y z : Int} {K : Nat} {r : Res} {p : Int × Int}
theorem barW_0 (h : p.1 = 0) : barW w p = w := by
  unfold barW
  rw [if_pos h]
theorem refuse8s (h : Inv v) {e : Nat} (hp : plF v a b c d = e) (he : e = 1 ∨ e = 2) {f8 : V → Res} {k : Int → V → Res} (hf : ∀ w, f8 w = rB (sp_X8_placeOf 0 a b c d w) k) (hk : Wp (k e v) (fun _ w => w 8 0 0 = e ∧ Inv w) NoE) : AgE [1, 2, 3] f8 Inv e v := by
  rcases he with rfl | rfl
  · refine ⟨1, rfl, by decide, ?_⟩
    rw [hf, x8_place h Md4_r, hp]
    exact hk
  · refine ⟨2, rfl, by decide, ?_⟩
    rw [hf, x8_place h Md4_r, hp]
    exact hk
theorem Md4_cT (hN : v 8 0 21 < 60) (m : Md4 y7 v) : Md4 (cT v y7 a b c d s) v := by
  unfold cT
  repeat (first | exact m | refine Md4_u (by omega) ?_ | refine Md4_n (by omega) ?_)
theorem Md4_y7 (h : y7 = cP v (pmC (up v 2 a 6 (-1)) (dlF v a c d s e)) a ∨ y7 = pmC (up v 2 a 6 (-1)) (dlF v a c d s e)) : Md4 y7 v := by
  rcases h with rfl | rfl
  · unfold cP
    exact Md4_u (by omega) (Md4_C (Md4_u (by omega) Md4_r))
  · exact Md4_C (Md4_u (by omega) Md4_r)
/-- both lay down a sale: they agree -/
theorem sale_ok (h : Inv v) (ca : 0 ≤ a ∧ a < v 8 0 21) (cc : 0 ≤ c ∧ c < v 8 0 2) (cb : 1 ≤ b ∧ b ≤ v 64 0 a) (cd : 0 ≤ d ∧ d ≤ 1000000) (ce : 0 ≤ e ∧ 2 * e ≤ d) (cn : v 8 0 21 < 60) (cm : d ≤ v 43 0 c) (hs : (v 66 0 a = -1 ∧ s = v 63 0 a ∧ e = 0) ∨ (¬ v 66 0 a = -1 ∧ s = v 66 0 a)) : ∃ u, sp_X7_carryOut 0 a b c d s e (up v 2 a 6 (-1)) = rOk (v 8 0 21) u ∧ Md4 u v ∧ ∀ x4 x5, ∃ w, sp_X8_goes 0 a b c d e (up (up (up (up u 9 0 0 (v 8 0 21)) 8 0 44 x4) 8 0 45 x5) 8 0 0 0) = rOk (v 8 0 21) w ∧ w 8 0 0 = 0 ∧ w 9 0 0 = v 8 0 21 ∧ Inv w := by
  have cs : 0 ≤ s ∧ s < v 8 0 2 := by
    have hl1 := (h.l a ca.1 ca.2).1
    have hl2 := (h.l a ca.1 ca.2).2.1
    unfold ICo at hl2
    omega
  by_cases fl : flF v a
  · have m7 := Md4_y7 (v := v) (a := a) (c := c) (d := d) (s := s) (e := e) (Or.inl rfl)
    refine ⟨_, x7_carry h ca cc cs cb cd ce cn _ ⟨fun _ => rfl, fun z => absurd fl z⟩, Md4_cT cn m7, fun x4 x5 => ?_⟩
    refine ⟨_, x8_goes h (Md4_u (by omega) (Md4_u (by omega) (Md4_u (by omega) (Md4_u (by omega) (Md4_cT cn m7))))) ca cc cb cd ce cn hs _ ⟨fun _ => rfl, fun z => absurd fl z⟩, rfl, rfl, ?_⟩
    exact fin_inv h ca cc cs cb cd ce cn cm (Or.inl ⟨fl, rfl, rfl⟩)
  · have m7 := Md4_y7 (v := v) (a := a) (c := c) (d := d) (s := s) (e := e) (Or.inr rfl)
    refine ⟨_, x7_carry h ca cc cs cb cd ce cn _ ⟨fun z => absurd z fl, fun _ => rfl⟩, Md4_cT cn m7, fun x4 x5 => ?_⟩
    refine ⟨_, x8_goes h (Md4_u (by omega) (Md4_u (by omega) (Md4_u (by omega) (Md4_u (by omega) (Md4_cT cn m7))))) ca cc cb cd ce cn hs _ ⟨fun z => absurd z fl, fun _ => rfl⟩, rfl, rfl, ?_⟩
    exact fin_inv h ca cc cs cb cd ce cn cm (Or.inr ⟨fl, rfl, rfl⟩)
theorem ag_sell (h : Inv v) : AgI (sp_X7_sell 0 a b c d v) [1, 2, 3] (sp_X8_sell 0 a b c d) Inv := by
  by_cases q : (0 ≤ a ∧ a < v 8 0 21) ∧ (0 ≤ c ∧ c < v 8 0 2) ∧ (1 ≤ b ∧ b ≤ 60) ∧ (0 ≤ d ∧ d ≤ 1000000) ∧ ¬ c = v 63 0 a
  · obtain ⟨ca, cc, cb, cd, cn⟩ := q
    by_cases p0 : (salB v a b c d).1 = 0
    · have f : b ≤ v 64 0 a ∧ v 66 0 a = -1 ∧ d ≤ v 43 0 c ∧ ¬ v 8 0 21 = 60 := by
        rcases salB_c v a b c d with ⟨e, g⟩ | ⟨e, g⟩ | ⟨e, g⟩ | ⟨e, g⟩ | ⟨e, g⟩
        all_goals rw [e] at p0
        case' inr.inr.inr.inr => rcases anyB_c v a c d with ⟨f, g2⟩ | ⟨f, g2⟩ | ⟨f, g2⟩ | ⟨f, g2⟩ | ⟨f, g2⟩
        all_goals try rw [f] at p0
        all_goals (dsimp only at p0; omega)
      have hs := h.s
      unfold IS at hs
      have h26 : v 2 a 6 = -1 := by
        have hl2 := (h.l a ca.1 ca.2).2.1
        unfold ICo at hl2
        omega
      have hv : up v 2 a 6 (v 2 a 6) = v := up_sm
      rw [h26] at hv
      obtain ⟨u, e7, m, e8⟩ := sale_ok (e := 0) (s := v 63 0 a) (b := b) h ca cc ⟨cb.1, f.1⟩ cd (by omega) (by omega) f.2.2.1 (Or.inl ⟨f.2.1, rfl, rfl⟩)
      obtain ⟨w, e9, g1, g2, g3⟩ := e8 0 (-1)
      rw [hv] at e7
      unfold AgI sp_X7_sell
      rw [e_lotAt h, if_pos ca, rB_ok, e_partyAt h, if_pos cc, rB_ok, x7_offer h ca, if_pos ⟨cb, cd, cn⟩, rB_ok, x7_sale h ca cc, rB_ok, if_neg (by omega), e_state, if_neg (by decide), rB_ok, chk_t ca.1, (ILx h ca).2.2.2.2.1, e7, rB_ok]
      have m2 : Md4 (up u 9 0 0 (v 8 0 21)) v := Md4_u (by omega) m
      refine wp_ok ?_
      unfold sp_X8_sell
      rw [x8_place h m2, plF_t ⟨ca, cc, cb, cd, cn⟩, rB_ok, if_pos (by decide), x8_sale h m2 ca cc (by omega) cd, rB_ok, if_pos p0, if_pos rfl, barW_0 p0, e_holds, if_pos rfl, rB_ok, if_pos (by decide), e9, rB_ok]
      exact wp_ok ⟨rfl, g1, g2, g3⟩
    · unfold AgI sp_X7_sell
      rw [e_lotAt h, if_pos ca, rB_ok, e_partyAt h, if_pos cc, rB_ok, x7_offer h ca, if_pos ⟨cb, cd, cn⟩, rB_ok, x7_sale h ca cc, rB_ok, if_pos p0, e_state, if_pos rfl, rB_ex]
      refine wp_ex ⟨3, rfl, by decide, ?_⟩
      unfold sp_X8_sell
      rw [x8_place h Md4_r, plF_t ⟨ca, cc, cb, cd, cn⟩, rB_ok, if_pos (by decide), x8_sale h Md4_r ca cc (by omega) cd, rB_ok, if_neg p0, if_neg (by decide), e_holds, if_neg (by decide), rB_ok, if_neg (by decide)]
      exact wp_ok ⟨rfl, (Inv_barW (Inv_u (by omega) (Inv_u (by omega) h))).thr 3⟩
  · obtain ⟨e, e1, e2, e3⟩ := refuse h q (fun z1 z2 z3 v3 => (rB (sp_X7_barOfSale 0 z1 b z2 d v3) (fun z4 v4 => (if ¬ z4 = 0 then (rB (sp_X7_requireState 0 v4) (fun z6 v6 => none)) else (rB (sp_X7_requireState 1 v4) (fun z7 v7 => (chk (0 ≤ z1) (rB (sp_X7_carryOut 0 z1 b z2 d (v7 2 z1 3) 0 v7) (fun z9 v9 => (rOk z9 v9))))))))))
    unfold AgI sp_X7_sell
    rw [e1]
    refine wp_ex (refuse8s h e2 e3 (k := _) (fun w => by unfold sp_X8_sell; rfl) ?_)
    refine wp_f (by omega) (wp_B (wp_eq (holds_e e3) (wp_ok (wp_f (by decide) (wp_ok ⟨?_, h.thr _⟩)))))
    rfl
end Se

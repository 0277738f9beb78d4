/-! PURE 25: the law -/
def z0s : V := fun _ _ _ => 0
def S7 : V := (up (nw (up (nw (up (nw (up (nw (up (nw (nw z0s 7 0) 10 0) 7 0 0 0) 11 0) 7 0 1 0) 12 0) 7 0 2 0) 13 0) 7 0 3 0) 14 0) 7 0 4 0)
section La
variable {v w W : V} {Q : Int → V → Prop} {E : Nat → V → Prop} {L : Nat} {xs : Nat → Int32} {a b c d x n z M : Int}
theorem and32_m (x : Int) : 0 ≤ and32 x 2147483647 ∧ and32 x 2147483647 < 2147483648 := by
  unfold and32
  show 0 ≤ (((Int32.ofInt x).toBitVec &&& (Int32.ofInt 2147483647).toBitVec)).toInt ∧ (((Int32.ofInt x).toBitVec &&& (Int32.ofInt 2147483647).toBitVec)).toInt < 2147483648
  have e : ((Int32.ofInt x).toBitVec &&& (Int32.ofInt 2147483647).toBitVec).toNat ≤ 2147483647 := by
    rw [BitVec.toNat_and, ofi_nat (a := 2147483647) (by omega) (by omega)]
    exact Nat.and_le_right
  rw [BitVec.toInt_eq_toNat_of_lt (by omega)]
  omega
theorem low_b (h1 : 0 < n) (h2 : n < 2147483648) (x : Int) : 0 ≤ rem32 (and32 x 2147483647) n ∧ rem32 (and32 x 2147483647) n < n := by
  have m := and32_m x
  rw [rem_eq m.1 m.2 h1 h2]
  exact ⟨Int.emod_nonneg _ (by omega), Int.emod_lt_of_pos _ h1⟩
/-- while the parties come -/
def T0 (t u M : Int) (W : V) : Prop := vP W = vO W ∧ Inv (vO W) ∧ vO W 7 0 5 = t ∧ vO W 7 0 6 = u ∧ vO W 7 0 7 = u ∧ mon (vO W) = M ∧ ¬ vO W 99 17 0 = 1 ∧ ¬ vO W 99 18 0 = 1
theorem does0 (h : Inv v) (ha0 : 0 ≤ a ∧ a ≤ 1000000) (hb0 : 0 ≤ b ∧ b < 4) (hn : v 7 0 5 < 10) : ∃ w, sp_L_does_0 a b 0 0 v = rOk (v 7 0 5) w ∧ w 7 0 5 = v 7 0 5 + 1 ∧ w 7 0 6 = v 7 0 6 ∧ w 7 0 7 = v 7 0 7 ∧ mon w = mon v + a ∧ (w 99 17 0 = v 99 17 0 ∧ w 99 18 0 = v 99 18 0) ∧ Inv w := by
  obtain ⟨z, w, e, rfl, g⟩ := wp_get (nz_party h ha0 hb0 hn)
  refine ⟨w, ?_, g⟩
  unfold sp_L_does_0 sp_L_early_0
  rw [e, rB_ok, rBx_ok]
theorem does1 (h : Inv v) (ca : 0 ≤ a ∧ a < v 7 0 5) (hb0 : 0 ≤ b ∧ b ≤ 1000000) (hn : v 7 0 6 < 12) (hl : v 7 0 7 < 60) : ∃ w, sp_L_does_1 a b 0 0 v = rOk (v 7 0 6) w ∧ w 7 0 5 = v 7 0 5 ∧ w 7 0 6 = v 7 0 6 + 1 ∧ w 7 0 7 = v 7 0 7 + 1 ∧ mon w = mon v ∧ (w 99 17 0 = v 99 17 0 ∧ w 99 18 0 = v 99 18 0) ∧ Inv w := by
  obtain ⟨z, w, e, rfl, g⟩ := wp_get (nz_work h ca hb0 hn hl)
  refine ⟨w, ?_, g⟩
  unfold sp_L_does_1 sp_L_early_1
  rw [e, rB_ok, rBx_ok]
theorem law_p {k : V → Int → Int → Int → Res} (hk : ∀ M W, T0 6 0 M W → Wp (k W 1 M 6) Q E) : ∀ (n : Nat) (W : V) (M t : Int), T0 t 0 M W → 0 ≤ t → t ≤ 6 → 6 - t < n → 0 ≤ M → M ≤ 1000000 * t → Wp (lp_L_law_24 L xs k n W 1 M t) Q E := by
  intro n
  induction n with
  | zero => intro W M t T h0 h1 h2; omega
  | succ n ih =>
    intro W M t T h0 h1 h2 h3 h4
    unfold lp_L_law_24
    by_cases q : 6 ≤ t
    · have : t = 6 := by omega
      subst this
      rw [if_pos q]
      exact hk M W T
    · rw [if_neg q, if_neg (by decide), chk_t h0]
      have e6 : w32 (t + 1) = t + 1 := w32_i (by omega) (by omega)
      have key : ∀ y, 0 ≤ y → y ≤ 1000000 → Wp (rB (lZ (sp_L_low (cellf L xs t) 4) W) (fun z12 v12 => (rB (lO (sp_L_does_0 y z12 0 0) v12) (fun z13 v13 => (if ¬ z13 = t then (lp_L_law_24 L xs k n v13 0 (w64 (M + y)) (w32 (t + 1)))
   else (rB (lZ (sp_L_low (cellf L xs t) 4) v13) (fun z15 v15 => (rB (lP (sp_L_does_0 y z15 0 0) v15) (fun z16 v16 => (if ¬ z16 = t then (lp_L_law_24 L xs k n v16 0 (w64 (M + y)) (w32 (t + 1)))
   else (lp_L_law_24 L xs k n v16 1 (w64 (M + y)) (w32 (t + 1))))))))))))) Q E := by
        intro y y0 y1
        obtain ⟨t1, t2, t3, t4, t5, t6, t7, t8⟩ := T
        have lb := low_b (n := 4) (by decide) (by decide) (cellf L xs t)
        obtain ⟨w, e, g1, g2, g3, g4, ⟨g5, g6⟩, g7⟩ := does0 (b := rem32 (and32 (cellf L xs t) 2147483647) 4) t2 ⟨y0, y1⟩ lb (by omega)
        rw [t3] at e
        rw [low_rd (by decide), rB_ok, lO_ok e, rB_ok, if_neg (fun z => z rfl), low_rd (by decide), rB_ok, lP_ok (W := sO W w) (by rw [vP_sO, t1]; exact e), rB_ok, if_neg (fun z => z rfl), w64_i (z := M + y) (by omega) (by omega), e6]
        refine ih _ (M + y) (t + 1) ?_ (by omega) (by omega) (by omega) (by omega) (by omega)
        unfold T0
        rw [vO_sP, vO_sO, vP_sP]
        exact ⟨rfl, g7, by omega, by omega, by omega, by omega, fun q => t7 (g5 ▸ q), fun q => t8 (g6 ▸ q)⟩
      by_cases g : and32 (shr32 (cellf L xs t) 6) 3 = 0
      · have lb := low_b (n := 2000) (by decide) (by decide) (shr32 (cellf L xs t) 2)
        rw [if_neg (fun z => z g), low_rd (by decide), rB_ok]
        exact key _ (by omega) (by omega)
      · have lb := low_b (n := 1000001) (by decide) (by decide) (shr32 (cellf L xs t) 2)
        rw [if_pos g, low_rd (by decide), rB_ok]
        exact key _ (by omega) (by omega)
theorem law_w {l4 : Int} {k : V → Int → Int → Res} (hk : ∀ W, T0 6 4 M W → Wp (k W 1 4) Q E) : ∀ (n : Nat) (W : V) (t : Int), T0 6 t M W → 0 ≤ t → t ≤ 4 → 4 - t < n → Wp (lp_L_law_140 L xs l4 k n W 1 t) Q E := by
  intro n
  induction n with
  | zero => intro W t T h0 h1 h2; omega
  | succ n ih =>
    intro W t T h0 h1 h2
    unfold lp_L_law_140
    by_cases q : 4 ≤ t
    · have : t = 4 := by omega
      subst this
      rw [if_pos q]
      exact hk W T
    · have e7 : w32 (6 + t) = 6 + t := w32_i (by omega) (by omega)
      have e6 : w32 (t + 1) = t + 1 := w32_i (by omega) (by omega)
      rw [if_neg q, if_neg (by decide), e7, chk_t (by omega)]
      obtain ⟨t1, t2, t3, t4, t5, t6, t7, t8⟩ := T
      have lb := low_b (n := 6) (by decide) (by decide) (cellf L xs (6 + t))
      have lc := low_b (n := 1000001) (by decide) (by decide) (shr32 (cellf L xs (6 + t)) 3)
      obtain ⟨w, e, g1, g2, g3, g4, ⟨g5, g6⟩, g7⟩ := does1 (a := rem32 (and32 (cellf L xs (6 + t)) 2147483647) 6) (b := rem32 (and32 (shr32 (cellf L xs (6 + t)) 3) 2147483647) 1000001) t2 (by omega) (by omega) (by omega) (by omega)
      rw [t4] at e
      rw [low_rd (by decide), rB_ok, low_rd (by decide), rB_ok, lO_ok e, rB_ok, if_neg (fun z => z rfl), low_rd (by decide), rB_ok, low_rd (by decide), rB_ok, lP_ok (W := sO W w) (by rw [vP_sO, t1]; exact e), rB_ok, if_neg (fun z => z rfl), e6]
      refine ih _ (t + 1) ?_ (by omega) (by omega) (by omega)
      unfold T0
      rw [vO_sP, vO_sO, vP_sP]
      exact ⟨rfl, g7, by omega, by omega, by omega, by omega, fun q => t7 (g5 ▸ q), fun q => t8 (g6 ▸ q)⟩
/-- an act on both, or a mark -/
theorem act_2 (t : T2 M W) : ∃ z W1, lO (sp_L_act a) W = rOk z W1 ∧ (z = -2100000000 → T2 M W1) ∧ ∃ W2, lP (sp_L_act a) W1 = rOk z W2 ∧ T2 M W2 := by
  obtain ⟨t1, t2, -⟩ := id t
  obtain ⟨z, w, e, g1, g2, g3⟩ := wp_get (dz_act (a := a) t2)
  refine ⟨z, sO W w, lO_ok e, fun hz => ?_, sP (sO W w) w, lP_ok (by rw [vP_sO, t1]; exact e), T2_kp t g1 g2 (by rw [vO_sP, vO_sO]) (by rw [vP_sP])⟩
  rw [g3 hz, sO_id]
  exact t
set_option maxHeartbeats 4000000 in
theorem law_a {k : V → Int → Int → Res} (hk : ∀ W, T2 M W → Wp (k W 1 150) Q E) : ∀ (n : Nat) (W : V) (t : Int), T2 M W → 0 ≤ t → t ≤ 150 → 150 - t < n → Wp (lp_L_law_232 L xs M k n W 1 t) Q E := by
  intro n
  induction n with
  | zero => intro W t T h0 h1 h2; omega
  | succ n ih =>
    intro W t T h0 h1 h2
    unfold lp_L_law_232
    rw [chk_t ⟨h0, h1⟩]
    by_cases q : 150 ≤ t
    · have : t = 150 := by omega
      subst this
      rw [if_pos q]
      exact hk W T
    · have e51 : rem32 t 51 = t % 51 := rem_eq h0 (by omega) (by decide) (by decide)
      have e6 : w32 (t + 1) = t + 1 := w32_i (by omega) (by omega)
      have ec : w32 (10 + t % 51) = 10 + t % 51 := w32_i (by omega) (by omega)
      rw [if_neg q, if_neg (by decide), e51, ec, chk_t (by omega), e6]
      have st : ∀ W', T2 M W' → Wp (lp_L_law_232 L xs M k n W' 1 (t + 1)) Q E := fun W' T' => ih W' (t + 1) T' (by omega) (by omega) (by omega)
      generalize w32 ((cellf L xs (10 + t % 51)) + (w32 (2243 * (w32 (t.tdiv 51))))) = y
      clear e51 e6 ec ih
      obtain ⟨z, W1, eo, hz, W2, ep, T2'⟩ := act_2 (a := y) T
      rw [eo, rB_ok]
      by_cases g : z = -2100000000
      · have T1 := hz g
        rw [if_pos g]
        clear hz ep T2' eo T
        repeat' (first | ((with_reducible refine st _ ?_); assumption) | (with_reducible refine wp_B ?_) | ((with_reducible refine wp_alike (M := M) ?_ ?_); (· assumption)) | ((with_reducible refine wp_kO ?_ ?_); (· assumption)) | ((with_reducible refine wp_barred (M := M) ?_ ?_); (· assumption); (· intro W9 T9; refine wp_f (by decide) ?_; exact st _ T9)) | (refine wp_f (by decide) ?_) | (with_reducible refine wp_i (fun _ => ?_) (fun _ => ?_)))
      · rw [if_neg g, ep, rB_ok, if_neg (fun z => z rfl)]
        clear hz ep eo T
        repeat' (first | ((with_reducible refine st _ ?_); assumption) | (with_reducible refine wp_B ?_) | ((with_reducible refine wp_alike (M := M) ?_ ?_); (· assumption)) | ((with_reducible refine wp_kO ?_ ?_); (· assumption)) | ((with_reducible refine wp_barred (M := M) ?_ ?_); (· assumption); (· intro W9 T9; refine wp_f (by decide) ?_; exact st _ T9)) | (refine wp_f (by decide) ?_) | (with_reducible refine wp_i (fun _ => ?_) (fun _ => ?_)))
theorem e7_init : sp_X7_init 0 (nw z0s 7 0) = rOk 0 S7 := by
  unfold sp_X7_init
  rw [chk_t (by decide +kernel), rLet_r, rLet_r, chk_t (by decide +kernel), rLet_r, rLet_r, chk_t (by decide +kernel), rLet_r, rLet_r, chk_t (by decide +kernel), rLet_r, rLet_r, chk_t (by decide +kernel), rLet_r, rLet_r]
  rfl
theorem S7_7 : ∀ j ∈ [(0 : Int), 1, 2, 3, 4, 5, 6, 7, 8, 9], S7 7 0 j = 0 := by decide +kernel
theorem S7_n {j : Int} (h : 0 ≤ j ∧ j ≤ 9) : S7 7 0 j = 0 := S7_7 j (by
  have : j = 0 ∨ j = 1 ∨ j = 2 ∨ j = 3 ∨ j = 4 ∨ j = 5 ∨ j = 6 ∨ j = 7 ∨ j = 8 ∨ j = 9 := by omega
  simp only [List.mem_cons, List.not_mem_nil, or_false]
  exact this)
theorem S7_r14 (i : Int) : S7 14 0 i = 0 := rfl
theorem S7_a (K : Int) (hK : K = 3 ∨ K = 6 ∨ K = 15 ∨ K = 16 ∨ K = 2 ∨ K = 4 ∨ K = 1 ∨ K = 0 ∨ K = 5) (i : Int) : S7 99 K i = 0 := by
  rcases hK with rfl | rfl | rfl | rfl | rfl | rfl | rfl | rfl | rfl <;> rfl
theorem Inv_S7 : Inv S7 := by
  have n0 := S7_n (j := 0) (by decide)
  have n1 := S7_n (j := 1) (by decide)
  have n2 := S7_n (j := 2) (by decide)
  have n3 := S7_n (j := 3) (by decide)
  have n4 := S7_n (j := 4) (by decide)
  have n5 := S7_n (j := 5) (by decide)
  have n6 := S7_n (j := 6) (by decide)
  have n7 := S7_n (j := 7) (by decide)
  have n8 := S7_n (j := 8) (by decide)
  have n9 := S7_n (j := 9) (by decide)
  have n98 : S7 98 0 0 = 0 := rfl
  refine ⟨?_, fun i _ _ => ?_, fun i g0 g1 => ?_, fun p a g0 g1 => ?_, fun i g0 g1 => ?_, fun i k g0 g1 => ?_, fun i g0 g1 => ?_, fun i g0 g1 => ?_, ?_, ?_, fun w g0 g1 => ?_⟩
  · unfold IS
    rw [n0, n1, n2, n3, n4, n5, n6, n7, n8, n9, n98]
    decide
  · rw [S7_r14]
    omega
  · omega
  · omega
  · omega
  · omega
  · omega
  · omega
  · refine ⟨fun i _ => ?_, fun i _ => ⟨?_, ?_, ?_⟩, fun i _ => ⟨?_, ?_⟩, fun i _ => ?_, fun i _ => ?_, fun i j _ _ _ _ => ?_, fun i _ => ?_⟩
    all_goals (rw [S7_a _ (by decide)]; decide)
  · unfold IM mon
    rw [n5, sumD_e (Int.le_refl 0)]
    decide
  · omega
theorem vO_00 : vO v00 = z0s := by
  funext K i j
  unfold vO v00 z0s
  rw [if_neg (by omega)]
theorem vP_00 : vP v00 = z0s := by
  funext K i j
  unfold vP v00 z0s
  rw [if_neg (by omega)]
theorem law_ok : ∃ v1, sp_law L xs v00 = some (0, 1, v1) := by
  have key : Wp (sp_law L xs v00) (fun z w => z = 1) NoE := by
    unfold sp_law
    have c1 : ¬ v00 99 7 0 = 1 ∧ ¬ vO v00 99 7 0 = 1 := by
      rw [vO_00]
      exact ⟨by decide +kernel, by decide +kernel⟩
    rw [chk_t c1, rLet_r, vO_00]
    have h1 : vO (up (sO v00 (nw z0s 7 0)) 99 7 0 1) = nw z0s 7 0 := by rw [vO_up (by decide), vO_sO]
    have h2 : vP (up (sO v00 (nw z0s 7 0)) 99 7 0 1) = z0s := by rw [vP_up (by decide), vP_sO, vP_00]
    rw [lO_ok (by rw [h1]; exact e7_init), rB_ok]
    have h3 : vP (sO (up (sO v00 (nw z0s 7 0)) 99 7 0 1) S7) = z0s := by rw [vP_sO, h2]
    have h4 : vO (sO (up (sO v00 (nw z0s 7 0)) 99 7 0 1) S7) = S7 := vO_sO _ _
    have c2 : ¬ sO (up (sO v00 (nw z0s 7 0)) 99 7 0 1) S7 99 107 0 = 1 ∧ ¬ vP (sO (up (sO v00 (nw z0s 7 0)) 99 7 0 1) S7) 99 7 0 = 1 := by
      rw [h3, sO_lt _ _ (by decide), up_o (by omega), sO_lt _ _ (by decide)]
      exact ⟨by decide +kernel, by decide +kernel⟩
    rw [chk_t c2, rLet_r, h3]
    have h5 : vP (up (sP (sO (up (sO v00 (nw z0s 7 0)) 99 7 0 1) S7) (nw z0s 7 0)) 99 107 0 1) = nw z0s 7 0 := by rw [vP_up (by decide), vP_sP]
    rw [lP_ok (by rw [h5]; exact e7_init), rB_ok]
    refine law_p (fun M W T => ?_) 7 _ 0 0 ?_ (by omega) (by omega) (by omega) (by omega) (by omega)
    · refine law_w (M := M) (fun W T => ?_) 5 W 0 T (by omega) (by omega) (by omega)
      obtain ⟨t1, t2, t3, t4, t5, t6, t7, t8⟩ := T
      refine law_a (M := M) (fun W T => ?_) 151 W 0 ⟨t1, t2, t3, t4, t6, t7, t8⟩ (by omega) (by omega) (by omega)
      refine wp_f (by decide) (wp_B (wp_alike T (wp_f (by decide) (wp_B (wp_kP T (wp_f (by decide) (wp_ok ?_)))))))
      rfl
    · have hv : vO (sP (up (sP (sO (up (sO v00 (nw z0s 7 0)) 99 7 0 1) S7) (nw z0s 7 0)) 99 107 0 1) S7) = S7 := by rw [vO_sP, vO_up (by decide), vO_sP, h4]
      unfold T0
      rw [hv, vP_sP]
      refine ⟨rfl, Inv_S7, S7_n (by decide), S7_n (by decide), S7_n (by decide), ?_, by decide +kernel, by decide +kernel⟩
      unfold mon
      rw [S7_n (by decide), sumD_e (Int.le_refl 0)]
  obtain ⟨z, w, e, rfl⟩ := wp_get key
  exact ⟨w, e⟩
end La
theorem whole_start {p : Program} {e : Env} {s : State} {m : MethodId} {below : List Frame} {meth : Method} {c : Code} (l : Launch) (hflags : l.flags = flags0) {b L : Nat} {xs : Nat → Int32} (hL : L ≤ 260) (C0 : lw_At p s m meth c b L xs) : W p l e room_1 s m #[Value.ref b] below meth c s.heap [] 0 0 (lw_Z below #[Value.ref b] s) (entryFrame m ([Value.ref b] : List Value).toArray 9) := whole_start0 l hflags hL C0 law_ok

theorem fn_RL_19 : FN RL 19 7 := ⟨by decide, _, rfl, gw 53 _ (by decide +kernel) (by decide +kernel), gw 54 _ (by decide +kernel) (by decide +kernel), gw 37 _ (by decide +kernel) (by decide +kernel)⟩
theorem ml_RL_164 : Cond.methodLink RL 164 yX7_init ∈ gtbl := gw 55 _ (by decide +kernel) (by decide +kernel)
theorem wi_X7_init : Cond.instanceMethod yX7_init ∈ gtbl := gw 56 _ (by decide +kernel) (by decide +kernel)
theorem mi_X7_init : MI yX7_init cX7_init 1 none 0 := ⟨gw 57 _ (by decide +kernel) (by decide +kernel), ⟨by decide +kernel, by decide +kernel⟩, by decide +kernel, gw 37 _ (by decide +kernel) (by decide +kernel)⟩
theorem ml_RL_165 : Cond.methodLink RL 165 yL_cell ∈ gtbl := gw 101 _ (by decide +kernel) (by decide +kernel)
theorem wt_L_cell : Cond.static yL_cell ∈ gtbl := gw 102 _ (by decide +kernel) (by decide +kernel)
theorem mi_L_cell : MI yL_cell cL_cell 2 (some .int) 2 := ⟨gw 103 _ (by decide +kernel) (by decide +kernel), ⟨by decide +kernel, by decide +kernel⟩, by decide +kernel, gw 36 _ (by decide +kernel) (by decide +kernel)⟩
theorem ml_RL_169 : Cond.methodLink RL 169 yL_act ∈ gtbl := gw 773 _ (by decide +kernel) (by decide +kernel)
theorem wt_L_act : Cond.static yL_act ∈ gtbl := gw 774 _ (by decide +kernel) (by decide +kernel)
set_option maxRecDepth 100000 in
set_option maxHeartbeats 4000000 in
theorem mi_L_act : MI yL_act cL_act 11 (some .int) 2 := ⟨gw 775 _ rfl (by decide +kernel), ⟨by decide +kernel, by decide +kernel⟩, by decide +kernel, gw 36 _ (by decide +kernel) (by decide +kernel)⟩
theorem cn_RL_172 : Cond.constant RL 172 (Int32.ofInt 65535) ∈ gtbl := gw 801 _ (by decide +kernel) (by decide +kernel)
theorem ml_RL_181 : Cond.methodLink RL 181 yL_isBarred ∈ gtbl := gw 797 _ (by decide +kernel) (by decide +kernel)
theorem wt_L_isBarred : Cond.static yL_isBarred ∈ gtbl := gw 798 _ (by decide +kernel) (by decide +kernel)
set_option maxRecDepth 100000 in
set_option maxHeartbeats 4000000 in
theorem mi_L_isBarred : MI yL_isBarred cL_isBarred 12 (some .boolean) 3 := ⟨gw 799 _ rfl (by decide +kernel), ⟨by decide +kernel, by decide +kernel⟩, by decide +kernel, gw 36 _ (by decide +kernel) (by decide +kernel)⟩
theorem ml_RL_177 : Cond.methodLink RL 177 yL_areKept ∈ gtbl := gw 794 _ (by decide +kernel) (by decide +kernel)
theorem wt_L_areKept : Cond.static yL_areKept ∈ gtbl := gw 795 _ (by decide +kernel) (by decide +kernel)
set_option maxRecDepth 100000 in
set_option maxHeartbeats 4000000 in
theorem mi_L_areKept : MI yL_areKept cL_areKept 21 (some .boolean) 3 := ⟨gw 796 _ rfl (by decide +kernel), ⟨by decide +kernel, by decide +kernel⟩, by decide +kernel, gw 36 _ (by decide +kernel) (by decide +kernel)⟩
theorem ml_RL_173 : Cond.methodLink RL 173 yL_areAlike ∈ gtbl := gw 780 _ (by decide +kernel) (by decide +kernel)
theorem wt_L_areAlike : Cond.static yL_areAlike ∈ gtbl := gw 781 _ (by decide +kernel) (by decide +kernel)
set_option maxRecDepth 100000 in
set_option maxHeartbeats 4000000 in
theorem mi_L_areAlike : MI yL_areAlike cL_areAlike 7 (some .boolean) 3 := ⟨gw 782 _ rfl (by decide +kernel), ⟨by decide +kernel, by decide +kernel⟩, by decide +kernel, gw 36 _ (by decide +kernel) (by decide +kernel)⟩
def v00 : V := fun K i j => if K = 99 ∧ i = 98 ∧ j = 0 then 1 else 0
theorem rem_eq {a b : Int} (h1 : 0 ≤ a) (h2 : a < 2147483648) (h3 : 0 < b) (h4 : b < 2147483648) : rem32 a b = a % b := by
  unfold rem32
  have e1 : a.tdiv b = a / b := Int.tdiv_eq_ediv_of_nonneg h1
  have e2 : 0 ≤ a / b := Int.ediv_nonneg h1 (by omega)
  have e3 : a / b ≤ a := Int.ediv_le_self b h1
  have e4 : b * (a / b) + a % b = a := Int.mul_ediv_add_emod a b
  have e5 : 0 ≤ a % b := Int.emod_nonneg a (by omega)
  have e6 : a % b < b := Int.emod_lt_of_pos a h3
  have e7 : 0 ≤ b * (a / b) := Int.mul_nonneg (by omega) e2
  have e8 : a / b * b = b * (a / b) := Int.mul_comm _ _
  rw [e1, w32_id (show R32 (a / b) by unfold R32; omega), e8, w32_id (show R32 (b * (a / b)) by unfold R32; omega), w32_id (by unfold R32; omega)]
  omega
/-- the room that the rounds from k on may still take -/
def budN (A C1 C2 C3 : Nat) : Nat → Nat
  | 0 => 0
  | j + 1 => budN A C1 C2 C3 j + A + (if (150 - (j : Int)) % 20 = 19 then C1 else 0) + (if (150 - (j : Int)) % 6 = 3 then C2 else 0) + (if (150 - (j : Int)) % 9 = 5 then C3 else 0)
def bud (A C1 C2 C3 : Nat) (k : Int) : Nat := budN A C1 C2 C3 (151 - k).toNat
theorem bud_step (A C1 C2 C3 : Nat) {k : Int} (h0 : 0 ≤ k) (h1 : k ≤ 150) : ∃ q1 q2 q3 : Nat, (rem32 k 20 = 19 → q1 = C1) ∧ (rem32 k 6 = 3 → q2 = C2) ∧ (rem32 k 9 = 5 → q3 = C3) ∧ bud A C1 C2 C3 (w32 (k + 1)) + A + q1 + q2 + q3 = bud A C1 C2 C3 k := by
  rw [rem_eq h0 (by omega) (by decide) (by decide), rem_eq h0 (by omega) (by decide) (by decide), rem_eq h0 (by omega) (by decide) (by decide), w32_id (x := k + 1) (by unfold R32; omega)]
  refine ⟨if k % 20 = 19 then C1 else 0, if k % 6 = 3 then C2 else 0, if k % 9 = 5 then C3 else 0, fun h => if_pos h, fun h => if_pos h, fun h => if_pos h, ?_⟩
  unfold bud
  have e1 : (151 - k).toNat = (151 - (k + 1)).toNat + 1 := by omega
  rw [e1]
  generalize hj : (151 - (k + 1)).toNat = j
  have e2 : 150 - (j : Int) = k := by omega
  rw [budN, e2]
/-! the law's cell, over the script -/
def sp_L_cell (L : Nat) (xs : Nat → Int32) (a1 : Int) (v : V) : Res := (if (L : Int) ≤ a1 then (rOk (w32 ((w32 (7919 * (w32 (a1 + 1987)))) * (w32 (a1 + 4517)))) v)
   else (chk (0 ≤ a1 ∧ a1 < (L : Int)) (rOk (xi xs a1) v)))
theorem k_L_cell {L : Nat} {xs : Nat → Int32} (a1 : Int) (x : Cx) (v : V) (F : Fx x cL_cell RL "cell" ({ frames := 0, cells := 0, slots := 0, locals := 0 }) 2 (some 0) (some .int) 0) (hX : FxS x L xs) : Gs x (sp_L_cell L xs a1 v) v 0 0 0 [(0, (108, 0)), (1, (0, a1))] [] := by
  unfold sp_L_cell
  refine g_iload_n F rfl 1 rfl rfl dL_cell_0 ?_
  refine g_aload_n F rfl 0 rfl dL_cell_1 ?_
  refine g_slen F hX dL_cell_2 ?_
  refine g_icmp_ge F rfl rfl (tgt := 12) rfl dL_cell_3 (fun n1 => ?_) (fun n1 => ?_)
  · refine g_sipush F rfl (by decide) dL_cell_12 ?_
    refine g_iload_n F rfl 1 rfl rfl dL_cell_15 ?_
    refine g_sipush F rfl (by decide) dL_cell_16 ?_
    refine g_iadd F rfl rfl dL_cell_19 ?_
    refine g_imul F rfl rfl dL_cell_20 ?_
    refine g_iload_n F rfl 1 rfl rfl dL_cell_21 ?_
    refine g_sipush F rfl (by decide) dL_cell_22 ?_
    refine g_iadd F rfl rfl dL_cell_25 ?_
    refine g_imul F rfl rfl dL_cell_26 ?_
    exact g_ireturn F rfl rfl rfl rfl (Nat.le_of_ble_eq_true rfl) (Nat.le_of_ble_eq_true rfl) dL_cell_27
  · refine g_aload_n F rfl 0 rfl dL_cell_6 ?_
    refine g_iload_n F rfl 1 rfl rfl dL_cell_7 ?_
    refine g_chk (fun n2 => ?_)
    refine g_sld F hX n2 rfl dL_cell_8 ?_
    refine g_goto F (tgt := 27) rfl dL_cell_9 ?_
    exact g_ireturn F rfl rfl rfl rfl (Nat.le_of_ble_eq_true rfl) (Nat.le_of_ble_eq_true rfl) dL_cell_27
def cellf (L : Nat) (xs : Nat → Int32) (a : Int) : Int := if a < (L : Int) then xi xs a else (w32 ((w32 (7919 * (w32 (a + 1987)))) * (w32 (a + 4517))))
theorem cell_ok {L : Nat} {xs : Nat → Int32} {a : Int} (v : V) (h : 0 ≤ a) : sp_L_cell L xs a v = some (0, cellf L xs a, v) := by
  unfold sp_L_cell cellf chk rOk
  by_cases h2 : a < (L : Int)
  · rw [if_neg (by omega), if_pos ⟨h, h2⟩, if_pos h2]
  · rw [if_pos (by omega), if_neg h2]
theorem c_cell {L : Nat} {xs : Nat → Int32} (hL : L < 2 ^ 31) {a : Int} (h0 : 0 ≤ a) (ha : R32 a) (l : Launch) (D : va_G) (B : Nat → Prop) (b : Nat) : vx_Met l yL_cell [.code yL_cell cL_cell 2 (some .int)] ({ frames := 0, cells := 0, slots := 0, locals := 0 }) (va_Pc [.ref b, .int (Int32.ofInt a)] (fun U => Gd l D B U ∧ va_X b L xs U U.heap ∧ b < U.heap.size)) (fun _ st o t => o = .returned (some (.int (Int32.ofInt (cellf L xs a)))) ∧ R32 (cellf L xs a) ∧ va_F (fun q => st.heap.size ≤ q) st t) (fun _ _ _ => False) 0 0 (fun q => B q) := by
  refine vx_ofWF (cc := cL_cell) (maxL := 2) (ret := some .int) (by decide +kernel) rfl ?_
  intro p e s m args below meth c s₁ B0 hml het hv
  obtain ⟨rfl, hG, hX1, hX2⟩ := hv
  have hown : s.vm.findClass yL_cell.cls = some m.cls := findClass_of_methodNamed B0.named
  have hnm : meth.name = yL_cell.name := (name_of_methodNamed B0.named B0.method).1
  have hG' : Gd l D (fun q => s.heap.size ≤ q) s := hG.narrow (fun q hq => hq) hG.2.1
  have k9 := k_L_cell (L := L) (xs := xs) a ((p, l, e, { frames := 0, cells := 0, slots := 0, locals := 0 }, s, m), ([Value.ref b, .int (Int32.ofInt a)].toArray, below, meth, c), (2, D, (fun q => s.heap.size ≤ q), (fun _ _ => b), v00, some 0, 0)) v00 ⟨B0.exec, B0.bytes, hown, rfl, hml, rfl, rfl, B0.returns, hnm, B0.notSynchronized, ⟨rfl, fun _ => het, fun h => by cases h⟩, hG'⟩ ⟨hX1, hX2, fun q hq => hq, rfl, hL⟩
  have dead : ∀ (K : Nat) (i : Int), K < 98 → v00 99 (K : Int) i = 1 → False := fun K i hK h => by
    unfold v00 at h
    rw [if_neg (by omega)] at h
    cases h
  rw [lg_entry_eq]
  have hent := lv_entry [Value.ref b, .int (Int32.ofInt a)] (n := 2) (Nat.le_of_ble_eq_true rfl)
  have k8 := k9 (by rw [cell_ok _ h0]; exact fun h => by cases h) (fun _ _ => b) s.heap [] _ ⟨fun K i hK h => (dead K i hK h).elim, fun K K' i i' hK hK' h => (dead K i hK h).elim⟩ Ext.rf va_S.rf hent (fun q hq => by
    rcases List.mem_cons.mp hq with rfl | hq
    · exact (okv_ref (K := 98)).mpr (Or.inr ⟨Int.le_refl 0, rfl⟩)
    · rw [List.mem_singleton.mp hq]
      exact okv_0.mpr ha) (fun a ha => by cases ha)
  intro T hT X
  obtain ⟨t, a1, o, b1, b2, b3⟩ := k8 T hT X
  refine ⟨t, a1, o, b1, b2, ?_⟩
  rcases b3 with ⟨⟨z, v', ad', c1, c2, c3, c4, c5, c6⟩, L9, d1, d2⟩ | ⟨q, d0, E, ce, L9, ⟨ee, v', ad', c1, c2, c4, c5, c6⟩, d1, d2, d3, d4, d5, d6⟩
  · rw [cell_ok _ h0] at c1
    cases c1
    exact Or.inl ⟨⟨c2, okv_0.mp (c3 0 rfl), c6⟩, L9, d1, fun q hq => hG.2.1 _ (d2 q hq)⟩
  · rw [cell_ok _ h0] at c1
    cases c1
section Core10
variable {x : Cx} {cc : ByteArray} {own nm : String} {rm : Room} {nL : Nat} {rt : Option Nat} {rty : Option FieldType} {lw : Nat} {r : Res} {v : V} {cells slots pc : Nat} {ls : List (Nat × AV)} {st : List AV} {t1 : Nat} {a : Int}
theorem g2_cell (F : Fx x cc own nm rm nL rt rty lw) (hm9 : lw < 2) {L : Nat} {xs : Nat → Int32} (hX : FxS x L xs) {idx : Nat} (h0 : 0 ≤ a) (h1 : il t1 = true) (wl : Cond.methodLink own idx yL_cell ∈ gtbl) (wi : Cond.static yL_cell ∈ gtbl) (hmi : MI yL_cell cL_cell 2 (some .int) 2) (hfr : 0 + 1 ≤ rm.frames) (hlo : 8 + (2 + 11) + 0 ≤ rm.locals) (hc : cells + 0 ≤ rm.cells) (hs : slots + 0 ≤ rm.slots) (hW : catL st ≤ 8) (hd : decode cc pc = .ok (.invokestatic idx, 3)) (k : Gs2 x r v (cells + 0) (slots + 0) (pc + 3) ls ((0, cellf L xs a) :: st)) : Gs2 x r v cells slots pc ls ((t1, a) :: (108, 0) :: st) := by
  obtain ⟨⟨p, l, e, R, s, m⟩, ⟨args, below, meth, c⟩, ⟨nL', D, B, ad0, v0, rt', lw'⟩⟩ := x
  intro hr ad H locs lsA hS hE hV hl hls hst
  obtain ⟨hx, hb, hown, hR, hml, hnL, hrt, hret, hnm, hlk, het, hG⟩ := id F
  subst hR
  subst hnL
  have hts : ∀ w ∈ gtbl, w.before args s = true := fun w hw => hG.2.2.1 w hw args
  obtain ⟨m1, m2, m3, m4⟩ := hmi
  obtain ⟨x1, x2, x3, x4, x5⟩ := hX
  have hst2 : ∀ a ∈ st, okv v a := ok_t (ok_t hst)
  have e1 : ad 98 0 = ad0 98 0 := (hE 98 0 x4).2
  have hnb : ¬ B (ad0 98 0) := fun h => by have := x3 _ h; omega
  have hM0 := c_cell (L := L) (xs := xs) x5 h0 (okv_il h1 (ok_h hst)) l D B (ad0 98 0)
  have hM : vx_Met l yL_cell [.code yL_cell cL_cell 2 (some .int)] ({ frames := 0, cells := 0, slots := 0, locals := 0 }) (va_Pc [.ref (ad0 98 0), .int (Int32.ofInt a)] (fun U => Gd l D B U ∧ Sto2 D B ad v U.heap ∧ va_X (ad0 98 0) L xs U U.heap ∧ ad0 98 0 < U.heap.size)) (PostC2 D B ad v (some 0) (some (0, cellf L xs a, v))) (PostX2 D B ad v (some (0, cellf L xs a, v))) 0 0 (fun q => B q) := by
    intro p' e' ha9 hc9 hk9 s' m' args' below' hfr' happ' hP hK9
    obtain ⟨hav, hG', hS', hX', hY'⟩ := hP
    obtain ⟨n, o, g1, g2, g3, g4⟩ := hM0 p' e' ha9 hc9 hk9 s' m' args' below' hfr' happ' ⟨hav, hG', hX', hY'⟩ hK9
    refine ⟨n, o, g1, g2, g3, ?_⟩
    rcases g4 with ⟨⟨c1, c2, c3⟩, L9, d1, d2⟩ | ⟨q, d0, E, ce, L9, d9, d1⟩
    · have hk : ∀ q, q < s'.heap.size → (stepsAlone p'.tables e' n s').heap[q]? = s'.heap[q]? := fun q hq => c3.2 q hq (by omega)
      exact Or.inl ⟨⟨cellf L xs a, v, ad, rfl, c1, fun q hq => by cases hq; exact okv_0.mpr c2, Ext.rf, hS'.kept hk, c3.1, fun q q1 q2 => hk q q1⟩, L9, d1, d2⟩
    · exact d9.elim
  have hrun := vx_runS (e := e) (below := below) (meth := meth) (cells := cells) (slots := slots) (locs := locs) (g := F0 m pc lsA (([Value.ref (ad0 98 0), .int (Int32.ofInt a)]).reverse ++ st.map (cv ad))) (As := [Value.ref (ad0 98 0), .int (Int32.ofInt a)]) (rest := st.map (cv ad)) (own := own) ⟨hx, hb, hml, hown, hts⟩ hM ⟨⟨rfl, rfl, hfr, hlo, mi_ws m1 hG.2.2.1, List.mem_singleton.mpr rfl, hts _ m1, hts _ m4, m2, mi_len m3, hts _ wl⟩, hts _ wi⟩ ⟨fun _ _ _ _ h => ⟨h.1, h.2.1.calling, h.2.2⟩, fun U hU hW9 => ⟨rfl, hG.moved hV hU hW9, by rw [hU]; exact hS, (va_X.moved hW9.alike x1).kept (by rw [hU]; exact hV.2.1 _ x2 hnb), by rw [hU]; exact Nat.lt_of_lt_of_le x2 hV.1⟩⟩ rfl rfl hl.1 rfl (lv_room (by rw [catL_map]; exact hW)) hd ⟨hc, hs⟩
  rw [List.map_cons, List.map_cons, cv_il h1, show cv ad (108, 0) = .ref (ad 98 0) from cv_pos (K := 98) (by decide), e1]
  exact g2_back (f := fun W => some (0, cellf L xs a, W)) (k9 := fun _ _ => r) (rt2 := some 0) (mc := 0) (ms := 0) hr hS hE hV hl hls hst2 het hm9 hlk hc hs hrun (fun z v1 h => by cases h; exact k)
end Core10

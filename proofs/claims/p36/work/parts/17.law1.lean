noncomputable def lp_L_law_140 (L : Nat) (xs : Nat → Int32) (l4 : Int) (k : V → Int → Int → Res) : Nat → V → Int → Int → Res
  | 0, _, _, _ => none
  | n + 1, v, l3, l6 => (if 4 ≤ l6 then (k v l3 l6)
   else (if l3 = 0 then (k v l3 l6)
   else (chk (0 ≤ (w32 (6 + l6))) (rB (lZ (sp_L_low (cellf L xs (w32 (6 + l6))) 6) v) (fun z29 v29 => (rB (lZ (sp_L_low (shr32 (cellf L xs (w32 (6 + l6))) 3) 1000001) v29) (fun z30 v30 => (rB (lO (sp_L_does_1 z29 z30 0 0) v30) (fun z31 v31 => (if ¬ z31 = l6 then (lp_L_law_140 L xs l4 k n v31 0 (w32 (l6 + 1)))
   else (rB (lZ (sp_L_low (cellf L xs (w32 (6 + l6))) 6) v31) (fun z33 v33 => (rB (lZ (sp_L_low (shr32 (cellf L xs (w32 (6 + l6))) 3) 1000001) v33) (fun z34 v34 => (rB (lP (sp_L_does_1 z33 z34 0 0) v34) (fun z35 v35 => (if ¬ z35 = l6 then (lp_L_law_140 L xs l4 k n v35 0 (w32 (l6 + 1)))
   else (lp_L_law_140 L xs l4 k n v35 1 (w32 (l6 + 1))))))))))))))))))))
set_option maxRecDepth 100000 in
set_option maxHeartbeats 4000000 in
theorem kl_L_law_140 {nm9 : String} {rt9 : Option Nat} {l4 : Int} {x : Cx} (F : Fx x cL_law RL nm9 room_1 9 rt9 (some .boolean) 1) {L : Nat} {xs : Nat → Int32} (hX : FxS x L xs) {k : V → Int → Int → Res} (c9 s9 : Nat) (hC : c9 ≤ 716531) (hS : s9 ≤ 6952104) (hk : ∀ (v : V) (l3 l6 : Int), Gs2 x (k v l3 l6) v c9 s9 229 [(0, (108, 0)), (1, (17, 0)), (2, (117, 0)), (3, (2, l3)), (4, (1, l4)), (6, (0, l6))] []) : ∀ (n : Nat) (v : V) (l3 l6 : Int) (cells slots : Nat), cells + n * 14 ≤ c9 → slots + n * 374 ≤ s9 → Gs2 x (lp_L_law_140 L xs l4 k n v l3 l6) v cells slots 140 [(0, (108, 0)), (1, (17, 0)), (2, (117, 0)), (3, (2, l3)), (4, (1, l4)), (6, (0, l6))] [] := by
  intro n
  induction n with
  | zero => intro v l3 l6 cells slots _ _; exact g2_none
  | succ n ih =>
    intro v l3 l6 cells slots hc hs
    rw [lp_L_law_140]
    refine g2_iload F 5 rfl rfl dL_law_140 ?_
    refine g2_iconst F 0 rfl dL_law_142 ?_
    refine g2_icmp_ge F rfl rfl (tgt := 229) rfl dL_law_143 (fun n26 => ?_) (fun n26 => ?_)
    · refine g2_loc [(0, 108), (1, 17), (2, 117), (3, 2), (4, 1), (5, 0)] rfl ?_
      refine g2_wide (c2 := c9) (s2 := s9) (show cells ≤ c9 by omega) (show slots ≤ s9 by omega) ?_
      exact hk v l3 l6
    · refine g2_iload_n F rfl 3 rfl rfl dL_law_146 ?_
      refine g2_if_eq F rfl (tgt := 229) rfl dL_law_147 (fun n27 => ?_) (fun n27 => ?_)
      · refine g2_loc [(0, 108), (1, 17), (2, 117), (3, 2), (4, 1), (5, 0)] rfl ?_
        refine g2_wide (c2 := c9) (s2 := s9) (show cells ≤ c9 by omega) (show slots ≤ s9 by omega) ?_
        exact hk v l3 l6
      · refine g2_aload_n F rfl 0 rfl dL_law_150 ?_
        refine g2_bipush F rfl (by decide) dL_law_151 ?_
        refine g2_iload F 5 rfl rfl dL_law_153 ?_
        refine g2_iadd F rfl rfl dL_law_155 ?_
        refine g2_chk (fun n28 => ?_)
        refine g2_cell F (by decide) hX (Int.not_lt.mp (Int.not_lt.mpr n28)) rfl ml_RL_165 wt_L_cell mi_L_cell (Nat.le_of_ble_eq_true rfl) (Nat.le_of_ble_eq_true rfl) (show cells + 0 ≤ 716531 by omega) (show slots + 0 ≤ 6952104 by omega) (Nat.le_of_ble_eq_true rfl) dL_law_156 ?_
        refine g2_istore F rfl (Nat.le_of_ble_eq_true rfl) (ls' := [(7, (0, (cellf L xs (w32 (6 + l6))))), (0, (108, 0)), (1, (17, 0)), (2, (117, 0)), (3, (2, l3)), (4, (1, l4)), (6, (0, l6))]) rfl dL_law_159 ?_
        refine g2_aload_n F rfl 2 rfl dL_law_161 ?_
        refine g2_iconst F 2 rfl dL_law_162 ?_
        refine g2_iload F 0 rfl rfl dL_law_163 ?_
        refine g2_bipush F rfl (by decide) dL_law_165 ?_
        refine g2_callS F (by decide) [(0, (cellf L xs (w32 (6 + l6)))), (0, 6)] [0, 0] ml_RL_149 wt_L_low (fun l => ct_N ((c_L_low (cellf L xs (w32 (6 + l6))) 6) l) (prs_ok rfl) (fun q hq => by cases hq <;> decide)) mi_L_low rfl rfl rfl (Nat.le_of_ble_eq_true rfl) (Nat.le_of_ble_eq_true rfl) (show cells + 0 ≤ 716531 by omega) (show slots + 0 ≤ 6952104 by omega) (Nat.le_of_ble_eq_true rfl) dL_law_167 (fun z29 v29 hz29 => ?_)
        refine g2_iload F 0 rfl rfl dL_law_170 ?_
        refine g2_iconst F 0 rfl dL_law_172 ?_
        refine g2_ishr F rfl rfl dL_law_173 ?_
        refine g2_ldc F rfl cn_RL_154 dL_law_174 ?_
        refine g2_callS F (by decide) [(0, (shr32 (cellf L xs (w32 (6 + l6))) 3)), (0, 1000001)] [0, 0] ml_RL_149 wt_L_low (fun l => ct_N ((c_L_low (shr32 (cellf L xs (w32 (6 + l6))) 3) 1000001) l) (prs_ok rfl) (fun q hq => by cases hq <;> decide)) mi_L_low rfl rfl rfl (Nat.le_of_ble_eq_true rfl) (Nat.le_of_ble_eq_true rfl) (show cells + 0 ≤ 716531 by omega) (show slots + 0 ≤ 6952104 by omega) (Nat.le_of_ble_eq_true rfl) dL_law_176 (fun z30 v30 hz30 => ?_)
        refine g2_iconst F 2 rfl dL_law_179 ?_
        refine g2_iconst F 2 rfl dL_law_180 ?_
        refine g2_callSX F (by decide) [(17, 0), (2, 1), (0, z29), (0, z30), (2, 0), (2, 0)] [17, 0, 0, 0, 0, 0] ml_RL_155 wt_L_does (fun l => ctW_O ((c_L_does_1 z29 z30 0 0) l) (prs_ok rfl) (fun q hq => by cases hq <;> decide)) mw_L_does rfl rfl rfl (Nat.le_of_ble_eq_true rfl) (Nat.le_of_ble_eq_true rfl) (show cells + 7 ≤ 716531 by omega) (show slots + 187 ≤ 6952104 by omega) (Nat.le_of_ble_eq_true rfl) dL_law_181 (fun z31 v31 hz31 => ?_)
        refine g2_iload F 6 rfl rfl dL_law_184 ?_
        refine g2_icmp_ne F rfl rfl (tgt := 221) rfl dL_law_186 (fun n32 => ?_) (fun n32 => ?_)
        · refine g2_iconst F 2 rfl dL_law_221 ?_
          refine g2_istore_n F rfl rfl (Nat.le_of_ble_eq_true rfl) (ls' := [(3, (2, 0)), (7, (0, (cellf L xs (w32 (6 + l6))))), (0, (108, 0)), (1, (17, 0)), (2, (117, 0)), (4, (1, l4)), (6, (0, l6))]) rfl dL_law_222 ?_
          refine g2_iinc F 6 rfl rfl (Nat.le_of_ble_eq_true rfl) (ls' := [(6, (0, (w32 (l6 + 1)))), (3, (2, 0)), (7, (0, (cellf L xs (w32 (6 + l6))))), (0, (108, 0)), (1, (17, 0)), (2, (117, 0)), (4, (1, l4))]) rfl dL_law_223 ?_
          refine g2_goto F (tgt := 140) rfl dL_law_226 ?_
          refine g2_loc [(3, 108), (4, 17), (5, 117), (1, 2), (6, 1), (0, 0)] rfl ?_
          exact ih v31 0 (w32 (l6 + 1)) (cells + 7) (slots + 187) (by omega) (by omega)
        · refine g2_aload_n F rfl 3 rfl dL_law_189 ?_
          refine g2_iconst F 2 rfl dL_law_190 ?_
          refine g2_iload F 0 rfl rfl dL_law_191 ?_
          refine g2_bipush F rfl (by decide) dL_law_193 ?_
          refine g2_callS F (by decide) [(0, (cellf L xs (w32 (6 + l6)))), (0, 6)] [0, 0] ml_RL_149 wt_L_low (fun l => ct_N ((c_L_low (cellf L xs (w32 (6 + l6))) 6) l) (prs_ok rfl) (fun q hq => by cases hq <;> decide)) mi_L_low rfl rfl rfl (Nat.le_of_ble_eq_true rfl) (Nat.le_of_ble_eq_true rfl) (show (cells + 7) + 0 ≤ 716531 by omega) (show (slots + 187) + 0 ≤ 6952104 by omega) (Nat.le_of_ble_eq_true rfl) dL_law_195 (fun z33 v33 hz33 => ?_)
          refine g2_iload F 0 rfl rfl dL_law_198 ?_
          refine g2_iconst F 0 rfl dL_law_200 ?_
          refine g2_ishr F rfl rfl dL_law_201 ?_
          refine g2_ldc F rfl cn_RL_154 dL_law_202 ?_
          refine g2_callS F (by decide) [(0, (shr32 (cellf L xs (w32 (6 + l6))) 3)), (0, 1000001)] [0, 0] ml_RL_149 wt_L_low (fun l => ct_N ((c_L_low (shr32 (cellf L xs (w32 (6 + l6))) 3) 1000001) l) (prs_ok rfl) (fun q hq => by cases hq <;> decide)) mi_L_low rfl rfl rfl (Nat.le_of_ble_eq_true rfl) (Nat.le_of_ble_eq_true rfl) (show (cells + 7) + 0 ≤ 716531 by omega) (show (slots + 187) + 0 ≤ 6952104 by omega) (Nat.le_of_ble_eq_true rfl) dL_law_204 (fun z34 v34 hz34 => ?_)
          refine g2_iconst F 2 rfl dL_law_207 ?_
          refine g2_iconst F 2 rfl dL_law_208 ?_
          refine g2_callSX F (by decide) [(117, 0), (2, 1), (0, z33), (0, z34), (2, 0), (2, 0)] [117, 0, 0, 0, 0, 0] ml_RL_155 wt_L_does (fun l => ctW_P ((c_L_does_1 z33 z34 0 0) l) (prs_ok rfl) (fun q hq => by cases hq <;> decide)) mw_L_does rfl rfl rfl (Nat.le_of_ble_eq_true rfl) (Nat.le_of_ble_eq_true rfl) (show (cells + 7) + 7 ≤ 716531 by omega) (show (slots + 187) + 187 ≤ 6952104 by omega) (Nat.le_of_ble_eq_true rfl) dL_law_209 (fun z35 v35 hz35 => ?_)
          refine g2_iload F 6 rfl rfl dL_law_212 ?_
          refine g2_icmp_ne F rfl rfl (tgt := 221) rfl dL_law_214 (fun n36 => ?_) (fun n36 => ?_)
          · refine g2_iconst F 2 rfl dL_law_221 ?_
            refine g2_istore_n F rfl rfl (Nat.le_of_ble_eq_true rfl) (ls' := [(3, (2, 0)), (7, (0, (cellf L xs (w32 (6 + l6))))), (0, (108, 0)), (1, (17, 0)), (2, (117, 0)), (4, (1, l4)), (6, (0, l6))]) rfl dL_law_222 ?_
            refine g2_iinc F 6 rfl rfl (Nat.le_of_ble_eq_true rfl) (ls' := [(6, (0, (w32 (l6 + 1)))), (3, (2, 0)), (7, (0, (cellf L xs (w32 (6 + l6))))), (0, (108, 0)), (1, (17, 0)), (2, (117, 0)), (4, (1, l4))]) rfl dL_law_223 ?_
            refine g2_goto F (tgt := 140) rfl dL_law_226 ?_
            refine g2_loc [(3, 108), (4, 17), (5, 117), (1, 2), (6, 1), (0, 0)] rfl ?_
            exact ih v35 0 (w32 (l6 + 1)) (cells + 14) (slots + 374) (by omega) (by omega)
          · refine g2_iconst F 2 rfl dL_law_217 ?_
            refine g2_goto F (tgt := 222) rfl dL_law_218 ?_
            refine g2_istore_n F rfl rfl (Nat.le_of_ble_eq_true rfl) (ls' := [(3, (2, 1)), (7, (0, (cellf L xs (w32 (6 + l6))))), (0, (108, 0)), (1, (17, 0)), (2, (117, 0)), (4, (1, l4)), (6, (0, l6))]) rfl dL_law_222 ?_
            refine g2_iinc F 6 rfl rfl (Nat.le_of_ble_eq_true rfl) (ls' := [(6, (0, (w32 (l6 + 1)))), (3, (2, 1)), (7, (0, (cellf L xs (w32 (6 + l6))))), (0, (108, 0)), (1, (17, 0)), (2, (117, 0)), (4, (1, l4))]) rfl dL_law_223 ?_
            refine g2_goto F (tgt := 140) rfl dL_law_226 ?_
            refine g2_loc [(3, 108), (4, 17), (5, 117), (1, 2), (6, 1), (0, 0)] rfl ?_
            exact ih v35 1 (w32 (l6 + 1)) (cells + 14) (slots + 374) (by omega) (by omega)

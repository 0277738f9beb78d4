def lp_L_areAlike_131 (l2 l4 l5 : Int) (k : V → Int → Int → Res) : Nat → V → Int → Int → Res
  | 0, _, _, _ => none
  | n + 1, v, l3, l6 => (if 9 ≤ l6 then (k v l3 l6)
   else (if l3 = 0 then (k v l3 l6)
   else (rB (lO (sp_L_does_28 l5 l6 0 0) v) (fun z12 v12 => (rB (lP (sp_L_does_28 l5 l6 0 0) v12) (fun z13 v13 => (if ¬ z12 = z13 then (lp_L_areAlike_131 l2 l4 l5 k n v13 0 (w32 (l6 + 1)))
   else (if 9 < l5 then (if 19 < l5 then (if 4 < l5 then (lp_L_areAlike_131 l2 l4 l5 k n v13 1 (w32 (l6 + 1)))
   else (rB (lO (sp_L_does_27 l5 l6 0 0) v13) (fun z18 v18 => (rB (lP (sp_L_does_27 l5 l6 0 0) v18) (fun z19 v19 => (if ¬ z18 = z19 then (lp_L_areAlike_131 l2 l4 l5 k n v19 0 (w32 (l6 + 1)))
   else (lp_L_areAlike_131 l2 l4 l5 k n v19 1 (w32 (l6 + 1)))))))))
   else (rB (lO (sp_L_does_29 l5 l6 0 0) v13) (fun z21 v21 => (rB (lP (sp_L_does_29 l5 l6 0 0) v21) (fun z22 v22 => (if ¬ z21 = z22 then (lp_L_areAlike_131 l2 l4 l5 k n v22 0 (w32 (l6 + 1)))
   else (if 4 < l5 then (lp_L_areAlike_131 l2 l4 l5 k n v22 1 (w32 (l6 + 1)))
   else (rB (lO (sp_L_does_27 l5 l6 0 0) v22) (fun z25 v25 => (rB (lP (sp_L_does_27 l5 l6 0 0) v25) (fun z26 v26 => (if ¬ z25 = z26 then (lp_L_areAlike_131 l2 l4 l5 k n v26 0 (w32 (l6 + 1)))
   else (lp_L_areAlike_131 l2 l4 l5 k n v26 1 (w32 (l6 + 1)))))))))))))))
   else (rB (lO (sp_L_does_26 l5 l6 0 0) v13) (fun z28 v28 => (rB (lP (sp_L_does_26 l5 l6 0 0) v28) (fun z29 v29 => (if ¬ z28 = z29 then (lp_L_areAlike_131 l2 l4 l5 k n v29 0 (w32 (l6 + 1)))
   else (if 19 < l5 then (if 4 < l5 then (lp_L_areAlike_131 l2 l4 l5 k n v29 1 (w32 (l6 + 1)))
   else (rB (lO (sp_L_does_27 l5 l6 0 0) v29) (fun z33 v33 => (rB (lP (sp_L_does_27 l5 l6 0 0) v33) (fun z34 v34 => (if ¬ z33 = z34 then (lp_L_areAlike_131 l2 l4 l5 k n v34 0 (w32 (l6 + 1)))
   else (lp_L_areAlike_131 l2 l4 l5 k n v34 1 (w32 (l6 + 1)))))))))
   else (rB (lO (sp_L_does_29 l5 l6 0 0) v29) (fun z36 v36 => (rB (lP (sp_L_does_29 l5 l6 0 0) v36) (fun z37 v37 => (if ¬ z36 = z37 then (lp_L_areAlike_131 l2 l4 l5 k n v37 0 (w32 (l6 + 1)))
   else (if 4 < l5 then (lp_L_areAlike_131 l2 l4 l5 k n v37 1 (w32 (l6 + 1)))
   else (rB (lO (sp_L_does_27 l5 l6 0 0) v37) (fun z40 v40 => (rB (lP (sp_L_does_27 l5 l6 0 0) v40) (fun z41 v41 => (if ¬ z40 = z41 then (lp_L_areAlike_131 l2 l4 l5 k n v41 0 (w32 (l6 + 1)))
   else (lp_L_areAlike_131 l2 l4 l5 k n v41 1 (w32 (l6 + 1))))))))))))))))))))))))))))
set_option maxRecDepth 100000 in
set_option maxHeartbeats 4000000 in
theorem kl_L_areAlike_131 {l2 l4 l5 : Int} {x : Cx} (F : Fx x cL_areAlike RL "areAlike" ({ frames := 11, cells := 10614, slots := 63684, locals := 204 }) 7 (some 2) (some .boolean) 0) {k : V → Int → Int → Res} (c9 s9 : Nat) (hC : c9 ≤ 10614) (hS : s9 ≤ 63684) (hk : ∀ (v : V) (l3 l6 : Int), Gs2 x (k v l3 l6) v c9 s9 282 [(0, (17, 0)), (1, (117, 0)), (2, (0, l2)), (3, (2, l3)), (4, (0, l4)), (5, (0, l5)), (6, (0, l6))] []) : ∀ (n : Nat) (v : V) (l3 l6 : Int) (cells slots : Nat), cells + n * 16 ≤ c9 → slots + n * 96 ≤ s9 → Gs2 x (lp_L_areAlike_131 l2 l4 l5 k n v l3 l6) v cells slots 131 [(0, (17, 0)), (1, (117, 0)), (2, (0, l2)), (3, (2, l3)), (4, (0, l4)), (5, (0, l5)), (6, (0, l6))] [] := by
  intro n
  induction n with
  | zero => intro v l3 l6 cells slots _ _; exact g2_none
  | succ n ih =>
    intro v l3 l6 cells slots hc hs
    rw [lp_L_areAlike_131]
    refine g2_iload F 6 rfl rfl dL_areAlike_131 ?_
    refine g2_bipush F rfl (by decide) dL_areAlike_133 ?_
    refine g2_icmp_ge F rfl rfl (tgt := 282) rfl dL_areAlike_135 (fun n10 => ?_) (fun n10 => ?_)
    · refine g2_loc [(0, 17), (1, 117), (2, 0), (3, 2), (4, 0), (5, 0), (6, 0)] rfl ?_
      refine g2_wide (c2 := c9) (s2 := s9) (show cells ≤ c9 by omega) (show slots ≤ s9 by omega) ?_
      exact hk v l3 l6
    · refine g2_iload_n F rfl 3 rfl rfl dL_areAlike_138 ?_
      refine g2_if_eq F rfl (tgt := 282) rfl dL_areAlike_139 (fun n11 => ?_) (fun n11 => ?_)
      · refine g2_loc [(0, 17), (1, 117), (2, 0), (3, 2), (4, 0), (5, 0), (6, 0)] rfl ?_
        refine g2_wide (c2 := c9) (s2 := s9) (show cells ≤ c9 by omega) (show slots ≤ s9 by omega) ?_
        exact hk v l3 l6
      · refine g2_aload_n F rfl 0 rfl dL_areAlike_142 ?_
        refine g2_bipush F rfl (by decide) dL_areAlike_143 ?_
        refine g2_iload F 5 rfl rfl dL_areAlike_145 ?_
        refine g2_iload F 6 rfl rfl dL_areAlike_147 ?_
        refine g2_iconst F 2 rfl dL_areAlike_149 ?_
        refine g2_iconst F 2 rfl dL_areAlike_150 ?_
        refine g2_callSX F (by decide) [(17, 0), (0, 28), (0, l5), (0, l6), (2, 0), (2, 0)] [17, 0, 0, 0, 0, 0] ml_RL_155 wt_L_does (fun l => ctW_O ((c_L_does_28 l5 l6 0 0) l) (prs_ok rfl) (fun q hq => by cases hq <;> decide)) mw_L_does rfl rfl rfl (Nat.le_of_ble_eq_true rfl) (Nat.le_of_ble_eq_true rfl) (show cells + 2 ≤ 10614 by omega) (show slots + 12 ≤ 63684 by omega) (Nat.le_of_ble_eq_true rfl) dL_areAlike_151 (fun z12 v12 hz12 => ?_)
        refine g2_aload_n F rfl 1 rfl dL_areAlike_154 ?_
        refine g2_bipush F rfl (by decide) dL_areAlike_155 ?_
        refine g2_iload F 5 rfl rfl dL_areAlike_157 ?_
        refine g2_iload F 6 rfl rfl dL_areAlike_159 ?_
        refine g2_iconst F 2 rfl dL_areAlike_161 ?_
        refine g2_iconst F 2 rfl dL_areAlike_162 ?_
        refine g2_callSX F (by decide) [(117, 0), (0, 28), (0, l5), (0, l6), (2, 0), (2, 0)] [117, 0, 0, 0, 0, 0] ml_RL_155 wt_L_does (fun l => ctW_P ((c_L_does_28 l5 l6 0 0) l) (prs_ok rfl) (fun q hq => by cases hq <;> decide)) mw_L_does rfl rfl rfl (Nat.le_of_ble_eq_true rfl) (Nat.le_of_ble_eq_true rfl) (show (cells + 2) + 2 ≤ 10614 by omega) (show (slots + 12) + 12 ≤ 63684 by omega) (Nat.le_of_ble_eq_true rfl) dL_areAlike_163 (fun z13 v13 hz13 => ?_)
        refine g2_icmp_ne F rfl rfl (tgt := 274) rfl dL_areAlike_166 (fun n14 => ?_) (fun n14 => ?_)
        · refine g2_iconst F 2 rfl dL_areAlike_274 ?_
          refine g2_istore_n F rfl rfl (Nat.le_of_ble_eq_true rfl) (ls' := [(3, (2, 0)), (0, (17, 0)), (1, (117, 0)), (2, (0, l2)), (4, (0, l4)), (5, (0, l5)), (6, (0, l6))]) rfl dL_areAlike_275 ?_
          refine g2_iinc F 6 rfl rfl (Nat.le_of_ble_eq_true rfl) (ls' := [(6, (0, (w32 (l6 + 1)))), (3, (2, 0)), (0, (17, 0)), (1, (117, 0)), (2, (0, l2)), (4, (0, l4)), (5, (0, l5))]) rfl dL_areAlike_276 ?_
          refine g2_goto F (tgt := 131) rfl dL_areAlike_279 ?_
          refine g2_loc [(2, 17), (3, 117), (4, 0), (1, 2), (5, 0), (6, 0), (0, 0)] rfl ?_
          exact ih v13 0 (w32 (l6 + 1)) (cells + 4) (slots + 24) (by omega) (by omega)
        · refine g2_iload F 5 rfl rfl dL_areAlike_169 ?_
          refine g2_bipush F rfl (by decide) dL_areAlike_171 ?_
          refine g2_icmp_gt F rfl rfl (tgt := 203) rfl dL_areAlike_173 (fun n15 => ?_) (fun n15 => ?_)
          · refine g2_iload F 5 rfl rfl dL_areAlike_203 ?_
            refine g2_bipush F rfl (by decide) dL_areAlike_205 ?_
            refine g2_icmp_gt F rfl rfl (tgt := 237) rfl dL_areAlike_207 (fun n16 => ?_) (fun n16 => ?_)
            · refine g2_iload F 5 rfl rfl dL_areAlike_237 ?_
              refine g2_iconst F 0 rfl dL_areAlike_239 ?_
              refine g2_icmp_gt F rfl rfl (tgt := 270) rfl dL_areAlike_240 (fun n17 => ?_) (fun n17 => ?_)
              · refine g2_iconst F 2 rfl dL_areAlike_270 ?_
                refine g2_goto F (tgt := 275) rfl dL_areAlike_271 ?_
                refine g2_istore_n F rfl rfl (Nat.le_of_ble_eq_true rfl) (ls' := [(3, (2, 1)), (0, (17, 0)), (1, (117, 0)), (2, (0, l2)), (4, (0, l4)), (5, (0, l5)), (6, (0, l6))]) rfl dL_areAlike_275 ?_
                refine g2_iinc F 6 rfl rfl (Nat.le_of_ble_eq_true rfl) (ls' := [(6, (0, (w32 (l6 + 1)))), (3, (2, 1)), (0, (17, 0)), (1, (117, 0)), (2, (0, l2)), (4, (0, l4)), (5, (0, l5))]) rfl dL_areAlike_276 ?_
                refine g2_goto F (tgt := 131) rfl dL_areAlike_279 ?_
                refine g2_loc [(2, 17), (3, 117), (4, 0), (1, 2), (5, 0), (6, 0), (0, 0)] rfl ?_
                exact ih v13 1 (w32 (l6 + 1)) (cells + 4) (slots + 24) (by omega) (by omega)
              · refine g2_aload_n F rfl 0 rfl dL_areAlike_243 ?_
                refine g2_bipush F rfl (by decide) dL_areAlike_244 ?_
                refine g2_iload F 5 rfl rfl dL_areAlike_246 ?_
                refine g2_iload F 6 rfl rfl dL_areAlike_248 ?_
                refine g2_iconst F 2 rfl dL_areAlike_250 ?_
                refine g2_iconst F 2 rfl dL_areAlike_251 ?_
                refine g2_callSX F (by decide) [(17, 0), (0, 27), (0, l5), (0, l6), (2, 0), (2, 0)] [17, 0, 0, 0, 0, 0] ml_RL_155 wt_L_does (fun l => ctW_O ((c_L_does_27 l5 l6 0 0) l) (prs_ok rfl) (fun q hq => by cases hq <;> decide)) mw_L_does rfl rfl rfl (Nat.le_of_ble_eq_true rfl) (Nat.le_of_ble_eq_true rfl) (show (cells + 4) + 2 ≤ 10614 by omega) (show (slots + 24) + 12 ≤ 63684 by omega) (Nat.le_of_ble_eq_true rfl) dL_areAlike_252 (fun z18 v18 hz18 => ?_)
                refine g2_aload_n F rfl 1 rfl dL_areAlike_255 ?_
                refine g2_bipush F rfl (by decide) dL_areAlike_256 ?_
                refine g2_iload F 5 rfl rfl dL_areAlike_258 ?_
                refine g2_iload F 6 rfl rfl dL_areAlike_260 ?_
                refine g2_iconst F 2 rfl dL_areAlike_262 ?_
                refine g2_iconst F 2 rfl dL_areAlike_263 ?_
                refine g2_callSX F (by decide) [(117, 0), (0, 27), (0, l5), (0, l6), (2, 0), (2, 0)] [117, 0, 0, 0, 0, 0] ml_RL_155 wt_L_does (fun l => ctW_P ((c_L_does_27 l5 l6 0 0) l) (prs_ok rfl) (fun q hq => by cases hq <;> decide)) mw_L_does rfl rfl rfl (Nat.le_of_ble_eq_true rfl) (Nat.le_of_ble_eq_true rfl) (show (cells + 6) + 2 ≤ 10614 by omega) (show (slots + 36) + 12 ≤ 63684 by omega) (Nat.le_of_ble_eq_true rfl) dL_areAlike_264 (fun z19 v19 hz19 => ?_)
                refine g2_icmp_ne F rfl rfl (tgt := 274) rfl dL_areAlike_267 (fun n20 => ?_) (fun n20 => ?_)
                · refine g2_iconst F 2 rfl dL_areAlike_274 ?_
                  refine g2_istore_n F rfl rfl (Nat.le_of_ble_eq_true rfl) (ls' := [(3, (2, 0)), (0, (17, 0)), (1, (117, 0)), (2, (0, l2)), (4, (0, l4)), (5, (0, l5)), (6, (0, l6))]) rfl dL_areAlike_275 ?_
                  refine g2_iinc F 6 rfl rfl (Nat.le_of_ble_eq_true rfl) (ls' := [(6, (0, (w32 (l6 + 1)))), (3, (2, 0)), (0, (17, 0)), (1, (117, 0)), (2, (0, l2)), (4, (0, l4)), (5, (0, l5))]) rfl dL_areAlike_276 ?_
                  refine g2_goto F (tgt := 131) rfl dL_areAlike_279 ?_
                  refine g2_loc [(2, 17), (3, 117), (4, 0), (1, 2), (5, 0), (6, 0), (0, 0)] rfl ?_
                  exact ih v19 0 (w32 (l6 + 1)) (cells + 8) (slots + 48) (by omega) (by omega)
                · refine g2_iconst F 2 rfl dL_areAlike_270 ?_
                  refine g2_goto F (tgt := 275) rfl dL_areAlike_271 ?_
                  refine g2_istore_n F rfl rfl (Nat.le_of_ble_eq_true rfl) (ls' := [(3, (2, 1)), (0, (17, 0)), (1, (117, 0)), (2, (0, l2)), (4, (0, l4)), (5, (0, l5)), (6, (0, l6))]) rfl dL_areAlike_275 ?_
                  refine g2_iinc F 6 rfl rfl (Nat.le_of_ble_eq_true rfl) (ls' := [(6, (0, (w32 (l6 + 1)))), (3, (2, 1)), (0, (17, 0)), (1, (117, 0)), (2, (0, l2)), (4, (0, l4)), (5, (0, l5))]) rfl dL_areAlike_276 ?_
                  refine g2_goto F (tgt := 131) rfl dL_areAlike_279 ?_
                  refine g2_loc [(2, 17), (3, 117), (4, 0), (1, 2), (5, 0), (6, 0), (0, 0)] rfl ?_
                  exact ih v19 1 (w32 (l6 + 1)) (cells + 8) (slots + 48) (by omega) (by omega)
            · refine g2_aload_n F rfl 0 rfl dL_areAlike_210 ?_
              refine g2_bipush F rfl (by decide) dL_areAlike_211 ?_
              refine g2_iload F 5 rfl rfl dL_areAlike_213 ?_
              refine g2_iload F 6 rfl rfl dL_areAlike_215 ?_
              refine g2_iconst F 2 rfl dL_areAlike_217 ?_
              refine g2_iconst F 2 rfl dL_areAlike_218 ?_
              refine g2_callSX F (by decide) [(17, 0), (0, 29), (0, l5), (0, l6), (2, 0), (2, 0)] [17, 0, 0, 0, 0, 0] ml_RL_155 wt_L_does (fun l => ctW_O ((c_L_does_29 l5 l6 0 0) l) (prs_ok rfl) (fun q hq => by cases hq <;> decide)) mw_L_does rfl rfl rfl (Nat.le_of_ble_eq_true rfl) (Nat.le_of_ble_eq_true rfl) (show (cells + 4) + 2 ≤ 10614 by omega) (show (slots + 24) + 12 ≤ 63684 by omega) (Nat.le_of_ble_eq_true rfl) dL_areAlike_219 (fun z21 v21 hz21 => ?_)
              refine g2_aload_n F rfl 1 rfl dL_areAlike_222 ?_
              refine g2_bipush F rfl (by decide) dL_areAlike_223 ?_
              refine g2_iload F 5 rfl rfl dL_areAlike_225 ?_
              refine g2_iload F 6 rfl rfl dL_areAlike_227 ?_
              refine g2_iconst F 2 rfl dL_areAlike_229 ?_
              refine g2_iconst F 2 rfl dL_areAlike_230 ?_
              refine g2_callSX F (by decide) [(117, 0), (0, 29), (0, l5), (0, l6), (2, 0), (2, 0)] [117, 0, 0, 0, 0, 0] ml_RL_155 wt_L_does (fun l => ctW_P ((c_L_does_29 l5 l6 0 0) l) (prs_ok rfl) (fun q hq => by cases hq <;> decide)) mw_L_does rfl rfl rfl (Nat.le_of_ble_eq_true rfl) (Nat.le_of_ble_eq_true rfl) (show (cells + 6) + 2 ≤ 10614 by omega) (show (slots + 36) + 12 ≤ 63684 by omega) (Nat.le_of_ble_eq_true rfl) dL_areAlike_231 (fun z22 v22 hz22 => ?_)
              refine g2_icmp_ne F rfl rfl (tgt := 274) rfl dL_areAlike_234 (fun n23 => ?_) (fun n23 => ?_)
              · refine g2_iconst F 2 rfl dL_areAlike_274 ?_
                refine g2_istore_n F rfl rfl (Nat.le_of_ble_eq_true rfl) (ls' := [(3, (2, 0)), (0, (17, 0)), (1, (117, 0)), (2, (0, l2)), (4, (0, l4)), (5, (0, l5)), (6, (0, l6))]) rfl dL_areAlike_275 ?_
                refine g2_iinc F 6 rfl rfl (Nat.le_of_ble_eq_true rfl) (ls' := [(6, (0, (w32 (l6 + 1)))), (3, (2, 0)), (0, (17, 0)), (1, (117, 0)), (2, (0, l2)), (4, (0, l4)), (5, (0, l5))]) rfl dL_areAlike_276 ?_
                refine g2_goto F (tgt := 131) rfl dL_areAlike_279 ?_
                refine g2_loc [(2, 17), (3, 117), (4, 0), (1, 2), (5, 0), (6, 0), (0, 0)] rfl ?_
                exact ih v22 0 (w32 (l6 + 1)) (cells + 8) (slots + 48) (by omega) (by omega)
              · refine g2_iload F 5 rfl rfl dL_areAlike_237 ?_
                refine g2_iconst F 0 rfl dL_areAlike_239 ?_
                refine g2_icmp_gt F rfl rfl (tgt := 270) rfl dL_areAlike_240 (fun n24 => ?_) (fun n24 => ?_)
                · refine g2_iconst F 2 rfl dL_areAlike_270 ?_
                  refine g2_goto F (tgt := 275) rfl dL_areAlike_271 ?_
                  refine g2_istore_n F rfl rfl (Nat.le_of_ble_eq_true rfl) (ls' := [(3, (2, 1)), (0, (17, 0)), (1, (117, 0)), (2, (0, l2)), (4, (0, l4)), (5, (0, l5)), (6, (0, l6))]) rfl dL_areAlike_275 ?_
                  refine g2_iinc F 6 rfl rfl (Nat.le_of_ble_eq_true rfl) (ls' := [(6, (0, (w32 (l6 + 1)))), (3, (2, 1)), (0, (17, 0)), (1, (117, 0)), (2, (0, l2)), (4, (0, l4)), (5, (0, l5))]) rfl dL_areAlike_276 ?_
                  refine g2_goto F (tgt := 131) rfl dL_areAlike_279 ?_
                  refine g2_loc [(2, 17), (3, 117), (4, 0), (1, 2), (5, 0), (6, 0), (0, 0)] rfl ?_
                  exact ih v22 1 (w32 (l6 + 1)) (cells + 8) (slots + 48) (by omega) (by omega)
                · refine g2_aload_n F rfl 0 rfl dL_areAlike_243 ?_
                  refine g2_bipush F rfl (by decide) dL_areAlike_244 ?_
                  refine g2_iload F 5 rfl rfl dL_areAlike_246 ?_
                  refine g2_iload F 6 rfl rfl dL_areAlike_248 ?_
                  refine g2_iconst F 2 rfl dL_areAlike_250 ?_
                  refine g2_iconst F 2 rfl dL_areAlike_251 ?_
                  refine g2_callSX F (by decide) [(17, 0), (0, 27), (0, l5), (0, l6), (2, 0), (2, 0)] [17, 0, 0, 0, 0, 0] ml_RL_155 wt_L_does (fun l => ctW_O ((c_L_does_27 l5 l6 0 0) l) (prs_ok rfl) (fun q hq => by cases hq <;> decide)) mw_L_does rfl rfl rfl (Nat.le_of_ble_eq_true rfl) (Nat.le_of_ble_eq_true rfl) (show (cells + 8) + 2 ≤ 10614 by omega) (show (slots + 48) + 12 ≤ 63684 by omega) (Nat.le_of_ble_eq_true rfl) dL_areAlike_252 (fun z25 v25 hz25 => ?_)
                  refine g2_aload_n F rfl 1 rfl dL_areAlike_255 ?_
                  refine g2_bipush F rfl (by decide) dL_areAlike_256 ?_
                  refine g2_iload F 5 rfl rfl dL_areAlike_258 ?_
                  refine g2_iload F 6 rfl rfl dL_areAlike_260 ?_
                  refine g2_iconst F 2 rfl dL_areAlike_262 ?_
                  refine g2_iconst F 2 rfl dL_areAlike_263 ?_
                  refine g2_callSX F (by decide) [(117, 0), (0, 27), (0, l5), (0, l6), (2, 0), (2, 0)] [117, 0, 0, 0, 0, 0] ml_RL_155 wt_L_does (fun l => ctW_P ((c_L_does_27 l5 l6 0 0) l) (prs_ok rfl) (fun q hq => by cases hq <;> decide)) mw_L_does rfl rfl rfl (Nat.le_of_ble_eq_true rfl) (Nat.le_of_ble_eq_true rfl) (show (cells + 10) + 2 ≤ 10614 by omega) (show (slots + 60) + 12 ≤ 63684 by omega) (Nat.le_of_ble_eq_true rfl) dL_areAlike_264 (fun z26 v26 hz26 => ?_)
                  refine g2_icmp_ne F rfl rfl (tgt := 274) rfl dL_areAlike_267 (fun n27 => ?_) (fun n27 => ?_)
                  · refine g2_iconst F 2 rfl dL_areAlike_274 ?_
                    refine g2_istore_n F rfl rfl (Nat.le_of_ble_eq_true rfl) (ls' := [(3, (2, 0)), (0, (17, 0)), (1, (117, 0)), (2, (0, l2)), (4, (0, l4)), (5, (0, l5)), (6, (0, l6))]) rfl dL_areAlike_275 ?_
                    refine g2_iinc F 6 rfl rfl (Nat.le_of_ble_eq_true rfl) (ls' := [(6, (0, (w32 (l6 + 1)))), (3, (2, 0)), (0, (17, 0)), (1, (117, 0)), (2, (0, l2)), (4, (0, l4)), (5, (0, l5))]) rfl dL_areAlike_276 ?_
                    refine g2_goto F (tgt := 131) rfl dL_areAlike_279 ?_
                    refine g2_loc [(2, 17), (3, 117), (4, 0), (1, 2), (5, 0), (6, 0), (0, 0)] rfl ?_
                    exact ih v26 0 (w32 (l6 + 1)) (cells + 12) (slots + 72) (by omega) (by omega)
                  · refine g2_iconst F 2 rfl dL_areAlike_270 ?_
                    refine g2_goto F (tgt := 275) rfl dL_areAlike_271 ?_
                    refine g2_istore_n F rfl rfl (Nat.le_of_ble_eq_true rfl) (ls' := [(3, (2, 1)), (0, (17, 0)), (1, (117, 0)), (2, (0, l2)), (4, (0, l4)), (5, (0, l5)), (6, (0, l6))]) rfl dL_areAlike_275 ?_
                    refine g2_iinc F 6 rfl rfl (Nat.le_of_ble_eq_true rfl) (ls' := [(6, (0, (w32 (l6 + 1)))), (3, (2, 1)), (0, (17, 0)), (1, (117, 0)), (2, (0, l2)), (4, (0, l4)), (5, (0, l5))]) rfl dL_areAlike_276 ?_
                    refine g2_goto F (tgt := 131) rfl dL_areAlike_279 ?_
                    refine g2_loc [(2, 17), (3, 117), (4, 0), (1, 2), (5, 0), (6, 0), (0, 0)] rfl ?_
                    exact ih v26 1 (w32 (l6 + 1)) (cells + 12) (slots + 72) (by omega) (by omega)
          · refine g2_aload_n F rfl 0 rfl dL_areAlike_176 ?_
            refine g2_bipush F rfl (by decide) dL_areAlike_177 ?_
            refine g2_iload F 5 rfl rfl dL_areAlike_179 ?_
            refine g2_iload F 6 rfl rfl dL_areAlike_181 ?_
            refine g2_iconst F 2 rfl dL_areAlike_183 ?_
            refine g2_iconst F 2 rfl dL_areAlike_184 ?_
            refine g2_callSX F (by decide) [(17, 0), (0, 26), (0, l5), (0, l6), (2, 0), (2, 0)] [17, 0, 0, 0, 0, 0] ml_RL_155 wt_L_does (fun l => ctW_O ((c_L_does_26 l5 l6 0 0) l) (prs_ok rfl) (fun q hq => by cases hq <;> decide)) mw_L_does rfl rfl rfl (Nat.le_of_ble_eq_true rfl) (Nat.le_of_ble_eq_true rfl) (show (cells + 4) + 2 ≤ 10614 by omega) (show (slots + 24) + 12 ≤ 63684 by omega) (Nat.le_of_ble_eq_true rfl) dL_areAlike_185 (fun z28 v28 hz28 => ?_)
            refine g2_aload_n F rfl 1 rfl dL_areAlike_188 ?_
            refine g2_bipush F rfl (by decide) dL_areAlike_189 ?_
            refine g2_iload F 5 rfl rfl dL_areAlike_191 ?_
            refine g2_iload F 6 rfl rfl dL_areAlike_193 ?_
            refine g2_iconst F 2 rfl dL_areAlike_195 ?_
            refine g2_iconst F 2 rfl dL_areAlike_196 ?_
            refine g2_callSX F (by decide) [(117, 0), (0, 26), (0, l5), (0, l6), (2, 0), (2, 0)] [117, 0, 0, 0, 0, 0] ml_RL_155 wt_L_does (fun l => ctW_P ((c_L_does_26 l5 l6 0 0) l) (prs_ok rfl) (fun q hq => by cases hq <;> decide)) mw_L_does rfl rfl rfl (Nat.le_of_ble_eq_true rfl) (Nat.le_of_ble_eq_true rfl) (show (cells + 6) + 2 ≤ 10614 by omega) (show (slots + 36) + 12 ≤ 63684 by omega) (Nat.le_of_ble_eq_true rfl) dL_areAlike_197 (fun z29 v29 hz29 => ?_)
            refine g2_icmp_ne F rfl rfl (tgt := 274) rfl dL_areAlike_200 (fun n30 => ?_) (fun n30 => ?_)
            · refine g2_iconst F 2 rfl dL_areAlike_274 ?_
              refine g2_istore_n F rfl rfl (Nat.le_of_ble_eq_true rfl) (ls' := [(3, (2, 0)), (0, (17, 0)), (1, (117, 0)), (2, (0, l2)), (4, (0, l4)), (5, (0, l5)), (6, (0, l6))]) rfl dL_areAlike_275 ?_
              refine g2_iinc F 6 rfl rfl (Nat.le_of_ble_eq_true rfl) (ls' := [(6, (0, (w32 (l6 + 1)))), (3, (2, 0)), (0, (17, 0)), (1, (117, 0)), (2, (0, l2)), (4, (0, l4)), (5, (0, l5))]) rfl dL_areAlike_276 ?_
              refine g2_goto F (tgt := 131) rfl dL_areAlike_279 ?_
              refine g2_loc [(2, 17), (3, 117), (4, 0), (1, 2), (5, 0), (6, 0), (0, 0)] rfl ?_
              exact ih v29 0 (w32 (l6 + 1)) (cells + 8) (slots + 48) (by omega) (by omega)
            · refine g2_iload F 5 rfl rfl dL_areAlike_203 ?_
              refine g2_bipush F rfl (by decide) dL_areAlike_205 ?_
              refine g2_icmp_gt F rfl rfl (tgt := 237) rfl dL_areAlike_207 (fun n31 => ?_) (fun n31 => ?_)
              · refine g2_iload F 5 rfl rfl dL_areAlike_237 ?_
                refine g2_iconst F 0 rfl dL_areAlike_239 ?_
                refine g2_icmp_gt F rfl rfl (tgt := 270) rfl dL_areAlike_240 (fun n32 => ?_) (fun n32 => ?_)
                · refine g2_iconst F 2 rfl dL_areAlike_270 ?_
                  refine g2_goto F (tgt := 275) rfl dL_areAlike_271 ?_
                  refine g2_istore_n F rfl rfl (Nat.le_of_ble_eq_true rfl) (ls' := [(3, (2, 1)), (0, (17, 0)), (1, (117, 0)), (2, (0, l2)), (4, (0, l4)), (5, (0, l5)), (6, (0, l6))]) rfl dL_areAlike_275 ?_
                  refine g2_iinc F 6 rfl rfl (Nat.le_of_ble_eq_true rfl) (ls' := [(6, (0, (w32 (l6 + 1)))), (3, (2, 1)), (0, (17, 0)), (1, (117, 0)), (2, (0, l2)), (4, (0, l4)), (5, (0, l5))]) rfl dL_areAlike_276 ?_
                  refine g2_goto F (tgt := 131) rfl dL_areAlike_279 ?_
                  refine g2_loc [(2, 17), (3, 117), (4, 0), (1, 2), (5, 0), (6, 0), (0, 0)] rfl ?_
                  exact ih v29 1 (w32 (l6 + 1)) (cells + 8) (slots + 48) (by omega) (by omega)
                · refine g2_aload_n F rfl 0 rfl dL_areAlike_243 ?_
                  refine g2_bipush F rfl (by decide) dL_areAlike_244 ?_
                  refine g2_iload F 5 rfl rfl dL_areAlike_246 ?_
                  refine g2_iload F 6 rfl rfl dL_areAlike_248 ?_
                  refine g2_iconst F 2 rfl dL_areAlike_250 ?_
                  refine g2_iconst F 2 rfl dL_areAlike_251 ?_
                  refine g2_callSX F (by decide) [(17, 0), (0, 27), (0, l5), (0, l6), (2, 0), (2, 0)] [17, 0, 0, 0, 0, 0] ml_RL_155 wt_L_does (fun l => ctW_O ((c_L_does_27 l5 l6 0 0) l) (prs_ok rfl) (fun q hq => by cases hq <;> decide)) mw_L_does rfl rfl rfl (Nat.le_of_ble_eq_true rfl) (Nat.le_of_ble_eq_true rfl) (show (cells + 8) + 2 ≤ 10614 by omega) (show (slots + 48) + 12 ≤ 63684 by omega) (Nat.le_of_ble_eq_true rfl) dL_areAlike_252 (fun z33 v33 hz33 => ?_)
                  refine g2_aload_n F rfl 1 rfl dL_areAlike_255 ?_
                  refine g2_bipush F rfl (by decide) dL_areAlike_256 ?_
                  refine g2_iload F 5 rfl rfl dL_areAlike_258 ?_
                  refine g2_iload F 6 rfl rfl dL_areAlike_260 ?_
                  refine g2_iconst F 2 rfl dL_areAlike_262 ?_
                  refine g2_iconst F 2 rfl dL_areAlike_263 ?_
                  refine g2_callSX F (by decide) [(117, 0), (0, 27), (0, l5), (0, l6), (2, 0), (2, 0)] [117, 0, 0, 0, 0, 0] ml_RL_155 wt_L_does (fun l => ctW_P ((c_L_does_27 l5 l6 0 0) l) (prs_ok rfl) (fun q hq => by cases hq <;> decide)) mw_L_does rfl rfl rfl (Nat.le_of_ble_eq_true rfl) (Nat.le_of_ble_eq_true rfl) (show (cells + 10) + 2 ≤ 10614 by omega) (show (slots + 60) + 12 ≤ 63684 by omega) (Nat.le_of_ble_eq_true rfl) dL_areAlike_264 (fun z34 v34 hz34 => ?_)
                  refine g2_icmp_ne F rfl rfl (tgt := 274) rfl dL_areAlike_267 (fun n35 => ?_) (fun n35 => ?_)
                  · refine g2_iconst F 2 rfl dL_areAlike_274 ?_
                    refine g2_istore_n F rfl rfl (Nat.le_of_ble_eq_true rfl) (ls' := [(3, (2, 0)), (0, (17, 0)), (1, (117, 0)), (2, (0, l2)), (4, (0, l4)), (5, (0, l5)), (6, (0, l6))]) rfl dL_areAlike_275 ?_
                    refine g2_iinc F 6 rfl rfl (Nat.le_of_ble_eq_true rfl) (ls' := [(6, (0, (w32 (l6 + 1)))), (3, (2, 0)), (0, (17, 0)), (1, (117, 0)), (2, (0, l2)), (4, (0, l4)), (5, (0, l5))]) rfl dL_areAlike_276 ?_
                    refine g2_goto F (tgt := 131) rfl dL_areAlike_279 ?_
                    refine g2_loc [(2, 17), (3, 117), (4, 0), (1, 2), (5, 0), (6, 0), (0, 0)] rfl ?_
                    exact ih v34 0 (w32 (l6 + 1)) (cells + 12) (slots + 72) (by omega) (by omega)
                  · refine g2_iconst F 2 rfl dL_areAlike_270 ?_
                    refine g2_goto F (tgt := 275) rfl dL_areAlike_271 ?_
                    refine g2_istore_n F rfl rfl (Nat.le_of_ble_eq_true rfl) (ls' := [(3, (2, 1)), (0, (17, 0)), (1, (117, 0)), (2, (0, l2)), (4, (0, l4)), (5, (0, l5)), (6, (0, l6))]) rfl dL_areAlike_275 ?_
                    refine g2_iinc F 6 rfl rfl (Nat.le_of_ble_eq_true rfl) (ls' := [(6, (0, (w32 (l6 + 1)))), (3, (2, 1)), (0, (17, 0)), (1, (117, 0)), (2, (0, l2)), (4, (0, l4)), (5, (0, l5))]) rfl dL_areAlike_276 ?_
                    refine g2_goto F (tgt := 131) rfl dL_areAlike_279 ?_
                    refine g2_loc [(2, 17), (3, 117), (4, 0), (1, 2), (5, 0), (6, 0), (0, 0)] rfl ?_
                    exact ih v34 1 (w32 (l6 + 1)) (cells + 12) (slots + 72) (by omega) (by omega)
              · refine g2_aload_n F rfl 0 rfl dL_areAlike_210 ?_
                refine g2_bipush F rfl (by decide) dL_areAlike_211 ?_
                refine g2_iload F 5 rfl rfl dL_areAlike_213 ?_
                refine g2_iload F 6 rfl rfl dL_areAlike_215 ?_
                refine g2_iconst F 2 rfl dL_areAlike_217 ?_
                refine g2_iconst F 2 rfl dL_areAlike_218 ?_
                refine g2_callSX F (by decide) [(17, 0), (0, 29), (0, l5), (0, l6), (2, 0), (2, 0)] [17, 0, 0, 0, 0, 0] ml_RL_155 wt_L_does (fun l => ctW_O ((c_L_does_29 l5 l6 0 0) l) (prs_ok rfl) (fun q hq => by cases hq <;> decide)) mw_L_does rfl rfl rfl (Nat.le_of_ble_eq_true rfl) (Nat.le_of_ble_eq_true rfl) (show (cells + 8) + 2 ≤ 10614 by omega) (show (slots + 48) + 12 ≤ 63684 by omega) (Nat.le_of_ble_eq_true rfl) dL_areAlike_219 (fun z36 v36 hz36 => ?_)
                refine g2_aload_n F rfl 1 rfl dL_areAlike_222 ?_
                refine g2_bipush F rfl (by decide) dL_areAlike_223 ?_
                refine g2_iload F 5 rfl rfl dL_areAlike_225 ?_
                refine g2_iload F 6 rfl rfl dL_areAlike_227 ?_
                refine g2_iconst F 2 rfl dL_areAlike_229 ?_
                refine g2_iconst F 2 rfl dL_areAlike_230 ?_
                refine g2_callSX F (by decide) [(117, 0), (0, 29), (0, l5), (0, l6), (2, 0), (2, 0)] [117, 0, 0, 0, 0, 0] ml_RL_155 wt_L_does (fun l => ctW_P ((c_L_does_29 l5 l6 0 0) l) (prs_ok rfl) (fun q hq => by cases hq <;> decide)) mw_L_does rfl rfl rfl (Nat.le_of_ble_eq_true rfl) (Nat.le_of_ble_eq_true rfl) (show (cells + 10) + 2 ≤ 10614 by omega) (show (slots + 60) + 12 ≤ 63684 by omega) (Nat.le_of_ble_eq_true rfl) dL_areAlike_231 (fun z37 v37 hz37 => ?_)
                refine g2_icmp_ne F rfl rfl (tgt := 274) rfl dL_areAlike_234 (fun n38 => ?_) (fun n38 => ?_)
                · refine g2_iconst F 2 rfl dL_areAlike_274 ?_
                  refine g2_istore_n F rfl rfl (Nat.le_of_ble_eq_true rfl) (ls' := [(3, (2, 0)), (0, (17, 0)), (1, (117, 0)), (2, (0, l2)), (4, (0, l4)), (5, (0, l5)), (6, (0, l6))]) rfl dL_areAlike_275 ?_
                  refine g2_iinc F 6 rfl rfl (Nat.le_of_ble_eq_true rfl) (ls' := [(6, (0, (w32 (l6 + 1)))), (3, (2, 0)), (0, (17, 0)), (1, (117, 0)), (2, (0, l2)), (4, (0, l4)), (5, (0, l5))]) rfl dL_areAlike_276 ?_
                  refine g2_goto F (tgt := 131) rfl dL_areAlike_279 ?_
                  refine g2_loc [(2, 17), (3, 117), (4, 0), (1, 2), (5, 0), (6, 0), (0, 0)] rfl ?_
                  exact ih v37 0 (w32 (l6 + 1)) (cells + 12) (slots + 72) (by omega) (by omega)
                · refine g2_iload F 5 rfl rfl dL_areAlike_237 ?_
                  refine g2_iconst F 0 rfl dL_areAlike_239 ?_
                  refine g2_icmp_gt F rfl rfl (tgt := 270) rfl dL_areAlike_240 (fun n39 => ?_) (fun n39 => ?_)
                  · refine g2_iconst F 2 rfl dL_areAlike_270 ?_
                    refine g2_goto F (tgt := 275) rfl dL_areAlike_271 ?_
                    refine g2_istore_n F rfl rfl (Nat.le_of_ble_eq_true rfl) (ls' := [(3, (2, 1)), (0, (17, 0)), (1, (117, 0)), (2, (0, l2)), (4, (0, l4)), (5, (0, l5)), (6, (0, l6))]) rfl dL_areAlike_275 ?_
                    refine g2_iinc F 6 rfl rfl (Nat.le_of_ble_eq_true rfl) (ls' := [(6, (0, (w32 (l6 + 1)))), (3, (2, 1)), (0, (17, 0)), (1, (117, 0)), (2, (0, l2)), (4, (0, l4)), (5, (0, l5))]) rfl dL_areAlike_276 ?_
                    refine g2_goto F (tgt := 131) rfl dL_areAlike_279 ?_
                    refine g2_loc [(2, 17), (3, 117), (4, 0), (1, 2), (5, 0), (6, 0), (0, 0)] rfl ?_
                    exact ih v37 1 (w32 (l6 + 1)) (cells + 12) (slots + 72) (by omega) (by omega)
                  · refine g2_aload_n F rfl 0 rfl dL_areAlike_243 ?_
                    refine g2_bipush F rfl (by decide) dL_areAlike_244 ?_
                    refine g2_iload F 5 rfl rfl dL_areAlike_246 ?_
                    refine g2_iload F 6 rfl rfl dL_areAlike_248 ?_
                    refine g2_iconst F 2 rfl dL_areAlike_250 ?_
                    refine g2_iconst F 2 rfl dL_areAlike_251 ?_
                    refine g2_callSX F (by decide) [(17, 0), (0, 27), (0, l5), (0, l6), (2, 0), (2, 0)] [17, 0, 0, 0, 0, 0] ml_RL_155 wt_L_does (fun l => ctW_O ((c_L_does_27 l5 l6 0 0) l) (prs_ok rfl) (fun q hq => by cases hq <;> decide)) mw_L_does rfl rfl rfl (Nat.le_of_ble_eq_true rfl) (Nat.le_of_ble_eq_true rfl) (show (cells + 12) + 2 ≤ 10614 by omega) (show (slots + 72) + 12 ≤ 63684 by omega) (Nat.le_of_ble_eq_true rfl) dL_areAlike_252 (fun z40 v40 hz40 => ?_)
                    refine g2_aload_n F rfl 1 rfl dL_areAlike_255 ?_
                    refine g2_bipush F rfl (by decide) dL_areAlike_256 ?_
                    refine g2_iload F 5 rfl rfl dL_areAlike_258 ?_
                    refine g2_iload F 6 rfl rfl dL_areAlike_260 ?_
                    refine g2_iconst F 2 rfl dL_areAlike_262 ?_
                    refine g2_iconst F 2 rfl dL_areAlike_263 ?_
                    refine g2_callSX F (by decide) [(117, 0), (0, 27), (0, l5), (0, l6), (2, 0), (2, 0)] [117, 0, 0, 0, 0, 0] ml_RL_155 wt_L_does (fun l => ctW_P ((c_L_does_27 l5 l6 0 0) l) (prs_ok rfl) (fun q hq => by cases hq <;> decide)) mw_L_does rfl rfl rfl (Nat.le_of_ble_eq_true rfl) (Nat.le_of_ble_eq_true rfl) (show (cells + 14) + 2 ≤ 10614 by omega) (show (slots + 84) + 12 ≤ 63684 by omega) (Nat.le_of_ble_eq_true rfl) dL_areAlike_264 (fun z41 v41 hz41 => ?_)
                    refine g2_icmp_ne F rfl rfl (tgt := 274) rfl dL_areAlike_267 (fun n42 => ?_) (fun n42 => ?_)
                    · refine g2_iconst F 2 rfl dL_areAlike_274 ?_
                      refine g2_istore_n F rfl rfl (Nat.le_of_ble_eq_true rfl) (ls' := [(3, (2, 0)), (0, (17, 0)), (1, (117, 0)), (2, (0, l2)), (4, (0, l4)), (5, (0, l5)), (6, (0, l6))]) rfl dL_areAlike_275 ?_
                      refine g2_iinc F 6 rfl rfl (Nat.le_of_ble_eq_true rfl) (ls' := [(6, (0, (w32 (l6 + 1)))), (3, (2, 0)), (0, (17, 0)), (1, (117, 0)), (2, (0, l2)), (4, (0, l4)), (5, (0, l5))]) rfl dL_areAlike_276 ?_
                      refine g2_goto F (tgt := 131) rfl dL_areAlike_279 ?_
                      refine g2_loc [(2, 17), (3, 117), (4, 0), (1, 2), (5, 0), (6, 0), (0, 0)] rfl ?_
                      exact ih v41 0 (w32 (l6 + 1)) (cells + 16) (slots + 96) (by omega) (by omega)
                    · refine g2_iconst F 2 rfl dL_areAlike_270 ?_
                      refine g2_goto F (tgt := 275) rfl dL_areAlike_271 ?_
                      refine g2_istore_n F rfl rfl (Nat.le_of_ble_eq_true rfl) (ls' := [(3, (2, 1)), (0, (17, 0)), (1, (117, 0)), (2, (0, l2)), (4, (0, l4)), (5, (0, l5)), (6, (0, l6))]) rfl dL_areAlike_275 ?_
                      refine g2_iinc F 6 rfl rfl (Nat.le_of_ble_eq_true rfl) (ls' := [(6, (0, (w32 (l6 + 1)))), (3, (2, 1)), (0, (17, 0)), (1, (117, 0)), (2, (0, l2)), (4, (0, l4)), (5, (0, l5))]) rfl dL_areAlike_276 ?_
                      refine g2_goto F (tgt := 131) rfl dL_areAlike_279 ?_
                      refine g2_loc [(2, 17), (3, 117), (4, 0), (1, 2), (5, 0), (6, 0), (0, 0)] rfl ?_
                      exact ih v41 1 (w32 (l6 + 1)) (cells + 16) (slots + 96) (by omega) (by omega)
def lp_L_areAlike_29 (l2 l4 : Int) (k : V → Int → Int → Res) : Nat → V → Int → Int → Res
  | 0, _, _, _ => none
  | n + 1, v, l3, l5 => (if 60 ≤ l5 then (k v l3 l5)
   else (if l3 = 0 then (k v l3 l5)
   else (rB (lO (sp_L_does_25 l5 l4 0 0) v) (fun z7 v7 => (rB (lP (sp_L_does_25 l5 l4 0 0) v7) (fun z8 v8 => (if ¬ z7 = z8 then (lp_L_areAlike_131 l2 l4 l5 (fun v43 u43_3 u43_6 => (lp_L_areAlike_29 l2 l4 k n v43 u43_3 (w32 (l5 + 1)))) 10 v8 0 0)
   else (rB (lZ (sp_L_low (shr32 l2 2) 3000) v8) (fun z44 v44 => (rB (lO (sp_L_does_24 l5 (w32 (1 + (rem32 l5 9))) l4 z44) v44) (fun z45 v45 => (rB (lZ (sp_L_low (shr32 l2 2) 3000) v45) (fun z46 v46 => (rB (lP (sp_L_does_24 l5 (w32 (1 + (rem32 l5 9))) l4 z46) v46) (fun z47 v47 => (if ¬ z45 = z47 then (lp_L_areAlike_131 l2 l4 l5 (fun v49 u49_3 u49_6 => (lp_L_areAlike_29 l2 l4 k n v49 u49_3 (w32 (l5 + 1)))) 10 v47 0 0)
   else (lp_L_areAlike_131 l2 l4 l5 (fun v50 u50_3 u50_6 => (lp_L_areAlike_29 l2 l4 k n v50 u50_3 (w32 (l5 + 1)))) 10 v47 1 0)))))))))))))))))
set_option maxRecDepth 100000 in
set_option maxHeartbeats 4000000 in
theorem kl_L_areAlike_29 {l2 l4 : Int} {x : Cx} (F : Fx x cL_areAlike RL "areAlike" ({ frames := 11, cells := 10614, slots := 63684, locals := 204 }) 7 (some 2) (some .boolean) 0) {k : V → Int → Int → Res} (c9 s9 : Nat) (hC : c9 ≤ 10614) (hS : s9 ≤ 63684) (hk : ∀ (v : V) (l3 l5 : Int), Gs2 x (k v l3 l5) v c9 s9 288 [(0, (17, 0)), (1, (117, 0)), (2, (0, l2)), (3, (2, l3)), (4, (0, l4)), (5, (0, l5))] []) : ∀ (n : Nat) (v : V) (l3 l5 : Int) (cells slots : Nat), cells + n * 174 ≤ c9 → slots + n * 1044 ≤ s9 → Gs2 x (lp_L_areAlike_29 l2 l4 k n v l3 l5) v cells slots 29 [(0, (17, 0)), (1, (117, 0)), (2, (0, l2)), (3, (2, l3)), (4, (0, l4)), (5, (0, l5))] [] := by
  intro n
  induction n with
  | zero => intro v l3 l5 cells slots _ _; exact g2_none
  | succ n ih =>
    intro v l3 l5 cells slots hc hs
    rw [lp_L_areAlike_29]
    refine g2_iload F 5 rfl rfl dL_areAlike_29 ?_
    refine g2_bipush F rfl (by decide) dL_areAlike_31 ?_
    refine g2_icmp_ge F rfl rfl (tgt := 288) rfl dL_areAlike_33 (fun n5 => ?_) (fun n5 => ?_)
    · refine g2_loc [(0, 17), (1, 117), (2, 0), (3, 2), (4, 0), (5, 0)] rfl ?_
      refine g2_wide (c2 := c9) (s2 := s9) (show cells ≤ c9 by omega) (show slots ≤ s9 by omega) ?_
      exact hk v l3 l5
    · refine g2_iload_n F rfl 3 rfl rfl dL_areAlike_36 ?_
      refine g2_if_eq F rfl (tgt := 288) rfl dL_areAlike_37 (fun n6 => ?_) (fun n6 => ?_)
      · refine g2_loc [(0, 17), (1, 117), (2, 0), (3, 2), (4, 0), (5, 0)] rfl ?_
        refine g2_wide (c2 := c9) (s2 := s9) (show cells ≤ c9 by omega) (show slots ≤ s9 by omega) ?_
        exact hk v l3 l5
      · refine g2_aload_n F rfl 0 rfl dL_areAlike_40 ?_
        refine g2_bipush F rfl (by decide) dL_areAlike_41 ?_
        refine g2_iload F 5 rfl rfl dL_areAlike_43 ?_
        refine g2_iload F 4 rfl rfl dL_areAlike_45 ?_
        refine g2_iconst F 2 rfl dL_areAlike_47 ?_
        refine g2_iconst F 2 rfl dL_areAlike_48 ?_
        refine g2_callSX F (by decide) [(17, 0), (0, 25), (0, l5), (0, l4), (2, 0), (2, 0)] [17, 0, 0, 0, 0, 0] ml_RL_155 wt_L_does (fun l => ctW_O ((c_L_does_25 l5 l4 0 0) l) (prs_ok rfl) (fun q hq => by cases hq <;> decide)) mw_L_does rfl rfl rfl (Nat.le_of_ble_eq_true rfl) (Nat.le_of_ble_eq_true rfl) (show cells + 2 ≤ 10614 by omega) (show slots + 12 ≤ 63684 by omega) (Nat.le_of_ble_eq_true rfl) dL_areAlike_49 (fun z7 v7 hz7 => ?_)
        refine g2_aload_n F rfl 1 rfl dL_areAlike_52 ?_
        refine g2_bipush F rfl (by decide) dL_areAlike_53 ?_
        refine g2_iload F 5 rfl rfl dL_areAlike_55 ?_
        refine g2_iload F 4 rfl rfl dL_areAlike_57 ?_
        refine g2_iconst F 2 rfl dL_areAlike_59 ?_
        refine g2_iconst F 2 rfl dL_areAlike_60 ?_
        refine g2_callSX F (by decide) [(117, 0), (0, 25), (0, l5), (0, l4), (2, 0), (2, 0)] [117, 0, 0, 0, 0, 0] ml_RL_155 wt_L_does (fun l => ctW_P ((c_L_does_25 l5 l4 0 0) l) (prs_ok rfl) (fun q hq => by cases hq <;> decide)) mw_L_does rfl rfl rfl (Nat.le_of_ble_eq_true rfl) (Nat.le_of_ble_eq_true rfl) (show (cells + 2) + 2 ≤ 10614 by omega) (show (slots + 12) + 12 ≤ 63684 by omega) (Nat.le_of_ble_eq_true rfl) dL_areAlike_61 (fun z8 v8 hz8 => ?_)
        refine g2_icmp_ne F rfl rfl (tgt := 126) rfl dL_areAlike_64 (fun n9 => ?_) (fun n9 => ?_)
        · refine g2_iconst F 2 rfl dL_areAlike_126 ?_
          refine g2_istore_n F rfl rfl (Nat.le_of_ble_eq_true rfl) (ls' := [(3, (2, 0)), (0, (17, 0)), (1, (117, 0)), (2, (0, l2)), (4, (0, l4)), (5, (0, l5))]) rfl dL_areAlike_127 ?_
          refine g2_iconst F 2 rfl dL_areAlike_128 ?_
          refine g2_istore F rfl (Nat.le_of_ble_eq_true rfl) (ls' := [(6, (2, 0)), (3, (2, 0)), (0, (17, 0)), (1, (117, 0)), (2, (0, l2)), (4, (0, l4)), (5, (0, l5))]) rfl dL_areAlike_129 ?_
          refine g2_loc [(2, 17), (3, 117), (4, 0), (1, 2), (5, 0), (6, 0), (0, 0)] rfl ?_
          refine kl_L_areAlike_131 F (cells + 164) (slots + 984) (by omega) (by omega) (fun v43 u43_3 u43_6 => ?_) 10 v8 0 0 (cells + 4) (slots + 24) (by omega) (by omega)
          refine g2_iinc F 5 rfl rfl (Nat.le_of_ble_eq_true rfl) (ls' := [(5, (0, (w32 (l5 + 1)))), (0, (17, 0)), (1, (117, 0)), (2, (0, l2)), (3, (2, u43_3)), (4, (0, l4)), (6, (0, u43_6))]) rfl dL_areAlike_282 ?_
          refine g2_goto F (tgt := 29) rfl dL_areAlike_285 ?_
          refine g2_loc [(1, 17), (2, 117), (3, 0), (4, 2), (5, 0), (0, 0)] rfl ?_
          exact ih v43 u43_3 (w32 (l5 + 1)) (cells + 164) (slots + 984) (by omega) (by omega)
        · refine g2_aload_n F rfl 0 rfl dL_areAlike_67 ?_
          refine g2_bipush F rfl (by decide) dL_areAlike_68 ?_
          refine g2_iload F 5 rfl rfl dL_areAlike_70 ?_
          refine g2_iconst F 2 rfl dL_areAlike_72 ?_
          refine g2_iload F 5 rfl rfl dL_areAlike_73 ?_
          refine g2_bipush F rfl (by decide) dL_areAlike_75 ?_
          refine g2_irem F (by decide) rfl rfl dL_areAlike_77 ?_
          refine g2_iadd F rfl rfl dL_areAlike_78 ?_
          refine g2_iload F 4 rfl rfl dL_areAlike_79 ?_
          refine g2_iload_n F rfl 2 rfl rfl dL_areAlike_81 ?_
          refine g2_iconst F 0 rfl dL_areAlike_82 ?_
          refine g2_ishr F rfl rfl dL_areAlike_83 ?_
          refine g2_sipush F rfl (by decide) dL_areAlike_84 ?_
          refine g2_callS F (by decide) [(0, (shr32 l2 2)), (0, 3000)] [0, 0] ml_RL_149 wt_L_low (fun l => ct_N ((c_L_low (shr32 l2 2) 3000) l) (prs_ok rfl) (fun q hq => by cases hq <;> decide)) mi_L_low rfl rfl rfl (Nat.le_of_ble_eq_true rfl) (Nat.le_of_ble_eq_true rfl) (show (cells + 4) + 0 ≤ 10614 by omega) (show (slots + 24) + 0 ≤ 63684 by omega) (Nat.le_of_ble_eq_true rfl) dL_areAlike_87 (fun z44 v44 hz44 => ?_)
          refine g2_callSX F (by decide) [(17, 0), (0, 24), (0, l5), (0, (w32 (1 + (rem32 l5 9)))), (0, l4), (0, z44)] [17, 0, 0, 0, 0, 0] ml_RL_155 wt_L_does (fun l => ctW_O ((c_L_does_24 l5 (w32 (1 + (rem32 l5 9))) l4 z44) l) (prs_ok rfl) (fun q hq => by cases hq <;> decide)) mw_L_does rfl rfl rfl (Nat.le_of_ble_eq_true rfl) (Nat.le_of_ble_eq_true rfl) (show (cells + 4) + 5 ≤ 10614 by omega) (show (slots + 24) + 30 ≤ 63684 by omega) (Nat.le_of_ble_eq_true rfl) dL_areAlike_90 (fun z45 v45 hz45 => ?_)
          refine g2_aload_n F rfl 1 rfl dL_areAlike_93 ?_
          refine g2_bipush F rfl (by decide) dL_areAlike_94 ?_
          refine g2_iload F 5 rfl rfl dL_areAlike_96 ?_
          refine g2_iconst F 2 rfl dL_areAlike_98 ?_
          refine g2_iload F 5 rfl rfl dL_areAlike_99 ?_
          refine g2_bipush F rfl (by decide) dL_areAlike_101 ?_
          refine g2_irem F (by decide) rfl rfl dL_areAlike_103 ?_
          refine g2_iadd F rfl rfl dL_areAlike_104 ?_
          refine g2_iload F 4 rfl rfl dL_areAlike_105 ?_
          refine g2_iload_n F rfl 2 rfl rfl dL_areAlike_107 ?_
          refine g2_iconst F 0 rfl dL_areAlike_108 ?_
          refine g2_ishr F rfl rfl dL_areAlike_109 ?_
          refine g2_sipush F rfl (by decide) dL_areAlike_110 ?_
          refine g2_callS F (by decide) [(0, (shr32 l2 2)), (0, 3000)] [0, 0] ml_RL_149 wt_L_low (fun l => ct_N ((c_L_low (shr32 l2 2) 3000) l) (prs_ok rfl) (fun q hq => by cases hq <;> decide)) mi_L_low rfl rfl rfl (Nat.le_of_ble_eq_true rfl) (Nat.le_of_ble_eq_true rfl) (show (cells + 9) + 0 ≤ 10614 by omega) (show (slots + 54) + 0 ≤ 63684 by omega) (Nat.le_of_ble_eq_true rfl) dL_areAlike_113 (fun z46 v46 hz46 => ?_)
          refine g2_callSX F (by decide) [(117, 0), (0, 24), (0, l5), (0, (w32 (1 + (rem32 l5 9)))), (0, l4), (0, z46)] [117, 0, 0, 0, 0, 0] ml_RL_155 wt_L_does (fun l => ctW_P ((c_L_does_24 l5 (w32 (1 + (rem32 l5 9))) l4 z46) l) (prs_ok rfl) (fun q hq => by cases hq <;> decide)) mw_L_does rfl rfl rfl (Nat.le_of_ble_eq_true rfl) (Nat.le_of_ble_eq_true rfl) (show (cells + 9) + 5 ≤ 10614 by omega) (show (slots + 54) + 30 ≤ 63684 by omega) (Nat.le_of_ble_eq_true rfl) dL_areAlike_116 (fun z47 v47 hz47 => ?_)
          refine g2_icmp_ne F rfl rfl (tgt := 126) rfl dL_areAlike_119 (fun n48 => ?_) (fun n48 => ?_)
          · refine g2_iconst F 2 rfl dL_areAlike_126 ?_
            refine g2_istore_n F rfl rfl (Nat.le_of_ble_eq_true rfl) (ls' := [(3, (2, 0)), (0, (17, 0)), (1, (117, 0)), (2, (0, l2)), (4, (0, l4)), (5, (0, l5))]) rfl dL_areAlike_127 ?_
            refine g2_iconst F 2 rfl dL_areAlike_128 ?_
            refine g2_istore F rfl (Nat.le_of_ble_eq_true rfl) (ls' := [(6, (2, 0)), (3, (2, 0)), (0, (17, 0)), (1, (117, 0)), (2, (0, l2)), (4, (0, l4)), (5, (0, l5))]) rfl dL_areAlike_129 ?_
            refine g2_loc [(2, 17), (3, 117), (4, 0), (1, 2), (5, 0), (6, 0), (0, 0)] rfl ?_
            refine kl_L_areAlike_131 F (cells + 174) (slots + 1044) (by omega) (by omega) (fun v49 u49_3 u49_6 => ?_) 10 v47 0 0 (cells + 14) (slots + 84) (by omega) (by omega)
            refine g2_iinc F 5 rfl rfl (Nat.le_of_ble_eq_true rfl) (ls' := [(5, (0, (w32 (l5 + 1)))), (0, (17, 0)), (1, (117, 0)), (2, (0, l2)), (3, (2, u49_3)), (4, (0, l4)), (6, (0, u49_6))]) rfl dL_areAlike_282 ?_
            refine g2_goto F (tgt := 29) rfl dL_areAlike_285 ?_
            refine g2_loc [(1, 17), (2, 117), (3, 0), (4, 2), (5, 0), (0, 0)] rfl ?_
            exact ih v49 u49_3 (w32 (l5 + 1)) (cells + 174) (slots + 1044) (by omega) (by omega)
          · refine g2_iconst F 2 rfl dL_areAlike_122 ?_
            refine g2_goto F (tgt := 127) rfl dL_areAlike_123 ?_
            refine g2_istore_n F rfl rfl (Nat.le_of_ble_eq_true rfl) (ls' := [(3, (2, 1)), (0, (17, 0)), (1, (117, 0)), (2, (0, l2)), (4, (0, l4)), (5, (0, l5))]) rfl dL_areAlike_127 ?_
            refine g2_iconst F 2 rfl dL_areAlike_128 ?_
            refine g2_istore F rfl (Nat.le_of_ble_eq_true rfl) (ls' := [(6, (2, 0)), (3, (2, 1)), (0, (17, 0)), (1, (117, 0)), (2, (0, l2)), (4, (0, l4)), (5, (0, l5))]) rfl dL_areAlike_129 ?_
            refine g2_loc [(2, 17), (3, 117), (4, 0), (1, 2), (5, 0), (6, 0), (0, 0)] rfl ?_
            refine kl_L_areAlike_131 F (cells + 174) (slots + 1044) (by omega) (by omega) (fun v50 u50_3 u50_6 => ?_) 10 v47 1 0 (cells + 14) (slots + 84) (by omega) (by omega)
            refine g2_iinc F 5 rfl rfl (Nat.le_of_ble_eq_true rfl) (ls' := [(5, (0, (w32 (l5 + 1)))), (0, (17, 0)), (1, (117, 0)), (2, (0, l2)), (3, (2, u50_3)), (4, (0, l4)), (6, (0, u50_6))]) rfl dL_areAlike_282 ?_
            refine g2_goto F (tgt := 29) rfl dL_areAlike_285 ?_
            refine g2_loc [(1, 17), (2, 117), (3, 0), (4, 2), (5, 0), (0, 0)] rfl ?_
            exact ih v50 u50_3 (w32 (l5 + 1)) (cells + 174) (slots + 1044) (by omega) (by omega)
def sp_L_areAlike (a2 : Int) (v : V) : Res := (rB (lO (sp_X7_index 0) v) (fun z1 v1 => (rB (lP (sp_X7_index 0) v1) (fun z2 v2 => (if ¬ (lcmp z1 z2) = 0 then (rB (lZ (sp_L_low a2 6) v2) (fun z4 v4 => (lp_L_areAlike_29 a2 z4 (fun v51 u51_3 u51_5 => (rOk u51_3 v51)) 61 v4 0 0)))
   else (rB (lZ (sp_L_low a2 6) v2) (fun z52 v52 => (lp_L_areAlike_29 a2 z52 (fun v53 u53_3 u53_5 => (rOk u53_3 v53)) 61 v52 1 0))))))))
set_option maxRecDepth 100000 in
set_option maxHeartbeats 4000000 in
theorem k_L_areAlike (a2 : Int) (x : Cx) (v : V) (F : Fx x cL_areAlike RL "areAlike" ({ frames := 11, cells := 10614, slots := 63684, locals := 204 }) 7 (some 2) (some .boolean) 0) (ho : ∀ a ∈ [(17, 0), (117, 0), (0, a2)], okv v a) : Gs2 x (sp_L_areAlike a2 v) v 0 0 0 (avArgs 0 [(17, 0), (117, 0), (0, a2)]) [] := by
  show Gs2 x _ v 0 0 0 [(0, (17, 0)), (1, (117, 0)), (2, (0, a2))] []
  unfold sp_L_areAlike
  refine g2_aload_n F rfl 0 rfl dL_areAlike_0 ?_
  refine g2_callV F (by decide) (K := 7) [] [] ml_RL_159 wi_X7_index ws_X7_index (fun l => ct_O ((c_X7_index 0 (by decide)) l) (prs_ok rfl) (fun q hq => by cases hq <;> decide)) mi_X7_index (by decide) ⟨_, rfl, rfl⟩ (by decide) rfl rfl rfl (Nat.le_of_ble_eq_true rfl) (Nat.le_of_ble_eq_true rfl) (Nat.le_of_ble_eq_true rfl) (Nat.le_of_ble_eq_true rfl) (Nat.le_of_ble_eq_true rfl) dL_areAlike_1 (fun z1 v1 hz1 => ?_)
  refine g2_aload_n F rfl 1 rfl dL_areAlike_4 ?_
  refine g2_callV F (by decide) (K := 107) [] [] ml_RL_159 wi_X7_index ws_X7_index (fun l => ct_P ((c_X7_index 0 (by decide)) l) (prs_ok rfl) (fun q hq => by cases hq <;> decide)) mi_X7_index (by decide) ⟨_, rfl, rfl⟩ (by decide) rfl rfl rfl (Nat.le_of_ble_eq_true rfl) (Nat.le_of_ble_eq_true rfl) (Nat.le_of_ble_eq_true rfl) (Nat.le_of_ble_eq_true rfl) (Nat.le_of_ble_eq_true rfl) dL_areAlike_5 (fun z2 v2 hz2 => ?_)
  refine g2_lcmp F dL_areAlike_8 ?_
  refine g2_if_ne F rfl (tgt := 16) rfl dL_areAlike_9 (fun n3 => ?_) (fun n3 => ?_)
  · refine g2_iconst F 2 rfl dL_areAlike_16 ?_
    refine g2_istore_n F rfl rfl (Nat.le_of_ble_eq_true rfl) (ls' := [(3, (2, 0)), (0, (17, 0)), (1, (117, 0)), (2, (0, a2))]) rfl dL_areAlike_17 ?_
    refine g2_iload_n F rfl 3 rfl rfl dL_areAlike_18 ?_
    refine g2_bipush F rfl (by decide) dL_areAlike_19 ?_
    refine g2_callS F (by decide) [(0, a2), (0, 6)] [0, 0] ml_RL_149 wt_L_low (fun l => ct_N ((c_L_low a2 6) l) (prs_ok rfl) (fun q hq => by cases hq <;> decide)) mi_L_low rfl rfl rfl (Nat.le_of_ble_eq_true rfl) (Nat.le_of_ble_eq_true rfl) (Nat.le_of_ble_eq_true rfl) (Nat.le_of_ble_eq_true rfl) (Nat.le_of_ble_eq_true rfl) dL_areAlike_21 (fun z4 v4 hz4 => ?_)
    refine g2_istore F rfl (Nat.le_of_ble_eq_true rfl) (ls' := [(4, (0, z4)), (3, (2, 0)), (0, (17, 0)), (1, (117, 0)), (2, (0, a2))]) rfl dL_areAlike_24 ?_
    refine g2_iconst F 2 rfl dL_areAlike_26 ?_
    refine g2_istore F rfl (Nat.le_of_ble_eq_true rfl) (ls' := [(5, (2, 0)), (4, (0, z4)), (3, (2, 0)), (0, (17, 0)), (1, (117, 0)), (2, (0, a2))]) rfl dL_areAlike_27 ?_
    refine g2_loc [(3, 17), (4, 117), (5, 0), (2, 2), (1, 0), (0, 0)] rfl ?_
    refine kl_L_areAlike_29 F 10614 63684 (by omega) (by omega) (fun v51 u51_3 u51_5 => ?_) 61 v4 0 0 0 0 (by omega) (by omega)
    refine g2_iload_n F rfl 3 rfl rfl dL_areAlike_288 ?_
    exact g2_ireturn F rfl rfl rfl rfl (Nat.le_of_ble_eq_true rfl) (Nat.le_of_ble_eq_true rfl) dL_areAlike_289
  · refine g2_iconst F 2 rfl dL_areAlike_12 ?_
    refine g2_goto F (tgt := 17) rfl dL_areAlike_13 ?_
    refine g2_istore_n F rfl rfl (Nat.le_of_ble_eq_true rfl) (ls' := [(3, (2, 1)), (0, (17, 0)), (1, (117, 0)), (2, (0, a2))]) rfl dL_areAlike_17 ?_
    refine g2_iload_n F rfl 3 rfl rfl dL_areAlike_18 ?_
    refine g2_bipush F rfl (by decide) dL_areAlike_19 ?_
    refine g2_callS F (by decide) [(0, a2), (0, 6)] [0, 0] ml_RL_149 wt_L_low (fun l => ct_N ((c_L_low a2 6) l) (prs_ok rfl) (fun q hq => by cases hq <;> decide)) mi_L_low rfl rfl rfl (Nat.le_of_ble_eq_true rfl) (Nat.le_of_ble_eq_true rfl) (Nat.le_of_ble_eq_true rfl) (Nat.le_of_ble_eq_true rfl) (Nat.le_of_ble_eq_true rfl) dL_areAlike_21 (fun z52 v52 hz52 => ?_)
    refine g2_istore F rfl (Nat.le_of_ble_eq_true rfl) (ls' := [(4, (0, z52)), (3, (2, 1)), (0, (17, 0)), (1, (117, 0)), (2, (0, a2))]) rfl dL_areAlike_24 ?_
    refine g2_iconst F 2 rfl dL_areAlike_26 ?_
    refine g2_istore F rfl (Nat.le_of_ble_eq_true rfl) (ls' := [(5, (2, 0)), (4, (0, z52)), (3, (2, 1)), (0, (17, 0)), (1, (117, 0)), (2, (0, a2))]) rfl dL_areAlike_27 ?_
    refine g2_loc [(3, 17), (4, 117), (5, 0), (2, 2), (1, 0), (0, 0)] rfl ?_
    refine kl_L_areAlike_29 F 10614 63684 (by omega) (by omega) (fun v53 u53_3 u53_5 => ?_) 61 v52 1 0 0 0 (by omega) (by omega)
    refine g2_iload_n F rfl 3 rfl rfl dL_areAlike_288 ?_
    exact g2_ireturn F rfl rfl rfl rfl (Nat.le_of_ble_eq_true rfl) (Nat.le_of_ble_eq_true rfl) dL_areAlike_289
theorem c_L_areAlike (a2 : Int) : ∀ l, Ct2 l yL_areAlike cL_areAlike 7 (some .boolean) ({ frames := 11, cells := 10614, slots := 63684, locals := 204 }) (some 2) [(17, 0), (117, 0), (0, a2)] (sp_L_areAlike a2) := g2_method (by decide +kernel) (Nat.le_of_ble_eq_true rfl) (fun x v F ho => k_L_areAlike a2 x v F ho)
def sp_L_isBarred (a2 : Int) (v : V) : Res := (rB (lZ (sp_L_low a2 14) v) (fun z1 v1 => (rB (lZ (sp_L_low (shr32 a2 3) 6) v1) (fun z2 v2 => (rB (lZ (sp_L_low (shr32 a2 2) 20) v2) (fun z3 v3 => (if ¬ (and32 a2 3) = 0 then (rB (lZ (sp_L_low a2 300) v3) (fun z5 v5 => (rB (lO (sp_L_does_23 z1 (w32 (1 + z3)) z2 z5) v5) (fun z6 v6 => (rB (lO (sp_L_does_24 z1 (w32 (1 + z3)) z2 z5) v6) (fun z7 v7 => (rB (lO (sp_L_does_26 z2 0 0 0) v7) (fun z8 v8 => (rB (lO (sp_L_does_13 z1 (w32 (1 + z3)) z2 z5) v8) (fun z9 v9 => (rB (lP (sp_L_does_13 z1 (w32 (1 + z3)) z2 z5) v9) (fun z10 v10 => (if ¬ z10 = z9 then (if z9 < 0 then (rOk 0 v10)
   else (rOk 0 v10))
   else (if ¬ z6 = 0 then (if z9 < 0 then (if z6 ≤ 0 then (rB (lO (sp_L_does_26 z2 0 0 0) v10) (fun z16 v16 => (if ¬ z16 = z8 then (rOk 0 v16)
   else (rOk 1 v16))))
   else (if 8 ≤ z6 then (rOk 0 v10)
   else (if z7 < 0 then (rOk 0 v10)
   else (rB (lO (sp_L_does_26 z2 0 0 0) v10) (fun z20 v20 => (if ¬ z20 = z8 then (rOk 0 v20)
   else (rOk 1 v20)))))))
   else (rOk 0 v10))
   else (if z9 < 0 then (rOk 0 v10)
   else (if z6 ≤ 0 then (if ¬ z7 = (-1) then (rOk 0 v10)
   else (rB (lO (sp_X7_ofLot 0 z9 1) v10) (fun z25 v25 => (if ¬ z25 = z2 then (rOk 0 v25)
   else (rB (lO (sp_X7_ofLot 0 z9 2) v25) (fun z27 v27 => (if ¬ z27 = (w32 (1 + z3)) then (rOk 0 v27)
   else (rB (lO (sp_X7_ofLot 0 z9 5) v27) (fun z29 v29 => (if ¬ z29 = z1 then (rOk 0 v29)
   else (rB (lO (sp_X7_price 0 z9 z2) v29) (fun z31 v31 => (if ¬ z31 = z5 then (rOk 0 v31)
   else (rB (lO (sp_X7_ofLot 0 z9 3) v31) (fun z33 v33 => (rB (lO (sp_X7_ofLot 0 z1 3) v33) (fun z34 v34 => (if ¬ z33 = z34 then (rOk 0 v34)
   else (rB (lO (sp_X7_ofLot 0 z9 4) v34) (fun z36 v36 => (if ¬ z36 = (-1) then (rOk 0 v36)
   else (rB (lO (sp_X7_ofLot 0 z9 8) v36) (fun z38 v38 => (if z38 ≤ 0 then (rOk 0 v38)
   else (rOk 1 v38)))))))))))))))))))))))))
   else (if 8 ≤ z6 then (rOk 0 v10)
   else (if z7 < 0 then (rOk 0 v10)
   else (if ¬ z7 = (-1) then (rOk 0 v10)
   else (rB (lO (sp_X7_ofLot 0 z9 1) v10) (fun z43 v43 => (if ¬ z43 = z2 then (rOk 0 v43)
   else (rB (lO (sp_X7_ofLot 0 z9 2) v43) (fun z45 v45 => (if ¬ z45 = (w32 (1 + z3)) then (rOk 0 v45)
   else (rB (lO (sp_X7_ofLot 0 z9 5) v45) (fun z47 v47 => (if ¬ z47 = z1 then (rOk 0 v47)
   else (rB (lO (sp_X7_price 0 z9 z2) v47) (fun z49 v49 => (if ¬ z49 = z5 then (rOk 0 v49)
   else (rB (lO (sp_X7_ofLot 0 z9 3) v49) (fun z51 v51 => (rB (lO (sp_X7_ofLot 0 z1 3) v51) (fun z52 v52 => (if ¬ z51 = z52 then (rOk 0 v52)
   else (rB (lO (sp_X7_ofLot 0 z9 4) v52) (fun z54 v54 => (if ¬ z54 = (-1) then (rOk 0 v54)
   else (rB (lO (sp_X7_ofLot 0 z9 8) v54) (fun z56 v56 => (if z56 ≤ 0 then (rOk 0 v56)
   else (rOk 1 v56)))))))))))))))))))))))))))))))))))))))))))
   else (rB (lZ (sp_L_low a2 100000) v3) (fun z58 v58 => (rB (lO (sp_L_does_23 z1 (w32 (1 + z3)) z2 z58) v58) (fun z59 v59 => (rB (lO (sp_L_does_24 z1 (w32 (1 + z3)) z2 z58) v59) (fun z60 v60 => (rB (lO (sp_L_does_26 z2 0 0 0) v60) (fun z61 v61 => (rB (lO (sp_L_does_13 z1 (w32 (1 + z3)) z2 z58) v61) (fun z62 v62 => (rB (lP (sp_L_does_13 z1 (w32 (1 + z3)) z2 z58) v62) (fun z63 v63 => (if ¬ z63 = z62 then (if z62 < 0 then (rOk 0 v63)
   else (rOk 0 v63))
   else (if ¬ z59 = 0 then (if z62 < 0 then (if z59 ≤ 0 then (rB (lO (sp_L_does_26 z2 0 0 0) v63) (fun z69 v69 => (if ¬ z69 = z61 then (rOk 0 v69)
   else (rOk 1 v69))))
   else (if 8 ≤ z59 then (rOk 0 v63)
   else (if z60 < 0 then (rOk 0 v63)
   else (rB (lO (sp_L_does_26 z2 0 0 0) v63) (fun z73 v73 => (if ¬ z73 = z61 then (rOk 0 v73)
   else (rOk 1 v73)))))))
   else (rOk 0 v63))
   else (if z62 < 0 then (rOk 0 v63)
   else (if z59 ≤ 0 then (if ¬ z60 = (-1) then (rOk 0 v63)
   else (rB (lO (sp_X7_ofLot 0 z62 1) v63) (fun z78 v78 => (if ¬ z78 = z2 then (rOk 0 v78)
   else (rB (lO (sp_X7_ofLot 0 z62 2) v78) (fun z80 v80 => (if ¬ z80 = (w32 (1 + z3)) then (rOk 0 v80)
   else (rB (lO (sp_X7_ofLot 0 z62 5) v80) (fun z82 v82 => (if ¬ z82 = z1 then (rOk 0 v82)
   else (rB (lO (sp_X7_price 0 z62 z2) v82) (fun z84 v84 => (if ¬ z84 = z58 then (rOk 0 v84)
   else (rB (lO (sp_X7_ofLot 0 z62 3) v84) (fun z86 v86 => (rB (lO (sp_X7_ofLot 0 z1 3) v86) (fun z87 v87 => (if ¬ z86 = z87 then (rOk 0 v87)
   else (rB (lO (sp_X7_ofLot 0 z62 4) v87) (fun z89 v89 => (if ¬ z89 = (-1) then (rOk 0 v89)
   else (rB (lO (sp_X7_ofLot 0 z62 8) v89) (fun z91 v91 => (if z91 ≤ 0 then (rOk 0 v91)
   else (rOk 1 v91)))))))))))))))))))))))))
   else (if 8 ≤ z59 then (rOk 0 v63)
   else (if z60 < 0 then (rOk 0 v63)
   else (if ¬ z60 = (-1) then (rOk 0 v63)
   else (rB (lO (sp_X7_ofLot 0 z62 1) v63) (fun z96 v96 => (if ¬ z96 = z2 then (rOk 0 v96)
   else (rB (lO (sp_X7_ofLot 0 z62 2) v96) (fun z98 v98 => (if ¬ z98 = (w32 (1 + z3)) then (rOk 0 v98)
   else (rB (lO (sp_X7_ofLot 0 z62 5) v98) (fun z100 v100 => (if ¬ z100 = z1 then (rOk 0 v100)
   else (rB (lO (sp_X7_price 0 z62 z2) v100) (fun z102 v102 => (if ¬ z102 = z58 then (rOk 0 v102)
   else (rB (lO (sp_X7_ofLot 0 z62 3) v102) (fun z104 v104 => (rB (lO (sp_X7_ofLot 0 z1 3) v104) (fun z105 v105 => (if ¬ z104 = z105 then (rOk 0 v105)
   else (rB (lO (sp_X7_ofLot 0 z62 4) v105) (fun z107 v107 => (if ¬ z107 = (-1) then (rOk 0 v107)
   else (rB (lO (sp_X7_ofLot 0 z62 8) v107) (fun z109 v109 => (if z109 ≤ 0 then (rOk 0 v109)
   else (rOk 1 v109))))))))))))))))))))))))))))))))))))))))))))))))))
set_option maxRecDepth 100000 in
set_option maxHeartbeats 4000000 in
theorem k_L_isBarred (a2 : Int) (x : Cx) (v : V) (F : Fx x cL_isBarred RL "isBarred" ({ frames := 11, cells := 44, slots := 266, locals := 204 }) 12 (some 2) (some .boolean) 0) (ho : ∀ a ∈ [(17, 0), (117, 0), (0, a2)], okv v a) : Gs2 x (sp_L_isBarred a2 v) v 0 0 0 (avArgs 0 [(17, 0), (117, 0), (0, a2)]) [] := by
  show Gs2 x _ v 0 0 0 [(0, (17, 0)), (1, (117, 0)), (2, (0, a2))] []
  unfold sp_L_isBarred
  refine g2_iload_n F rfl 2 rfl rfl dL_isBarred_0 ?_
  refine g2_bipush F rfl (by decide) dL_isBarred_1 ?_
  refine g2_callS F (by decide) [(0, a2), (0, 14)] [0, 0] ml_RL_149 wt_L_low (fun l => ct_N ((c_L_low a2 14) l) (prs_ok rfl) (fun q hq => by cases hq <;> decide)) mi_L_low rfl rfl rfl (Nat.le_of_ble_eq_true rfl) (Nat.le_of_ble_eq_true rfl) (Nat.le_of_ble_eq_true rfl) (Nat.le_of_ble_eq_true rfl) (Nat.le_of_ble_eq_true rfl) dL_isBarred_3 (fun z1 v1 hz1 => ?_)
  refine g2_istore_n F rfl rfl (Nat.le_of_ble_eq_true rfl) (ls' := [(3, (0, z1)), (0, (17, 0)), (1, (117, 0)), (2, (0, a2))]) rfl dL_isBarred_6 ?_
  refine g2_iload_n F rfl 3 rfl rfl dL_isBarred_7 ?_
  refine g2_iconst F 0 rfl dL_isBarred_8 ?_
  refine g2_ishr F rfl rfl dL_isBarred_9 ?_
  refine g2_bipush F rfl (by decide) dL_isBarred_10 ?_
  refine g2_callS F (by decide) [(0, (shr32 a2 3)), (0, 6)] [0, 0] ml_RL_149 wt_L_low (fun l => ct_N ((c_L_low (shr32 a2 3) 6) l) (prs_ok rfl) (fun q hq => by cases hq <;> decide)) mi_L_low rfl rfl rfl (Nat.le_of_ble_eq_true rfl) (Nat.le_of_ble_eq_true rfl) (Nat.le_of_ble_eq_true rfl) (Nat.le_of_ble_eq_true rfl) (Nat.le_of_ble_eq_true rfl) dL_isBarred_12 (fun z2 v2 hz2 => ?_)
  refine g2_istore F rfl (Nat.le_of_ble_eq_true rfl) (ls' := [(4, (0, z2)), (3, (0, z1)), (0, (17, 0)), (1, (117, 0)), (2, (0, a2))]) rfl dL_isBarred_15 ?_
  refine g2_iconst F 2 rfl dL_isBarred_17 ?_
  refine g2_iload_n F rfl 4 rfl rfl dL_isBarred_18 ?_
  refine g2_iconst F 0 rfl dL_isBarred_19 ?_
  refine g2_ishr F rfl rfl dL_isBarred_20 ?_
  refine g2_bipush F rfl (by decide) dL_isBarred_21 ?_
  refine g2_callS F (by decide) [(0, (shr32 a2 2)), (0, 20)] [0, 0] ml_RL_149 wt_L_low (fun l => ct_N ((c_L_low (shr32 a2 2) 20) l) (prs_ok rfl) (fun q hq => by cases hq <;> decide)) mi_L_low rfl rfl rfl (Nat.le_of_ble_eq_true rfl) (Nat.le_of_ble_eq_true rfl) (Nat.le_of_ble_eq_true rfl) (Nat.le_of_ble_eq_true rfl) (Nat.le_of_ble_eq_true rfl) dL_isBarred_23 (fun z3 v3 hz3 => ?_)
  refine g2_iadd F rfl rfl dL_isBarred_26 ?_
  refine g2_istore F rfl (Nat.le_of_ble_eq_true rfl) (ls' := [(5, (0, (w32 (1 + z3)))), (4, (0, z2)), (3, (0, z1)), (0, (17, 0)), (1, (117, 0)), (2, (0, a2))]) rfl dL_isBarred_27 ?_
  refine g2_iload_n F rfl 5 rfl rfl dL_isBarred_29 ?_
  refine g2_iconst F 0 rfl dL_isBarred_30 ?_
  refine g2_iand F rfl rfl dL_isBarred_31 ?_
  refine g2_if_ne F rfl (tgt := 44) rfl dL_isBarred_32 (fun n4 => ?_) (fun n4 => ?_)
  · refine g2_iload_n F rfl 5 rfl rfl dL_isBarred_44 ?_
    refine g2_sipush F rfl (by decide) dL_isBarred_45 ?_
    refine g2_callS F (by decide) [(0, a2), (0, 300)] [0, 0] ml_RL_149 wt_L_low (fun l => ct_N ((c_L_low a2 300) l) (prs_ok rfl) (fun q hq => by cases hq <;> decide)) mi_L_low rfl rfl rfl (Nat.le_of_ble_eq_true rfl) (Nat.le_of_ble_eq_true rfl) (Nat.le_of_ble_eq_true rfl) (Nat.le_of_ble_eq_true rfl) (Nat.le_of_ble_eq_true rfl) dL_isBarred_48 (fun z5 v5 hz5 => ?_)
    refine g2_istore F rfl (Nat.le_of_ble_eq_true rfl) (ls' := [(6, (0, z5)), (5, (0, (w32 (1 + z3)))), (4, (0, z2)), (3, (0, z1)), (0, (17, 0)), (1, (117, 0)), (2, (0, a2))]) rfl dL_isBarred_51 ?_
    refine g2_aload_n F rfl 4 rfl dL_isBarred_53 ?_
    refine g2_bipush F rfl (by decide) dL_isBarred_54 ?_
    refine g2_iload_n F rfl 3 rfl rfl dL_isBarred_56 ?_
    refine g2_iload F 1 rfl rfl dL_isBarred_57 ?_
    refine g2_iload F 2 rfl rfl dL_isBarred_59 ?_
    refine g2_iload F 0 rfl rfl dL_isBarred_61 ?_
    refine g2_callSX F (by decide) [(17, 0), (0, 23), (0, z1), (0, (w32 (1 + z3))), (0, z2), (0, z5)] [17, 0, 0, 0, 0, 0] ml_RL_155 wt_L_does (fun l => ctW_O ((c_L_does_23 z1 (w32 (1 + z3)) z2 z5) l) (prs_ok rfl) (fun q hq => by cases hq <;> decide)) mw_L_does rfl rfl rfl (Nat.le_of_ble_eq_true rfl) (Nat.le_of_ble_eq_true rfl) (Nat.le_of_ble_eq_true rfl) (Nat.le_of_ble_eq_true rfl) (Nat.le_of_ble_eq_true rfl) dL_isBarred_63 (fun z6 v6 hz6 => ?_)
    refine g2_istore F rfl (Nat.le_of_ble_eq_true rfl) (ls' := [(7, (0, z6)), (6, (0, z5)), (5, (0, (w32 (1 + z3)))), (4, (0, z2)), (3, (0, z1)), (0, (17, 0)), (1, (117, 0)), (2, (0, a2))]) rfl dL_isBarred_66 ?_
    refine g2_aload_n F rfl 5 rfl dL_isBarred_68 ?_
    refine g2_bipush F rfl (by decide) dL_isBarred_69 ?_
    refine g2_iload_n F rfl 4 rfl rfl dL_isBarred_71 ?_
    refine g2_iload F 2 rfl rfl dL_isBarred_72 ?_
    refine g2_iload F 3 rfl rfl dL_isBarred_74 ?_
    refine g2_iload F 1 rfl rfl dL_isBarred_76 ?_
    refine g2_callSX F (by decide) [(17, 0), (0, 24), (0, z1), (0, (w32 (1 + z3))), (0, z2), (0, z5)] [17, 0, 0, 0, 0, 0] ml_RL_155 wt_L_does (fun l => ctW_O ((c_L_does_24 z1 (w32 (1 + z3)) z2 z5) l) (prs_ok rfl) (fun q hq => by cases hq <;> decide)) mw_L_does rfl rfl rfl (Nat.le_of_ble_eq_true rfl) (Nat.le_of_ble_eq_true rfl) (Nat.le_of_ble_eq_true rfl) (Nat.le_of_ble_eq_true rfl) (Nat.le_of_ble_eq_true rfl) dL_isBarred_78 (fun z7 v7 hz7 => ?_)
    refine g2_istore F rfl (Nat.le_of_ble_eq_true rfl) (ls' := [(8, (0, z7)), (7, (0, z6)), (6, (0, z5)), (5, (0, (w32 (1 + z3)))), (4, (0, z2)), (3, (0, z1)), (0, (17, 0)), (1, (117, 0)), (2, (0, a2))]) rfl dL_isBarred_81 ?_
    refine g2_aload_n F rfl 6 rfl dL_isBarred_83 ?_
    refine g2_bipush F rfl (by decide) dL_isBarred_84 ?_
    refine g2_iload F 4 rfl rfl dL_isBarred_86 ?_
    refine g2_iconst F 2 rfl dL_isBarred_88 ?_
    refine g2_iconst F 2 rfl dL_isBarred_89 ?_
    refine g2_iconst F 2 rfl dL_isBarred_90 ?_
    refine g2_callSX F (by decide) [(17, 0), (0, 26), (0, z2), (2, 0), (2, 0), (2, 0)] [17, 0, 0, 0, 0, 0] ml_RL_155 wt_L_does (fun l => ctW_O ((c_L_does_26 z2 0 0 0) l) (prs_ok rfl) (fun q hq => by cases hq <;> decide)) mw_L_does rfl rfl rfl (Nat.le_of_ble_eq_true rfl) (Nat.le_of_ble_eq_true rfl) (Nat.le_of_ble_eq_true rfl) (Nat.le_of_ble_eq_true rfl) (Nat.le_of_ble_eq_true rfl) dL_isBarred_91 (fun z8 v8 hz8 => ?_)
    refine g2_istore F rfl (Nat.le_of_ble_eq_true rfl) (ls' := [(9, (0, z8)), (8, (0, z7)), (7, (0, z6)), (6, (0, z5)), (5, (0, (w32 (1 + z3)))), (4, (0, z2)), (3, (0, z1)), (0, (17, 0)), (1, (117, 0)), (2, (0, a2))]) rfl dL_isBarred_94 ?_
    refine g2_aload_n F rfl 7 rfl dL_isBarred_96 ?_
    refine g2_bipush F rfl (by decide) dL_isBarred_97 ?_
    refine g2_iload_n F rfl 6 rfl rfl dL_isBarred_99 ?_
    refine g2_iload F 4 rfl rfl dL_isBarred_100 ?_
    refine g2_iload F 5 rfl rfl dL_isBarred_102 ?_
    refine g2_iload F 3 rfl rfl dL_isBarred_104 ?_
    refine g2_callSX F (by decide) [(17, 0), (0, 13), (0, z1), (0, (w32 (1 + z3))), (0, z2), (0, z5)] [17, 0, 0, 0, 0, 0] ml_RL_155 wt_L_does (fun l => ctW_O ((c_L_does_13 z1 (w32 (1 + z3)) z2 z5) l) (prs_ok rfl) (fun q hq => by cases hq <;> decide)) mw_L_does rfl rfl rfl (Nat.le_of_ble_eq_true rfl) (Nat.le_of_ble_eq_true rfl) (Nat.le_of_ble_eq_true rfl) (Nat.le_of_ble_eq_true rfl) (Nat.le_of_ble_eq_true rfl) dL_isBarred_106 (fun z9 v9 hz9 => ?_)
    refine g2_istore F rfl (Nat.le_of_ble_eq_true rfl) (ls' := [(10, (0, z9)), (9, (0, z8)), (8, (0, z7)), (7, (0, z6)), (6, (0, z5)), (5, (0, (w32 (1 + z3)))), (4, (0, z2)), (3, (0, z1)), (0, (17, 0)), (1, (117, 0)), (2, (0, a2))]) rfl dL_isBarred_109 ?_
    refine g2_aload_n F rfl 9 rfl dL_isBarred_111 ?_
    refine g2_bipush F rfl (by decide) dL_isBarred_112 ?_
    refine g2_iload_n F rfl 7 rfl rfl dL_isBarred_114 ?_
    refine g2_iload F 5 rfl rfl dL_isBarred_115 ?_
    refine g2_iload F 6 rfl rfl dL_isBarred_117 ?_
    refine g2_iload F 4 rfl rfl dL_isBarred_119 ?_
    refine g2_callSX F (by decide) [(117, 0), (0, 13), (0, z1), (0, (w32 (1 + z3))), (0, z2), (0, z5)] [117, 0, 0, 0, 0, 0] ml_RL_155 wt_L_does (fun l => ctW_P ((c_L_does_13 z1 (w32 (1 + z3)) z2 z5) l) (prs_ok rfl) (fun q hq => by cases hq <;> decide)) mw_L_does rfl rfl rfl (Nat.le_of_ble_eq_true rfl) (Nat.le_of_ble_eq_true rfl) (Nat.le_of_ble_eq_true rfl) (Nat.le_of_ble_eq_true rfl) (Nat.le_of_ble_eq_true rfl) dL_isBarred_121 (fun z10 v10 hz10 => ?_)
    refine g2_iload F 0 rfl rfl dL_isBarred_124 ?_
    refine g2_icmp_ne F rfl rfl (tgt := 184) rfl dL_isBarred_126 (fun n11 => ?_) (fun n11 => ?_)
    · refine g2_iconst F 2 rfl dL_isBarred_184 ?_
      refine g2_istore F rfl (Nat.le_of_ble_eq_true rfl) (ls' := [(11, (2, 0)), (10, (0, z9)), (9, (0, z8)), (8, (0, z7)), (7, (0, z6)), (6, (0, z5)), (5, (0, (w32 (1 + z3)))), (4, (0, z2)), (3, (0, z1)), (0, (17, 0)), (1, (117, 0)), (2, (0, a2))]) rfl dL_isBarred_185 ?_
      refine g2_iload F 1 rfl rfl dL_isBarred_187 ?_
      refine g2_if_lt F rfl (tgt := 197) rfl dL_isBarred_189 (fun n12 => ?_) (fun n12 => ?_)
      · refine g2_iload F 0 rfl rfl dL_isBarred_197 ?_
        refine g2_if_eq_t F rfl (by decide) (tgt := 222) rfl dL_isBarred_199 ?_
        refine g2_iconst F 2 rfl dL_isBarred_222 ?_
        exact g2_ireturn F rfl rfl rfl rfl (Nat.le_of_ble_eq_true rfl) (Nat.le_of_ble_eq_true rfl) dL_isBarred_223
      · refine g2_iload F 0 rfl rfl dL_isBarred_192 ?_
        refine g2_if_ne_f F rfl (by decide) (tgt := 224) rfl dL_isBarred_194 ?_
        refine g2_iload F 0 rfl rfl dL_isBarred_197 ?_
        refine g2_if_eq_t F rfl (by decide) (tgt := 222) rfl dL_isBarred_199 ?_
        refine g2_iconst F 2 rfl dL_isBarred_222 ?_
        exact g2_ireturn F rfl rfl rfl rfl (Nat.le_of_ble_eq_true rfl) (Nat.le_of_ble_eq_true rfl) dL_isBarred_223
    · refine g2_iload F 3 rfl rfl dL_isBarred_129 ?_
      refine g2_if_ne F rfl (tgt := 138) rfl dL_isBarred_131 (fun n13 => ?_) (fun n13 => ?_)
      · refine g2_iconst F 2 rfl dL_isBarred_138 ?_
        refine g2_iload F 0 rfl rfl dL_isBarred_139 ?_
        refine g2_if_lt F rfl (tgt := 148) rfl dL_isBarred_141 (fun n14 => ?_) (fun n14 => ?_)
        · refine g2_iconst F 2 rfl dL_isBarred_148 ?_
          refine g2_icmp_ne_f F rfl rfl (by decide) (tgt := 184) rfl dL_isBarred_149 ?_
          refine g2_iload F 3 rfl rfl dL_isBarred_152 ?_
          refine g2_if_le F rfl (tgt := 169) rfl dL_isBarred_154 (fun n15 => ?_) (fun n15 => ?_)
          · refine g2_iload F 3 rfl rfl dL_isBarred_169 ?_
            refine g2_if_ne_t F rfl n13 (tgt := 180) rfl dL_isBarred_171 ?_
            refine g2_iconst F 2 rfl dL_isBarred_180 ?_
            refine g2_goto F (tgt := 185) rfl dL_isBarred_181 ?_
            refine g2_istore F rfl (Nat.le_of_ble_eq_true rfl) (ls' := [(11, (2, 1)), (10, (0, z9)), (9, (0, z8)), (8, (0, z7)), (7, (0, z6)), (6, (0, z5)), (5, (0, (w32 (1 + z3)))), (4, (0, z2)), (3, (0, z1)), (0, (17, 0)), (1, (117, 0)), (2, (0, a2))]) rfl dL_isBarred_185 ?_
            refine g2_iload F 1 rfl rfl dL_isBarred_187 ?_
            refine g2_if_lt_t F rfl n14 (tgt := 197) rfl dL_isBarred_189 ?_
            refine g2_iload F 0 rfl rfl dL_isBarred_197 ?_
            refine g2_if_eq_f F rfl (by decide) (tgt := 222) rfl dL_isBarred_199 ?_
            refine g2_aload_n F rfl 9 rfl dL_isBarred_202 ?_
            refine g2_bipush F rfl (by decide) dL_isBarred_203 ?_
            refine g2_iload F 7 rfl rfl dL_isBarred_205 ?_
            refine g2_iconst F 2 rfl dL_isBarred_207 ?_
            refine g2_iconst F 2 rfl dL_isBarred_208 ?_
            refine g2_iconst F 2 rfl dL_isBarred_209 ?_
            refine g2_callSX F (by decide) [(17, 0), (0, 26), (0, z2), (2, 0), (2, 0), (2, 0)] [17, 0, 0, 0, 0, 0] ml_RL_155 wt_L_does (fun l => ctW_O ((c_L_does_26 z2 0 0 0) l) (prs_ok rfl) (fun q hq => by cases hq <;> decide)) mw_L_does rfl rfl rfl (Nat.le_of_ble_eq_true rfl) (Nat.le_of_ble_eq_true rfl) (Nat.le_of_ble_eq_true rfl) (Nat.le_of_ble_eq_true rfl) (Nat.le_of_ble_eq_true rfl) dL_isBarred_210 (fun z16 v16 hz16 => ?_)
            refine g2_iload F 2 rfl rfl dL_isBarred_213 ?_
            refine g2_icmp_ne F rfl rfl (tgt := 222) rfl dL_isBarred_215 (fun n17 => ?_) (fun n17 => ?_)
            · refine g2_iconst F 2 rfl dL_isBarred_222 ?_
              exact g2_ireturn F rfl rfl rfl rfl (Nat.le_of_ble_eq_true rfl) (Nat.le_of_ble_eq_true rfl) dL_isBarred_223
            · refine g2_iconst F 2 rfl dL_isBarred_218 ?_
              refine g2_goto F (tgt := 223) rfl dL_isBarred_219 ?_
              exact g2_ireturn F rfl rfl rfl rfl (Nat.le_of_ble_eq_true rfl) (Nat.le_of_ble_eq_true rfl) dL_isBarred_223
          · refine g2_iload F 3 rfl rfl dL_isBarred_157 ?_
            refine g2_bipush F rfl (by decide) dL_isBarred_159 ?_
            refine g2_icmp_ge F rfl rfl (tgt := 184) rfl dL_isBarred_161 (fun n18 => ?_) (fun n18 => ?_)
            · refine g2_iconst F 2 rfl dL_isBarred_184 ?_
              refine g2_istore F rfl (Nat.le_of_ble_eq_true rfl) (ls' := [(11, (2, 0)), (10, (0, z9)), (9, (0, z8)), (8, (0, z7)), (7, (0, z6)), (6, (0, z5)), (5, (0, (w32 (1 + z3)))), (4, (0, z2)), (3, (0, z1)), (0, (17, 0)), (1, (117, 0)), (2, (0, a2))]) rfl dL_isBarred_185 ?_
              refine g2_iload F 1 rfl rfl dL_isBarred_187 ?_
              refine g2_if_lt_t F rfl n14 (tgt := 197) rfl dL_isBarred_189 ?_
              refine g2_iload F 0 rfl rfl dL_isBarred_197 ?_
              refine g2_if_eq_t F rfl (by decide) (tgt := 222) rfl dL_isBarred_199 ?_
              refine g2_iconst F 2 rfl dL_isBarred_222 ?_
              exact g2_ireturn F rfl rfl rfl rfl (Nat.le_of_ble_eq_true rfl) (Nat.le_of_ble_eq_true rfl) dL_isBarred_223
            · refine g2_iload F 2 rfl rfl dL_isBarred_164 ?_
              refine g2_if_lt F rfl (tgt := 184) rfl dL_isBarred_166 (fun n19 => ?_) (fun n19 => ?_)
              · refine g2_iconst F 2 rfl dL_isBarred_184 ?_
                refine g2_istore F rfl (Nat.le_of_ble_eq_true rfl) (ls' := [(11, (2, 0)), (10, (0, z9)), (9, (0, z8)), (8, (0, z7)), (7, (0, z6)), (6, (0, z5)), (5, (0, (w32 (1 + z3)))), (4, (0, z2)), (3, (0, z1)), (0, (17, 0)), (1, (117, 0)), (2, (0, a2))]) rfl dL_isBarred_185 ?_
                refine g2_iload F 1 rfl rfl dL_isBarred_187 ?_
                refine g2_if_lt_t F rfl n14 (tgt := 197) rfl dL_isBarred_189 ?_
                refine g2_iload F 0 rfl rfl dL_isBarred_197 ?_
                refine g2_if_eq_t F rfl (by decide) (tgt := 222) rfl dL_isBarred_199 ?_
                refine g2_iconst F 2 rfl dL_isBarred_222 ?_
                exact g2_ireturn F rfl rfl rfl rfl (Nat.le_of_ble_eq_true rfl) (Nat.le_of_ble_eq_true rfl) dL_isBarred_223
              · refine g2_iload F 3 rfl rfl dL_isBarred_169 ?_
                refine g2_if_ne_t F rfl n13 (tgt := 180) rfl dL_isBarred_171 ?_
                refine g2_iconst F 2 rfl dL_isBarred_180 ?_
                refine g2_goto F (tgt := 185) rfl dL_isBarred_181 ?_
                refine g2_istore F rfl (Nat.le_of_ble_eq_true rfl) (ls' := [(11, (2, 1)), (10, (0, z9)), (9, (0, z8)), (8, (0, z7)), (7, (0, z6)), (6, (0, z5)), (5, (0, (w32 (1 + z3)))), (4, (0, z2)), (3, (0, z1)), (0, (17, 0)), (1, (117, 0)), (2, (0, a2))]) rfl dL_isBarred_185 ?_
                refine g2_iload F 1 rfl rfl dL_isBarred_187 ?_
                refine g2_if_lt_t F rfl n14 (tgt := 197) rfl dL_isBarred_189 ?_
                refine g2_iload F 0 rfl rfl dL_isBarred_197 ?_
                refine g2_if_eq_f F rfl (by decide) (tgt := 222) rfl dL_isBarred_199 ?_
                refine g2_aload_n F rfl 9 rfl dL_isBarred_202 ?_
                refine g2_bipush F rfl (by decide) dL_isBarred_203 ?_
                refine g2_iload F 7 rfl rfl dL_isBarred_205 ?_
                refine g2_iconst F 2 rfl dL_isBarred_207 ?_
                refine g2_iconst F 2 rfl dL_isBarred_208 ?_
                refine g2_iconst F 2 rfl dL_isBarred_209 ?_
                refine g2_callSX F (by decide) [(17, 0), (0, 26), (0, z2), (2, 0), (2, 0), (2, 0)] [17, 0, 0, 0, 0, 0] ml_RL_155 wt_L_does (fun l => ctW_O ((c_L_does_26 z2 0 0 0) l) (prs_ok rfl) (fun q hq => by cases hq <;> decide)) mw_L_does rfl rfl rfl (Nat.le_of_ble_eq_true rfl) (Nat.le_of_ble_eq_true rfl) (Nat.le_of_ble_eq_true rfl) (Nat.le_of_ble_eq_true rfl) (Nat.le_of_ble_eq_true rfl) dL_isBarred_210 (fun z20 v20 hz20 => ?_)
                refine g2_iload F 2 rfl rfl dL_isBarred_213 ?_
                refine g2_icmp_ne F rfl rfl (tgt := 222) rfl dL_isBarred_215 (fun n21 => ?_) (fun n21 => ?_)
                · refine g2_iconst F 2 rfl dL_isBarred_222 ?_
                  exact g2_ireturn F rfl rfl rfl rfl (Nat.le_of_ble_eq_true rfl) (Nat.le_of_ble_eq_true rfl) dL_isBarred_223
                · refine g2_iconst F 2 rfl dL_isBarred_218 ?_
                  refine g2_goto F (tgt := 223) rfl dL_isBarred_219 ?_
                  exact g2_ireturn F rfl rfl rfl rfl (Nat.le_of_ble_eq_true rfl) (Nat.le_of_ble_eq_true rfl) dL_isBarred_223
        · refine g2_iconst F 2 rfl dL_isBarred_144 ?_
          refine g2_goto F (tgt := 149) rfl dL_isBarred_145 ?_
          refine g2_icmp_ne_t F rfl rfl (by decide) (tgt := 184) rfl dL_isBarred_149 ?_
          refine g2_iconst F 2 rfl dL_isBarred_184 ?_
          refine g2_istore F rfl (Nat.le_of_ble_eq_true rfl) (ls' := [(11, (2, 0)), (10, (0, z9)), (9, (0, z8)), (8, (0, z7)), (7, (0, z6)), (6, (0, z5)), (5, (0, (w32 (1 + z3)))), (4, (0, z2)), (3, (0, z1)), (0, (17, 0)), (1, (117, 0)), (2, (0, a2))]) rfl dL_isBarred_185 ?_
          refine g2_iload F 1 rfl rfl dL_isBarred_187 ?_
          refine g2_if_lt_f F rfl n14 (tgt := 197) rfl dL_isBarred_189 ?_
          refine g2_iload F 0 rfl rfl dL_isBarred_192 ?_
          refine g2_if_ne_f F rfl (by decide) (tgt := 224) rfl dL_isBarred_194 ?_
          refine g2_iload F 0 rfl rfl dL_isBarred_197 ?_
          refine g2_if_eq_t F rfl (by decide) (tgt := 222) rfl dL_isBarred_199 ?_
          refine g2_iconst F 2 rfl dL_isBarred_222 ?_
          exact g2_ireturn F rfl rfl rfl rfl (Nat.le_of_ble_eq_true rfl) (Nat.le_of_ble_eq_true rfl) dL_isBarred_223
      · refine g2_iconst F 2 rfl dL_isBarred_134 ?_
        refine g2_goto F (tgt := 139) rfl dL_isBarred_135 ?_
        refine g2_iload F 0 rfl rfl dL_isBarred_139 ?_
        refine g2_if_lt F rfl (tgt := 148) rfl dL_isBarred_141 (fun n22 => ?_) (fun n22 => ?_)
        · refine g2_iconst F 2 rfl dL_isBarred_148 ?_
          refine g2_icmp_ne_t F rfl rfl (by decide) (tgt := 184) rfl dL_isBarred_149 ?_
          refine g2_iconst F 2 rfl dL_isBarred_184 ?_
          refine g2_istore F rfl (Nat.le_of_ble_eq_true rfl) (ls' := [(11, (2, 0)), (10, (0, z9)), (9, (0, z8)), (8, (0, z7)), (7, (0, z6)), (6, (0, z5)), (5, (0, (w32 (1 + z3)))), (4, (0, z2)), (3, (0, z1)), (0, (17, 0)), (1, (117, 0)), (2, (0, a2))]) rfl dL_isBarred_185 ?_
          refine g2_iload F 1 rfl rfl dL_isBarred_187 ?_
          refine g2_if_lt_t F rfl n22 (tgt := 197) rfl dL_isBarred_189 ?_
          refine g2_iload F 0 rfl rfl dL_isBarred_197 ?_
          refine g2_if_eq_t F rfl (by decide) (tgt := 222) rfl dL_isBarred_199 ?_
          refine g2_iconst F 2 rfl dL_isBarred_222 ?_
          exact g2_ireturn F rfl rfl rfl rfl (Nat.le_of_ble_eq_true rfl) (Nat.le_of_ble_eq_true rfl) dL_isBarred_223
        · refine g2_iconst F 2 rfl dL_isBarred_144 ?_
          refine g2_goto F (tgt := 149) rfl dL_isBarred_145 ?_
          refine g2_icmp_ne_f F rfl rfl (by decide) (tgt := 184) rfl dL_isBarred_149 ?_
          refine g2_iload F 3 rfl rfl dL_isBarred_152 ?_
          refine g2_if_le F rfl (tgt := 169) rfl dL_isBarred_154 (fun n23 => ?_) (fun n23 => ?_)
          · refine g2_iload F 3 rfl rfl dL_isBarred_169 ?_
            refine g2_if_ne_f F rfl (fun q => q (Decidable.not_not.mp n13)) (tgt := 180) rfl dL_isBarred_171 ?_
            refine g2_iload F 2 rfl rfl dL_isBarred_174 ?_
            refine g2_iconst F 0 rfl dL_isBarred_176 ?_
            refine g2_icmp_ne F rfl rfl (tgt := 184) rfl dL_isBarred_177 (fun n24 => ?_) (fun n24 => ?_)
            · refine g2_iconst F 2 rfl dL_isBarred_184 ?_
              refine g2_istore F rfl (Nat.le_of_ble_eq_true rfl) (ls' := [(11, (2, 0)), (10, (0, z9)), (9, (0, z8)), (8, (0, z7)), (7, (0, z6)), (6, (0, z5)), (5, (0, (w32 (1 + z3)))), (4, (0, z2)), (3, (0, z1)), (0, (17, 0)), (1, (117, 0)), (2, (0, a2))]) rfl dL_isBarred_185 ?_
              refine g2_iload F 1 rfl rfl dL_isBarred_187 ?_
              refine g2_if_lt_f F rfl n22 (tgt := 197) rfl dL_isBarred_189 ?_
              refine g2_iload F 0 rfl rfl dL_isBarred_192 ?_
              refine g2_if_ne_f F rfl (by decide) (tgt := 224) rfl dL_isBarred_194 ?_
              refine g2_iload F 0 rfl rfl dL_isBarred_197 ?_
              refine g2_if_eq_t F rfl (by decide) (tgt := 222) rfl dL_isBarred_199 ?_
              refine g2_iconst F 2 rfl dL_isBarred_222 ?_
              exact g2_ireturn F rfl rfl rfl rfl (Nat.le_of_ble_eq_true rfl) (Nat.le_of_ble_eq_true rfl) dL_isBarred_223
            · refine g2_iconst F 2 rfl dL_isBarred_180 ?_
              refine g2_goto F (tgt := 185) rfl dL_isBarred_181 ?_
              refine g2_istore F rfl (Nat.le_of_ble_eq_true rfl) (ls' := [(11, (2, 1)), (10, (0, z9)), (9, (0, z8)), (8, (0, z7)), (7, (0, z6)), (6, (0, z5)), (5, (0, (w32 (1 + z3)))), (4, (0, z2)), (3, (0, z1)), (0, (17, 0)), (1, (117, 0)), (2, (0, a2))]) rfl dL_isBarred_185 ?_
              refine g2_iload F 1 rfl rfl dL_isBarred_187 ?_
              refine g2_if_lt_f F rfl n22 (tgt := 197) rfl dL_isBarred_189 ?_
              refine g2_iload F 0 rfl rfl dL_isBarred_192 ?_
              refine g2_if_ne_t F rfl (by decide) (tgt := 224) rfl dL_isBarred_194 ?_
              refine g2_aload_n F rfl 9 rfl dL_isBarred_224 ?_
              refine g2_iload F 1 rfl rfl dL_isBarred_225 ?_
              refine g2_iconst F 2 rfl dL_isBarred_227 ?_
              refine g2_callV F (by decide) (K := 7) [(0, z9), (2, 1)] [0, 0] ml_RL_30 wi_X7_ofLot ws_X7_ofLot (fun l => ct_O ((c_X7_ofLot 0 z9 1 (by decide)) l) (prs_ok rfl) (fun q hq => by cases hq <;> decide)) mi_X7_ofLot (by decide) ⟨_, rfl, rfl⟩ (by decide) rfl rfl rfl (Nat.le_of_ble_eq_true rfl) (Nat.le_of_ble_eq_true rfl) (Nat.le_of_ble_eq_true rfl) (Nat.le_of_ble_eq_true rfl) (Nat.le_of_ble_eq_true rfl) dL_isBarred_228 (fun z25 v25 hz25 => ?_)
              refine g2_iload F 7 rfl rfl dL_isBarred_231 ?_
              refine g2_icmp_ne F rfl rfl (tgt := 314) rfl dL_isBarred_233 (fun n26 => ?_) (fun n26 => ?_)
              · refine g2_iconst F 2 rfl dL_isBarred_314 ?_
                exact g2_ireturn F rfl rfl rfl rfl (Nat.le_of_ble_eq_true rfl) (Nat.le_of_ble_eq_true rfl) dL_isBarred_315
              · refine g2_aload_n F rfl 9 rfl dL_isBarred_236 ?_
                refine g2_iload F 1 rfl rfl dL_isBarred_237 ?_
                refine g2_iconst F 0 rfl dL_isBarred_239 ?_
                refine g2_callV F (by decide) (K := 7) [(0, z9), (0, 2)] [0, 0] ml_RL_30 wi_X7_ofLot ws_X7_ofLot (fun l => ct_O ((c_X7_ofLot 0 z9 2 (by decide)) l) (prs_ok rfl) (fun q hq => by cases hq <;> decide)) mi_X7_ofLot (by decide) ⟨_, rfl, rfl⟩ (by decide) rfl rfl rfl (Nat.le_of_ble_eq_true rfl) (Nat.le_of_ble_eq_true rfl) (Nat.le_of_ble_eq_true rfl) (Nat.le_of_ble_eq_true rfl) (Nat.le_of_ble_eq_true rfl) dL_isBarred_240 (fun z27 v27 hz27 => ?_)
                refine g2_iload F 6 rfl rfl dL_isBarred_243 ?_
                refine g2_icmp_ne F rfl rfl (tgt := 314) rfl dL_isBarred_245 (fun n28 => ?_) (fun n28 => ?_)
                · refine g2_iconst F 2 rfl dL_isBarred_314 ?_
                  exact g2_ireturn F rfl rfl rfl rfl (Nat.le_of_ble_eq_true rfl) (Nat.le_of_ble_eq_true rfl) dL_isBarred_315
                · refine g2_aload_n F rfl 9 rfl dL_isBarred_248 ?_
                  refine g2_iload F 1 rfl rfl dL_isBarred_249 ?_
                  refine g2_iconst F 0 rfl dL_isBarred_251 ?_
                  refine g2_callV F (by decide) (K := 7) [(0, z9), (0, 5)] [0, 0] ml_RL_30 wi_X7_ofLot ws_X7_ofLot (fun l => ct_O ((c_X7_ofLot 0 z9 5 (by decide)) l) (prs_ok rfl) (fun q hq => by cases hq <;> decide)) mi_X7_ofLot (by decide) ⟨_, rfl, rfl⟩ (by decide) rfl rfl rfl (Nat.le_of_ble_eq_true rfl) (Nat.le_of_ble_eq_true rfl) (Nat.le_of_ble_eq_true rfl) (Nat.le_of_ble_eq_true rfl) (Nat.le_of_ble_eq_true rfl) dL_isBarred_252 (fun z29 v29 hz29 => ?_)
                  refine g2_iload_n F rfl 8 rfl rfl dL_isBarred_255 ?_
                  refine g2_icmp_ne F rfl rfl (tgt := 314) rfl dL_isBarred_256 (fun n30 => ?_) (fun n30 => ?_)
                  · refine g2_iconst F 2 rfl dL_isBarred_314 ?_
                    exact g2_ireturn F rfl rfl rfl rfl (Nat.le_of_ble_eq_true rfl) (Nat.le_of_ble_eq_true rfl) dL_isBarred_315
                  · refine g2_aload_n F rfl 9 rfl dL_isBarred_259 ?_
                    refine g2_iload F 1 rfl rfl dL_isBarred_260 ?_
                    refine g2_iload F 7 rfl rfl dL_isBarred_262 ?_
                    refine g2_callV F (by decide) (K := 7) [(0, z9), (0, z2)] [0, 0] ml_RL_18 wi_X7_price ws_X7_price (fun l => ct_O ((c_X7_price 0 z9 z2 (by decide)) l) (prs_ok rfl) (fun q hq => by cases hq <;> decide)) mi_X7_price (by decide) ⟨_, rfl, rfl⟩ (by decide) rfl rfl rfl (Nat.le_of_ble_eq_true rfl) (Nat.le_of_ble_eq_true rfl) (Nat.le_of_ble_eq_true rfl) (Nat.le_of_ble_eq_true rfl) (Nat.le_of_ble_eq_true rfl) dL_isBarred_264 (fun z31 v31 hz31 => ?_)
                    refine g2_iload F 5 rfl rfl dL_isBarred_267 ?_
                    refine g2_icmp_ne F rfl rfl (tgt := 314) rfl dL_isBarred_269 (fun n32 => ?_) (fun n32 => ?_)
                    · refine g2_iconst F 2 rfl dL_isBarred_314 ?_
                      exact g2_ireturn F rfl rfl rfl rfl (Nat.le_of_ble_eq_true rfl) (Nat.le_of_ble_eq_true rfl) dL_isBarred_315
                    · refine g2_aload_n F rfl 9 rfl dL_isBarred_272 ?_
                      refine g2_iload F 1 rfl rfl dL_isBarred_273 ?_
                      refine g2_iconst F 0 rfl dL_isBarred_275 ?_
                      refine g2_callV F (by decide) (K := 7) [(0, z9), (0, 3)] [0, 0] ml_RL_30 wi_X7_ofLot ws_X7_ofLot (fun l => ct_O ((c_X7_ofLot 0 z9 3 (by decide)) l) (prs_ok rfl) (fun q hq => by cases hq <;> decide)) mi_X7_ofLot (by decide) ⟨_, rfl, rfl⟩ (by decide) rfl rfl rfl (Nat.le_of_ble_eq_true rfl) (Nat.le_of_ble_eq_true rfl) (Nat.le_of_ble_eq_true rfl) (Nat.le_of_ble_eq_true rfl) (Nat.le_of_ble_eq_true rfl) dL_isBarred_276 (fun z33 v33 hz33 => ?_)
                      refine g2_aload_n F rfl 9 rfl dL_isBarred_279 ?_
                      refine g2_iload_n F rfl 8 rfl rfl dL_isBarred_280 ?_
                      refine g2_iconst F 0 rfl dL_isBarred_281 ?_
                      refine g2_callV F (by decide) (K := 7) [(0, z1), (0, 3)] [0, 0] ml_RL_30 wi_X7_ofLot ws_X7_ofLot (fun l => ct_O ((c_X7_ofLot 0 z1 3 (by decide)) l) (prs_ok rfl) (fun q hq => by cases hq <;> decide)) mi_X7_ofLot (by decide) ⟨_, rfl, rfl⟩ (by decide) rfl rfl rfl (Nat.le_of_ble_eq_true rfl) (Nat.le_of_ble_eq_true rfl) (Nat.le_of_ble_eq_true rfl) (Nat.le_of_ble_eq_true rfl) (Nat.le_of_ble_eq_true rfl) dL_isBarred_282 (fun z34 v34 hz34 => ?_)
                      refine g2_icmp_ne F rfl rfl (tgt := 314) rfl dL_isBarred_285 (fun n35 => ?_) (fun n35 => ?_)
                      · refine g2_iconst F 2 rfl dL_isBarred_314 ?_
                        exact g2_ireturn F rfl rfl rfl rfl (Nat.le_of_ble_eq_true rfl) (Nat.le_of_ble_eq_true rfl) dL_isBarred_315
                      · refine g2_aload_n F rfl 9 rfl dL_isBarred_288 ?_
                        refine g2_iload F 1 rfl rfl dL_isBarred_289 ?_
                        refine g2_iconst F 0 rfl dL_isBarred_291 ?_
                        refine g2_callV F (by decide) (K := 7) [(0, z9), (0, 4)] [0, 0] ml_RL_30 wi_X7_ofLot ws_X7_ofLot (fun l => ct_O ((c_X7_ofLot 0 z9 4 (by decide)) l) (prs_ok rfl) (fun q hq => by cases hq <;> decide)) mi_X7_ofLot (by decide) ⟨_, rfl, rfl⟩ (by decide) rfl rfl rfl (Nat.le_of_ble_eq_true rfl) (Nat.le_of_ble_eq_true rfl) (Nat.le_of_ble_eq_true rfl) (Nat.le_of_ble_eq_true rfl) (Nat.le_of_ble_eq_true rfl) dL_isBarred_292 (fun z36 v36 hz36 => ?_)
                        refine g2_iconst F 0 rfl dL_isBarred_295 ?_
                        refine g2_icmp_ne F rfl rfl (tgt := 314) rfl dL_isBarred_296 (fun n37 => ?_) (fun n37 => ?_)
                        · refine g2_iconst F 2 rfl dL_isBarred_314 ?_
                          exact g2_ireturn F rfl rfl rfl rfl (Nat.le_of_ble_eq_true rfl) (Nat.le_of_ble_eq_true rfl) dL_isBarred_315
                        · refine g2_aload_n F rfl 9 rfl dL_isBarred_299 ?_
                          refine g2_iload F 1 rfl rfl dL_isBarred_300 ?_
                          refine g2_bipush F rfl (by decide) dL_isBarred_302 ?_
                          refine g2_callV F (by decide) (K := 7) [(0, z9), (0, 8)] [0, 0] ml_RL_30 wi_X7_ofLot ws_X7_ofLot (fun l => ct_O ((c_X7_ofLot 0 z9 8 (by decide)) l) (prs_ok rfl) (fun q hq => by cases hq <;> decide)) mi_X7_ofLot (by decide) ⟨_, rfl, rfl⟩ (by decide) rfl rfl rfl (Nat.le_of_ble_eq_true rfl) (Nat.le_of_ble_eq_true rfl) (Nat.le_of_ble_eq_true rfl) (Nat.le_of_ble_eq_true rfl) (Nat.le_of_ble_eq_true rfl) dL_isBarred_304 (fun z38 v38 hz38 => ?_)
                          refine g2_if_le F rfl (tgt := 314) rfl dL_isBarred_307 (fun n39 => ?_) (fun n39 => ?_)
                          · refine g2_iconst F 2 rfl dL_isBarred_314 ?_
                            exact g2_ireturn F rfl rfl rfl rfl (Nat.le_of_ble_eq_true rfl) (Nat.le_of_ble_eq_true rfl) dL_isBarred_315
                          · refine g2_iconst F 2 rfl dL_isBarred_310 ?_
                            refine g2_goto F (tgt := 315) rfl dL_isBarred_311 ?_
                            exact g2_ireturn F rfl rfl rfl rfl (Nat.le_of_ble_eq_true rfl) (Nat.le_of_ble_eq_true rfl) dL_isBarred_315
          · refine g2_iload F 3 rfl rfl dL_isBarred_157 ?_
            refine g2_bipush F rfl (by decide) dL_isBarred_159 ?_
            refine g2_icmp_ge F rfl rfl (tgt := 184) rfl dL_isBarred_161 (fun n40 => ?_) (fun n40 => ?_)
            · refine g2_iconst F 2 rfl dL_isBarred_184 ?_
              refine g2_istore F rfl (Nat.le_of_ble_eq_true rfl) (ls' := [(11, (2, 0)), (10, (0, z9)), (9, (0, z8)), (8, (0, z7)), (7, (0, z6)), (6, (0, z5)), (5, (0, (w32 (1 + z3)))), (4, (0, z2)), (3, (0, z1)), (0, (17, 0)), (1, (117, 0)), (2, (0, a2))]) rfl dL_isBarred_185 ?_
              refine g2_iload F 1 rfl rfl dL_isBarred_187 ?_
              refine g2_if_lt_f F rfl n22 (tgt := 197) rfl dL_isBarred_189 ?_
              refine g2_iload F 0 rfl rfl dL_isBarred_192 ?_
              refine g2_if_ne_f F rfl (by decide) (tgt := 224) rfl dL_isBarred_194 ?_
              refine g2_iload F 0 rfl rfl dL_isBarred_197 ?_
              refine g2_if_eq_t F rfl (by decide) (tgt := 222) rfl dL_isBarred_199 ?_
              refine g2_iconst F 2 rfl dL_isBarred_222 ?_
              exact g2_ireturn F rfl rfl rfl rfl (Nat.le_of_ble_eq_true rfl) (Nat.le_of_ble_eq_true rfl) dL_isBarred_223
            · refine g2_iload F 2 rfl rfl dL_isBarred_164 ?_
              refine g2_if_lt F rfl (tgt := 184) rfl dL_isBarred_166 (fun n41 => ?_) (fun n41 => ?_)
              · refine g2_iconst F 2 rfl dL_isBarred_184 ?_
                refine g2_istore F rfl (Nat.le_of_ble_eq_true rfl) (ls' := [(11, (2, 0)), (10, (0, z9)), (9, (0, z8)), (8, (0, z7)), (7, (0, z6)), (6, (0, z5)), (5, (0, (w32 (1 + z3)))), (4, (0, z2)), (3, (0, z1)), (0, (17, 0)), (1, (117, 0)), (2, (0, a2))]) rfl dL_isBarred_185 ?_
                refine g2_iload F 1 rfl rfl dL_isBarred_187 ?_
                refine g2_if_lt_f F rfl n22 (tgt := 197) rfl dL_isBarred_189 ?_
                refine g2_iload F 0 rfl rfl dL_isBarred_192 ?_
                refine g2_if_ne_f F rfl (by decide) (tgt := 224) rfl dL_isBarred_194 ?_
                refine g2_iload F 0 rfl rfl dL_isBarred_197 ?_
                refine g2_if_eq_t F rfl (by decide) (tgt := 222) rfl dL_isBarred_199 ?_
                refine g2_iconst F 2 rfl dL_isBarred_222 ?_
                exact g2_ireturn F rfl rfl rfl rfl (Nat.le_of_ble_eq_true rfl) (Nat.le_of_ble_eq_true rfl) dL_isBarred_223
              · refine g2_iload F 3 rfl rfl dL_isBarred_169 ?_
                refine g2_if_ne_f F rfl (fun q => q (Decidable.not_not.mp n13)) (tgt := 180) rfl dL_isBarred_171 ?_
                refine g2_iload F 2 rfl rfl dL_isBarred_174 ?_
                refine g2_iconst F 0 rfl dL_isBarred_176 ?_
                refine g2_icmp_ne F rfl rfl (tgt := 184) rfl dL_isBarred_177 (fun n42 => ?_) (fun n42 => ?_)
                · refine g2_iconst F 2 rfl dL_isBarred_184 ?_
                  refine g2_istore F rfl (Nat.le_of_ble_eq_true rfl) (ls' := [(11, (2, 0)), (10, (0, z9)), (9, (0, z8)), (8, (0, z7)), (7, (0, z6)), (6, (0, z5)), (5, (0, (w32 (1 + z3)))), (4, (0, z2)), (3, (0, z1)), (0, (17, 0)), (1, (117, 0)), (2, (0, a2))]) rfl dL_isBarred_185 ?_
                  refine g2_iload F 1 rfl rfl dL_isBarred_187 ?_
                  refine g2_if_lt_f F rfl n22 (tgt := 197) rfl dL_isBarred_189 ?_
                  refine g2_iload F 0 rfl rfl dL_isBarred_192 ?_
                  refine g2_if_ne_f F rfl (by decide) (tgt := 224) rfl dL_isBarred_194 ?_
                  refine g2_iload F 0 rfl rfl dL_isBarred_197 ?_
                  refine g2_if_eq_t F rfl (by decide) (tgt := 222) rfl dL_isBarred_199 ?_
                  refine g2_iconst F 2 rfl dL_isBarred_222 ?_
                  exact g2_ireturn F rfl rfl rfl rfl (Nat.le_of_ble_eq_true rfl) (Nat.le_of_ble_eq_true rfl) dL_isBarred_223
                · refine g2_iconst F 2 rfl dL_isBarred_180 ?_
                  refine g2_goto F (tgt := 185) rfl dL_isBarred_181 ?_
                  refine g2_istore F rfl (Nat.le_of_ble_eq_true rfl) (ls' := [(11, (2, 1)), (10, (0, z9)), (9, (0, z8)), (8, (0, z7)), (7, (0, z6)), (6, (0, z5)), (5, (0, (w32 (1 + z3)))), (4, (0, z2)), (3, (0, z1)), (0, (17, 0)), (1, (117, 0)), (2, (0, a2))]) rfl dL_isBarred_185 ?_
                  refine g2_iload F 1 rfl rfl dL_isBarred_187 ?_
                  refine g2_if_lt_f F rfl n22 (tgt := 197) rfl dL_isBarred_189 ?_
                  refine g2_iload F 0 rfl rfl dL_isBarred_192 ?_
                  refine g2_if_ne_t F rfl (by decide) (tgt := 224) rfl dL_isBarred_194 ?_
                  refine g2_aload_n F rfl 9 rfl dL_isBarred_224 ?_
                  refine g2_iload F 1 rfl rfl dL_isBarred_225 ?_
                  refine g2_iconst F 2 rfl dL_isBarred_227 ?_
                  refine g2_callV F (by decide) (K := 7) [(0, z9), (2, 1)] [0, 0] ml_RL_30 wi_X7_ofLot ws_X7_ofLot (fun l => ct_O ((c_X7_ofLot 0 z9 1 (by decide)) l) (prs_ok rfl) (fun q hq => by cases hq <;> decide)) mi_X7_ofLot (by decide) ⟨_, rfl, rfl⟩ (by decide) rfl rfl rfl (Nat.le_of_ble_eq_true rfl) (Nat.le_of_ble_eq_true rfl) (Nat.le_of_ble_eq_true rfl) (Nat.le_of_ble_eq_true rfl) (Nat.le_of_ble_eq_true rfl) dL_isBarred_228 (fun z43 v43 hz43 => ?_)
                  refine g2_iload F 7 rfl rfl dL_isBarred_231 ?_
                  refine g2_icmp_ne F rfl rfl (tgt := 314) rfl dL_isBarred_233 (fun n44 => ?_) (fun n44 => ?_)
                  · refine g2_iconst F 2 rfl dL_isBarred_314 ?_
                    exact g2_ireturn F rfl rfl rfl rfl (Nat.le_of_ble_eq_true rfl) (Nat.le_of_ble_eq_true rfl) dL_isBarred_315
                  · refine g2_aload_n F rfl 9 rfl dL_isBarred_236 ?_
                    refine g2_iload F 1 rfl rfl dL_isBarred_237 ?_
                    refine g2_iconst F 0 rfl dL_isBarred_239 ?_
                    refine g2_callV F (by decide) (K := 7) [(0, z9), (0, 2)] [0, 0] ml_RL_30 wi_X7_ofLot ws_X7_ofLot (fun l => ct_O ((c_X7_ofLot 0 z9 2 (by decide)) l) (prs_ok rfl) (fun q hq => by cases hq <;> decide)) mi_X7_ofLot (by decide) ⟨_, rfl, rfl⟩ (by decide) rfl rfl rfl (Nat.le_of_ble_eq_true rfl) (Nat.le_of_ble_eq_true rfl) (Nat.le_of_ble_eq_true rfl) (Nat.le_of_ble_eq_true rfl) (Nat.le_of_ble_eq_true rfl) dL_isBarred_240 (fun z45 v45 hz45 => ?_)
                    refine g2_iload F 6 rfl rfl dL_isBarred_243 ?_
                    refine g2_icmp_ne F rfl rfl (tgt := 314) rfl dL_isBarred_245 (fun n46 => ?_) (fun n46 => ?_)
                    · refine g2_iconst F 2 rfl dL_isBarred_314 ?_
                      exact g2_ireturn F rfl rfl rfl rfl (Nat.le_of_ble_eq_true rfl) (Nat.le_of_ble_eq_true rfl) dL_isBarred_315
                    · refine g2_aload_n F rfl 9 rfl dL_isBarred_248 ?_
                      refine g2_iload F 1 rfl rfl dL_isBarred_249 ?_
                      refine g2_iconst F 0 rfl dL_isBarred_251 ?_
                      refine g2_callV F (by decide) (K := 7) [(0, z9), (0, 5)] [0, 0] ml_RL_30 wi_X7_ofLot ws_X7_ofLot (fun l => ct_O ((c_X7_ofLot 0 z9 5 (by decide)) l) (prs_ok rfl) (fun q hq => by cases hq <;> decide)) mi_X7_ofLot (by decide) ⟨_, rfl, rfl⟩ (by decide) rfl rfl rfl (Nat.le_of_ble_eq_true rfl) (Nat.le_of_ble_eq_true rfl) (Nat.le_of_ble_eq_true rfl) (Nat.le_of_ble_eq_true rfl) (Nat.le_of_ble_eq_true rfl) dL_isBarred_252 (fun z47 v47 hz47 => ?_)
                      refine g2_iload_n F rfl 8 rfl rfl dL_isBarred_255 ?_
                      refine g2_icmp_ne F rfl rfl (tgt := 314) rfl dL_isBarred_256 (fun n48 => ?_) (fun n48 => ?_)
                      · refine g2_iconst F 2 rfl dL_isBarred_314 ?_
                        exact g2_ireturn F rfl rfl rfl rfl (Nat.le_of_ble_eq_true rfl) (Nat.le_of_ble_eq_true rfl) dL_isBarred_315
                      · refine g2_aload_n F rfl 9 rfl dL_isBarred_259 ?_
                        refine g2_iload F 1 rfl rfl dL_isBarred_260 ?_
                        refine g2_iload F 7 rfl rfl dL_isBarred_262 ?_
                        refine g2_callV F (by decide) (K := 7) [(0, z9), (0, z2)] [0, 0] ml_RL_18 wi_X7_price ws_X7_price (fun l => ct_O ((c_X7_price 0 z9 z2 (by decide)) l) (prs_ok rfl) (fun q hq => by cases hq <;> decide)) mi_X7_price (by decide) ⟨_, rfl, rfl⟩ (by decide) rfl rfl rfl (Nat.le_of_ble_eq_true rfl) (Nat.le_of_ble_eq_true rfl) (Nat.le_of_ble_eq_true rfl) (Nat.le_of_ble_eq_true rfl) (Nat.le_of_ble_eq_true rfl) dL_isBarred_264 (fun z49 v49 hz49 => ?_)
                        refine g2_iload F 5 rfl rfl dL_isBarred_267 ?_
                        refine g2_icmp_ne F rfl rfl (tgt := 314) rfl dL_isBarred_269 (fun n50 => ?_) (fun n50 => ?_)
                        · refine g2_iconst F 2 rfl dL_isBarred_314 ?_
                          exact g2_ireturn F rfl rfl rfl rfl (Nat.le_of_ble_eq_true rfl) (Nat.le_of_ble_eq_true rfl) dL_isBarred_315
                        · refine g2_aload_n F rfl 9 rfl dL_isBarred_272 ?_
                          refine g2_iload F 1 rfl rfl dL_isBarred_273 ?_
                          refine g2_iconst F 0 rfl dL_isBarred_275 ?_
                          refine g2_callV F (by decide) (K := 7) [(0, z9), (0, 3)] [0, 0] ml_RL_30 wi_X7_ofLot ws_X7_ofLot (fun l => ct_O ((c_X7_ofLot 0 z9 3 (by decide)) l) (prs_ok rfl) (fun q hq => by cases hq <;> decide)) mi_X7_ofLot (by decide) ⟨_, rfl, rfl⟩ (by decide) rfl rfl rfl (Nat.le_of_ble_eq_true rfl) (Nat.le_of_ble_eq_true rfl) (Nat.le_of_ble_eq_true rfl) (Nat.le_of_ble_eq_true rfl) (Nat.le_of_ble_eq_true rfl) dL_isBarred_276 (fun z51 v51 hz51 => ?_)
                          refine g2_aload_n F rfl 9 rfl dL_isBarred_279 ?_
                          refine g2_iload_n F rfl 8 rfl rfl dL_isBarred_280 ?_
                          refine g2_iconst F 0 rfl dL_isBarred_281 ?_
                          refine g2_callV F (by decide) (K := 7) [(0, z1), (0, 3)] [0, 0] ml_RL_30 wi_X7_ofLot ws_X7_ofLot (fun l => ct_O ((c_X7_ofLot 0 z1 3 (by decide)) l) (prs_ok rfl) (fun q hq => by cases hq <;> decide)) mi_X7_ofLot (by decide) ⟨_, rfl, rfl⟩ (by decide) rfl rfl rfl (Nat.le_of_ble_eq_true rfl) (Nat.le_of_ble_eq_true rfl) (Nat.le_of_ble_eq_true rfl) (Nat.le_of_ble_eq_true rfl) (Nat.le_of_ble_eq_true rfl) dL_isBarred_282 (fun z52 v52 hz52 => ?_)
                          refine g2_icmp_ne F rfl rfl (tgt := 314) rfl dL_isBarred_285 (fun n53 => ?_) (fun n53 => ?_)
                          · refine g2_iconst F 2 rfl dL_isBarred_314 ?_
                            exact g2_ireturn F rfl rfl rfl rfl (Nat.le_of_ble_eq_true rfl) (Nat.le_of_ble_eq_true rfl) dL_isBarred_315
                          · refine g2_aload_n F rfl 9 rfl dL_isBarred_288 ?_
                            refine g2_iload F 1 rfl rfl dL_isBarred_289 ?_
                            refine g2_iconst F 0 rfl dL_isBarred_291 ?_
                            refine g2_callV F (by decide) (K := 7) [(0, z9), (0, 4)] [0, 0] ml_RL_30 wi_X7_ofLot ws_X7_ofLot (fun l => ct_O ((c_X7_ofLot 0 z9 4 (by decide)) l) (prs_ok rfl) (fun q hq => by cases hq <;> decide)) mi_X7_ofLot (by decide) ⟨_, rfl, rfl⟩ (by decide) rfl rfl rfl (Nat.le_of_ble_eq_true rfl) (Nat.le_of_ble_eq_true rfl) (Nat.le_of_ble_eq_true rfl) (Nat.le_of_ble_eq_true rfl) (Nat.le_of_ble_eq_true rfl) dL_isBarred_292 (fun z54 v54 hz54 => ?_)
                            refine g2_iconst F 0 rfl dL_isBarred_295 ?_
                            refine g2_icmp_ne F rfl rfl (tgt := 314) rfl dL_isBarred_296 (fun n55 => ?_) (fun n55 => ?_)
                            · refine g2_iconst F 2 rfl dL_isBarred_314 ?_
                              exact g2_ireturn F rfl rfl rfl rfl (Nat.le_of_ble_eq_true rfl) (Nat.le_of_ble_eq_true rfl) dL_isBarred_315
                            · refine g2_aload_n F rfl 9 rfl dL_isBarred_299 ?_
                              refine g2_iload F 1 rfl rfl dL_isBarred_300 ?_
                              refine g2_bipush F rfl (by decide) dL_isBarred_302 ?_
                              refine g2_callV F (by decide) (K := 7) [(0, z9), (0, 8)] [0, 0] ml_RL_30 wi_X7_ofLot ws_X7_ofLot (fun l => ct_O ((c_X7_ofLot 0 z9 8 (by decide)) l) (prs_ok rfl) (fun q hq => by cases hq <;> decide)) mi_X7_ofLot (by decide) ⟨_, rfl, rfl⟩ (by decide) rfl rfl rfl (Nat.le_of_ble_eq_true rfl) (Nat.le_of_ble_eq_true rfl) (Nat.le_of_ble_eq_true rfl) (Nat.le_of_ble_eq_true rfl) (Nat.le_of_ble_eq_true rfl) dL_isBarred_304 (fun z56 v56 hz56 => ?_)
                              refine g2_if_le F rfl (tgt := 314) rfl dL_isBarred_307 (fun n57 => ?_) (fun n57 => ?_)
                              · refine g2_iconst F 2 rfl dL_isBarred_314 ?_
                                exact g2_ireturn F rfl rfl rfl rfl (Nat.le_of_ble_eq_true rfl) (Nat.le_of_ble_eq_true rfl) dL_isBarred_315
                              · refine g2_iconst F 2 rfl dL_isBarred_310 ?_
                                refine g2_goto F (tgt := 315) rfl dL_isBarred_311 ?_
                                exact g2_ireturn F rfl rfl rfl rfl (Nat.le_of_ble_eq_true rfl) (Nat.le_of_ble_eq_true rfl) dL_isBarred_315
  · refine g2_iload_n F rfl 5 rfl rfl dL_isBarred_35 ?_
    refine g2_ldc F rfl cn_RL_163 dL_isBarred_36 ?_
    refine g2_callS F (by decide) [(0, a2), (0, 100000)] [0, 0] ml_RL_149 wt_L_low (fun l => ct_N ((c_L_low a2 100000) l) (prs_ok rfl) (fun q hq => by cases hq <;> decide)) mi_L_low rfl rfl rfl (Nat.le_of_ble_eq_true rfl) (Nat.le_of_ble_eq_true rfl) (Nat.le_of_ble_eq_true rfl) (Nat.le_of_ble_eq_true rfl) (Nat.le_of_ble_eq_true rfl) dL_isBarred_38 (fun z58 v58 hz58 => ?_)
    refine g2_goto F (tgt := 51) rfl dL_isBarred_41 ?_
    refine g2_istore F rfl (Nat.le_of_ble_eq_true rfl) (ls' := [(6, (0, z58)), (5, (0, (w32 (1 + z3)))), (4, (0, z2)), (3, (0, z1)), (0, (17, 0)), (1, (117, 0)), (2, (0, a2))]) rfl dL_isBarred_51 ?_
    refine g2_aload_n F rfl 4 rfl dL_isBarred_53 ?_
    refine g2_bipush F rfl (by decide) dL_isBarred_54 ?_
    refine g2_iload_n F rfl 3 rfl rfl dL_isBarred_56 ?_
    refine g2_iload F 1 rfl rfl dL_isBarred_57 ?_
    refine g2_iload F 2 rfl rfl dL_isBarred_59 ?_
    refine g2_iload F 0 rfl rfl dL_isBarred_61 ?_
    refine g2_callSX F (by decide) [(17, 0), (0, 23), (0, z1), (0, (w32 (1 + z3))), (0, z2), (0, z58)] [17, 0, 0, 0, 0, 0] ml_RL_155 wt_L_does (fun l => ctW_O ((c_L_does_23 z1 (w32 (1 + z3)) z2 z58) l) (prs_ok rfl) (fun q hq => by cases hq <;> decide)) mw_L_does rfl rfl rfl (Nat.le_of_ble_eq_true rfl) (Nat.le_of_ble_eq_true rfl) (Nat.le_of_ble_eq_true rfl) (Nat.le_of_ble_eq_true rfl) (Nat.le_of_ble_eq_true rfl) dL_isBarred_63 (fun z59 v59 hz59 => ?_)
    refine g2_istore F rfl (Nat.le_of_ble_eq_true rfl) (ls' := [(7, (0, z59)), (6, (0, z58)), (5, (0, (w32 (1 + z3)))), (4, (0, z2)), (3, (0, z1)), (0, (17, 0)), (1, (117, 0)), (2, (0, a2))]) rfl dL_isBarred_66 ?_
    refine g2_aload_n F rfl 5 rfl dL_isBarred_68 ?_
    refine g2_bipush F rfl (by decide) dL_isBarred_69 ?_
    refine g2_iload_n F rfl 4 rfl rfl dL_isBarred_71 ?_
    refine g2_iload F 2 rfl rfl dL_isBarred_72 ?_
    refine g2_iload F 3 rfl rfl dL_isBarred_74 ?_
    refine g2_iload F 1 rfl rfl dL_isBarred_76 ?_
    refine g2_callSX F (by decide) [(17, 0), (0, 24), (0, z1), (0, (w32 (1 + z3))), (0, z2), (0, z58)] [17, 0, 0, 0, 0, 0] ml_RL_155 wt_L_does (fun l => ctW_O ((c_L_does_24 z1 (w32 (1 + z3)) z2 z58) l) (prs_ok rfl) (fun q hq => by cases hq <;> decide)) mw_L_does rfl rfl rfl (Nat.le_of_ble_eq_true rfl) (Nat.le_of_ble_eq_true rfl) (Nat.le_of_ble_eq_true rfl) (Nat.le_of_ble_eq_true rfl) (Nat.le_of_ble_eq_true rfl) dL_isBarred_78 (fun z60 v60 hz60 => ?_)
    refine g2_istore F rfl (Nat.le_of_ble_eq_true rfl) (ls' := [(8, (0, z60)), (7, (0, z59)), (6, (0, z58)), (5, (0, (w32 (1 + z3)))), (4, (0, z2)), (3, (0, z1)), (0, (17, 0)), (1, (117, 0)), (2, (0, a2))]) rfl dL_isBarred_81 ?_
    refine g2_aload_n F rfl 6 rfl dL_isBarred_83 ?_
    refine g2_bipush F rfl (by decide) dL_isBarred_84 ?_
    refine g2_iload F 4 rfl rfl dL_isBarred_86 ?_
    refine g2_iconst F 2 rfl dL_isBarred_88 ?_
    refine g2_iconst F 2 rfl dL_isBarred_89 ?_
    refine g2_iconst F 2 rfl dL_isBarred_90 ?_
    refine g2_callSX F (by decide) [(17, 0), (0, 26), (0, z2), (2, 0), (2, 0), (2, 0)] [17, 0, 0, 0, 0, 0] ml_RL_155 wt_L_does (fun l => ctW_O ((c_L_does_26 z2 0 0 0) l) (prs_ok rfl) (fun q hq => by cases hq <;> decide)) mw_L_does rfl rfl rfl (Nat.le_of_ble_eq_true rfl) (Nat.le_of_ble_eq_true rfl) (Nat.le_of_ble_eq_true rfl) (Nat.le_of_ble_eq_true rfl) (Nat.le_of_ble_eq_true rfl) dL_isBarred_91 (fun z61 v61 hz61 => ?_)
    refine g2_istore F rfl (Nat.le_of_ble_eq_true rfl) (ls' := [(9, (0, z61)), (8, (0, z60)), (7, (0, z59)), (6, (0, z58)), (5, (0, (w32 (1 + z3)))), (4, (0, z2)), (3, (0, z1)), (0, (17, 0)), (1, (117, 0)), (2, (0, a2))]) rfl dL_isBarred_94 ?_
    refine g2_aload_n F rfl 7 rfl dL_isBarred_96 ?_
    refine g2_bipush F rfl (by decide) dL_isBarred_97 ?_
    refine g2_iload_n F rfl 6 rfl rfl dL_isBarred_99 ?_
    refine g2_iload F 4 rfl rfl dL_isBarred_100 ?_
    refine g2_iload F 5 rfl rfl dL_isBarred_102 ?_
    refine g2_iload F 3 rfl rfl dL_isBarred_104 ?_
    refine g2_callSX F (by decide) [(17, 0), (0, 13), (0, z1), (0, (w32 (1 + z3))), (0, z2), (0, z58)] [17, 0, 0, 0, 0, 0] ml_RL_155 wt_L_does (fun l => ctW_O ((c_L_does_13 z1 (w32 (1 + z3)) z2 z58) l) (prs_ok rfl) (fun q hq => by cases hq <;> decide)) mw_L_does rfl rfl rfl (Nat.le_of_ble_eq_true rfl) (Nat.le_of_ble_eq_true rfl) (Nat.le_of_ble_eq_true rfl) (Nat.le_of_ble_eq_true rfl) (Nat.le_of_ble_eq_true rfl) dL_isBarred_106 (fun z62 v62 hz62 => ?_)
    refine g2_istore F rfl (Nat.le_of_ble_eq_true rfl) (ls' := [(10, (0, z62)), (9, (0, z61)), (8, (0, z60)), (7, (0, z59)), (6, (0, z58)), (5, (0, (w32 (1 + z3)))), (4, (0, z2)), (3, (0, z1)), (0, (17, 0)), (1, (117, 0)), (2, (0, a2))]) rfl dL_isBarred_109 ?_
    refine g2_aload_n F rfl 9 rfl dL_isBarred_111 ?_
    refine g2_bipush F rfl (by decide) dL_isBarred_112 ?_
    refine g2_iload_n F rfl 7 rfl rfl dL_isBarred_114 ?_
    refine g2_iload F 5 rfl rfl dL_isBarred_115 ?_
    refine g2_iload F 6 rfl rfl dL_isBarred_117 ?_
    refine g2_iload F 4 rfl rfl dL_isBarred_119 ?_
    refine g2_callSX F (by decide) [(117, 0), (0, 13), (0, z1), (0, (w32 (1 + z3))), (0, z2), (0, z58)] [117, 0, 0, 0, 0, 0] ml_RL_155 wt_L_does (fun l => ctW_P ((c_L_does_13 z1 (w32 (1 + z3)) z2 z58) l) (prs_ok rfl) (fun q hq => by cases hq <;> decide)) mw_L_does rfl rfl rfl (Nat.le_of_ble_eq_true rfl) (Nat.le_of_ble_eq_true rfl) (Nat.le_of_ble_eq_true rfl) (Nat.le_of_ble_eq_true rfl) (Nat.le_of_ble_eq_true rfl) dL_isBarred_121 (fun z63 v63 hz63 => ?_)
    refine g2_iload F 0 rfl rfl dL_isBarred_124 ?_
    refine g2_icmp_ne F rfl rfl (tgt := 184) rfl dL_isBarred_126 (fun n64 => ?_) (fun n64 => ?_)
    · refine g2_iconst F 2 rfl dL_isBarred_184 ?_
      refine g2_istore F rfl (Nat.le_of_ble_eq_true rfl) (ls' := [(11, (2, 0)), (10, (0, z62)), (9, (0, z61)), (8, (0, z60)), (7, (0, z59)), (6, (0, z58)), (5, (0, (w32 (1 + z3)))), (4, (0, z2)), (3, (0, z1)), (0, (17, 0)), (1, (117, 0)), (2, (0, a2))]) rfl dL_isBarred_185 ?_
      refine g2_iload F 1 rfl rfl dL_isBarred_187 ?_
      refine g2_if_lt F rfl (tgt := 197) rfl dL_isBarred_189 (fun n65 => ?_) (fun n65 => ?_)
      · refine g2_iload F 0 rfl rfl dL_isBarred_197 ?_
        refine g2_if_eq_t F rfl (by decide) (tgt := 222) rfl dL_isBarred_199 ?_
        refine g2_iconst F 2 rfl dL_isBarred_222 ?_
        exact g2_ireturn F rfl rfl rfl rfl (Nat.le_of_ble_eq_true rfl) (Nat.le_of_ble_eq_true rfl) dL_isBarred_223
      · refine g2_iload F 0 rfl rfl dL_isBarred_192 ?_
        refine g2_if_ne_f F rfl (by decide) (tgt := 224) rfl dL_isBarred_194 ?_
        refine g2_iload F 0 rfl rfl dL_isBarred_197 ?_
        refine g2_if_eq_t F rfl (by decide) (tgt := 222) rfl dL_isBarred_199 ?_
        refine g2_iconst F 2 rfl dL_isBarred_222 ?_
        exact g2_ireturn F rfl rfl rfl rfl (Nat.le_of_ble_eq_true rfl) (Nat.le_of_ble_eq_true rfl) dL_isBarred_223
    · refine g2_iload F 3 rfl rfl dL_isBarred_129 ?_
      refine g2_if_ne F rfl (tgt := 138) rfl dL_isBarred_131 (fun n66 => ?_) (fun n66 => ?_)
      · refine g2_iconst F 2 rfl dL_isBarred_138 ?_
        refine g2_iload F 0 rfl rfl dL_isBarred_139 ?_
        refine g2_if_lt F rfl (tgt := 148) rfl dL_isBarred_141 (fun n67 => ?_) (fun n67 => ?_)
        · refine g2_iconst F 2 rfl dL_isBarred_148 ?_
          refine g2_icmp_ne_f F rfl rfl (by decide) (tgt := 184) rfl dL_isBarred_149 ?_
          refine g2_iload F 3 rfl rfl dL_isBarred_152 ?_
          refine g2_if_le F rfl (tgt := 169) rfl dL_isBarred_154 (fun n68 => ?_) (fun n68 => ?_)
          · refine g2_iload F 3 rfl rfl dL_isBarred_169 ?_
            refine g2_if_ne_t F rfl n66 (tgt := 180) rfl dL_isBarred_171 ?_
            refine g2_iconst F 2 rfl dL_isBarred_180 ?_
            refine g2_goto F (tgt := 185) rfl dL_isBarred_181 ?_
            refine g2_istore F rfl (Nat.le_of_ble_eq_true rfl) (ls' := [(11, (2, 1)), (10, (0, z62)), (9, (0, z61)), (8, (0, z60)), (7, (0, z59)), (6, (0, z58)), (5, (0, (w32 (1 + z3)))), (4, (0, z2)), (3, (0, z1)), (0, (17, 0)), (1, (117, 0)), (2, (0, a2))]) rfl dL_isBarred_185 ?_
            refine g2_iload F 1 rfl rfl dL_isBarred_187 ?_
            refine g2_if_lt_t F rfl n67 (tgt := 197) rfl dL_isBarred_189 ?_
            refine g2_iload F 0 rfl rfl dL_isBarred_197 ?_
            refine g2_if_eq_f F rfl (by decide) (tgt := 222) rfl dL_isBarred_199 ?_
            refine g2_aload_n F rfl 9 rfl dL_isBarred_202 ?_
            refine g2_bipush F rfl (by decide) dL_isBarred_203 ?_
            refine g2_iload F 7 rfl rfl dL_isBarred_205 ?_
            refine g2_iconst F 2 rfl dL_isBarred_207 ?_
            refine g2_iconst F 2 rfl dL_isBarred_208 ?_
            refine g2_iconst F 2 rfl dL_isBarred_209 ?_
            refine g2_callSX F (by decide) [(17, 0), (0, 26), (0, z2), (2, 0), (2, 0), (2, 0)] [17, 0, 0, 0, 0, 0] ml_RL_155 wt_L_does (fun l => ctW_O ((c_L_does_26 z2 0 0 0) l) (prs_ok rfl) (fun q hq => by cases hq <;> decide)) mw_L_does rfl rfl rfl (Nat.le_of_ble_eq_true rfl) (Nat.le_of_ble_eq_true rfl) (Nat.le_of_ble_eq_true rfl) (Nat.le_of_ble_eq_true rfl) (Nat.le_of_ble_eq_true rfl) dL_isBarred_210 (fun z69 v69 hz69 => ?_)
            refine g2_iload F 2 rfl rfl dL_isBarred_213 ?_
            refine g2_icmp_ne F rfl rfl (tgt := 222) rfl dL_isBarred_215 (fun n70 => ?_) (fun n70 => ?_)
            · refine g2_iconst F 2 rfl dL_isBarred_222 ?_
              exact g2_ireturn F rfl rfl rfl rfl (Nat.le_of_ble_eq_true rfl) (Nat.le_of_ble_eq_true rfl) dL_isBarred_223
            · refine g2_iconst F 2 rfl dL_isBarred_218 ?_
              refine g2_goto F (tgt := 223) rfl dL_isBarred_219 ?_
              exact g2_ireturn F rfl rfl rfl rfl (Nat.le_of_ble_eq_true rfl) (Nat.le_of_ble_eq_true rfl) dL_isBarred_223
          · refine g2_iload F 3 rfl rfl dL_isBarred_157 ?_
            refine g2_bipush F rfl (by decide) dL_isBarred_159 ?_
            refine g2_icmp_ge F rfl rfl (tgt := 184) rfl dL_isBarred_161 (fun n71 => ?_) (fun n71 => ?_)
            · refine g2_iconst F 2 rfl dL_isBarred_184 ?_
              refine g2_istore F rfl (Nat.le_of_ble_eq_true rfl) (ls' := [(11, (2, 0)), (10, (0, z62)), (9, (0, z61)), (8, (0, z60)), (7, (0, z59)), (6, (0, z58)), (5, (0, (w32 (1 + z3)))), (4, (0, z2)), (3, (0, z1)), (0, (17, 0)), (1, (117, 0)), (2, (0, a2))]) rfl dL_isBarred_185 ?_
              refine g2_iload F 1 rfl rfl dL_isBarred_187 ?_
              refine g2_if_lt_t F rfl n67 (tgt := 197) rfl dL_isBarred_189 ?_
              refine g2_iload F 0 rfl rfl dL_isBarred_197 ?_
              refine g2_if_eq_t F rfl (by decide) (tgt := 222) rfl dL_isBarred_199 ?_
              refine g2_iconst F 2 rfl dL_isBarred_222 ?_
              exact g2_ireturn F rfl rfl rfl rfl (Nat.le_of_ble_eq_true rfl) (Nat.le_of_ble_eq_true rfl) dL_isBarred_223
            · refine g2_iload F 2 rfl rfl dL_isBarred_164 ?_
              refine g2_if_lt F rfl (tgt := 184) rfl dL_isBarred_166 (fun n72 => ?_) (fun n72 => ?_)
              · refine g2_iconst F 2 rfl dL_isBarred_184 ?_
                refine g2_istore F rfl (Nat.le_of_ble_eq_true rfl) (ls' := [(11, (2, 0)), (10, (0, z62)), (9, (0, z61)), (8, (0, z60)), (7, (0, z59)), (6, (0, z58)), (5, (0, (w32 (1 + z3)))), (4, (0, z2)), (3, (0, z1)), (0, (17, 0)), (1, (117, 0)), (2, (0, a2))]) rfl dL_isBarred_185 ?_
                refine g2_iload F 1 rfl rfl dL_isBarred_187 ?_
                refine g2_if_lt_t F rfl n67 (tgt := 197) rfl dL_isBarred_189 ?_
                refine g2_iload F 0 rfl rfl dL_isBarred_197 ?_
                refine g2_if_eq_t F rfl (by decide) (tgt := 222) rfl dL_isBarred_199 ?_
                refine g2_iconst F 2 rfl dL_isBarred_222 ?_
                exact g2_ireturn F rfl rfl rfl rfl (Nat.le_of_ble_eq_true rfl) (Nat.le_of_ble_eq_true rfl) dL_isBarred_223
              · refine g2_iload F 3 rfl rfl dL_isBarred_169 ?_
                refine g2_if_ne_t F rfl n66 (tgt := 180) rfl dL_isBarred_171 ?_
                refine g2_iconst F 2 rfl dL_isBarred_180 ?_
                refine g2_goto F (tgt := 185) rfl dL_isBarred_181 ?_
                refine g2_istore F rfl (Nat.le_of_ble_eq_true rfl) (ls' := [(11, (2, 1)), (10, (0, z62)), (9, (0, z61)), (8, (0, z60)), (7, (0, z59)), (6, (0, z58)), (5, (0, (w32 (1 + z3)))), (4, (0, z2)), (3, (0, z1)), (0, (17, 0)), (1, (117, 0)), (2, (0, a2))]) rfl dL_isBarred_185 ?_
                refine g2_iload F 1 rfl rfl dL_isBarred_187 ?_
                refine g2_if_lt_t F rfl n67 (tgt := 197) rfl dL_isBarred_189 ?_
                refine g2_iload F 0 rfl rfl dL_isBarred_197 ?_
                refine g2_if_eq_f F rfl (by decide) (tgt := 222) rfl dL_isBarred_199 ?_
                refine g2_aload_n F rfl 9 rfl dL_isBarred_202 ?_
                refine g2_bipush F rfl (by decide) dL_isBarred_203 ?_
                refine g2_iload F 7 rfl rfl dL_isBarred_205 ?_
                refine g2_iconst F 2 rfl dL_isBarred_207 ?_
                refine g2_iconst F 2 rfl dL_isBarred_208 ?_
                refine g2_iconst F 2 rfl dL_isBarred_209 ?_
                refine g2_callSX F (by decide) [(17, 0), (0, 26), (0, z2), (2, 0), (2, 0), (2, 0)] [17, 0, 0, 0, 0, 0] ml_RL_155 wt_L_does (fun l => ctW_O ((c_L_does_26 z2 0 0 0) l) (prs_ok rfl) (fun q hq => by cases hq <;> decide)) mw_L_does rfl rfl rfl (Nat.le_of_ble_eq_true rfl) (Nat.le_of_ble_eq_true rfl) (Nat.le_of_ble_eq_true rfl) (Nat.le_of_ble_eq_true rfl) (Nat.le_of_ble_eq_true rfl) dL_isBarred_210 (fun z73 v73 hz73 => ?_)
                refine g2_iload F 2 rfl rfl dL_isBarred_213 ?_
                refine g2_icmp_ne F rfl rfl (tgt := 222) rfl dL_isBarred_215 (fun n74 => ?_) (fun n74 => ?_)
                · refine g2_iconst F 2 rfl dL_isBarred_222 ?_
                  exact g2_ireturn F rfl rfl rfl rfl (Nat.le_of_ble_eq_true rfl) (Nat.le_of_ble_eq_true rfl) dL_isBarred_223
                · refine g2_iconst F 2 rfl dL_isBarred_218 ?_
                  refine g2_goto F (tgt := 223) rfl dL_isBarred_219 ?_
                  exact g2_ireturn F rfl rfl rfl rfl (Nat.le_of_ble_eq_true rfl) (Nat.le_of_ble_eq_true rfl) dL_isBarred_223
        · refine g2_iconst F 2 rfl dL_isBarred_144 ?_
          refine g2_goto F (tgt := 149) rfl dL_isBarred_145 ?_
          refine g2_icmp_ne_t F rfl rfl (by decide) (tgt := 184) rfl dL_isBarred_149 ?_
          refine g2_iconst F 2 rfl dL_isBarred_184 ?_
          refine g2_istore F rfl (Nat.le_of_ble_eq_true rfl) (ls' := [(11, (2, 0)), (10, (0, z62)), (9, (0, z61)), (8, (0, z60)), (7, (0, z59)), (6, (0, z58)), (5, (0, (w32 (1 + z3)))), (4, (0, z2)), (3, (0, z1)), (0, (17, 0)), (1, (117, 0)), (2, (0, a2))]) rfl dL_isBarred_185 ?_
          refine g2_iload F 1 rfl rfl dL_isBarred_187 ?_
          refine g2_if_lt_f F rfl n67 (tgt := 197) rfl dL_isBarred_189 ?_
          refine g2_iload F 0 rfl rfl dL_isBarred_192 ?_
          refine g2_if_ne_f F rfl (by decide) (tgt := 224) rfl dL_isBarred_194 ?_
          refine g2_iload F 0 rfl rfl dL_isBarred_197 ?_
          refine g2_if_eq_t F rfl (by decide) (tgt := 222) rfl dL_isBarred_199 ?_
          refine g2_iconst F 2 rfl dL_isBarred_222 ?_
          exact g2_ireturn F rfl rfl rfl rfl (Nat.le_of_ble_eq_true rfl) (Nat.le_of_ble_eq_true rfl) dL_isBarred_223
      · refine g2_iconst F 2 rfl dL_isBarred_134 ?_
        refine g2_goto F (tgt := 139) rfl dL_isBarred_135 ?_
        refine g2_iload F 0 rfl rfl dL_isBarred_139 ?_
        refine g2_if_lt F rfl (tgt := 148) rfl dL_isBarred_141 (fun n75 => ?_) (fun n75 => ?_)
        · refine g2_iconst F 2 rfl dL_isBarred_148 ?_
          refine g2_icmp_ne_t F rfl rfl (by decide) (tgt := 184) rfl dL_isBarred_149 ?_
          refine g2_iconst F 2 rfl dL_isBarred_184 ?_
          refine g2_istore F rfl (Nat.le_of_ble_eq_true rfl) (ls' := [(11, (2, 0)), (10, (0, z62)), (9, (0, z61)), (8, (0, z60)), (7, (0, z59)), (6, (0, z58)), (5, (0, (w32 (1 + z3)))), (4, (0, z2)), (3, (0, z1)), (0, (17, 0)), (1, (117, 0)), (2, (0, a2))]) rfl dL_isBarred_185 ?_
          refine g2_iload F 1 rfl rfl dL_isBarred_187 ?_
          refine g2_if_lt_t F rfl n75 (tgt := 197) rfl dL_isBarred_189 ?_
          refine g2_iload F 0 rfl rfl dL_isBarred_197 ?_
          refine g2_if_eq_t F rfl (by decide) (tgt := 222) rfl dL_isBarred_199 ?_
          refine g2_iconst F 2 rfl dL_isBarred_222 ?_
          exact g2_ireturn F rfl rfl rfl rfl (Nat.le_of_ble_eq_true rfl) (Nat.le_of_ble_eq_true rfl) dL_isBarred_223
        · refine g2_iconst F 2 rfl dL_isBarred_144 ?_
          refine g2_goto F (tgt := 149) rfl dL_isBarred_145 ?_
          refine g2_icmp_ne_f F rfl rfl (by decide) (tgt := 184) rfl dL_isBarred_149 ?_
          refine g2_iload F 3 rfl rfl dL_isBarred_152 ?_
          refine g2_if_le F rfl (tgt := 169) rfl dL_isBarred_154 (fun n76 => ?_) (fun n76 => ?_)
          · refine g2_iload F 3 rfl rfl dL_isBarred_169 ?_
            refine g2_if_ne_f F rfl (fun q => q (Decidable.not_not.mp n66)) (tgt := 180) rfl dL_isBarred_171 ?_
            refine g2_iload F 2 rfl rfl dL_isBarred_174 ?_
            refine g2_iconst F 0 rfl dL_isBarred_176 ?_
            refine g2_icmp_ne F rfl rfl (tgt := 184) rfl dL_isBarred_177 (fun n77 => ?_) (fun n77 => ?_)
            · refine g2_iconst F 2 rfl dL_isBarred_184 ?_
              refine g2_istore F rfl (Nat.le_of_ble_eq_true rfl) (ls' := [(11, (2, 0)), (10, (0, z62)), (9, (0, z61)), (8, (0, z60)), (7, (0, z59)), (6, (0, z58)), (5, (0, (w32 (1 + z3)))), (4, (0, z2)), (3, (0, z1)), (0, (17, 0)), (1, (117, 0)), (2, (0, a2))]) rfl dL_isBarred_185 ?_
              refine g2_iload F 1 rfl rfl dL_isBarred_187 ?_
              refine g2_if_lt_f F rfl n75 (tgt := 197) rfl dL_isBarred_189 ?_
              refine g2_iload F 0 rfl rfl dL_isBarred_192 ?_
              refine g2_if_ne_f F rfl (by decide) (tgt := 224) rfl dL_isBarred_194 ?_
              refine g2_iload F 0 rfl rfl dL_isBarred_197 ?_
              refine g2_if_eq_t F rfl (by decide) (tgt := 222) rfl dL_isBarred_199 ?_
              refine g2_iconst F 2 rfl dL_isBarred_222 ?_
              exact g2_ireturn F rfl rfl rfl rfl (Nat.le_of_ble_eq_true rfl) (Nat.le_of_ble_eq_true rfl) dL_isBarred_223
            · refine g2_iconst F 2 rfl dL_isBarred_180 ?_
              refine g2_goto F (tgt := 185) rfl dL_isBarred_181 ?_
              refine g2_istore F rfl (Nat.le_of_ble_eq_true rfl) (ls' := [(11, (2, 1)), (10, (0, z62)), (9, (0, z61)), (8, (0, z60)), (7, (0, z59)), (6, (0, z58)), (5, (0, (w32 (1 + z3)))), (4, (0, z2)), (3, (0, z1)), (0, (17, 0)), (1, (117, 0)), (2, (0, a2))]) rfl dL_isBarred_185 ?_
              refine g2_iload F 1 rfl rfl dL_isBarred_187 ?_
              refine g2_if_lt_f F rfl n75 (tgt := 197) rfl dL_isBarred_189 ?_
              refine g2_iload F 0 rfl rfl dL_isBarred_192 ?_
              refine g2_if_ne_t F rfl (by decide) (tgt := 224) rfl dL_isBarred_194 ?_
              refine g2_aload_n F rfl 9 rfl dL_isBarred_224 ?_
              refine g2_iload F 1 rfl rfl dL_isBarred_225 ?_
              refine g2_iconst F 2 rfl dL_isBarred_227 ?_
              refine g2_callV F (by decide) (K := 7) [(0, z62), (2, 1)] [0, 0] ml_RL_30 wi_X7_ofLot ws_X7_ofLot (fun l => ct_O ((c_X7_ofLot 0 z62 1 (by decide)) l) (prs_ok rfl) (fun q hq => by cases hq <;> decide)) mi_X7_ofLot (by decide) ⟨_, rfl, rfl⟩ (by decide) rfl rfl rfl (Nat.le_of_ble_eq_true rfl) (Nat.le_of_ble_eq_true rfl) (Nat.le_of_ble_eq_true rfl) (Nat.le_of_ble_eq_true rfl) (Nat.le_of_ble_eq_true rfl) dL_isBarred_228 (fun z78 v78 hz78 => ?_)
              refine g2_iload F 7 rfl rfl dL_isBarred_231 ?_
              refine g2_icmp_ne F rfl rfl (tgt := 314) rfl dL_isBarred_233 (fun n79 => ?_) (fun n79 => ?_)
              · refine g2_iconst F 2 rfl dL_isBarred_314 ?_
                exact g2_ireturn F rfl rfl rfl rfl (Nat.le_of_ble_eq_true rfl) (Nat.le_of_ble_eq_true rfl) dL_isBarred_315
              · refine g2_aload_n F rfl 9 rfl dL_isBarred_236 ?_
                refine g2_iload F 1 rfl rfl dL_isBarred_237 ?_
                refine g2_iconst F 0 rfl dL_isBarred_239 ?_
                refine g2_callV F (by decide) (K := 7) [(0, z62), (0, 2)] [0, 0] ml_RL_30 wi_X7_ofLot ws_X7_ofLot (fun l => ct_O ((c_X7_ofLot 0 z62 2 (by decide)) l) (prs_ok rfl) (fun q hq => by cases hq <;> decide)) mi_X7_ofLot (by decide) ⟨_, rfl, rfl⟩ (by decide) rfl rfl rfl (Nat.le_of_ble_eq_true rfl) (Nat.le_of_ble_eq_true rfl) (Nat.le_of_ble_eq_true rfl) (Nat.le_of_ble_eq_true rfl) (Nat.le_of_ble_eq_true rfl) dL_isBarred_240 (fun z80 v80 hz80 => ?_)
                refine g2_iload F 6 rfl rfl dL_isBarred_243 ?_
                refine g2_icmp_ne F rfl rfl (tgt := 314) rfl dL_isBarred_245 (fun n81 => ?_) (fun n81 => ?_)
                · refine g2_iconst F 2 rfl dL_isBarred_314 ?_
                  exact g2_ireturn F rfl rfl rfl rfl (Nat.le_of_ble_eq_true rfl) (Nat.le_of_ble_eq_true rfl) dL_isBarred_315
                · refine g2_aload_n F rfl 9 rfl dL_isBarred_248 ?_
                  refine g2_iload F 1 rfl rfl dL_isBarred_249 ?_
                  refine g2_iconst F 0 rfl dL_isBarred_251 ?_
                  refine g2_callV F (by decide) (K := 7) [(0, z62), (0, 5)] [0, 0] ml_RL_30 wi_X7_ofLot ws_X7_ofLot (fun l => ct_O ((c_X7_ofLot 0 z62 5 (by decide)) l) (prs_ok rfl) (fun q hq => by cases hq <;> decide)) mi_X7_ofLot (by decide) ⟨_, rfl, rfl⟩ (by decide) rfl rfl rfl (Nat.le_of_ble_eq_true rfl) (Nat.le_of_ble_eq_true rfl) (Nat.le_of_ble_eq_true rfl) (Nat.le_of_ble_eq_true rfl) (Nat.le_of_ble_eq_true rfl) dL_isBarred_252 (fun z82 v82 hz82 => ?_)
                  refine g2_iload_n F rfl 8 rfl rfl dL_isBarred_255 ?_
                  refine g2_icmp_ne F rfl rfl (tgt := 314) rfl dL_isBarred_256 (fun n83 => ?_) (fun n83 => ?_)
                  · refine g2_iconst F 2 rfl dL_isBarred_314 ?_
                    exact g2_ireturn F rfl rfl rfl rfl (Nat.le_of_ble_eq_true rfl) (Nat.le_of_ble_eq_true rfl) dL_isBarred_315
                  · refine g2_aload_n F rfl 9 rfl dL_isBarred_259 ?_
                    refine g2_iload F 1 rfl rfl dL_isBarred_260 ?_
                    refine g2_iload F 7 rfl rfl dL_isBarred_262 ?_
                    refine g2_callV F (by decide) (K := 7) [(0, z62), (0, z2)] [0, 0] ml_RL_18 wi_X7_price ws_X7_price (fun l => ct_O ((c_X7_price 0 z62 z2 (by decide)) l) (prs_ok rfl) (fun q hq => by cases hq <;> decide)) mi_X7_price (by decide) ⟨_, rfl, rfl⟩ (by decide) rfl rfl rfl (Nat.le_of_ble_eq_true rfl) (Nat.le_of_ble_eq_true rfl) (Nat.le_of_ble_eq_true rfl) (Nat.le_of_ble_eq_true rfl) (Nat.le_of_ble_eq_true rfl) dL_isBarred_264 (fun z84 v84 hz84 => ?_)
                    refine g2_iload F 5 rfl rfl dL_isBarred_267 ?_
                    refine g2_icmp_ne F rfl rfl (tgt := 314) rfl dL_isBarred_269 (fun n85 => ?_) (fun n85 => ?_)
                    · refine g2_iconst F 2 rfl dL_isBarred_314 ?_
                      exact g2_ireturn F rfl rfl rfl rfl (Nat.le_of_ble_eq_true rfl) (Nat.le_of_ble_eq_true rfl) dL_isBarred_315
                    · refine g2_aload_n F rfl 9 rfl dL_isBarred_272 ?_
                      refine g2_iload F 1 rfl rfl dL_isBarred_273 ?_
                      refine g2_iconst F 0 rfl dL_isBarred_275 ?_
                      refine g2_callV F (by decide) (K := 7) [(0, z62), (0, 3)] [0, 0] ml_RL_30 wi_X7_ofLot ws_X7_ofLot (fun l => ct_O ((c_X7_ofLot 0 z62 3 (by decide)) l) (prs_ok rfl) (fun q hq => by cases hq <;> decide)) mi_X7_ofLot (by decide) ⟨_, rfl, rfl⟩ (by decide) rfl rfl rfl (Nat.le_of_ble_eq_true rfl) (Nat.le_of_ble_eq_true rfl) (Nat.le_of_ble_eq_true rfl) (Nat.le_of_ble_eq_true rfl) (Nat.le_of_ble_eq_true rfl) dL_isBarred_276 (fun z86 v86 hz86 => ?_)
                      refine g2_aload_n F rfl 9 rfl dL_isBarred_279 ?_
                      refine g2_iload_n F rfl 8 rfl rfl dL_isBarred_280 ?_
                      refine g2_iconst F 0 rfl dL_isBarred_281 ?_
                      refine g2_callV F (by decide) (K := 7) [(0, z1), (0, 3)] [0, 0] ml_RL_30 wi_X7_ofLot ws_X7_ofLot (fun l => ct_O ((c_X7_ofLot 0 z1 3 (by decide)) l) (prs_ok rfl) (fun q hq => by cases hq <;> decide)) mi_X7_ofLot (by decide) ⟨_, rfl, rfl⟩ (by decide) rfl rfl rfl (Nat.le_of_ble_eq_true rfl) (Nat.le_of_ble_eq_true rfl) (Nat.le_of_ble_eq_true rfl) (Nat.le_of_ble_eq_true rfl) (Nat.le_of_ble_eq_true rfl) dL_isBarred_282 (fun z87 v87 hz87 => ?_)
                      refine g2_icmp_ne F rfl rfl (tgt := 314) rfl dL_isBarred_285 (fun n88 => ?_) (fun n88 => ?_)
                      · refine g2_iconst F 2 rfl dL_isBarred_314 ?_
                        exact g2_ireturn F rfl rfl rfl rfl (Nat.le_of_ble_eq_true rfl) (Nat.le_of_ble_eq_true rfl) dL_isBarred_315
                      · refine g2_aload_n F rfl 9 rfl dL_isBarred_288 ?_
                        refine g2_iload F 1 rfl rfl dL_isBarred_289 ?_
                        refine g2_iconst F 0 rfl dL_isBarred_291 ?_
                        refine g2_callV F (by decide) (K := 7) [(0, z62), (0, 4)] [0, 0] ml_RL_30 wi_X7_ofLot ws_X7_ofLot (fun l => ct_O ((c_X7_ofLot 0 z62 4 (by decide)) l) (prs_ok rfl) (fun q hq => by cases hq <;> decide)) mi_X7_ofLot (by decide) ⟨_, rfl, rfl⟩ (by decide) rfl rfl rfl (Nat.le_of_ble_eq_true rfl) (Nat.le_of_ble_eq_true rfl) (Nat.le_of_ble_eq_true rfl) (Nat.le_of_ble_eq_true rfl) (Nat.le_of_ble_eq_true rfl) dL_isBarred_292 (fun z89 v89 hz89 => ?_)
                        refine g2_iconst F 0 rfl dL_isBarred_295 ?_
                        refine g2_icmp_ne F rfl rfl (tgt := 314) rfl dL_isBarred_296 (fun n90 => ?_) (fun n90 => ?_)
                        · refine g2_iconst F 2 rfl dL_isBarred_314 ?_
                          exact g2_ireturn F rfl rfl rfl rfl (Nat.le_of_ble_eq_true rfl) (Nat.le_of_ble_eq_true rfl) dL_isBarred_315
                        · refine g2_aload_n F rfl 9 rfl dL_isBarred_299 ?_
                          refine g2_iload F 1 rfl rfl dL_isBarred_300 ?_
                          refine g2_bipush F rfl (by decide) dL_isBarred_302 ?_
                          refine g2_callV F (by decide) (K := 7) [(0, z62), (0, 8)] [0, 0] ml_RL_30 wi_X7_ofLot ws_X7_ofLot (fun l => ct_O ((c_X7_ofLot 0 z62 8 (by decide)) l) (prs_ok rfl) (fun q hq => by cases hq <;> decide)) mi_X7_ofLot (by decide) ⟨_, rfl, rfl⟩ (by decide) rfl rfl rfl (Nat.le_of_ble_eq_true rfl) (Nat.le_of_ble_eq_true rfl) (Nat.le_of_ble_eq_true rfl) (Nat.le_of_ble_eq_true rfl) (Nat.le_of_ble_eq_true rfl) dL_isBarred_304 (fun z91 v91 hz91 => ?_)
                          refine g2_if_le F rfl (tgt := 314) rfl dL_isBarred_307 (fun n92 => ?_) (fun n92 => ?_)
                          · refine g2_iconst F 2 rfl dL_isBarred_314 ?_
                            exact g2_ireturn F rfl rfl rfl rfl (Nat.le_of_ble_eq_true rfl) (Nat.le_of_ble_eq_true rfl) dL_isBarred_315
                          · refine g2_iconst F 2 rfl dL_isBarred_310 ?_
                            refine g2_goto F (tgt := 315) rfl dL_isBarred_311 ?_
                            exact g2_ireturn F rfl rfl rfl rfl (Nat.le_of_ble_eq_true rfl) (Nat.le_of_ble_eq_true rfl) dL_isBarred_315
          · refine g2_iload F 3 rfl rfl dL_isBarred_157 ?_
            refine g2_bipush F rfl (by decide) dL_isBarred_159 ?_
            refine g2_icmp_ge F rfl rfl (tgt := 184) rfl dL_isBarred_161 (fun n93 => ?_) (fun n93 => ?_)
            · refine g2_iconst F 2 rfl dL_isBarred_184 ?_
              refine g2_istore F rfl (Nat.le_of_ble_eq_true rfl) (ls' := [(11, (2, 0)), (10, (0, z62)), (9, (0, z61)), (8, (0, z60)), (7, (0, z59)), (6, (0, z58)), (5, (0, (w32 (1 + z3)))), (4, (0, z2)), (3, (0, z1)), (0, (17, 0)), (1, (117, 0)), (2, (0, a2))]) rfl dL_isBarred_185 ?_
              refine g2_iload F 1 rfl rfl dL_isBarred_187 ?_
              refine g2_if_lt_f F rfl n75 (tgt := 197) rfl dL_isBarred_189 ?_
              refine g2_iload F 0 rfl rfl dL_isBarred_192 ?_
              refine g2_if_ne_f F rfl (by decide) (tgt := 224) rfl dL_isBarred_194 ?_
              refine g2_iload F 0 rfl rfl dL_isBarred_197 ?_
              refine g2_if_eq_t F rfl (by decide) (tgt := 222) rfl dL_isBarred_199 ?_
              refine g2_iconst F 2 rfl dL_isBarred_222 ?_
              exact g2_ireturn F rfl rfl rfl rfl (Nat.le_of_ble_eq_true rfl) (Nat.le_of_ble_eq_true rfl) dL_isBarred_223
            · refine g2_iload F 2 rfl rfl dL_isBarred_164 ?_
              refine g2_if_lt F rfl (tgt := 184) rfl dL_isBarred_166 (fun n94 => ?_) (fun n94 => ?_)
              · refine g2_iconst F 2 rfl dL_isBarred_184 ?_
                refine g2_istore F rfl (Nat.le_of_ble_eq_true rfl) (ls' := [(11, (2, 0)), (10, (0, z62)), (9, (0, z61)), (8, (0, z60)), (7, (0, z59)), (6, (0, z58)), (5, (0, (w32 (1 + z3)))), (4, (0, z2)), (3, (0, z1)), (0, (17, 0)), (1, (117, 0)), (2, (0, a2))]) rfl dL_isBarred_185 ?_
                refine g2_iload F 1 rfl rfl dL_isBarred_187 ?_
                refine g2_if_lt_f F rfl n75 (tgt := 197) rfl dL_isBarred_189 ?_
                refine g2_iload F 0 rfl rfl dL_isBarred_192 ?_
                refine g2_if_ne_f F rfl (by decide) (tgt := 224) rfl dL_isBarred_194 ?_
                refine g2_iload F 0 rfl rfl dL_isBarred_197 ?_
                refine g2_if_eq_t F rfl (by decide) (tgt := 222) rfl dL_isBarred_199 ?_
                refine g2_iconst F 2 rfl dL_isBarred_222 ?_
                exact g2_ireturn F rfl rfl rfl rfl (Nat.le_of_ble_eq_true rfl) (Nat.le_of_ble_eq_true rfl) dL_isBarred_223
              · refine g2_iload F 3 rfl rfl dL_isBarred_169 ?_
                refine g2_if_ne_f F rfl (fun q => q (Decidable.not_not.mp n66)) (tgt := 180) rfl dL_isBarred_171 ?_
                refine g2_iload F 2 rfl rfl dL_isBarred_174 ?_
                refine g2_iconst F 0 rfl dL_isBarred_176 ?_
                refine g2_icmp_ne F rfl rfl (tgt := 184) rfl dL_isBarred_177 (fun n95 => ?_) (fun n95 => ?_)
                · refine g2_iconst F 2 rfl dL_isBarred_184 ?_
                  refine g2_istore F rfl (Nat.le_of_ble_eq_true rfl) (ls' := [(11, (2, 0)), (10, (0, z62)), (9, (0, z61)), (8, (0, z60)), (7, (0, z59)), (6, (0, z58)), (5, (0, (w32 (1 + z3)))), (4, (0, z2)), (3, (0, z1)), (0, (17, 0)), (1, (117, 0)), (2, (0, a2))]) rfl dL_isBarred_185 ?_
                  refine g2_iload F 1 rfl rfl dL_isBarred_187 ?_
                  refine g2_if_lt_f F rfl n75 (tgt := 197) rfl dL_isBarred_189 ?_
                  refine g2_iload F 0 rfl rfl dL_isBarred_192 ?_
                  refine g2_if_ne_f F rfl (by decide) (tgt := 224) rfl dL_isBarred_194 ?_
                  refine g2_iload F 0 rfl rfl dL_isBarred_197 ?_
                  refine g2_if_eq_t F rfl (by decide) (tgt := 222) rfl dL_isBarred_199 ?_
                  refine g2_iconst F 2 rfl dL_isBarred_222 ?_
                  exact g2_ireturn F rfl rfl rfl rfl (Nat.le_of_ble_eq_true rfl) (Nat.le_of_ble_eq_true rfl) dL_isBarred_223
                · refine g2_iconst F 2 rfl dL_isBarred_180 ?_
                  refine g2_goto F (tgt := 185) rfl dL_isBarred_181 ?_
                  refine g2_istore F rfl (Nat.le_of_ble_eq_true rfl) (ls' := [(11, (2, 1)), (10, (0, z62)), (9, (0, z61)), (8, (0, z60)), (7, (0, z59)), (6, (0, z58)), (5, (0, (w32 (1 + z3)))), (4, (0, z2)), (3, (0, z1)), (0, (17, 0)), (1, (117, 0)), (2, (0, a2))]) rfl dL_isBarred_185 ?_
                  refine g2_iload F 1 rfl rfl dL_isBarred_187 ?_
                  refine g2_if_lt_f F rfl n75 (tgt := 197) rfl dL_isBarred_189 ?_
                  refine g2_iload F 0 rfl rfl dL_isBarred_192 ?_
                  refine g2_if_ne_t F rfl (by decide) (tgt := 224) rfl dL_isBarred_194 ?_
                  refine g2_aload_n F rfl 9 rfl dL_isBarred_224 ?_
                  refine g2_iload F 1 rfl rfl dL_isBarred_225 ?_
                  refine g2_iconst F 2 rfl dL_isBarred_227 ?_
                  refine g2_callV F (by decide) (K := 7) [(0, z62), (2, 1)] [0, 0] ml_RL_30 wi_X7_ofLot ws_X7_ofLot (fun l => ct_O ((c_X7_ofLot 0 z62 1 (by decide)) l) (prs_ok rfl) (fun q hq => by cases hq <;> decide)) mi_X7_ofLot (by decide) ⟨_, rfl, rfl⟩ (by decide) rfl rfl rfl (Nat.le_of_ble_eq_true rfl) (Nat.le_of_ble_eq_true rfl) (Nat.le_of_ble_eq_true rfl) (Nat.le_of_ble_eq_true rfl) (Nat.le_of_ble_eq_true rfl) dL_isBarred_228 (fun z96 v96 hz96 => ?_)
                  refine g2_iload F 7 rfl rfl dL_isBarred_231 ?_
                  refine g2_icmp_ne F rfl rfl (tgt := 314) rfl dL_isBarred_233 (fun n97 => ?_) (fun n97 => ?_)
                  · refine g2_iconst F 2 rfl dL_isBarred_314 ?_
                    exact g2_ireturn F rfl rfl rfl rfl (Nat.le_of_ble_eq_true rfl) (Nat.le_of_ble_eq_true rfl) dL_isBarred_315
                  · refine g2_aload_n F rfl 9 rfl dL_isBarred_236 ?_
                    refine g2_iload F 1 rfl rfl dL_isBarred_237 ?_
                    refine g2_iconst F 0 rfl dL_isBarred_239 ?_
                    refine g2_callV F (by decide) (K := 7) [(0, z62), (0, 2)] [0, 0] ml_RL_30 wi_X7_ofLot ws_X7_ofLot (fun l => ct_O ((c_X7_ofLot 0 z62 2 (by decide)) l) (prs_ok rfl) (fun q hq => by cases hq <;> decide)) mi_X7_ofLot (by decide) ⟨_, rfl, rfl⟩ (by decide) rfl rfl rfl (Nat.le_of_ble_eq_true rfl) (Nat.le_of_ble_eq_true rfl) (Nat.le_of_ble_eq_true rfl) (Nat.le_of_ble_eq_true rfl) (Nat.le_of_ble_eq_true rfl) dL_isBarred_240 (fun z98 v98 hz98 => ?_)
                    refine g2_iload F 6 rfl rfl dL_isBarred_243 ?_
                    refine g2_icmp_ne F rfl rfl (tgt := 314) rfl dL_isBarred_245 (fun n99 => ?_) (fun n99 => ?_)
                    · refine g2_iconst F 2 rfl dL_isBarred_314 ?_
                      exact g2_ireturn F rfl rfl rfl rfl (Nat.le_of_ble_eq_true rfl) (Nat.le_of_ble_eq_true rfl) dL_isBarred_315
                    · refine g2_aload_n F rfl 9 rfl dL_isBarred_248 ?_
                      refine g2_iload F 1 rfl rfl dL_isBarred_249 ?_
                      refine g2_iconst F 0 rfl dL_isBarred_251 ?_
                      refine g2_callV F (by decide) (K := 7) [(0, z62), (0, 5)] [0, 0] ml_RL_30 wi_X7_ofLot ws_X7_ofLot (fun l => ct_O ((c_X7_ofLot 0 z62 5 (by decide)) l) (prs_ok rfl) (fun q hq => by cases hq <;> decide)) mi_X7_ofLot (by decide) ⟨_, rfl, rfl⟩ (by decide) rfl rfl rfl (Nat.le_of_ble_eq_true rfl) (Nat.le_of_ble_eq_true rfl) (Nat.le_of_ble_eq_true rfl) (Nat.le_of_ble_eq_true rfl) (Nat.le_of_ble_eq_true rfl) dL_isBarred_252 (fun z100 v100 hz100 => ?_)
                      refine g2_iload_n F rfl 8 rfl rfl dL_isBarred_255 ?_
                      refine g2_icmp_ne F rfl rfl (tgt := 314) rfl dL_isBarred_256 (fun n101 => ?_) (fun n101 => ?_)
                      · refine g2_iconst F 2 rfl dL_isBarred_314 ?_
                        exact g2_ireturn F rfl rfl rfl rfl (Nat.le_of_ble_eq_true rfl) (Nat.le_of_ble_eq_true rfl) dL_isBarred_315
                      · refine g2_aload_n F rfl 9 rfl dL_isBarred_259 ?_
                        refine g2_iload F 1 rfl rfl dL_isBarred_260 ?_
                        refine g2_iload F 7 rfl rfl dL_isBarred_262 ?_
                        refine g2_callV F (by decide) (K := 7) [(0, z62), (0, z2)] [0, 0] ml_RL_18 wi_X7_price ws_X7_price (fun l => ct_O ((c_X7_price 0 z62 z2 (by decide)) l) (prs_ok rfl) (fun q hq => by cases hq <;> decide)) mi_X7_price (by decide) ⟨_, rfl, rfl⟩ (by decide) rfl rfl rfl (Nat.le_of_ble_eq_true rfl) (Nat.le_of_ble_eq_true rfl) (Nat.le_of_ble_eq_true rfl) (Nat.le_of_ble_eq_true rfl) (Nat.le_of_ble_eq_true rfl) dL_isBarred_264 (fun z102 v102 hz102 => ?_)
                        refine g2_iload F 5 rfl rfl dL_isBarred_267 ?_
                        refine g2_icmp_ne F rfl rfl (tgt := 314) rfl dL_isBarred_269 (fun n103 => ?_) (fun n103 => ?_)
                        · refine g2_iconst F 2 rfl dL_isBarred_314 ?_
                          exact g2_ireturn F rfl rfl rfl rfl (Nat.le_of_ble_eq_true rfl) (Nat.le_of_ble_eq_true rfl) dL_isBarred_315
                        · refine g2_aload_n F rfl 9 rfl dL_isBarred_272 ?_
                          refine g2_iload F 1 rfl rfl dL_isBarred_273 ?_
                          refine g2_iconst F 0 rfl dL_isBarred_275 ?_
                          refine g2_callV F (by decide) (K := 7) [(0, z62), (0, 3)] [0, 0] ml_RL_30 wi_X7_ofLot ws_X7_ofLot (fun l => ct_O ((c_X7_ofLot 0 z62 3 (by decide)) l) (prs_ok rfl) (fun q hq => by cases hq <;> decide)) mi_X7_ofLot (by decide) ⟨_, rfl, rfl⟩ (by decide) rfl rfl rfl (Nat.le_of_ble_eq_true rfl) (Nat.le_of_ble_eq_true rfl) (Nat.le_of_ble_eq_true rfl) (Nat.le_of_ble_eq_true rfl) (Nat.le_of_ble_eq_true rfl) dL_isBarred_276 (fun z104 v104 hz104 => ?_)
                          refine g2_aload_n F rfl 9 rfl dL_isBarred_279 ?_
                          refine g2_iload_n F rfl 8 rfl rfl dL_isBarred_280 ?_
                          refine g2_iconst F 0 rfl dL_isBarred_281 ?_
                          refine g2_callV F (by decide) (K := 7) [(0, z1), (0, 3)] [0, 0] ml_RL_30 wi_X7_ofLot ws_X7_ofLot (fun l => ct_O ((c_X7_ofLot 0 z1 3 (by decide)) l) (prs_ok rfl) (fun q hq => by cases hq <;> decide)) mi_X7_ofLot (by decide) ⟨_, rfl, rfl⟩ (by decide) rfl rfl rfl (Nat.le_of_ble_eq_true rfl) (Nat.le_of_ble_eq_true rfl) (Nat.le_of_ble_eq_true rfl) (Nat.le_of_ble_eq_true rfl) (Nat.le_of_ble_eq_true rfl) dL_isBarred_282 (fun z105 v105 hz105 => ?_)
                          refine g2_icmp_ne F rfl rfl (tgt := 314) rfl dL_isBarred_285 (fun n106 => ?_) (fun n106 => ?_)
                          · refine g2_iconst F 2 rfl dL_isBarred_314 ?_
                            exact g2_ireturn F rfl rfl rfl rfl (Nat.le_of_ble_eq_true rfl) (Nat.le_of_ble_eq_true rfl) dL_isBarred_315
                          · refine g2_aload_n F rfl 9 rfl dL_isBarred_288 ?_
                            refine g2_iload F 1 rfl rfl dL_isBarred_289 ?_
                            refine g2_iconst F 0 rfl dL_isBarred_291 ?_
                            refine g2_callV F (by decide) (K := 7) [(0, z62), (0, 4)] [0, 0] ml_RL_30 wi_X7_ofLot ws_X7_ofLot (fun l => ct_O ((c_X7_ofLot 0 z62 4 (by decide)) l) (prs_ok rfl) (fun q hq => by cases hq <;> decide)) mi_X7_ofLot (by decide) ⟨_, rfl, rfl⟩ (by decide) rfl rfl rfl (Nat.le_of_ble_eq_true rfl) (Nat.le_of_ble_eq_true rfl) (Nat.le_of_ble_eq_true rfl) (Nat.le_of_ble_eq_true rfl) (Nat.le_of_ble_eq_true rfl) dL_isBarred_292 (fun z107 v107 hz107 => ?_)
                            refine g2_iconst F 0 rfl dL_isBarred_295 ?_
                            refine g2_icmp_ne F rfl rfl (tgt := 314) rfl dL_isBarred_296 (fun n108 => ?_) (fun n108 => ?_)
                            · refine g2_iconst F 2 rfl dL_isBarred_314 ?_
                              exact g2_ireturn F rfl rfl rfl rfl (Nat.le_of_ble_eq_true rfl) (Nat.le_of_ble_eq_true rfl) dL_isBarred_315
                            · refine g2_aload_n F rfl 9 rfl dL_isBarred_299 ?_
                              refine g2_iload F 1 rfl rfl dL_isBarred_300 ?_
                              refine g2_bipush F rfl (by decide) dL_isBarred_302 ?_
                              refine g2_callV F (by decide) (K := 7) [(0, z62), (0, 8)] [0, 0] ml_RL_30 wi_X7_ofLot ws_X7_ofLot (fun l => ct_O ((c_X7_ofLot 0 z62 8 (by decide)) l) (prs_ok rfl) (fun q hq => by cases hq <;> decide)) mi_X7_ofLot (by decide) ⟨_, rfl, rfl⟩ (by decide) rfl rfl rfl (Nat.le_of_ble_eq_true rfl) (Nat.le_of_ble_eq_true rfl) (Nat.le_of_ble_eq_true rfl) (Nat.le_of_ble_eq_true rfl) (Nat.le_of_ble_eq_true rfl) dL_isBarred_304 (fun z109 v109 hz109 => ?_)
                              refine g2_if_le F rfl (tgt := 314) rfl dL_isBarred_307 (fun n110 => ?_) (fun n110 => ?_)
                              · refine g2_iconst F 2 rfl dL_isBarred_314 ?_
                                exact g2_ireturn F rfl rfl rfl rfl (Nat.le_of_ble_eq_true rfl) (Nat.le_of_ble_eq_true rfl) dL_isBarred_315
                              · refine g2_iconst F 2 rfl dL_isBarred_310 ?_
                                refine g2_goto F (tgt := 315) rfl dL_isBarred_311 ?_
                                exact g2_ireturn F rfl rfl rfl rfl (Nat.le_of_ble_eq_true rfl) (Nat.le_of_ble_eq_true rfl) dL_isBarred_315
theorem c_L_isBarred (a2 : Int) : ∀ l, Ct2 l yL_isBarred cL_isBarred 12 (some .boolean) ({ frames := 11, cells := 44, slots := 266, locals := 204 }) (some 2) [(17, 0), (117, 0), (0, a2)] (sp_L_isBarred a2) := g2_method (by decide +kernel) (Nat.le_of_ble_eq_true rfl) (fun x v F ho => k_L_isBarred a2 x v F ho)

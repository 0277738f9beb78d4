noncomputable def lp_L_law_232 (L : Nat) (xs : Nat → Int32) (l4 : Int) (k : V → Int → Int → Res) : Nat → V → Int → Int → Res
  | 0, _, _, _ => none
  | n + 1, v, l3, l6 => (chk (0 ≤ l6 ∧ l6 ≤ 150) (if 150 ≤ l6 then (k v l3 l6)
   else (if l3 = 0 then (k v l3 l6)
   else (chk (0 ≤ (w32 (10 + (rem32 l6 51)))) (rB (lO (sp_L_act (w32 ((cellf L xs (w32 (10 + (rem32 l6 51)))) + (w32 (2243 * (w32 (l6.tdiv 51))))))) v) (fun z41 v41 => (if z41 = (-2100000000) then (if ¬ (rem32 l6 20) = 19 then (if ¬ (rem32 l6 6) = 3 then (if ¬ (rem32 l6 9) = 5 then (lp_L_law_232 L xs l4 k n v41 1 (w32 (l6 + 1)))
   else (rB (sp_L_isBarred (and32 (shr32 (w32 ((cellf L xs (w32 (10 + (rem32 l6 51)))) + (w32 (2243 * (w32 (l6.tdiv 51)))))) 4) 65535) v41) (fun z46 v46 => (if z46 = 0 then (lp_L_law_232 L xs l4 k n v46 0 (w32 (l6 + 1)))
   else (lp_L_law_232 L xs l4 k n v46 1 (w32 (l6 + 1)))))))
   else (rB (lO (fgt (sp_L_areKept_4 l4)) v41) (fun z48 v48 => (if z48 = 0 then (lp_L_law_232 L xs l4 k n v48 0 (w32 (l6 + 1)))
   else (if ¬ (rem32 l6 9) = 5 then (lp_L_law_232 L xs l4 k n v48 1 (w32 (l6 + 1)))
   else (rB (sp_L_isBarred (and32 (shr32 (w32 ((cellf L xs (w32 (10 + (rem32 l6 51)))) + (w32 (2243 * (w32 (l6.tdiv 51)))))) 4) 65535) v48) (fun z51 v51 => (if z51 = 0 then (lp_L_law_232 L xs l4 k n v51 0 (w32 (l6 + 1)))
   else (lp_L_law_232 L xs l4 k n v51 1 (w32 (l6 + 1)))))))))))
   else (rB (sp_L_areAlike (and32 (shr32 (w32 ((cellf L xs (w32 (10 + (rem32 l6 51)))) + (w32 (2243 * (w32 (l6.tdiv 51)))))) 3) 65535) v41) (fun z53 v53 => (if z53 = 0 then (lp_L_law_232 L xs l4 k n v53 0 (w32 (l6 + 1)))
   else (if ¬ (rem32 l6 6) = 3 then (if ¬ (rem32 l6 9) = 5 then (lp_L_law_232 L xs l4 k n v53 1 (w32 (l6 + 1)))
   else (rB (sp_L_isBarred (and32 (shr32 (w32 ((cellf L xs (w32 (10 + (rem32 l6 51)))) + (w32 (2243 * (w32 (l6.tdiv 51)))))) 4) 65535) v53) (fun z57 v57 => (if z57 = 0 then (lp_L_law_232 L xs l4 k n v57 0 (w32 (l6 + 1)))
   else (lp_L_law_232 L xs l4 k n v57 1 (w32 (l6 + 1)))))))
   else (rB (lO (fgt (sp_L_areKept_4 l4)) v53) (fun z59 v59 => (if z59 = 0 then (lp_L_law_232 L xs l4 k n v59 0 (w32 (l6 + 1)))
   else (if ¬ (rem32 l6 9) = 5 then (lp_L_law_232 L xs l4 k n v59 1 (w32 (l6 + 1)))
   else (rB (sp_L_isBarred (and32 (shr32 (w32 ((cellf L xs (w32 (10 + (rem32 l6 51)))) + (w32 (2243 * (w32 (l6.tdiv 51)))))) 4) 65535) v59) (fun z62 v62 => (if z62 = 0 then (lp_L_law_232 L xs l4 k n v62 0 (w32 (l6 + 1)))
   else (lp_L_law_232 L xs l4 k n v62 1 (w32 (l6 + 1)))))))))))))))
   else (rB (lP (sp_L_act (w32 ((cellf L xs (w32 (10 + (rem32 l6 51)))) + (w32 (2243 * (w32 (l6.tdiv 51))))))) v41) (fun z64 v64 => (if ¬ z64 = z41 then (lp_L_law_232 L xs l4 k n v64 0 (w32 (l6 + 1)))
   else (if ¬ (rem32 l6 20) = 19 then (if ¬ (rem32 l6 6) = 3 then (if ¬ (rem32 l6 9) = 5 then (lp_L_law_232 L xs l4 k n v64 1 (w32 (l6 + 1)))
   else (rB (sp_L_isBarred (and32 (shr32 (w32 ((cellf L xs (w32 (10 + (rem32 l6 51)))) + (w32 (2243 * (w32 (l6.tdiv 51)))))) 4) 65535) v64) (fun z69 v69 => (if z69 = 0 then (lp_L_law_232 L xs l4 k n v69 0 (w32 (l6 + 1)))
   else (lp_L_law_232 L xs l4 k n v69 1 (w32 (l6 + 1)))))))
   else (rB (lO (fgt (sp_L_areKept_4 l4)) v64) (fun z71 v71 => (if z71 = 0 then (lp_L_law_232 L xs l4 k n v71 0 (w32 (l6 + 1)))
   else (if ¬ (rem32 l6 9) = 5 then (lp_L_law_232 L xs l4 k n v71 1 (w32 (l6 + 1)))
   else (rB (sp_L_isBarred (and32 (shr32 (w32 ((cellf L xs (w32 (10 + (rem32 l6 51)))) + (w32 (2243 * (w32 (l6.tdiv 51)))))) 4) 65535) v71) (fun z74 v74 => (if z74 = 0 then (lp_L_law_232 L xs l4 k n v74 0 (w32 (l6 + 1)))
   else (lp_L_law_232 L xs l4 k n v74 1 (w32 (l6 + 1)))))))))))
   else (rB (sp_L_areAlike (and32 (shr32 (w32 ((cellf L xs (w32 (10 + (rem32 l6 51)))) + (w32 (2243 * (w32 (l6.tdiv 51)))))) 3) 65535) v64) (fun z76 v76 => (if z76 = 0 then (lp_L_law_232 L xs l4 k n v76 0 (w32 (l6 + 1)))
   else (if ¬ (rem32 l6 6) = 3 then (if ¬ (rem32 l6 9) = 5 then (lp_L_law_232 L xs l4 k n v76 1 (w32 (l6 + 1)))
   else (rB (sp_L_isBarred (and32 (shr32 (w32 ((cellf L xs (w32 (10 + (rem32 l6 51)))) + (w32 (2243 * (w32 (l6.tdiv 51)))))) 4) 65535) v76) (fun z80 v80 => (if z80 = 0 then (lp_L_law_232 L xs l4 k n v80 0 (w32 (l6 + 1)))
   else (lp_L_law_232 L xs l4 k n v80 1 (w32 (l6 + 1)))))))
   else (rB (lO (fgt (sp_L_areKept_4 l4)) v76) (fun z82 v82 => (if z82 = 0 then (lp_L_law_232 L xs l4 k n v82 0 (w32 (l6 + 1)))
   else (if ¬ (rem32 l6 9) = 5 then (lp_L_law_232 L xs l4 k n v82 1 (w32 (l6 + 1)))
   else (rB (sp_L_isBarred (and32 (shr32 (w32 ((cellf L xs (w32 (10 + (rem32 l6 51)))) + (w32 (2243 * (w32 (l6.tdiv 51)))))) 4) 65535) v82) (fun z85 v85 => (if z85 = 0 then (lp_L_law_232 L xs l4 k n v85 0 (w32 (l6 + 1)))
   else (lp_L_law_232 L xs l4 k n v85 1 (w32 (l6 + 1)))))))))))))))))))))))))
set_option maxRecDepth 100000 in
set_option maxHeartbeats 4000000 in
theorem kl_L_law_232 {nm9 : String} {rt9 : Option Nat} {l4 : Int} {x : Cx} (F : Fx x cL_law RL nm9 room_1 9 rt9 (some .boolean) 1) {L : Nat} {xs : Nat → Int32} (hX : FxS x L xs) {k : V → Int → Int → Res} (c9 s9 : Nat) (hC : c9 ≤ 716531) (hS : s9 ≤ 6952104) (hk : ∀ (v : V) (l3 l6 : Int), Gs2 x (k v l3 l6) v c9 s9 384 [(0, (108, 0)), (1, (17, 0)), (2, (117, 0)), (3, (2, l3)), (4, (1, l4)), (6, (0, l6))] []) : ∀ (n : Nat) (v : V) (l3 l6 : Int) (cells slots : Nat), cells + bud 20 10614 1862 44 l6 ≤ c9 → slots + bud 124 63684 11184 266 l6 ≤ s9 → Gs2 x (lp_L_law_232 L xs l4 k n v l3 l6) v cells slots 232 [(0, (108, 0)), (1, (17, 0)), (2, (117, 0)), (3, (2, l3)), (4, (1, l4)), (6, (0, l6))] [] := by
  intro n
  induction n with
  | zero => intro v l3 l6 cells slots _ _; exact g2_none
  | succ n ih =>
    intro v l3 l6 cells slots hc hs
    rw [lp_L_law_232]
    refine g2_chk (fun nk => ?_)
    obtain ⟨q1, q2, q3, y1, y2, y3, hbc⟩ := bud_step 20 10614 1862 44 nk.1 nk.2
    obtain ⟨q4, q5, q6, y4, y5, y6, hbs⟩ := bud_step 124 63684 11184 266 nk.1 nk.2
    refine g2_iload F 5 rfl rfl dL_law_232 ?_
    refine g2_sipush F rfl (by decide) dL_law_234 ?_
    refine g2_icmp_ge F rfl rfl (tgt := 384) rfl dL_law_237 (fun n38 => ?_) (fun n38 => ?_)
    · refine g2_loc [(0, 108), (1, 17), (2, 117), (3, 2), (4, 1), (5, 0)] rfl ?_
      refine g2_wide (c2 := c9) (s2 := s9) (show cells ≤ c9 by omega) (show slots ≤ s9 by omega) ?_
      exact hk v l3 l6
    · refine g2_iload_n F rfl 3 rfl rfl dL_law_240 ?_
      refine g2_if_eq F rfl (tgt := 384) rfl dL_law_241 (fun n39 => ?_) (fun n39 => ?_)
      · refine g2_loc [(0, 108), (1, 17), (2, 117), (3, 2), (4, 1), (5, 0)] rfl ?_
        refine g2_wide (c2 := c9) (s2 := s9) (show cells ≤ c9 by omega) (show slots ≤ s9 by omega) ?_
        exact hk v l3 l6
      · refine g2_aload_n F rfl 0 rfl dL_law_244 ?_
        refine g2_bipush F rfl (by decide) dL_law_245 ?_
        refine g2_iload F 5 rfl rfl dL_law_247 ?_
        refine g2_bipush F rfl (by decide) dL_law_249 ?_
        refine g2_irem F (by decide) rfl rfl dL_law_251 ?_
        refine g2_iadd F rfl rfl dL_law_252 ?_
        refine g2_chk (fun n40 => ?_)
        refine g2_cell F (by decide) hX (Int.not_lt.mp (Int.not_lt.mpr n40)) rfl ml_RL_165 wt_L_cell mi_L_cell (Nat.le_of_ble_eq_true rfl) (Nat.le_of_ble_eq_true rfl) (show cells + 0 ≤ 716531 by omega) (show slots + 0 ≤ 6952104 by omega) (Nat.le_of_ble_eq_true rfl) dL_law_253 ?_
        refine g2_sipush F rfl (by decide) dL_law_256 ?_
        refine g2_iload F 5 rfl rfl dL_law_259 ?_
        refine g2_bipush F rfl (by decide) dL_law_261 ?_
        refine g2_idiv F (by decide) rfl rfl dL_law_263 ?_
        refine g2_imul F rfl rfl dL_law_264 ?_
        refine g2_iadd F rfl rfl dL_law_265 ?_
        refine g2_istore F rfl (Nat.le_of_ble_eq_true rfl) (ls' := [(7, (0, (w32 ((cellf L xs (w32 (10 + (rem32 l6 51)))) + (w32 (2243 * (w32 (l6.tdiv 51)))))))), (0, (108, 0)), (1, (17, 0)), (2, (117, 0)), (3, (2, l3)), (4, (1, l4)), (6, (0, l6))]) rfl dL_law_266 ?_
        refine g2_aload_n F rfl 2 rfl dL_law_268 ?_
        refine g2_iload F 0 rfl rfl dL_law_269 ?_
        refine g2_callS F (by decide) [(17, 0), (0, (w32 ((cellf L xs (w32 (10 + (rem32 l6 51)))) + (w32 (2243 * (w32 (l6.tdiv 51)))))))] [17, 0] ml_RL_169 wt_L_act (fun l => ct_O ((c_L_act (w32 ((cellf L xs (w32 (10 + (rem32 l6 51)))) + (w32 (2243 * (w32 (l6.tdiv 51))))))) l) (prs_ok rfl) (fun q hq => by cases hq <;> decide)) mi_L_act rfl rfl rfl (Nat.le_of_ble_eq_true rfl) (Nat.le_of_ble_eq_true rfl) (show cells + 10 ≤ 716531 by omega) (show slots + 62 ≤ 6952104 by omega) (Nat.le_of_ble_eq_true rfl) dL_law_271 (fun z41 v41 hz41 => ?_)
        refine g2_istore F rfl (Nat.le_of_ble_eq_true rfl) (ls' := [(8, (0, z41)), (7, (0, (w32 ((cellf L xs (w32 (10 + (rem32 l6 51)))) + (w32 (2243 * (w32 (l6.tdiv 51)))))))), (0, (108, 0)), (1, (17, 0)), (2, (117, 0)), (3, (2, l3)), (4, (1, l4)), (6, (0, l6))]) rfl dL_law_274 ?_
        refine g2_iload F 0 rfl rfl dL_law_276 ?_
        refine g2_ldc F rfl cn_RL_45 dL_law_278 ?_
        refine g2_icmp_eq F rfl rfl (tgt := 294) rfl dL_law_280 (fun n42 => ?_) (fun n42 => ?_)
        · refine g2_iconst F 2 rfl dL_law_294 ?_
          refine g2_goto F (tgt := 299) rfl dL_law_295 ?_
          refine g2_istore_n F rfl rfl (Nat.le_of_ble_eq_true rfl) (ls' := [(3, (2, 1)), (8, (0, z41)), (7, (0, (w32 ((cellf L xs (w32 (10 + (rem32 l6 51)))) + (w32 (2243 * (w32 (l6.tdiv 51)))))))), (0, (108, 0)), (1, (17, 0)), (2, (117, 0)), (4, (1, l4)), (6, (0, l6))]) rfl dL_law_299 ?_
          refine g2_iload_n F rfl 0 rfl rfl dL_law_300 ?_
          refine g2_if_eq_f F rfl (by decide) (tgt := 376) rfl dL_law_301 ?_
          refine g2_iload F 7 rfl rfl dL_law_304 ?_
          refine g2_bipush F rfl (by decide) dL_law_306 ?_
          refine g2_irem F (by decide) rfl rfl dL_law_308 ?_
          refine g2_bipush F rfl (by decide) dL_law_309 ?_
          refine g2_icmp_ne F rfl rfl (tgt := 329) rfl dL_law_311 (fun n43 => ?_) (fun n43 => ?_)
          · refine g2_iload F 7 rfl rfl dL_law_329 ?_
            refine g2_bipush F rfl (by decide) dL_law_331 ?_
            refine g2_irem F (by decide) rfl rfl dL_law_333 ?_
            refine g2_iconst F 0 rfl dL_law_334 ?_
            refine g2_icmp_ne F rfl rfl (tgt := 348) rfl dL_law_335 (fun n44 => ?_) (fun n44 => ?_)
            · refine g2_iload F 7 rfl rfl dL_law_348 ?_
              refine g2_bipush F rfl (by decide) dL_law_350 ?_
              refine g2_irem F (by decide) rfl rfl dL_law_352 ?_
              refine g2_iconst F 0 rfl dL_law_353 ?_
              refine g2_icmp_ne F rfl rfl (tgt := 372) rfl dL_law_354 (fun n45 => ?_) (fun n45 => ?_)
              · refine g2_iconst F 2 rfl dL_law_372 ?_
                refine g2_goto F (tgt := 377) rfl dL_law_373 ?_
                refine g2_istore_n F rfl rfl (Nat.le_of_ble_eq_true rfl) (ls' := [(3, (2, 1)), (8, (0, z41)), (7, (0, (w32 ((cellf L xs (w32 (10 + (rem32 l6 51)))) + (w32 (2243 * (w32 (l6.tdiv 51)))))))), (0, (108, 0)), (1, (17, 0)), (2, (117, 0)), (4, (1, l4)), (6, (0, l6))]) rfl dL_law_377 ?_
                refine g2_iinc F 7 rfl rfl (Nat.le_of_ble_eq_true rfl) (ls' := [(6, (0, (w32 (l6 + 1)))), (3, (2, 1)), (8, (0, z41)), (7, (0, (w32 ((cellf L xs (w32 (10 + (rem32 l6 51)))) + (w32 (2243 * (w32 (l6.tdiv 51)))))))), (0, (108, 0)), (1, (17, 0)), (2, (117, 0)), (4, (1, l4))]) rfl dL_law_378 ?_
                refine g2_goto F (tgt := 232) rfl dL_law_381 ?_
                refine g2_loc [(4, 108), (5, 17), (6, 117), (1, 2), (7, 1), (0, 0)] rfl ?_
                exact ih v41 1 (w32 (l6 + 1)) (cells + 10) (slots + 62) (by omega) (by omega)
              · refine g2_aload_n F rfl 4 rfl dL_law_357 ?_
                refine g2_aload_n F rfl 5 rfl dL_law_358 ?_
                refine g2_iload F 2 rfl rfl dL_law_359 ?_
                refine g2_iconst F 0 rfl dL_law_361 ?_
                refine g2_ishr F rfl rfl dL_law_362 ?_
                refine g2_ldc F rfl cn_RL_172 dL_law_363 ?_
                refine g2_iand F rfl rfl dL_law_365 ?_
                refine g2_callS F (by decide) [(17, 0), (117, 0), (0, (and32 (shr32 (w32 ((cellf L xs (w32 (10 + (rem32 l6 51)))) + (w32 (2243 * (w32 (l6.tdiv 51)))))) 4) 65535))] [17, 117, 0] ml_RL_181 wt_L_isBarred (c_L_isBarred (and32 (shr32 (w32 ((cellf L xs (w32 (10 + (rem32 l6 51)))) + (w32 (2243 * (w32 (l6.tdiv 51)))))) 4) 65535)) mi_L_isBarred rfl rfl rfl (Nat.le_of_ble_eq_true rfl) (Nat.le_of_ble_eq_true rfl) (show (cells + 10) + 44 ≤ 716531 by omega) (show (slots + 62) + 266 ≤ 6952104 by omega) (Nat.le_of_ble_eq_true rfl) dL_law_366 (fun z46 v46 hz46 => ?_)
                refine g2_if_eq F rfl (tgt := 376) rfl dL_law_369 (fun n47 => ?_) (fun n47 => ?_)
                · refine g2_iconst F 2 rfl dL_law_376 ?_
                  refine g2_istore_n F rfl rfl (Nat.le_of_ble_eq_true rfl) (ls' := [(3, (2, 0)), (8, (0, z41)), (7, (0, (w32 ((cellf L xs (w32 (10 + (rem32 l6 51)))) + (w32 (2243 * (w32 (l6.tdiv 51)))))))), (0, (108, 0)), (1, (17, 0)), (2, (117, 0)), (4, (1, l4)), (6, (0, l6))]) rfl dL_law_377 ?_
                  refine g2_iinc F 7 rfl rfl (Nat.le_of_ble_eq_true rfl) (ls' := [(6, (0, (w32 (l6 + 1)))), (3, (2, 0)), (8, (0, z41)), (7, (0, (w32 ((cellf L xs (w32 (10 + (rem32 l6 51)))) + (w32 (2243 * (w32 (l6.tdiv 51)))))))), (0, (108, 0)), (1, (17, 0)), (2, (117, 0)), (4, (1, l4))]) rfl dL_law_378 ?_
                  refine g2_goto F (tgt := 232) rfl dL_law_381 ?_
                  refine g2_loc [(4, 108), (5, 17), (6, 117), (1, 2), (7, 1), (0, 0)] rfl ?_
                  exact ih v46 0 (w32 (l6 + 1)) (cells + 54) (slots + 328) (by omega) (by omega)
                · refine g2_iconst F 2 rfl dL_law_372 ?_
                  refine g2_goto F (tgt := 377) rfl dL_law_373 ?_
                  refine g2_istore_n F rfl rfl (Nat.le_of_ble_eq_true rfl) (ls' := [(3, (2, 1)), (8, (0, z41)), (7, (0, (w32 ((cellf L xs (w32 (10 + (rem32 l6 51)))) + (w32 (2243 * (w32 (l6.tdiv 51)))))))), (0, (108, 0)), (1, (17, 0)), (2, (117, 0)), (4, (1, l4)), (6, (0, l6))]) rfl dL_law_377 ?_
                  refine g2_iinc F 7 rfl rfl (Nat.le_of_ble_eq_true rfl) (ls' := [(6, (0, (w32 (l6 + 1)))), (3, (2, 1)), (8, (0, z41)), (7, (0, (w32 ((cellf L xs (w32 (10 + (rem32 l6 51)))) + (w32 (2243 * (w32 (l6.tdiv 51)))))))), (0, (108, 0)), (1, (17, 0)), (2, (117, 0)), (4, (1, l4))]) rfl dL_law_378 ?_
                  refine g2_goto F (tgt := 232) rfl dL_law_381 ?_
                  refine g2_loc [(4, 108), (5, 17), (6, 117), (1, 2), (7, 1), (0, 0)] rfl ?_
                  exact ih v46 1 (w32 (l6 + 1)) (cells + 54) (slots + 328) (by omega) (by omega)
            · refine g2_aload_n F rfl 4 rfl dL_law_338 ?_
              refine g2_lload F 6 rfl dL_law_339 ?_
              refine g2_iconst F 0 rfl dL_law_341 ?_
              refine g2_callS F (by decide) [(17, 0), (1, l4), (0, 4)] [17, 1, 0] ml_RL_177 wt_L_areKept (fun l => ct_O ((fun l => ct_fgt ((c_L_areKept_4 l4) l) (fun q hq => by cases hq <;> decide)) l) (prs_ok rfl) (fun q hq => by cases hq <;> decide)) mi_L_areKept rfl rfl rfl (Nat.le_of_ble_eq_true rfl) (Nat.le_of_ble_eq_true rfl) (show (cells + 10) + 1862 ≤ 716531 by omega) (show (slots + 62) + 11184 ≤ 6952104 by omega) (Nat.le_of_ble_eq_true rfl) dL_law_342 (fun z48 v48 hz48 => ?_)
              refine g2_if_eq F rfl (tgt := 376) rfl dL_law_345 (fun n49 => ?_) (fun n49 => ?_)
              · refine g2_iconst F 2 rfl dL_law_376 ?_
                refine g2_istore_n F rfl rfl (Nat.le_of_ble_eq_true rfl) (ls' := [(3, (2, 0)), (8, (0, z41)), (7, (0, (w32 ((cellf L xs (w32 (10 + (rem32 l6 51)))) + (w32 (2243 * (w32 (l6.tdiv 51)))))))), (0, (108, 0)), (1, (17, 0)), (2, (117, 0)), (4, (1, l4)), (6, (0, l6))]) rfl dL_law_377 ?_
                refine g2_iinc F 7 rfl rfl (Nat.le_of_ble_eq_true rfl) (ls' := [(6, (0, (w32 (l6 + 1)))), (3, (2, 0)), (8, (0, z41)), (7, (0, (w32 ((cellf L xs (w32 (10 + (rem32 l6 51)))) + (w32 (2243 * (w32 (l6.tdiv 51)))))))), (0, (108, 0)), (1, (17, 0)), (2, (117, 0)), (4, (1, l4))]) rfl dL_law_378 ?_
                refine g2_goto F (tgt := 232) rfl dL_law_381 ?_
                refine g2_loc [(4, 108), (5, 17), (6, 117), (1, 2), (7, 1), (0, 0)] rfl ?_
                exact ih v48 0 (w32 (l6 + 1)) (cells + 1872) (slots + 11246) (by omega) (by omega)
              · refine g2_iload F 7 rfl rfl dL_law_348 ?_
                refine g2_bipush F rfl (by decide) dL_law_350 ?_
                refine g2_irem F (by decide) rfl rfl dL_law_352 ?_
                refine g2_iconst F 0 rfl dL_law_353 ?_
                refine g2_icmp_ne F rfl rfl (tgt := 372) rfl dL_law_354 (fun n50 => ?_) (fun n50 => ?_)
                · refine g2_iconst F 2 rfl dL_law_372 ?_
                  refine g2_goto F (tgt := 377) rfl dL_law_373 ?_
                  refine g2_istore_n F rfl rfl (Nat.le_of_ble_eq_true rfl) (ls' := [(3, (2, 1)), (8, (0, z41)), (7, (0, (w32 ((cellf L xs (w32 (10 + (rem32 l6 51)))) + (w32 (2243 * (w32 (l6.tdiv 51)))))))), (0, (108, 0)), (1, (17, 0)), (2, (117, 0)), (4, (1, l4)), (6, (0, l6))]) rfl dL_law_377 ?_
                  refine g2_iinc F 7 rfl rfl (Nat.le_of_ble_eq_true rfl) (ls' := [(6, (0, (w32 (l6 + 1)))), (3, (2, 1)), (8, (0, z41)), (7, (0, (w32 ((cellf L xs (w32 (10 + (rem32 l6 51)))) + (w32 (2243 * (w32 (l6.tdiv 51)))))))), (0, (108, 0)), (1, (17, 0)), (2, (117, 0)), (4, (1, l4))]) rfl dL_law_378 ?_
                  refine g2_goto F (tgt := 232) rfl dL_law_381 ?_
                  refine g2_loc [(4, 108), (5, 17), (6, 117), (1, 2), (7, 1), (0, 0)] rfl ?_
                  exact ih v48 1 (w32 (l6 + 1)) (cells + 1872) (slots + 11246) (by omega) (by omega)
                · refine g2_aload_n F rfl 4 rfl dL_law_357 ?_
                  refine g2_aload_n F rfl 5 rfl dL_law_358 ?_
                  refine g2_iload F 2 rfl rfl dL_law_359 ?_
                  refine g2_iconst F 0 rfl dL_law_361 ?_
                  refine g2_ishr F rfl rfl dL_law_362 ?_
                  refine g2_ldc F rfl cn_RL_172 dL_law_363 ?_
                  refine g2_iand F rfl rfl dL_law_365 ?_
                  refine g2_callS F (by decide) [(17, 0), (117, 0), (0, (and32 (shr32 (w32 ((cellf L xs (w32 (10 + (rem32 l6 51)))) + (w32 (2243 * (w32 (l6.tdiv 51)))))) 4) 65535))] [17, 117, 0] ml_RL_181 wt_L_isBarred (c_L_isBarred (and32 (shr32 (w32 ((cellf L xs (w32 (10 + (rem32 l6 51)))) + (w32 (2243 * (w32 (l6.tdiv 51)))))) 4) 65535)) mi_L_isBarred rfl rfl rfl (Nat.le_of_ble_eq_true rfl) (Nat.le_of_ble_eq_true rfl) (show (cells + 1872) + 44 ≤ 716531 by omega) (show (slots + 11246) + 266 ≤ 6952104 by omega) (Nat.le_of_ble_eq_true rfl) dL_law_366 (fun z51 v51 hz51 => ?_)
                  refine g2_if_eq F rfl (tgt := 376) rfl dL_law_369 (fun n52 => ?_) (fun n52 => ?_)
                  · refine g2_iconst F 2 rfl dL_law_376 ?_
                    refine g2_istore_n F rfl rfl (Nat.le_of_ble_eq_true rfl) (ls' := [(3, (2, 0)), (8, (0, z41)), (7, (0, (w32 ((cellf L xs (w32 (10 + (rem32 l6 51)))) + (w32 (2243 * (w32 (l6.tdiv 51)))))))), (0, (108, 0)), (1, (17, 0)), (2, (117, 0)), (4, (1, l4)), (6, (0, l6))]) rfl dL_law_377 ?_
                    refine g2_iinc F 7 rfl rfl (Nat.le_of_ble_eq_true rfl) (ls' := [(6, (0, (w32 (l6 + 1)))), (3, (2, 0)), (8, (0, z41)), (7, (0, (w32 ((cellf L xs (w32 (10 + (rem32 l6 51)))) + (w32 (2243 * (w32 (l6.tdiv 51)))))))), (0, (108, 0)), (1, (17, 0)), (2, (117, 0)), (4, (1, l4))]) rfl dL_law_378 ?_
                    refine g2_goto F (tgt := 232) rfl dL_law_381 ?_
                    refine g2_loc [(4, 108), (5, 17), (6, 117), (1, 2), (7, 1), (0, 0)] rfl ?_
                    exact ih v51 0 (w32 (l6 + 1)) (cells + 1916) (slots + 11512) (by omega) (by omega)
                  · refine g2_iconst F 2 rfl dL_law_372 ?_
                    refine g2_goto F (tgt := 377) rfl dL_law_373 ?_
                    refine g2_istore_n F rfl rfl (Nat.le_of_ble_eq_true rfl) (ls' := [(3, (2, 1)), (8, (0, z41)), (7, (0, (w32 ((cellf L xs (w32 (10 + (rem32 l6 51)))) + (w32 (2243 * (w32 (l6.tdiv 51)))))))), (0, (108, 0)), (1, (17, 0)), (2, (117, 0)), (4, (1, l4)), (6, (0, l6))]) rfl dL_law_377 ?_
                    refine g2_iinc F 7 rfl rfl (Nat.le_of_ble_eq_true rfl) (ls' := [(6, (0, (w32 (l6 + 1)))), (3, (2, 1)), (8, (0, z41)), (7, (0, (w32 ((cellf L xs (w32 (10 + (rem32 l6 51)))) + (w32 (2243 * (w32 (l6.tdiv 51)))))))), (0, (108, 0)), (1, (17, 0)), (2, (117, 0)), (4, (1, l4))]) rfl dL_law_378 ?_
                    refine g2_goto F (tgt := 232) rfl dL_law_381 ?_
                    refine g2_loc [(4, 108), (5, 17), (6, 117), (1, 2), (7, 1), (0, 0)] rfl ?_
                    exact ih v51 1 (w32 (l6 + 1)) (cells + 1916) (slots + 11512) (by omega) (by omega)
          · refine g2_aload_n F rfl 4 rfl dL_law_314 ?_
            refine g2_aload_n F rfl 5 rfl dL_law_315 ?_
            refine g2_iload F 2 rfl rfl dL_law_316 ?_
            refine g2_iconst F 0 rfl dL_law_318 ?_
            refine g2_ishr F rfl rfl dL_law_319 ?_
            refine g2_ldc F rfl cn_RL_172 dL_law_320 ?_
            refine g2_iand F rfl rfl dL_law_322 ?_
            refine g2_callS F (by decide) [(17, 0), (117, 0), (0, (and32 (shr32 (w32 ((cellf L xs (w32 (10 + (rem32 l6 51)))) + (w32 (2243 * (w32 (l6.tdiv 51)))))) 3) 65535))] [17, 117, 0] ml_RL_173 wt_L_areAlike (c_L_areAlike (and32 (shr32 (w32 ((cellf L xs (w32 (10 + (rem32 l6 51)))) + (w32 (2243 * (w32 (l6.tdiv 51)))))) 3) 65535)) mi_L_areAlike rfl rfl rfl (Nat.le_of_ble_eq_true rfl) (Nat.le_of_ble_eq_true rfl) (show (cells + 10) + 10614 ≤ 716531 by omega) (show (slots + 62) + 63684 ≤ 6952104 by omega) (Nat.le_of_ble_eq_true rfl) dL_law_323 (fun z53 v53 hz53 => ?_)
            refine g2_if_eq F rfl (tgt := 376) rfl dL_law_326 (fun n54 => ?_) (fun n54 => ?_)
            · refine g2_iconst F 2 rfl dL_law_376 ?_
              refine g2_istore_n F rfl rfl (Nat.le_of_ble_eq_true rfl) (ls' := [(3, (2, 0)), (8, (0, z41)), (7, (0, (w32 ((cellf L xs (w32 (10 + (rem32 l6 51)))) + (w32 (2243 * (w32 (l6.tdiv 51)))))))), (0, (108, 0)), (1, (17, 0)), (2, (117, 0)), (4, (1, l4)), (6, (0, l6))]) rfl dL_law_377 ?_
              refine g2_iinc F 7 rfl rfl (Nat.le_of_ble_eq_true rfl) (ls' := [(6, (0, (w32 (l6 + 1)))), (3, (2, 0)), (8, (0, z41)), (7, (0, (w32 ((cellf L xs (w32 (10 + (rem32 l6 51)))) + (w32 (2243 * (w32 (l6.tdiv 51)))))))), (0, (108, 0)), (1, (17, 0)), (2, (117, 0)), (4, (1, l4))]) rfl dL_law_378 ?_
              refine g2_goto F (tgt := 232) rfl dL_law_381 ?_
              refine g2_loc [(4, 108), (5, 17), (6, 117), (1, 2), (7, 1), (0, 0)] rfl ?_
              exact ih v53 0 (w32 (l6 + 1)) (cells + 10624) (slots + 63746) (by omega) (by omega)
            · refine g2_iload F 7 rfl rfl dL_law_329 ?_
              refine g2_bipush F rfl (by decide) dL_law_331 ?_
              refine g2_irem F (by decide) rfl rfl dL_law_333 ?_
              refine g2_iconst F 0 rfl dL_law_334 ?_
              refine g2_icmp_ne F rfl rfl (tgt := 348) rfl dL_law_335 (fun n55 => ?_) (fun n55 => ?_)
              · refine g2_iload F 7 rfl rfl dL_law_348 ?_
                refine g2_bipush F rfl (by decide) dL_law_350 ?_
                refine g2_irem F (by decide) rfl rfl dL_law_352 ?_
                refine g2_iconst F 0 rfl dL_law_353 ?_
                refine g2_icmp_ne F rfl rfl (tgt := 372) rfl dL_law_354 (fun n56 => ?_) (fun n56 => ?_)
                · refine g2_iconst F 2 rfl dL_law_372 ?_
                  refine g2_goto F (tgt := 377) rfl dL_law_373 ?_
                  refine g2_istore_n F rfl rfl (Nat.le_of_ble_eq_true rfl) (ls' := [(3, (2, 1)), (8, (0, z41)), (7, (0, (w32 ((cellf L xs (w32 (10 + (rem32 l6 51)))) + (w32 (2243 * (w32 (l6.tdiv 51)))))))), (0, (108, 0)), (1, (17, 0)), (2, (117, 0)), (4, (1, l4)), (6, (0, l6))]) rfl dL_law_377 ?_
                  refine g2_iinc F 7 rfl rfl (Nat.le_of_ble_eq_true rfl) (ls' := [(6, (0, (w32 (l6 + 1)))), (3, (2, 1)), (8, (0, z41)), (7, (0, (w32 ((cellf L xs (w32 (10 + (rem32 l6 51)))) + (w32 (2243 * (w32 (l6.tdiv 51)))))))), (0, (108, 0)), (1, (17, 0)), (2, (117, 0)), (4, (1, l4))]) rfl dL_law_378 ?_
                  refine g2_goto F (tgt := 232) rfl dL_law_381 ?_
                  refine g2_loc [(4, 108), (5, 17), (6, 117), (1, 2), (7, 1), (0, 0)] rfl ?_
                  exact ih v53 1 (w32 (l6 + 1)) (cells + 10624) (slots + 63746) (by omega) (by omega)
                · refine g2_aload_n F rfl 4 rfl dL_law_357 ?_
                  refine g2_aload_n F rfl 5 rfl dL_law_358 ?_
                  refine g2_iload F 2 rfl rfl dL_law_359 ?_
                  refine g2_iconst F 0 rfl dL_law_361 ?_
                  refine g2_ishr F rfl rfl dL_law_362 ?_
                  refine g2_ldc F rfl cn_RL_172 dL_law_363 ?_
                  refine g2_iand F rfl rfl dL_law_365 ?_
                  refine g2_callS F (by decide) [(17, 0), (117, 0), (0, (and32 (shr32 (w32 ((cellf L xs (w32 (10 + (rem32 l6 51)))) + (w32 (2243 * (w32 (l6.tdiv 51)))))) 4) 65535))] [17, 117, 0] ml_RL_181 wt_L_isBarred (c_L_isBarred (and32 (shr32 (w32 ((cellf L xs (w32 (10 + (rem32 l6 51)))) + (w32 (2243 * (w32 (l6.tdiv 51)))))) 4) 65535)) mi_L_isBarred rfl rfl rfl (Nat.le_of_ble_eq_true rfl) (Nat.le_of_ble_eq_true rfl) (show (cells + 10624) + 44 ≤ 716531 by omega) (show (slots + 63746) + 266 ≤ 6952104 by omega) (Nat.le_of_ble_eq_true rfl) dL_law_366 (fun z57 v57 hz57 => ?_)
                  refine g2_if_eq F rfl (tgt := 376) rfl dL_law_369 (fun n58 => ?_) (fun n58 => ?_)
                  · refine g2_iconst F 2 rfl dL_law_376 ?_
                    refine g2_istore_n F rfl rfl (Nat.le_of_ble_eq_true rfl) (ls' := [(3, (2, 0)), (8, (0, z41)), (7, (0, (w32 ((cellf L xs (w32 (10 + (rem32 l6 51)))) + (w32 (2243 * (w32 (l6.tdiv 51)))))))), (0, (108, 0)), (1, (17, 0)), (2, (117, 0)), (4, (1, l4)), (6, (0, l6))]) rfl dL_law_377 ?_
                    refine g2_iinc F 7 rfl rfl (Nat.le_of_ble_eq_true rfl) (ls' := [(6, (0, (w32 (l6 + 1)))), (3, (2, 0)), (8, (0, z41)), (7, (0, (w32 ((cellf L xs (w32 (10 + (rem32 l6 51)))) + (w32 (2243 * (w32 (l6.tdiv 51)))))))), (0, (108, 0)), (1, (17, 0)), (2, (117, 0)), (4, (1, l4))]) rfl dL_law_378 ?_
                    refine g2_goto F (tgt := 232) rfl dL_law_381 ?_
                    refine g2_loc [(4, 108), (5, 17), (6, 117), (1, 2), (7, 1), (0, 0)] rfl ?_
                    exact ih v57 0 (w32 (l6 + 1)) (cells + 10668) (slots + 64012) (by omega) (by omega)
                  · refine g2_iconst F 2 rfl dL_law_372 ?_
                    refine g2_goto F (tgt := 377) rfl dL_law_373 ?_
                    refine g2_istore_n F rfl rfl (Nat.le_of_ble_eq_true rfl) (ls' := [(3, (2, 1)), (8, (0, z41)), (7, (0, (w32 ((cellf L xs (w32 (10 + (rem32 l6 51)))) + (w32 (2243 * (w32 (l6.tdiv 51)))))))), (0, (108, 0)), (1, (17, 0)), (2, (117, 0)), (4, (1, l4)), (6, (0, l6))]) rfl dL_law_377 ?_
                    refine g2_iinc F 7 rfl rfl (Nat.le_of_ble_eq_true rfl) (ls' := [(6, (0, (w32 (l6 + 1)))), (3, (2, 1)), (8, (0, z41)), (7, (0, (w32 ((cellf L xs (w32 (10 + (rem32 l6 51)))) + (w32 (2243 * (w32 (l6.tdiv 51)))))))), (0, (108, 0)), (1, (17, 0)), (2, (117, 0)), (4, (1, l4))]) rfl dL_law_378 ?_
                    refine g2_goto F (tgt := 232) rfl dL_law_381 ?_
                    refine g2_loc [(4, 108), (5, 17), (6, 117), (1, 2), (7, 1), (0, 0)] rfl ?_
                    exact ih v57 1 (w32 (l6 + 1)) (cells + 10668) (slots + 64012) (by omega) (by omega)
              · refine g2_aload_n F rfl 4 rfl dL_law_338 ?_
                refine g2_lload F 6 rfl dL_law_339 ?_
                refine g2_iconst F 0 rfl dL_law_341 ?_
                refine g2_callS F (by decide) [(17, 0), (1, l4), (0, 4)] [17, 1, 0] ml_RL_177 wt_L_areKept (fun l => ct_O ((fun l => ct_fgt ((c_L_areKept_4 l4) l) (fun q hq => by cases hq <;> decide)) l) (prs_ok rfl) (fun q hq => by cases hq <;> decide)) mi_L_areKept rfl rfl rfl (Nat.le_of_ble_eq_true rfl) (Nat.le_of_ble_eq_true rfl) (show (cells + 10624) + 1862 ≤ 716531 by omega) (show (slots + 63746) + 11184 ≤ 6952104 by omega) (Nat.le_of_ble_eq_true rfl) dL_law_342 (fun z59 v59 hz59 => ?_)
                refine g2_if_eq F rfl (tgt := 376) rfl dL_law_345 (fun n60 => ?_) (fun n60 => ?_)
                · refine g2_iconst F 2 rfl dL_law_376 ?_
                  refine g2_istore_n F rfl rfl (Nat.le_of_ble_eq_true rfl) (ls' := [(3, (2, 0)), (8, (0, z41)), (7, (0, (w32 ((cellf L xs (w32 (10 + (rem32 l6 51)))) + (w32 (2243 * (w32 (l6.tdiv 51)))))))), (0, (108, 0)), (1, (17, 0)), (2, (117, 0)), (4, (1, l4)), (6, (0, l6))]) rfl dL_law_377 ?_
                  refine g2_iinc F 7 rfl rfl (Nat.le_of_ble_eq_true rfl) (ls' := [(6, (0, (w32 (l6 + 1)))), (3, (2, 0)), (8, (0, z41)), (7, (0, (w32 ((cellf L xs (w32 (10 + (rem32 l6 51)))) + (w32 (2243 * (w32 (l6.tdiv 51)))))))), (0, (108, 0)), (1, (17, 0)), (2, (117, 0)), (4, (1, l4))]) rfl dL_law_378 ?_
                  refine g2_goto F (tgt := 232) rfl dL_law_381 ?_
                  refine g2_loc [(4, 108), (5, 17), (6, 117), (1, 2), (7, 1), (0, 0)] rfl ?_
                  exact ih v59 0 (w32 (l6 + 1)) (cells + 12486) (slots + 74930) (by omega) (by omega)
                · refine g2_iload F 7 rfl rfl dL_law_348 ?_
                  refine g2_bipush F rfl (by decide) dL_law_350 ?_
                  refine g2_irem F (by decide) rfl rfl dL_law_352 ?_
                  refine g2_iconst F 0 rfl dL_law_353 ?_
                  refine g2_icmp_ne F rfl rfl (tgt := 372) rfl dL_law_354 (fun n61 => ?_) (fun n61 => ?_)
                  · refine g2_iconst F 2 rfl dL_law_372 ?_
                    refine g2_goto F (tgt := 377) rfl dL_law_373 ?_
                    refine g2_istore_n F rfl rfl (Nat.le_of_ble_eq_true rfl) (ls' := [(3, (2, 1)), (8, (0, z41)), (7, (0, (w32 ((cellf L xs (w32 (10 + (rem32 l6 51)))) + (w32 (2243 * (w32 (l6.tdiv 51)))))))), (0, (108, 0)), (1, (17, 0)), (2, (117, 0)), (4, (1, l4)), (6, (0, l6))]) rfl dL_law_377 ?_
                    refine g2_iinc F 7 rfl rfl (Nat.le_of_ble_eq_true rfl) (ls' := [(6, (0, (w32 (l6 + 1)))), (3, (2, 1)), (8, (0, z41)), (7, (0, (w32 ((cellf L xs (w32 (10 + (rem32 l6 51)))) + (w32 (2243 * (w32 (l6.tdiv 51)))))))), (0, (108, 0)), (1, (17, 0)), (2, (117, 0)), (4, (1, l4))]) rfl dL_law_378 ?_
                    refine g2_goto F (tgt := 232) rfl dL_law_381 ?_
                    refine g2_loc [(4, 108), (5, 17), (6, 117), (1, 2), (7, 1), (0, 0)] rfl ?_
                    exact ih v59 1 (w32 (l6 + 1)) (cells + 12486) (slots + 74930) (by omega) (by omega)
                  · refine g2_aload_n F rfl 4 rfl dL_law_357 ?_
                    refine g2_aload_n F rfl 5 rfl dL_law_358 ?_
                    refine g2_iload F 2 rfl rfl dL_law_359 ?_
                    refine g2_iconst F 0 rfl dL_law_361 ?_
                    refine g2_ishr F rfl rfl dL_law_362 ?_
                    refine g2_ldc F rfl cn_RL_172 dL_law_363 ?_
                    refine g2_iand F rfl rfl dL_law_365 ?_
                    refine g2_callS F (by decide) [(17, 0), (117, 0), (0, (and32 (shr32 (w32 ((cellf L xs (w32 (10 + (rem32 l6 51)))) + (w32 (2243 * (w32 (l6.tdiv 51)))))) 4) 65535))] [17, 117, 0] ml_RL_181 wt_L_isBarred (c_L_isBarred (and32 (shr32 (w32 ((cellf L xs (w32 (10 + (rem32 l6 51)))) + (w32 (2243 * (w32 (l6.tdiv 51)))))) 4) 65535)) mi_L_isBarred rfl rfl rfl (Nat.le_of_ble_eq_true rfl) (Nat.le_of_ble_eq_true rfl) (show (cells + 12486) + 44 ≤ 716531 by omega) (show (slots + 74930) + 266 ≤ 6952104 by omega) (Nat.le_of_ble_eq_true rfl) dL_law_366 (fun z62 v62 hz62 => ?_)
                    refine g2_if_eq F rfl (tgt := 376) rfl dL_law_369 (fun n63 => ?_) (fun n63 => ?_)
                    · refine g2_iconst F 2 rfl dL_law_376 ?_
                      refine g2_istore_n F rfl rfl (Nat.le_of_ble_eq_true rfl) (ls' := [(3, (2, 0)), (8, (0, z41)), (7, (0, (w32 ((cellf L xs (w32 (10 + (rem32 l6 51)))) + (w32 (2243 * (w32 (l6.tdiv 51)))))))), (0, (108, 0)), (1, (17, 0)), (2, (117, 0)), (4, (1, l4)), (6, (0, l6))]) rfl dL_law_377 ?_
                      refine g2_iinc F 7 rfl rfl (Nat.le_of_ble_eq_true rfl) (ls' := [(6, (0, (w32 (l6 + 1)))), (3, (2, 0)), (8, (0, z41)), (7, (0, (w32 ((cellf L xs (w32 (10 + (rem32 l6 51)))) + (w32 (2243 * (w32 (l6.tdiv 51)))))))), (0, (108, 0)), (1, (17, 0)), (2, (117, 0)), (4, (1, l4))]) rfl dL_law_378 ?_
                      refine g2_goto F (tgt := 232) rfl dL_law_381 ?_
                      refine g2_loc [(4, 108), (5, 17), (6, 117), (1, 2), (7, 1), (0, 0)] rfl ?_
                      exact ih v62 0 (w32 (l6 + 1)) (cells + 12530) (slots + 75196) (by omega) (by omega)
                    · refine g2_iconst F 2 rfl dL_law_372 ?_
                      refine g2_goto F (tgt := 377) rfl dL_law_373 ?_
                      refine g2_istore_n F rfl rfl (Nat.le_of_ble_eq_true rfl) (ls' := [(3, (2, 1)), (8, (0, z41)), (7, (0, (w32 ((cellf L xs (w32 (10 + (rem32 l6 51)))) + (w32 (2243 * (w32 (l6.tdiv 51)))))))), (0, (108, 0)), (1, (17, 0)), (2, (117, 0)), (4, (1, l4)), (6, (0, l6))]) rfl dL_law_377 ?_
                      refine g2_iinc F 7 rfl rfl (Nat.le_of_ble_eq_true rfl) (ls' := [(6, (0, (w32 (l6 + 1)))), (3, (2, 1)), (8, (0, z41)), (7, (0, (w32 ((cellf L xs (w32 (10 + (rem32 l6 51)))) + (w32 (2243 * (w32 (l6.tdiv 51)))))))), (0, (108, 0)), (1, (17, 0)), (2, (117, 0)), (4, (1, l4))]) rfl dL_law_378 ?_
                      refine g2_goto F (tgt := 232) rfl dL_law_381 ?_
                      refine g2_loc [(4, 108), (5, 17), (6, 117), (1, 2), (7, 1), (0, 0)] rfl ?_
                      exact ih v62 1 (w32 (l6 + 1)) (cells + 12530) (slots + 75196) (by omega) (by omega)
        · refine g2_aload_n F rfl 4 rfl dL_law_283 ?_
          refine g2_iload F 1 rfl rfl dL_law_284 ?_
          refine g2_callS F (by decide) [(117, 0), (0, (w32 ((cellf L xs (w32 (10 + (rem32 l6 51)))) + (w32 (2243 * (w32 (l6.tdiv 51)))))))] [117, 0] ml_RL_169 wt_L_act (fun l => ct_P ((c_L_act (w32 ((cellf L xs (w32 (10 + (rem32 l6 51)))) + (w32 (2243 * (w32 (l6.tdiv 51))))))) l) (prs_ok rfl) (fun q hq => by cases hq <;> decide)) mi_L_act rfl rfl rfl (Nat.le_of_ble_eq_true rfl) (Nat.le_of_ble_eq_true rfl) (show (cells + 10) + 10 ≤ 716531 by omega) (show (slots + 62) + 62 ≤ 6952104 by omega) (Nat.le_of_ble_eq_true rfl) dL_law_286 (fun z64 v64 hz64 => ?_)
          refine g2_iload F 0 rfl rfl dL_law_289 ?_
          refine g2_icmp_ne F rfl rfl (tgt := 298) rfl dL_law_291 (fun n65 => ?_) (fun n65 => ?_)
          · refine g2_iconst F 2 rfl dL_law_298 ?_
            refine g2_istore_n F rfl rfl (Nat.le_of_ble_eq_true rfl) (ls' := [(3, (2, 0)), (8, (0, z41)), (7, (0, (w32 ((cellf L xs (w32 (10 + (rem32 l6 51)))) + (w32 (2243 * (w32 (l6.tdiv 51)))))))), (0, (108, 0)), (1, (17, 0)), (2, (117, 0)), (4, (1, l4)), (6, (0, l6))]) rfl dL_law_299 ?_
            refine g2_iload_n F rfl 0 rfl rfl dL_law_300 ?_
            refine g2_if_eq_t F rfl (by decide) (tgt := 376) rfl dL_law_301 ?_
            refine g2_iconst F 2 rfl dL_law_376 ?_
            refine g2_istore_n F rfl rfl (Nat.le_of_ble_eq_true rfl) (ls' := [(3, (2, 0)), (8, (0, z41)), (7, (0, (w32 ((cellf L xs (w32 (10 + (rem32 l6 51)))) + (w32 (2243 * (w32 (l6.tdiv 51)))))))), (0, (108, 0)), (1, (17, 0)), (2, (117, 0)), (4, (1, l4)), (6, (0, l6))]) rfl dL_law_377 ?_
            refine g2_iinc F 7 rfl rfl (Nat.le_of_ble_eq_true rfl) (ls' := [(6, (0, (w32 (l6 + 1)))), (3, (2, 0)), (8, (0, z41)), (7, (0, (w32 ((cellf L xs (w32 (10 + (rem32 l6 51)))) + (w32 (2243 * (w32 (l6.tdiv 51)))))))), (0, (108, 0)), (1, (17, 0)), (2, (117, 0)), (4, (1, l4))]) rfl dL_law_378 ?_
            refine g2_goto F (tgt := 232) rfl dL_law_381 ?_
            refine g2_loc [(4, 108), (5, 17), (6, 117), (1, 2), (7, 1), (0, 0)] rfl ?_
            exact ih v64 0 (w32 (l6 + 1)) (cells + 20) (slots + 124) (by omega) (by omega)
          · refine g2_iconst F 2 rfl dL_law_294 ?_
            refine g2_goto F (tgt := 299) rfl dL_law_295 ?_
            refine g2_istore_n F rfl rfl (Nat.le_of_ble_eq_true rfl) (ls' := [(3, (2, 1)), (8, (0, z41)), (7, (0, (w32 ((cellf L xs (w32 (10 + (rem32 l6 51)))) + (w32 (2243 * (w32 (l6.tdiv 51)))))))), (0, (108, 0)), (1, (17, 0)), (2, (117, 0)), (4, (1, l4)), (6, (0, l6))]) rfl dL_law_299 ?_
            refine g2_iload_n F rfl 0 rfl rfl dL_law_300 ?_
            refine g2_if_eq_f F rfl (by decide) (tgt := 376) rfl dL_law_301 ?_
            refine g2_iload F 7 rfl rfl dL_law_304 ?_
            refine g2_bipush F rfl (by decide) dL_law_306 ?_
            refine g2_irem F (by decide) rfl rfl dL_law_308 ?_
            refine g2_bipush F rfl (by decide) dL_law_309 ?_
            refine g2_icmp_ne F rfl rfl (tgt := 329) rfl dL_law_311 (fun n66 => ?_) (fun n66 => ?_)
            · refine g2_iload F 7 rfl rfl dL_law_329 ?_
              refine g2_bipush F rfl (by decide) dL_law_331 ?_
              refine g2_irem F (by decide) rfl rfl dL_law_333 ?_
              refine g2_iconst F 0 rfl dL_law_334 ?_
              refine g2_icmp_ne F rfl rfl (tgt := 348) rfl dL_law_335 (fun n67 => ?_) (fun n67 => ?_)
              · refine g2_iload F 7 rfl rfl dL_law_348 ?_
                refine g2_bipush F rfl (by decide) dL_law_350 ?_
                refine g2_irem F (by decide) rfl rfl dL_law_352 ?_
                refine g2_iconst F 0 rfl dL_law_353 ?_
                refine g2_icmp_ne F rfl rfl (tgt := 372) rfl dL_law_354 (fun n68 => ?_) (fun n68 => ?_)
                · refine g2_iconst F 2 rfl dL_law_372 ?_
                  refine g2_goto F (tgt := 377) rfl dL_law_373 ?_
                  refine g2_istore_n F rfl rfl (Nat.le_of_ble_eq_true rfl) (ls' := [(3, (2, 1)), (8, (0, z41)), (7, (0, (w32 ((cellf L xs (w32 (10 + (rem32 l6 51)))) + (w32 (2243 * (w32 (l6.tdiv 51)))))))), (0, (108, 0)), (1, (17, 0)), (2, (117, 0)), (4, (1, l4)), (6, (0, l6))]) rfl dL_law_377 ?_
                  refine g2_iinc F 7 rfl rfl (Nat.le_of_ble_eq_true rfl) (ls' := [(6, (0, (w32 (l6 + 1)))), (3, (2, 1)), (8, (0, z41)), (7, (0, (w32 ((cellf L xs (w32 (10 + (rem32 l6 51)))) + (w32 (2243 * (w32 (l6.tdiv 51)))))))), (0, (108, 0)), (1, (17, 0)), (2, (117, 0)), (4, (1, l4))]) rfl dL_law_378 ?_
                  refine g2_goto F (tgt := 232) rfl dL_law_381 ?_
                  refine g2_loc [(4, 108), (5, 17), (6, 117), (1, 2), (7, 1), (0, 0)] rfl ?_
                  exact ih v64 1 (w32 (l6 + 1)) (cells + 20) (slots + 124) (by omega) (by omega)
                · refine g2_aload_n F rfl 4 rfl dL_law_357 ?_
                  refine g2_aload_n F rfl 5 rfl dL_law_358 ?_
                  refine g2_iload F 2 rfl rfl dL_law_359 ?_
                  refine g2_iconst F 0 rfl dL_law_361 ?_
                  refine g2_ishr F rfl rfl dL_law_362 ?_
                  refine g2_ldc F rfl cn_RL_172 dL_law_363 ?_
                  refine g2_iand F rfl rfl dL_law_365 ?_
                  refine g2_callS F (by decide) [(17, 0), (117, 0), (0, (and32 (shr32 (w32 ((cellf L xs (w32 (10 + (rem32 l6 51)))) + (w32 (2243 * (w32 (l6.tdiv 51)))))) 4) 65535))] [17, 117, 0] ml_RL_181 wt_L_isBarred (c_L_isBarred (and32 (shr32 (w32 ((cellf L xs (w32 (10 + (rem32 l6 51)))) + (w32 (2243 * (w32 (l6.tdiv 51)))))) 4) 65535)) mi_L_isBarred rfl rfl rfl (Nat.le_of_ble_eq_true rfl) (Nat.le_of_ble_eq_true rfl) (show (cells + 20) + 44 ≤ 716531 by omega) (show (slots + 124) + 266 ≤ 6952104 by omega) (Nat.le_of_ble_eq_true rfl) dL_law_366 (fun z69 v69 hz69 => ?_)
                  refine g2_if_eq F rfl (tgt := 376) rfl dL_law_369 (fun n70 => ?_) (fun n70 => ?_)
                  · refine g2_iconst F 2 rfl dL_law_376 ?_
                    refine g2_istore_n F rfl rfl (Nat.le_of_ble_eq_true rfl) (ls' := [(3, (2, 0)), (8, (0, z41)), (7, (0, (w32 ((cellf L xs (w32 (10 + (rem32 l6 51)))) + (w32 (2243 * (w32 (l6.tdiv 51)))))))), (0, (108, 0)), (1, (17, 0)), (2, (117, 0)), (4, (1, l4)), (6, (0, l6))]) rfl dL_law_377 ?_
                    refine g2_iinc F 7 rfl rfl (Nat.le_of_ble_eq_true rfl) (ls' := [(6, (0, (w32 (l6 + 1)))), (3, (2, 0)), (8, (0, z41)), (7, (0, (w32 ((cellf L xs (w32 (10 + (rem32 l6 51)))) + (w32 (2243 * (w32 (l6.tdiv 51)))))))), (0, (108, 0)), (1, (17, 0)), (2, (117, 0)), (4, (1, l4))]) rfl dL_law_378 ?_
                    refine g2_goto F (tgt := 232) rfl dL_law_381 ?_
                    refine g2_loc [(4, 108), (5, 17), (6, 117), (1, 2), (7, 1), (0, 0)] rfl ?_
                    exact ih v69 0 (w32 (l6 + 1)) (cells + 64) (slots + 390) (by omega) (by omega)
                  · refine g2_iconst F 2 rfl dL_law_372 ?_
                    refine g2_goto F (tgt := 377) rfl dL_law_373 ?_
                    refine g2_istore_n F rfl rfl (Nat.le_of_ble_eq_true rfl) (ls' := [(3, (2, 1)), (8, (0, z41)), (7, (0, (w32 ((cellf L xs (w32 (10 + (rem32 l6 51)))) + (w32 (2243 * (w32 (l6.tdiv 51)))))))), (0, (108, 0)), (1, (17, 0)), (2, (117, 0)), (4, (1, l4)), (6, (0, l6))]) rfl dL_law_377 ?_
                    refine g2_iinc F 7 rfl rfl (Nat.le_of_ble_eq_true rfl) (ls' := [(6, (0, (w32 (l6 + 1)))), (3, (2, 1)), (8, (0, z41)), (7, (0, (w32 ((cellf L xs (w32 (10 + (rem32 l6 51)))) + (w32 (2243 * (w32 (l6.tdiv 51)))))))), (0, (108, 0)), (1, (17, 0)), (2, (117, 0)), (4, (1, l4))]) rfl dL_law_378 ?_
                    refine g2_goto F (tgt := 232) rfl dL_law_381 ?_
                    refine g2_loc [(4, 108), (5, 17), (6, 117), (1, 2), (7, 1), (0, 0)] rfl ?_
                    exact ih v69 1 (w32 (l6 + 1)) (cells + 64) (slots + 390) (by omega) (by omega)
              · refine g2_aload_n F rfl 4 rfl dL_law_338 ?_
                refine g2_lload F 6 rfl dL_law_339 ?_
                refine g2_iconst F 0 rfl dL_law_341 ?_
                refine g2_callS F (by decide) [(17, 0), (1, l4), (0, 4)] [17, 1, 0] ml_RL_177 wt_L_areKept (fun l => ct_O ((fun l => ct_fgt ((c_L_areKept_4 l4) l) (fun q hq => by cases hq <;> decide)) l) (prs_ok rfl) (fun q hq => by cases hq <;> decide)) mi_L_areKept rfl rfl rfl (Nat.le_of_ble_eq_true rfl) (Nat.le_of_ble_eq_true rfl) (show (cells + 20) + 1862 ≤ 716531 by omega) (show (slots + 124) + 11184 ≤ 6952104 by omega) (Nat.le_of_ble_eq_true rfl) dL_law_342 (fun z71 v71 hz71 => ?_)
                refine g2_if_eq F rfl (tgt := 376) rfl dL_law_345 (fun n72 => ?_) (fun n72 => ?_)
                · refine g2_iconst F 2 rfl dL_law_376 ?_
                  refine g2_istore_n F rfl rfl (Nat.le_of_ble_eq_true rfl) (ls' := [(3, (2, 0)), (8, (0, z41)), (7, (0, (w32 ((cellf L xs (w32 (10 + (rem32 l6 51)))) + (w32 (2243 * (w32 (l6.tdiv 51)))))))), (0, (108, 0)), (1, (17, 0)), (2, (117, 0)), (4, (1, l4)), (6, (0, l6))]) rfl dL_law_377 ?_
                  refine g2_iinc F 7 rfl rfl (Nat.le_of_ble_eq_true rfl) (ls' := [(6, (0, (w32 (l6 + 1)))), (3, (2, 0)), (8, (0, z41)), (7, (0, (w32 ((cellf L xs (w32 (10 + (rem32 l6 51)))) + (w32 (2243 * (w32 (l6.tdiv 51)))))))), (0, (108, 0)), (1, (17, 0)), (2, (117, 0)), (4, (1, l4))]) rfl dL_law_378 ?_
                  refine g2_goto F (tgt := 232) rfl dL_law_381 ?_
                  refine g2_loc [(4, 108), (5, 17), (6, 117), (1, 2), (7, 1), (0, 0)] rfl ?_
                  exact ih v71 0 (w32 (l6 + 1)) (cells + 1882) (slots + 11308) (by omega) (by omega)
                · refine g2_iload F 7 rfl rfl dL_law_348 ?_
                  refine g2_bipush F rfl (by decide) dL_law_350 ?_
                  refine g2_irem F (by decide) rfl rfl dL_law_352 ?_
                  refine g2_iconst F 0 rfl dL_law_353 ?_
                  refine g2_icmp_ne F rfl rfl (tgt := 372) rfl dL_law_354 (fun n73 => ?_) (fun n73 => ?_)
                  · refine g2_iconst F 2 rfl dL_law_372 ?_
                    refine g2_goto F (tgt := 377) rfl dL_law_373 ?_
                    refine g2_istore_n F rfl rfl (Nat.le_of_ble_eq_true rfl) (ls' := [(3, (2, 1)), (8, (0, z41)), (7, (0, (w32 ((cellf L xs (w32 (10 + (rem32 l6 51)))) + (w32 (2243 * (w32 (l6.tdiv 51)))))))), (0, (108, 0)), (1, (17, 0)), (2, (117, 0)), (4, (1, l4)), (6, (0, l6))]) rfl dL_law_377 ?_
                    refine g2_iinc F 7 rfl rfl (Nat.le_of_ble_eq_true rfl) (ls' := [(6, (0, (w32 (l6 + 1)))), (3, (2, 1)), (8, (0, z41)), (7, (0, (w32 ((cellf L xs (w32 (10 + (rem32 l6 51)))) + (w32 (2243 * (w32 (l6.tdiv 51)))))))), (0, (108, 0)), (1, (17, 0)), (2, (117, 0)), (4, (1, l4))]) rfl dL_law_378 ?_
                    refine g2_goto F (tgt := 232) rfl dL_law_381 ?_
                    refine g2_loc [(4, 108), (5, 17), (6, 117), (1, 2), (7, 1), (0, 0)] rfl ?_
                    exact ih v71 1 (w32 (l6 + 1)) (cells + 1882) (slots + 11308) (by omega) (by omega)
                  · refine g2_aload_n F rfl 4 rfl dL_law_357 ?_
                    refine g2_aload_n F rfl 5 rfl dL_law_358 ?_
                    refine g2_iload F 2 rfl rfl dL_law_359 ?_
                    refine g2_iconst F 0 rfl dL_law_361 ?_
                    refine g2_ishr F rfl rfl dL_law_362 ?_
                    refine g2_ldc F rfl cn_RL_172 dL_law_363 ?_
                    refine g2_iand F rfl rfl dL_law_365 ?_
                    refine g2_callS F (by decide) [(17, 0), (117, 0), (0, (and32 (shr32 (w32 ((cellf L xs (w32 (10 + (rem32 l6 51)))) + (w32 (2243 * (w32 (l6.tdiv 51)))))) 4) 65535))] [17, 117, 0] ml_RL_181 wt_L_isBarred (c_L_isBarred (and32 (shr32 (w32 ((cellf L xs (w32 (10 + (rem32 l6 51)))) + (w32 (2243 * (w32 (l6.tdiv 51)))))) 4) 65535)) mi_L_isBarred rfl rfl rfl (Nat.le_of_ble_eq_true rfl) (Nat.le_of_ble_eq_true rfl) (show (cells + 1882) + 44 ≤ 716531 by omega) (show (slots + 11308) + 266 ≤ 6952104 by omega) (Nat.le_of_ble_eq_true rfl) dL_law_366 (fun z74 v74 hz74 => ?_)
                    refine g2_if_eq F rfl (tgt := 376) rfl dL_law_369 (fun n75 => ?_) (fun n75 => ?_)
                    · refine g2_iconst F 2 rfl dL_law_376 ?_
                      refine g2_istore_n F rfl rfl (Nat.le_of_ble_eq_true rfl) (ls' := [(3, (2, 0)), (8, (0, z41)), (7, (0, (w32 ((cellf L xs (w32 (10 + (rem32 l6 51)))) + (w32 (2243 * (w32 (l6.tdiv 51)))))))), (0, (108, 0)), (1, (17, 0)), (2, (117, 0)), (4, (1, l4)), (6, (0, l6))]) rfl dL_law_377 ?_
                      refine g2_iinc F 7 rfl rfl (Nat.le_of_ble_eq_true rfl) (ls' := [(6, (0, (w32 (l6 + 1)))), (3, (2, 0)), (8, (0, z41)), (7, (0, (w32 ((cellf L xs (w32 (10 + (rem32 l6 51)))) + (w32 (2243 * (w32 (l6.tdiv 51)))))))), (0, (108, 0)), (1, (17, 0)), (2, (117, 0)), (4, (1, l4))]) rfl dL_law_378 ?_
                      refine g2_goto F (tgt := 232) rfl dL_law_381 ?_
                      refine g2_loc [(4, 108), (5, 17), (6, 117), (1, 2), (7, 1), (0, 0)] rfl ?_
                      exact ih v74 0 (w32 (l6 + 1)) (cells + 1926) (slots + 11574) (by omega) (by omega)
                    · refine g2_iconst F 2 rfl dL_law_372 ?_
                      refine g2_goto F (tgt := 377) rfl dL_law_373 ?_
                      refine g2_istore_n F rfl rfl (Nat.le_of_ble_eq_true rfl) (ls' := [(3, (2, 1)), (8, (0, z41)), (7, (0, (w32 ((cellf L xs (w32 (10 + (rem32 l6 51)))) + (w32 (2243 * (w32 (l6.tdiv 51)))))))), (0, (108, 0)), (1, (17, 0)), (2, (117, 0)), (4, (1, l4)), (6, (0, l6))]) rfl dL_law_377 ?_
                      refine g2_iinc F 7 rfl rfl (Nat.le_of_ble_eq_true rfl) (ls' := [(6, (0, (w32 (l6 + 1)))), (3, (2, 1)), (8, (0, z41)), (7, (0, (w32 ((cellf L xs (w32 (10 + (rem32 l6 51)))) + (w32 (2243 * (w32 (l6.tdiv 51)))))))), (0, (108, 0)), (1, (17, 0)), (2, (117, 0)), (4, (1, l4))]) rfl dL_law_378 ?_
                      refine g2_goto F (tgt := 232) rfl dL_law_381 ?_
                      refine g2_loc [(4, 108), (5, 17), (6, 117), (1, 2), (7, 1), (0, 0)] rfl ?_
                      exact ih v74 1 (w32 (l6 + 1)) (cells + 1926) (slots + 11574) (by omega) (by omega)
            · refine g2_aload_n F rfl 4 rfl dL_law_314 ?_
              refine g2_aload_n F rfl 5 rfl dL_law_315 ?_
              refine g2_iload F 2 rfl rfl dL_law_316 ?_
              refine g2_iconst F 0 rfl dL_law_318 ?_
              refine g2_ishr F rfl rfl dL_law_319 ?_
              refine g2_ldc F rfl cn_RL_172 dL_law_320 ?_
              refine g2_iand F rfl rfl dL_law_322 ?_
              refine g2_callS F (by decide) [(17, 0), (117, 0), (0, (and32 (shr32 (w32 ((cellf L xs (w32 (10 + (rem32 l6 51)))) + (w32 (2243 * (w32 (l6.tdiv 51)))))) 3) 65535))] [17, 117, 0] ml_RL_173 wt_L_areAlike (c_L_areAlike (and32 (shr32 (w32 ((cellf L xs (w32 (10 + (rem32 l6 51)))) + (w32 (2243 * (w32 (l6.tdiv 51)))))) 3) 65535)) mi_L_areAlike rfl rfl rfl (Nat.le_of_ble_eq_true rfl) (Nat.le_of_ble_eq_true rfl) (show (cells + 20) + 10614 ≤ 716531 by omega) (show (slots + 124) + 63684 ≤ 6952104 by omega) (Nat.le_of_ble_eq_true rfl) dL_law_323 (fun z76 v76 hz76 => ?_)
              refine g2_if_eq F rfl (tgt := 376) rfl dL_law_326 (fun n77 => ?_) (fun n77 => ?_)
              · refine g2_iconst F 2 rfl dL_law_376 ?_
                refine g2_istore_n F rfl rfl (Nat.le_of_ble_eq_true rfl) (ls' := [(3, (2, 0)), (8, (0, z41)), (7, (0, (w32 ((cellf L xs (w32 (10 + (rem32 l6 51)))) + (w32 (2243 * (w32 (l6.tdiv 51)))))))), (0, (108, 0)), (1, (17, 0)), (2, (117, 0)), (4, (1, l4)), (6, (0, l6))]) rfl dL_law_377 ?_
                refine g2_iinc F 7 rfl rfl (Nat.le_of_ble_eq_true rfl) (ls' := [(6, (0, (w32 (l6 + 1)))), (3, (2, 0)), (8, (0, z41)), (7, (0, (w32 ((cellf L xs (w32 (10 + (rem32 l6 51)))) + (w32 (2243 * (w32 (l6.tdiv 51)))))))), (0, (108, 0)), (1, (17, 0)), (2, (117, 0)), (4, (1, l4))]) rfl dL_law_378 ?_
                refine g2_goto F (tgt := 232) rfl dL_law_381 ?_
                refine g2_loc [(4, 108), (5, 17), (6, 117), (1, 2), (7, 1), (0, 0)] rfl ?_
                exact ih v76 0 (w32 (l6 + 1)) (cells + 10634) (slots + 63808) (by omega) (by omega)
              · refine g2_iload F 7 rfl rfl dL_law_329 ?_
                refine g2_bipush F rfl (by decide) dL_law_331 ?_
                refine g2_irem F (by decide) rfl rfl dL_law_333 ?_
                refine g2_iconst F 0 rfl dL_law_334 ?_
                refine g2_icmp_ne F rfl rfl (tgt := 348) rfl dL_law_335 (fun n78 => ?_) (fun n78 => ?_)
                · refine g2_iload F 7 rfl rfl dL_law_348 ?_
                  refine g2_bipush F rfl (by decide) dL_law_350 ?_
                  refine g2_irem F (by decide) rfl rfl dL_law_352 ?_
                  refine g2_iconst F 0 rfl dL_law_353 ?_
                  refine g2_icmp_ne F rfl rfl (tgt := 372) rfl dL_law_354 (fun n79 => ?_) (fun n79 => ?_)
                  · refine g2_iconst F 2 rfl dL_law_372 ?_
                    refine g2_goto F (tgt := 377) rfl dL_law_373 ?_
                    refine g2_istore_n F rfl rfl (Nat.le_of_ble_eq_true rfl) (ls' := [(3, (2, 1)), (8, (0, z41)), (7, (0, (w32 ((cellf L xs (w32 (10 + (rem32 l6 51)))) + (w32 (2243 * (w32 (l6.tdiv 51)))))))), (0, (108, 0)), (1, (17, 0)), (2, (117, 0)), (4, (1, l4)), (6, (0, l6))]) rfl dL_law_377 ?_
                    refine g2_iinc F 7 rfl rfl (Nat.le_of_ble_eq_true rfl) (ls' := [(6, (0, (w32 (l6 + 1)))), (3, (2, 1)), (8, (0, z41)), (7, (0, (w32 ((cellf L xs (w32 (10 + (rem32 l6 51)))) + (w32 (2243 * (w32 (l6.tdiv 51)))))))), (0, (108, 0)), (1, (17, 0)), (2, (117, 0)), (4, (1, l4))]) rfl dL_law_378 ?_
                    refine g2_goto F (tgt := 232) rfl dL_law_381 ?_
                    refine g2_loc [(4, 108), (5, 17), (6, 117), (1, 2), (7, 1), (0, 0)] rfl ?_
                    exact ih v76 1 (w32 (l6 + 1)) (cells + 10634) (slots + 63808) (by omega) (by omega)
                  · refine g2_aload_n F rfl 4 rfl dL_law_357 ?_
                    refine g2_aload_n F rfl 5 rfl dL_law_358 ?_
                    refine g2_iload F 2 rfl rfl dL_law_359 ?_
                    refine g2_iconst F 0 rfl dL_law_361 ?_
                    refine g2_ishr F rfl rfl dL_law_362 ?_
                    refine g2_ldc F rfl cn_RL_172 dL_law_363 ?_
                    refine g2_iand F rfl rfl dL_law_365 ?_
                    refine g2_callS F (by decide) [(17, 0), (117, 0), (0, (and32 (shr32 (w32 ((cellf L xs (w32 (10 + (rem32 l6 51)))) + (w32 (2243 * (w32 (l6.tdiv 51)))))) 4) 65535))] [17, 117, 0] ml_RL_181 wt_L_isBarred (c_L_isBarred (and32 (shr32 (w32 ((cellf L xs (w32 (10 + (rem32 l6 51)))) + (w32 (2243 * (w32 (l6.tdiv 51)))))) 4) 65535)) mi_L_isBarred rfl rfl rfl (Nat.le_of_ble_eq_true rfl) (Nat.le_of_ble_eq_true rfl) (show (cells + 10634) + 44 ≤ 716531 by omega) (show (slots + 63808) + 266 ≤ 6952104 by omega) (Nat.le_of_ble_eq_true rfl) dL_law_366 (fun z80 v80 hz80 => ?_)
                    refine g2_if_eq F rfl (tgt := 376) rfl dL_law_369 (fun n81 => ?_) (fun n81 => ?_)
                    · refine g2_iconst F 2 rfl dL_law_376 ?_
                      refine g2_istore_n F rfl rfl (Nat.le_of_ble_eq_true rfl) (ls' := [(3, (2, 0)), (8, (0, z41)), (7, (0, (w32 ((cellf L xs (w32 (10 + (rem32 l6 51)))) + (w32 (2243 * (w32 (l6.tdiv 51)))))))), (0, (108, 0)), (1, (17, 0)), (2, (117, 0)), (4, (1, l4)), (6, (0, l6))]) rfl dL_law_377 ?_
                      refine g2_iinc F 7 rfl rfl (Nat.le_of_ble_eq_true rfl) (ls' := [(6, (0, (w32 (l6 + 1)))), (3, (2, 0)), (8, (0, z41)), (7, (0, (w32 ((cellf L xs (w32 (10 + (rem32 l6 51)))) + (w32 (2243 * (w32 (l6.tdiv 51)))))))), (0, (108, 0)), (1, (17, 0)), (2, (117, 0)), (4, (1, l4))]) rfl dL_law_378 ?_
                      refine g2_goto F (tgt := 232) rfl dL_law_381 ?_
                      refine g2_loc [(4, 108), (5, 17), (6, 117), (1, 2), (7, 1), (0, 0)] rfl ?_
                      exact ih v80 0 (w32 (l6 + 1)) (cells + 10678) (slots + 64074) (by omega) (by omega)
                    · refine g2_iconst F 2 rfl dL_law_372 ?_
                      refine g2_goto F (tgt := 377) rfl dL_law_373 ?_
                      refine g2_istore_n F rfl rfl (Nat.le_of_ble_eq_true rfl) (ls' := [(3, (2, 1)), (8, (0, z41)), (7, (0, (w32 ((cellf L xs (w32 (10 + (rem32 l6 51)))) + (w32 (2243 * (w32 (l6.tdiv 51)))))))), (0, (108, 0)), (1, (17, 0)), (2, (117, 0)), (4, (1, l4)), (6, (0, l6))]) rfl dL_law_377 ?_
                      refine g2_iinc F 7 rfl rfl (Nat.le_of_ble_eq_true rfl) (ls' := [(6, (0, (w32 (l6 + 1)))), (3, (2, 1)), (8, (0, z41)), (7, (0, (w32 ((cellf L xs (w32 (10 + (rem32 l6 51)))) + (w32 (2243 * (w32 (l6.tdiv 51)))))))), (0, (108, 0)), (1, (17, 0)), (2, (117, 0)), (4, (1, l4))]) rfl dL_law_378 ?_
                      refine g2_goto F (tgt := 232) rfl dL_law_381 ?_
                      refine g2_loc [(4, 108), (5, 17), (6, 117), (1, 2), (7, 1), (0, 0)] rfl ?_
                      exact ih v80 1 (w32 (l6 + 1)) (cells + 10678) (slots + 64074) (by omega) (by omega)
                · refine g2_aload_n F rfl 4 rfl dL_law_338 ?_
                  refine g2_lload F 6 rfl dL_law_339 ?_
                  refine g2_iconst F 0 rfl dL_law_341 ?_
                  refine g2_callS F (by decide) [(17, 0), (1, l4), (0, 4)] [17, 1, 0] ml_RL_177 wt_L_areKept (fun l => ct_O ((fun l => ct_fgt ((c_L_areKept_4 l4) l) (fun q hq => by cases hq <;> decide)) l) (prs_ok rfl) (fun q hq => by cases hq <;> decide)) mi_L_areKept rfl rfl rfl (Nat.le_of_ble_eq_true rfl) (Nat.le_of_ble_eq_true rfl) (show (cells + 10634) + 1862 ≤ 716531 by omega) (show (slots + 63808) + 11184 ≤ 6952104 by omega) (Nat.le_of_ble_eq_true rfl) dL_law_342 (fun z82 v82 hz82 => ?_)
                  refine g2_if_eq F rfl (tgt := 376) rfl dL_law_345 (fun n83 => ?_) (fun n83 => ?_)
                  · refine g2_iconst F 2 rfl dL_law_376 ?_
                    refine g2_istore_n F rfl rfl (Nat.le_of_ble_eq_true rfl) (ls' := [(3, (2, 0)), (8, (0, z41)), (7, (0, (w32 ((cellf L xs (w32 (10 + (rem32 l6 51)))) + (w32 (2243 * (w32 (l6.tdiv 51)))))))), (0, (108, 0)), (1, (17, 0)), (2, (117, 0)), (4, (1, l4)), (6, (0, l6))]) rfl dL_law_377 ?_
                    refine g2_iinc F 7 rfl rfl (Nat.le_of_ble_eq_true rfl) (ls' := [(6, (0, (w32 (l6 + 1)))), (3, (2, 0)), (8, (0, z41)), (7, (0, (w32 ((cellf L xs (w32 (10 + (rem32 l6 51)))) + (w32 (2243 * (w32 (l6.tdiv 51)))))))), (0, (108, 0)), (1, (17, 0)), (2, (117, 0)), (4, (1, l4))]) rfl dL_law_378 ?_
                    refine g2_goto F (tgt := 232) rfl dL_law_381 ?_
                    refine g2_loc [(4, 108), (5, 17), (6, 117), (1, 2), (7, 1), (0, 0)] rfl ?_
                    exact ih v82 0 (w32 (l6 + 1)) (cells + 12496) (slots + 74992) (by omega) (by omega)
                  · refine g2_iload F 7 rfl rfl dL_law_348 ?_
                    refine g2_bipush F rfl (by decide) dL_law_350 ?_
                    refine g2_irem F (by decide) rfl rfl dL_law_352 ?_
                    refine g2_iconst F 0 rfl dL_law_353 ?_
                    refine g2_icmp_ne F rfl rfl (tgt := 372) rfl dL_law_354 (fun n84 => ?_) (fun n84 => ?_)
                    · refine g2_iconst F 2 rfl dL_law_372 ?_
                      refine g2_goto F (tgt := 377) rfl dL_law_373 ?_
                      refine g2_istore_n F rfl rfl (Nat.le_of_ble_eq_true rfl) (ls' := [(3, (2, 1)), (8, (0, z41)), (7, (0, (w32 ((cellf L xs (w32 (10 + (rem32 l6 51)))) + (w32 (2243 * (w32 (l6.tdiv 51)))))))), (0, (108, 0)), (1, (17, 0)), (2, (117, 0)), (4, (1, l4)), (6, (0, l6))]) rfl dL_law_377 ?_
                      refine g2_iinc F 7 rfl rfl (Nat.le_of_ble_eq_true rfl) (ls' := [(6, (0, (w32 (l6 + 1)))), (3, (2, 1)), (8, (0, z41)), (7, (0, (w32 ((cellf L xs (w32 (10 + (rem32 l6 51)))) + (w32 (2243 * (w32 (l6.tdiv 51)))))))), (0, (108, 0)), (1, (17, 0)), (2, (117, 0)), (4, (1, l4))]) rfl dL_law_378 ?_
                      refine g2_goto F (tgt := 232) rfl dL_law_381 ?_
                      refine g2_loc [(4, 108), (5, 17), (6, 117), (1, 2), (7, 1), (0, 0)] rfl ?_
                      exact ih v82 1 (w32 (l6 + 1)) (cells + 12496) (slots + 74992) (by omega) (by omega)
                    · refine g2_aload_n F rfl 4 rfl dL_law_357 ?_
                      refine g2_aload_n F rfl 5 rfl dL_law_358 ?_
                      refine g2_iload F 2 rfl rfl dL_law_359 ?_
                      refine g2_iconst F 0 rfl dL_law_361 ?_
                      refine g2_ishr F rfl rfl dL_law_362 ?_
                      refine g2_ldc F rfl cn_RL_172 dL_law_363 ?_
                      refine g2_iand F rfl rfl dL_law_365 ?_
                      refine g2_callS F (by decide) [(17, 0), (117, 0), (0, (and32 (shr32 (w32 ((cellf L xs (w32 (10 + (rem32 l6 51)))) + (w32 (2243 * (w32 (l6.tdiv 51)))))) 4) 65535))] [17, 117, 0] ml_RL_181 wt_L_isBarred (c_L_isBarred (and32 (shr32 (w32 ((cellf L xs (w32 (10 + (rem32 l6 51)))) + (w32 (2243 * (w32 (l6.tdiv 51)))))) 4) 65535)) mi_L_isBarred rfl rfl rfl (Nat.le_of_ble_eq_true rfl) (Nat.le_of_ble_eq_true rfl) (show (cells + 12496) + 44 ≤ 716531 by omega) (show (slots + 74992) + 266 ≤ 6952104 by omega) (Nat.le_of_ble_eq_true rfl) dL_law_366 (fun z85 v85 hz85 => ?_)
                      refine g2_if_eq F rfl (tgt := 376) rfl dL_law_369 (fun n86 => ?_) (fun n86 => ?_)
                      · refine g2_iconst F 2 rfl dL_law_376 ?_
                        refine g2_istore_n F rfl rfl (Nat.le_of_ble_eq_true rfl) (ls' := [(3, (2, 0)), (8, (0, z41)), (7, (0, (w32 ((cellf L xs (w32 (10 + (rem32 l6 51)))) + (w32 (2243 * (w32 (l6.tdiv 51)))))))), (0, (108, 0)), (1, (17, 0)), (2, (117, 0)), (4, (1, l4)), (6, (0, l6))]) rfl dL_law_377 ?_
                        refine g2_iinc F 7 rfl rfl (Nat.le_of_ble_eq_true rfl) (ls' := [(6, (0, (w32 (l6 + 1)))), (3, (2, 0)), (8, (0, z41)), (7, (0, (w32 ((cellf L xs (w32 (10 + (rem32 l6 51)))) + (w32 (2243 * (w32 (l6.tdiv 51)))))))), (0, (108, 0)), (1, (17, 0)), (2, (117, 0)), (4, (1, l4))]) rfl dL_law_378 ?_
                        refine g2_goto F (tgt := 232) rfl dL_law_381 ?_
                        refine g2_loc [(4, 108), (5, 17), (6, 117), (1, 2), (7, 1), (0, 0)] rfl ?_
                        exact ih v85 0 (w32 (l6 + 1)) (cells + 12540) (slots + 75258) (by omega) (by omega)
                      · refine g2_iconst F 2 rfl dL_law_372 ?_
                        refine g2_goto F (tgt := 377) rfl dL_law_373 ?_
                        refine g2_istore_n F rfl rfl (Nat.le_of_ble_eq_true rfl) (ls' := [(3, (2, 1)), (8, (0, z41)), (7, (0, (w32 ((cellf L xs (w32 (10 + (rem32 l6 51)))) + (w32 (2243 * (w32 (l6.tdiv 51)))))))), (0, (108, 0)), (1, (17, 0)), (2, (117, 0)), (4, (1, l4)), (6, (0, l6))]) rfl dL_law_377 ?_
                        refine g2_iinc F 7 rfl rfl (Nat.le_of_ble_eq_true rfl) (ls' := [(6, (0, (w32 (l6 + 1)))), (3, (2, 1)), (8, (0, z41)), (7, (0, (w32 ((cellf L xs (w32 (10 + (rem32 l6 51)))) + (w32 (2243 * (w32 (l6.tdiv 51)))))))), (0, (108, 0)), (1, (17, 0)), (2, (117, 0)), (4, (1, l4))]) rfl dL_law_378 ?_
                        refine g2_goto F (tgt := 232) rfl dL_law_381 ?_
                        refine g2_loc [(4, 108), (5, 17), (6, 117), (1, 2), (7, 1), (0, 0)] rfl ?_
                        exact ih v85 1 (w32 (l6 + 1)) (cells + 12540) (slots + 75258) (by omega) (by omega)

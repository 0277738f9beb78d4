def cs_0 (l4 : Int) (L : Nat) (xs : Nat → Int32) (k : V → Res) (v : V) : Res := (chk (0 ≤ (w32 (l4 + 1)) ∧ (w32 (l4 + 1)) < (L : Int)) (chk (0 ≤ (w32 (l4 + 2)) ∧ (w32 (l4 + 2)) < (L : Int)) (rB (sp_L_party 0 (xi xs (w32 (l4 + 1))) (xi xs (w32 (l4 + 2))) 0 v) (fun z3 v3 => (rB (sp_X8_party 0 (xi xs (w32 (l4 + 1))) (xi xs (w32 (l4 + 2))) v3) (fun z4 v4 => (rB (sp_X8_thrown 0  v4) (fun z5 v5 => (if z5 = z3 then (if ¬ z3 = 0 then (k v5)
   else (if (lcmp (v5 9 0 0) z4) = 0 then (k v5)
   else (rOk 0 v5)))
   else (rOk 0 v5))))))))))
set_option maxRecDepth 100000 in
set_option maxHeartbeats 4000000 in
theorem kcs_0 {x : Cx} {nm9 : String} {rt9 : Option Nat} (F : Fx x cL_law RL nm9 room_1 7 rt9 (some .boolean) 1) {L : Nat} {xs : Nat → Int32} (hX : FxS x L xs) {l4 : Int} {k : V → Res} {cells slots : Nat} (h1 : cells + 40 ≤ 601024) (h2 : slots + 400 ≤ 7293034) (hk : ∀ v, Gs x (k v) v (cells + 4) (slots + 24) 2508 [(0, (108, 0)), (1, (17, 0)), (2, (18, 0)), (3, (19, 0)), (4, (0, l4))] []) (v : V) : Gs x (cs_0 l4 L xs k v) v cells slots 188 [(0, (108, 0)), (1, (17, 0)), (2, (18, 0)), (3, (19, 0)), (4, (0, l4))] [] := by
  unfold cs_0
  refine g_aload_n F rfl 1 rfl dL_law_188 ?_
  refine g_aload_n F rfl 0 rfl dL_law_189 ?_
  refine g_iload F 4 rfl rfl dL_law_190 ?_
  refine g_iconst F 2 rfl dL_law_192 ?_
  refine g_iadd F rfl rfl dL_law_193 ?_
  refine g_chk (fun n1 => ?_)
  refine g_sld F hX n1 rfl dL_law_194 ?_
  refine g_aload_n F rfl 0 rfl dL_law_195 ?_
  refine g_iload F 4 rfl rfl dL_law_196 ?_
  refine g_iconst F 0 rfl dL_law_198 ?_
  refine g_iadd F rfl rfl dL_law_199 ?_
  refine g_chk (fun n2 => ?_)
  refine g_sld F hX n2 rfl dL_law_200 ?_
  refine g_aload_n F rfl 3 rfl dL_law_201 ?_
  refine g_callSX F (by decide) [(17, 0), (0, (xi xs (w32 (l4 + 1)))), (0, (xi xs (w32 (l4 + 2)))), (19, 0)] [17, 0, 0, 19] ml_RL_126 wt_L_party (c_L_party 0 (xi xs (w32 (l4 + 1))) (xi xs (w32 (l4 + 2))) 0) mw_L_party rfl rfl rfl (Nat.le_of_ble_eq_true rfl) (Nat.le_of_ble_eq_true rfl) (show cells + 4 ≤ 601024 by omega) (show slots + 24 ≤ 7293034 by omega) (Nat.le_of_ble_eq_true rfl) dL_law_202 (fun z3 v3 hz3 => ?_)
  refine g_istore F rfl (Nat.le_of_ble_eq_true rfl) (ls' := [(5, (0, z3)), (0, (108, 0)), (1, (17, 0)), (2, (18, 0)), (3, (19, 0)), (4, (0, l4))]) rfl dL_law_205 ?_
  refine g_aload_n F rfl 3 rfl dL_law_207 ?_
  refine g_aload_n F rfl 1 rfl dL_law_208 ?_
  refine g_iload F 5 rfl rfl dL_law_209 ?_
  refine g_iconst F 2 rfl dL_law_211 ?_
  refine g_iadd F rfl rfl dL_law_212 ?_
  refine g_sld F hX n1 rfl dL_law_213 ?_
  refine g_aload_n F rfl 1 rfl dL_law_214 ?_
  refine g_iload F 5 rfl rfl dL_law_215 ?_
  refine g_iconst F 0 rfl dL_law_217 ?_
  refine g_iadd F rfl rfl dL_law_218 ?_
  refine g_sld F hX n2 rfl dL_law_219 ?_
  refine g_callV F (by decide) (K := 8) (b := 0) [(0, (xi xs (w32 (l4 + 1)))), (0, (xi xs (w32 (l4 + 2))))] [0, 0] ml_RL_131 wi_X8_party ws_X8_party (c_X8_party 0 (xi xs (w32 (l4 + 1))) (xi xs (w32 (l4 + 2))) (by decide)) mi_X8_party (by decide) ⟨_, rfl, rfl⟩ (by decide) rfl rfl rfl (Nat.le_of_ble_eq_true rfl) (Nat.le_of_ble_eq_true rfl) (show (cells + 4) + 0 ≤ 601024 by omega) (show (slots + 24) + 0 ≤ 7293034 by omega) (Nat.le_of_ble_eq_true rfl) dL_law_220 (fun z4 v4 hz4 => ?_)
  refine g_istore F rfl (Nat.le_of_ble_eq_true rfl) (ls' := [(6, (0, z4)), (5, (0, z3)), (0, (108, 0)), (1, (17, 0)), (2, (18, 0)), (3, (19, 0)), (4, (0, l4))]) rfl dL_law_223 ?_
  refine g_aload_n F rfl 4 rfl dL_law_225 ?_
  refine g_callV F (by decide) (K := 8) (b := 0) [] [] ml_RL_132 wi_X8_thrown ws_X8_thrown (c_X8_thrown 0  (by decide)) mi_X8_thrown (by decide) ⟨_, rfl, rfl⟩ (by decide) rfl rfl rfl (Nat.le_of_ble_eq_true rfl) (Nat.le_of_ble_eq_true rfl) (show (cells + 4) + 0 ≤ 601024 by omega) (show (slots + 24) + 0 ≤ 7293034 by omega) (Nat.le_of_ble_eq_true rfl) dL_law_226 (fun z5 v5 hz5 => ?_)
  refine g_iload F 1 rfl rfl dL_law_229 ?_
  refine g_icmp_eq F rfl rfl (tgt := 236) rfl dL_law_231 (fun n6 => ?_) (fun n6 => ?_)
  · refine g_iload F 1 rfl rfl dL_law_236 ?_
    refine g_if_ne F rfl (tgt := 253) rfl dL_law_238 (fun n7 => ?_) (fun n7 => ?_)
    · refine g_goto F (tgt := 2508) rfl dL_law_253 ?_
      refine g_loc [(2, 108), (3, 17), (4, 18), (5, 19), (6, 0)] rfl ?_
      exact hk v5
    · refine g_aload_n F rfl 5 rfl dL_law_241 ?_
      refine g_iconst F 2 rfl dL_law_242 ?_
      refine h_lald F (n := 1) ak_9 (by decide) (by decide) rfl dL_law_243 ?_
      refine g_iload F 0 rfl rfl dL_law_244 ?_
      refine g_i2l F rfl dL_law_246 ?_
      refine g_lcmp F dL_law_247 ?_
      refine g_if_eq F rfl (tgt := 253) rfl dL_law_248 (fun n8 => ?_) (fun n8 => ?_)
      · refine g_goto F (tgt := 2508) rfl dL_law_253 ?_
        refine g_loc [(2, 108), (3, 17), (4, 18), (5, 19), (6, 0)] rfl ?_
        exact hk v5
      · refine g_iconst F 2 rfl dL_law_251 ?_
        exact g_lawret F rfl (show (cells + 4) ≤ 601024 by omega) (show (slots + 24) ≤ 7293034 by omega) rfl dL_law_252
  · refine g_iconst F 2 rfl dL_law_234 ?_
    exact g_lawret F rfl (show (cells + 4) ≤ 601024 by omega) (show (slots + 24) ≤ 7293034 by omega) rfl dL_law_235
def cs_1 (l4 : Int) (L : Nat) (xs : Nat → Int32) (k : V → Res) (v : V) : Res := (chk (0 ≤ (w32 (l4 + 1)) ∧ (w32 (l4 + 1)) < (L : Int)) (chk (0 ≤ (w32 (l4 + 2)) ∧ (w32 (l4 + 2)) < (L : Int)) (rB (sp_L_work 0 (xi xs (w32 (l4 + 1))) (xi xs (w32 (l4 + 2))) 0 v) (fun z3 v3 => (rB (sp_X8_work 0 (xi xs (w32 (l4 + 1))) (xi xs (w32 (l4 + 2))) v3) (fun z4 v4 => (rB (sp_X8_thrown 0  v4) (fun z5 v5 => (if z5 = z3 then (if ¬ z3 = 0 then (k v5)
   else (if (lcmp (v5 9 0 0) z4) = 0 then (k v5)
   else (rOk 0 v5)))
   else (rOk 0 v5))))))))))
set_option maxRecDepth 100000 in
set_option maxHeartbeats 4000000 in
theorem kcs_1 {x : Cx} {nm9 : String} {rt9 : Option Nat} (F : Fx x cL_law RL nm9 room_1 7 rt9 (some .boolean) 1) {L : Nat} {xs : Nat → Int32} (hX : FxS x L xs) {l4 : Int} {k : V → Res} {cells slots : Nat} (h1 : cells + 40 ≤ 601024) (h2 : slots + 400 ≤ 7293034) (hk : ∀ v, Gs x (k v) v (cells + 7) (slots + 187) 2508 [(0, (108, 0)), (1, (17, 0)), (2, (18, 0)), (3, (19, 0)), (4, (0, l4))] []) (v : V) : Gs x (cs_1 l4 L xs k v) v cells slots 256 [(0, (108, 0)), (1, (17, 0)), (2, (18, 0)), (3, (19, 0)), (4, (0, l4))] [] := by
  unfold cs_1
  refine g_aload_n F rfl 1 rfl dL_law_256 ?_
  refine g_aload_n F rfl 0 rfl dL_law_257 ?_
  refine g_iload F 4 rfl rfl dL_law_258 ?_
  refine g_iconst F 2 rfl dL_law_260 ?_
  refine g_iadd F rfl rfl dL_law_261 ?_
  refine g_chk (fun n1 => ?_)
  refine g_sld F hX n1 rfl dL_law_262 ?_
  refine g_aload_n F rfl 0 rfl dL_law_263 ?_
  refine g_iload F 4 rfl rfl dL_law_264 ?_
  refine g_iconst F 0 rfl dL_law_266 ?_
  refine g_iadd F rfl rfl dL_law_267 ?_
  refine g_chk (fun n2 => ?_)
  refine g_sld F hX n2 rfl dL_law_268 ?_
  refine g_aload_n F rfl 3 rfl dL_law_269 ?_
  refine g_callSX F (by decide) [(17, 0), (0, (xi xs (w32 (l4 + 1)))), (0, (xi xs (w32 (l4 + 2)))), (19, 0)] [17, 0, 0, 19] ml_RL_136 wt_L_work (c_L_work 0 (xi xs (w32 (l4 + 1))) (xi xs (w32 (l4 + 2))) 0) mw_L_work rfl rfl rfl (Nat.le_of_ble_eq_true rfl) (Nat.le_of_ble_eq_true rfl) (show cells + 7 ≤ 601024 by omega) (show slots + 187 ≤ 7293034 by omega) (Nat.le_of_ble_eq_true rfl) dL_law_270 (fun z3 v3 hz3 => ?_)
  refine g_istore F rfl (Nat.le_of_ble_eq_true rfl) (ls' := [(5, (0, z3)), (0, (108, 0)), (1, (17, 0)), (2, (18, 0)), (3, (19, 0)), (4, (0, l4))]) rfl dL_law_273 ?_
  refine g_aload_n F rfl 3 rfl dL_law_275 ?_
  refine g_aload_n F rfl 1 rfl dL_law_276 ?_
  refine g_iload F 5 rfl rfl dL_law_277 ?_
  refine g_iconst F 2 rfl dL_law_279 ?_
  refine g_iadd F rfl rfl dL_law_280 ?_
  refine g_sld F hX n1 rfl dL_law_281 ?_
  refine g_aload_n F rfl 1 rfl dL_law_282 ?_
  refine g_iload F 5 rfl rfl dL_law_283 ?_
  refine g_iconst F 0 rfl dL_law_285 ?_
  refine g_iadd F rfl rfl dL_law_286 ?_
  refine g_sld F hX n2 rfl dL_law_287 ?_
  refine g_callV F (by decide) (K := 8) (b := 0) [(0, (xi xs (w32 (l4 + 1)))), (0, (xi xs (w32 (l4 + 2))))] [0, 0] ml_RL_138 wi_X8_work ws_X8_work (c_X8_work 0 (xi xs (w32 (l4 + 1))) (xi xs (w32 (l4 + 2))) (by decide)) mi_X8_work (by decide) ⟨_, rfl, rfl⟩ (by decide) rfl rfl rfl (Nat.le_of_ble_eq_true rfl) (Nat.le_of_ble_eq_true rfl) (show (cells + 7) + 0 ≤ 601024 by omega) (show (slots + 187) + 0 ≤ 7293034 by omega) (Nat.le_of_ble_eq_true rfl) dL_law_288 (fun z4 v4 hz4 => ?_)
  refine g_istore F rfl (Nat.le_of_ble_eq_true rfl) (ls' := [(6, (0, z4)), (5, (0, z3)), (0, (108, 0)), (1, (17, 0)), (2, (18, 0)), (3, (19, 0)), (4, (0, l4))]) rfl dL_law_291 ?_
  refine g_aload_n F rfl 4 rfl dL_law_293 ?_
  refine g_callV F (by decide) (K := 8) (b := 0) [] [] ml_RL_132 wi_X8_thrown ws_X8_thrown (c_X8_thrown 0  (by decide)) mi_X8_thrown (by decide) ⟨_, rfl, rfl⟩ (by decide) rfl rfl rfl (Nat.le_of_ble_eq_true rfl) (Nat.le_of_ble_eq_true rfl) (show (cells + 7) + 0 ≤ 601024 by omega) (show (slots + 187) + 0 ≤ 7293034 by omega) (Nat.le_of_ble_eq_true rfl) dL_law_294 (fun z5 v5 hz5 => ?_)
  refine g_iload F 1 rfl rfl dL_law_297 ?_
  refine g_icmp_eq F rfl rfl (tgt := 304) rfl dL_law_299 (fun n6 => ?_) (fun n6 => ?_)
  · refine g_iload F 1 rfl rfl dL_law_304 ?_
    refine g_if_ne F rfl (tgt := 321) rfl dL_law_306 (fun n7 => ?_) (fun n7 => ?_)
    · refine g_goto F (tgt := 2508) rfl dL_law_321 ?_
      refine g_loc [(2, 108), (3, 17), (4, 18), (5, 19), (6, 0)] rfl ?_
      exact hk v5
    · refine g_aload_n F rfl 5 rfl dL_law_309 ?_
      refine g_iconst F 2 rfl dL_law_310 ?_
      refine h_lald F (n := 1) ak_9 (by decide) (by decide) rfl dL_law_311 ?_
      refine g_iload F 0 rfl rfl dL_law_312 ?_
      refine g_i2l F rfl dL_law_314 ?_
      refine g_lcmp F dL_law_315 ?_
      refine g_if_eq F rfl (tgt := 321) rfl dL_law_316 (fun n8 => ?_) (fun n8 => ?_)
      · refine g_goto F (tgt := 2508) rfl dL_law_321 ?_
        refine g_loc [(2, 108), (3, 17), (4, 18), (5, 19), (6, 0)] rfl ?_
        exact hk v5
      · refine g_iconst F 2 rfl dL_law_319 ?_
        exact g_lawret F rfl (show (cells + 7) ≤ 601024 by omega) (show (slots + 187) ≤ 7293034 by omega) rfl dL_law_320
  · refine g_iconst F 2 rfl dL_law_302 ?_
    exact g_lawret F rfl (show (cells + 7) ≤ 601024 by omega) (show (slots + 187) ≤ 7293034 by omega) rfl dL_law_303
def cs_2 (l4 : Int) (L : Nat) (xs : Nat → Int32) (k : V → Res) (v : V) : Res := (chk (0 ≤ (w32 (l4 + 1)) ∧ (w32 (l4 + 1)) < (L : Int)) (chk (0 ≤ (w32 (l4 + 2)) ∧ (w32 (l4 + 2)) < (L : Int)) (rB (sp_L_value 0 (xi xs (w32 (l4 + 1))) (xi xs (w32 (l4 + 2))) 0 v) (fun z3 v3 => (rB (sp_X8_value 0 (xi xs (w32 (l4 + 1))) (xi xs (w32 (l4 + 2))) v3) (fun z4 v4 => (rB (sp_X8_thrown 0  v4) (fun z5 v5 => (if z5 = z3 then (if ¬ z3 = 0 then (k v5)
   else (if (lcmp (v5 9 0 0) z4) = 0 then (k v5)
   else (rOk 0 v5)))
   else (rOk 0 v5))))))))))
set_option maxRecDepth 100000 in
set_option maxHeartbeats 4000000 in
theorem kcs_2 {x : Cx} {nm9 : String} {rt9 : Option Nat} (F : Fx x cL_law RL nm9 room_1 7 rt9 (some .boolean) 1) {L : Nat} {xs : Nat → Int32} (hX : FxS x L xs) {l4 : Int} {k : V → Res} {cells slots : Nat} (h1 : cells + 40 ≤ 601024) (h2 : slots + 400 ≤ 7293034) (hk : ∀ v, Gs x (k v) v (cells + 2) (slots + 12) 2508 [(0, (108, 0)), (1, (17, 0)), (2, (18, 0)), (3, (19, 0)), (4, (0, l4))] []) (v : V) : Gs x (cs_2 l4 L xs k v) v cells slots 324 [(0, (108, 0)), (1, (17, 0)), (2, (18, 0)), (3, (19, 0)), (4, (0, l4))] [] := by
  unfold cs_2
  refine g_aload_n F rfl 1 rfl dL_law_324 ?_
  refine g_aload_n F rfl 0 rfl dL_law_325 ?_
  refine g_iload F 4 rfl rfl dL_law_326 ?_
  refine g_iconst F 2 rfl dL_law_328 ?_
  refine g_iadd F rfl rfl dL_law_329 ?_
  refine g_chk (fun n1 => ?_)
  refine g_sld F hX n1 rfl dL_law_330 ?_
  refine g_aload_n F rfl 0 rfl dL_law_331 ?_
  refine g_iload F 4 rfl rfl dL_law_332 ?_
  refine g_iconst F 0 rfl dL_law_334 ?_
  refine g_iadd F rfl rfl dL_law_335 ?_
  refine g_chk (fun n2 => ?_)
  refine g_sld F hX n2 rfl dL_law_336 ?_
  refine g_aload_n F rfl 3 rfl dL_law_337 ?_
  refine g_callSX F (by decide) [(17, 0), (0, (xi xs (w32 (l4 + 1)))), (0, (xi xs (w32 (l4 + 2)))), (19, 0)] [17, 0, 0, 19] ml_RL_139 wt_L_value (c_L_value 0 (xi xs (w32 (l4 + 1))) (xi xs (w32 (l4 + 2))) 0) mw_L_value rfl rfl rfl (Nat.le_of_ble_eq_true rfl) (Nat.le_of_ble_eq_true rfl) (show cells + 2 ≤ 601024 by omega) (show slots + 12 ≤ 7293034 by omega) (Nat.le_of_ble_eq_true rfl) dL_law_338 (fun z3 v3 hz3 => ?_)
  refine g_istore F rfl (Nat.le_of_ble_eq_true rfl) (ls' := [(5, (0, z3)), (0, (108, 0)), (1, (17, 0)), (2, (18, 0)), (3, (19, 0)), (4, (0, l4))]) rfl dL_law_341 ?_
  refine g_aload_n F rfl 3 rfl dL_law_343 ?_
  refine g_aload_n F rfl 1 rfl dL_law_344 ?_
  refine g_iload F 5 rfl rfl dL_law_345 ?_
  refine g_iconst F 2 rfl dL_law_347 ?_
  refine g_iadd F rfl rfl dL_law_348 ?_
  refine g_sld F hX n1 rfl dL_law_349 ?_
  refine g_aload_n F rfl 1 rfl dL_law_350 ?_
  refine g_iload F 5 rfl rfl dL_law_351 ?_
  refine g_iconst F 0 rfl dL_law_353 ?_
  refine g_iadd F rfl rfl dL_law_354 ?_
  refine g_sld F hX n2 rfl dL_law_355 ?_
  refine g_callV F (by decide) (K := 8) (b := 0) [(0, (xi xs (w32 (l4 + 1)))), (0, (xi xs (w32 (l4 + 2))))] [0, 0] ml_RL_141 wi_X8_value ws_X8_value (c_X8_value 0 (xi xs (w32 (l4 + 1))) (xi xs (w32 (l4 + 2))) (by decide)) mi_X8_value (by decide) ⟨_, rfl, rfl⟩ (by decide) rfl rfl rfl (Nat.le_of_ble_eq_true rfl) (Nat.le_of_ble_eq_true rfl) (show (cells + 2) + 0 ≤ 601024 by omega) (show (slots + 12) + 0 ≤ 7293034 by omega) (Nat.le_of_ble_eq_true rfl) dL_law_356 (fun z4 v4 hz4 => ?_)
  refine g_istore F rfl (Nat.le_of_ble_eq_true rfl) (ls' := [(6, (0, z4)), (5, (0, z3)), (0, (108, 0)), (1, (17, 0)), (2, (18, 0)), (3, (19, 0)), (4, (0, l4))]) rfl dL_law_359 ?_
  refine g_aload_n F rfl 4 rfl dL_law_361 ?_
  refine g_callV F (by decide) (K := 8) (b := 0) [] [] ml_RL_132 wi_X8_thrown ws_X8_thrown (c_X8_thrown 0  (by decide)) mi_X8_thrown (by decide) ⟨_, rfl, rfl⟩ (by decide) rfl rfl rfl (Nat.le_of_ble_eq_true rfl) (Nat.le_of_ble_eq_true rfl) (show (cells + 2) + 0 ≤ 601024 by omega) (show (slots + 12) + 0 ≤ 7293034 by omega) (Nat.le_of_ble_eq_true rfl) dL_law_362 (fun z5 v5 hz5 => ?_)
  refine g_iload F 1 rfl rfl dL_law_365 ?_
  refine g_icmp_eq F rfl rfl (tgt := 372) rfl dL_law_367 (fun n6 => ?_) (fun n6 => ?_)
  · refine g_iload F 1 rfl rfl dL_law_372 ?_
    refine g_if_ne F rfl (tgt := 389) rfl dL_law_374 (fun n7 => ?_) (fun n7 => ?_)
    · refine g_goto F (tgt := 2508) rfl dL_law_389 ?_
      refine g_loc [(2, 108), (3, 17), (4, 18), (5, 19), (6, 0)] rfl ?_
      exact hk v5
    · refine g_aload_n F rfl 5 rfl dL_law_377 ?_
      refine g_iconst F 2 rfl dL_law_378 ?_
      refine h_lald F (n := 1) ak_9 (by decide) (by decide) rfl dL_law_379 ?_
      refine g_iload F 0 rfl rfl dL_law_380 ?_
      refine g_i2l F rfl dL_law_382 ?_
      refine g_lcmp F dL_law_383 ?_
      refine g_if_eq F rfl (tgt := 389) rfl dL_law_384 (fun n8 => ?_) (fun n8 => ?_)
      · refine g_goto F (tgt := 2508) rfl dL_law_389 ?_
        refine g_loc [(2, 108), (3, 17), (4, 18), (5, 19), (6, 0)] rfl ?_
        exact hk v5
      · refine g_iconst F 2 rfl dL_law_387 ?_
        exact g_lawret F rfl (show (cells + 2) ≤ 601024 by omega) (show (slots + 12) ≤ 7293034 by omega) rfl dL_law_388
  · refine g_iconst F 2 rfl dL_law_370 ?_
    exact g_lawret F rfl (show (cells + 2) ≤ 601024 by omega) (show (slots + 12) ≤ 7293034 by omega) rfl dL_law_371
def cs_3 (l4 : Int) (L : Nat) (xs : Nat → Int32) (k : V → Res) (v : V) : Res := (chk (0 ≤ (w32 (l4 + 1)) ∧ (w32 (l4 + 1)) < (L : Int)) (rB (sp_L_pass 0 (xi xs (w32 (l4 + 1))) 0 v) (fun z2 v2 => (rB (sp_X8_pass 0 (xi xs (w32 (l4 + 1))) v2) (fun z3 v3 => (rB (sp_X8_thrown 0  v3) (fun z4 v4 => (if z4 = z2 then (if ¬ z2 = 0 then (k v4)
   else (if (lcmp (v4 9 0 0) z3) = 0 then (k v4)
   else (rOk 0 v4)))
   else (rOk 0 v4)))))))))
set_option maxRecDepth 100000 in
set_option maxHeartbeats 4000000 in
theorem kcs_3 {x : Cx} {nm9 : String} {rt9 : Option Nat} (F : Fx x cL_law RL nm9 room_1 7 rt9 (some .boolean) 1) {L : Nat} {xs : Nat → Int32} (hX : FxS x L xs) {l4 : Int} {k : V → Res} {cells slots : Nat} (h1 : cells + 40 ≤ 601024) (h2 : slots + 400 ≤ 7293034) (hk : ∀ v, Gs x (k v) v (cells + 2) (slots + 12) 2508 [(0, (108, 0)), (1, (17, 0)), (2, (18, 0)), (3, (19, 0)), (4, (0, l4))] []) (v : V) : Gs x (cs_3 l4 L xs k v) v cells slots 392 [(0, (108, 0)), (1, (17, 0)), (2, (18, 0)), (3, (19, 0)), (4, (0, l4))] [] := by
  unfold cs_3
  refine g_aload_n F rfl 1 rfl dL_law_392 ?_
  refine g_aload_n F rfl 0 rfl dL_law_393 ?_
  refine g_iload F 4 rfl rfl dL_law_394 ?_
  refine g_iconst F 2 rfl dL_law_396 ?_
  refine g_iadd F rfl rfl dL_law_397 ?_
  refine g_chk (fun n1 => ?_)
  refine g_sld F hX n1 rfl dL_law_398 ?_
  refine g_aload_n F rfl 3 rfl dL_law_399 ?_
  refine g_callSX F (by decide) [(17, 0), (0, (xi xs (w32 (l4 + 1)))), (19, 0)] [17, 0, 19] ml_RL_142 wt_L_pass (c_L_pass 0 (xi xs (w32 (l4 + 1))) 0) mw_L_pass rfl rfl rfl (Nat.le_of_ble_eq_true rfl) (Nat.le_of_ble_eq_true rfl) (show cells + 2 ≤ 601024 by omega) (show slots + 12 ≤ 7293034 by omega) (Nat.le_of_ble_eq_true rfl) dL_law_400 (fun z2 v2 hz2 => ?_)
  refine g_istore F rfl (Nat.le_of_ble_eq_true rfl) (ls' := [(5, (0, z2)), (0, (108, 0)), (1, (17, 0)), (2, (18, 0)), (3, (19, 0)), (4, (0, l4))]) rfl dL_law_403 ?_
  refine g_aload_n F rfl 3 rfl dL_law_405 ?_
  refine g_aload_n F rfl 1 rfl dL_law_406 ?_
  refine g_iload F 5 rfl rfl dL_law_407 ?_
  refine g_iconst F 2 rfl dL_law_409 ?_
  refine g_iadd F rfl rfl dL_law_410 ?_
  refine g_sld F hX n1 rfl dL_law_411 ?_
  refine g_callV F (by decide) (K := 8) (b := 0) [(0, (xi xs (w32 (l4 + 1))))] [0] ml_RL_145 wi_X8_pass ws_X8_pass (c_X8_pass 0 (xi xs (w32 (l4 + 1))) (by decide)) mi_X8_pass (by decide) ⟨_, rfl, rfl⟩ (by decide) rfl rfl rfl (Nat.le_of_ble_eq_true rfl) (Nat.le_of_ble_eq_true rfl) (show (cells + 2) + 0 ≤ 601024 by omega) (show (slots + 12) + 0 ≤ 7293034 by omega) (Nat.le_of_ble_eq_true rfl) dL_law_412 (fun z3 v3 hz3 => ?_)
  refine g_istore F rfl (Nat.le_of_ble_eq_true rfl) (ls' := [(6, (0, z3)), (5, (0, z2)), (0, (108, 0)), (1, (17, 0)), (2, (18, 0)), (3, (19, 0)), (4, (0, l4))]) rfl dL_law_415 ?_
  refine g_aload_n F rfl 4 rfl dL_law_417 ?_
  refine g_callV F (by decide) (K := 8) (b := 0) [] [] ml_RL_132 wi_X8_thrown ws_X8_thrown (c_X8_thrown 0  (by decide)) mi_X8_thrown (by decide) ⟨_, rfl, rfl⟩ (by decide) rfl rfl rfl (Nat.le_of_ble_eq_true rfl) (Nat.le_of_ble_eq_true rfl) (show (cells + 2) + 0 ≤ 601024 by omega) (show (slots + 12) + 0 ≤ 7293034 by omega) (Nat.le_of_ble_eq_true rfl) dL_law_418 (fun z4 v4 hz4 => ?_)
  refine g_iload F 1 rfl rfl dL_law_421 ?_
  refine g_icmp_eq F rfl rfl (tgt := 428) rfl dL_law_423 (fun n5 => ?_) (fun n5 => ?_)
  · refine g_iload F 1 rfl rfl dL_law_428 ?_
    refine g_if_ne F rfl (tgt := 445) rfl dL_law_430 (fun n6 => ?_) (fun n6 => ?_)
    · refine g_goto F (tgt := 2508) rfl dL_law_445 ?_
      refine g_loc [(2, 108), (3, 17), (4, 18), (5, 19), (6, 0)] rfl ?_
      exact hk v4
    · refine g_aload_n F rfl 5 rfl dL_law_433 ?_
      refine g_iconst F 2 rfl dL_law_434 ?_
      refine h_lald F (n := 1) ak_9 (by decide) (by decide) rfl dL_law_435 ?_
      refine g_iload F 0 rfl rfl dL_law_436 ?_
      refine g_i2l F rfl dL_law_438 ?_
      refine g_lcmp F dL_law_439 ?_
      refine g_if_eq F rfl (tgt := 445) rfl dL_law_440 (fun n7 => ?_) (fun n7 => ?_)
      · refine g_goto F (tgt := 2508) rfl dL_law_445 ?_
        refine g_loc [(2, 108), (3, 17), (4, 18), (5, 19), (6, 0)] rfl ?_
        exact hk v4
      · refine g_iconst F 2 rfl dL_law_443 ?_
        exact g_lawret F rfl (show (cells + 2) ≤ 601024 by omega) (show (slots + 12) ≤ 7293034 by omega) rfl dL_law_444
  · refine g_iconst F 2 rfl dL_law_426 ?_
    exact g_lawret F rfl (show (cells + 2) ≤ 601024 by omega) (show (slots + 12) ≤ 7293034 by omega) rfl dL_law_427
def cs_4 (l4 : Int) (L : Nat) (xs : Nat → Int32) (k : V → Res) (v : V) : Res := (chk (0 ≤ (w32 (l4 + 1)) ∧ (w32 (l4 + 1)) < (L : Int)) (chk (0 ≤ (w32 (l4 + 2)) ∧ (w32 (l4 + 2)) < (L : Int)) (rB (sp_L_weight 0 (xi xs (w32 (l4 + 1))) (xi xs (w32 (l4 + 2))) 0 v) (fun z3 v3 => (rB (sp_X8_weight 0 (xi xs (w32 (l4 + 1))) (xi xs (w32 (l4 + 2))) v3) (fun z4 v4 => (rB (sp_X8_thrown 0  v4) (fun z5 v5 => (if z5 = z3 then (if ¬ z3 = 0 then (k v5)
   else (if (lcmp (v5 9 0 0) z4) = 0 then (k v5)
   else (rOk 0 v5)))
   else (rOk 0 v5))))))))))
set_option maxRecDepth 100000 in
set_option maxHeartbeats 4000000 in
theorem kcs_4 {x : Cx} {nm9 : String} {rt9 : Option Nat} (F : Fx x cL_law RL nm9 room_1 7 rt9 (some .boolean) 1) {L : Nat} {xs : Nat → Int32} (hX : FxS x L xs) {l4 : Int} {k : V → Res} {cells slots : Nat} (h1 : cells + 40 ≤ 601024) (h2 : slots + 400 ≤ 7293034) (hk : ∀ v, Gs x (k v) v (cells + 2) (slots + 12) 2508 [(0, (108, 0)), (1, (17, 0)), (2, (18, 0)), (3, (19, 0)), (4, (0, l4))] []) (v : V) : Gs x (cs_4 l4 L xs k v) v cells slots 448 [(0, (108, 0)), (1, (17, 0)), (2, (18, 0)), (3, (19, 0)), (4, (0, l4))] [] := by
  unfold cs_4
  refine g_aload_n F rfl 1 rfl dL_law_448 ?_
  refine g_aload_n F rfl 0 rfl dL_law_449 ?_
  refine g_iload F 4 rfl rfl dL_law_450 ?_
  refine g_iconst F 2 rfl dL_law_452 ?_
  refine g_iadd F rfl rfl dL_law_453 ?_
  refine g_chk (fun n1 => ?_)
  refine g_sld F hX n1 rfl dL_law_454 ?_
  refine g_aload_n F rfl 0 rfl dL_law_455 ?_
  refine g_iload F 4 rfl rfl dL_law_456 ?_
  refine g_iconst F 0 rfl dL_law_458 ?_
  refine g_iadd F rfl rfl dL_law_459 ?_
  refine g_chk (fun n2 => ?_)
  refine g_sld F hX n2 rfl dL_law_460 ?_
  refine g_aload_n F rfl 3 rfl dL_law_461 ?_
  refine g_callSX F (by decide) [(17, 0), (0, (xi xs (w32 (l4 + 1)))), (0, (xi xs (w32 (l4 + 2)))), (19, 0)] [17, 0, 0, 19] ml_RL_146 wt_L_weight (c_L_weight 0 (xi xs (w32 (l4 + 1))) (xi xs (w32 (l4 + 2))) 0) mw_L_weight rfl rfl rfl (Nat.le_of_ble_eq_true rfl) (Nat.le_of_ble_eq_true rfl) (show cells + 2 ≤ 601024 by omega) (show slots + 12 ≤ 7293034 by omega) (Nat.le_of_ble_eq_true rfl) dL_law_462 (fun z3 v3 hz3 => ?_)
  refine g_istore F rfl (Nat.le_of_ble_eq_true rfl) (ls' := [(5, (0, z3)), (0, (108, 0)), (1, (17, 0)), (2, (18, 0)), (3, (19, 0)), (4, (0, l4))]) rfl dL_law_465 ?_
  refine g_aload_n F rfl 3 rfl dL_law_467 ?_
  refine g_aload_n F rfl 1 rfl dL_law_468 ?_
  refine g_iload F 5 rfl rfl dL_law_469 ?_
  refine g_iconst F 2 rfl dL_law_471 ?_
  refine g_iadd F rfl rfl dL_law_472 ?_
  refine g_sld F hX n1 rfl dL_law_473 ?_
  refine g_aload_n F rfl 1 rfl dL_law_474 ?_
  refine g_iload F 5 rfl rfl dL_law_475 ?_
  refine g_iconst F 0 rfl dL_law_477 ?_
  refine g_iadd F rfl rfl dL_law_478 ?_
  refine g_sld F hX n2 rfl dL_law_479 ?_
  refine g_callV F (by decide) (K := 8) (b := 0) [(0, (xi xs (w32 (l4 + 1)))), (0, (xi xs (w32 (l4 + 2))))] [0, 0] ml_RL_148 wi_X8_weight ws_X8_weight (c_X8_weight 0 (xi xs (w32 (l4 + 1))) (xi xs (w32 (l4 + 2))) (by decide)) mi_X8_weight (by decide) ⟨_, rfl, rfl⟩ (by decide) rfl rfl rfl (Nat.le_of_ble_eq_true rfl) (Nat.le_of_ble_eq_true rfl) (show (cells + 2) + 0 ≤ 601024 by omega) (show (slots + 12) + 0 ≤ 7293034 by omega) (Nat.le_of_ble_eq_true rfl) dL_law_480 (fun z4 v4 hz4 => ?_)
  refine g_istore F rfl (Nat.le_of_ble_eq_true rfl) (ls' := [(6, (0, z4)), (5, (0, z3)), (0, (108, 0)), (1, (17, 0)), (2, (18, 0)), (3, (19, 0)), (4, (0, l4))]) rfl dL_law_483 ?_
  refine g_aload_n F rfl 4 rfl dL_law_485 ?_
  refine g_callV F (by decide) (K := 8) (b := 0) [] [] ml_RL_132 wi_X8_thrown ws_X8_thrown (c_X8_thrown 0  (by decide)) mi_X8_thrown (by decide) ⟨_, rfl, rfl⟩ (by decide) rfl rfl rfl (Nat.le_of_ble_eq_true rfl) (Nat.le_of_ble_eq_true rfl) (show (cells + 2) + 0 ≤ 601024 by omega) (show (slots + 12) + 0 ≤ 7293034 by omega) (Nat.le_of_ble_eq_true rfl) dL_law_486 (fun z5 v5 hz5 => ?_)
  refine g_iload F 1 rfl rfl dL_law_489 ?_
  refine g_icmp_eq F rfl rfl (tgt := 496) rfl dL_law_491 (fun n6 => ?_) (fun n6 => ?_)
  · refine g_iload F 1 rfl rfl dL_law_496 ?_
    refine g_if_ne F rfl (tgt := 513) rfl dL_law_498 (fun n7 => ?_) (fun n7 => ?_)
    · refine g_goto F (tgt := 2508) rfl dL_law_513 ?_
      refine g_loc [(2, 108), (3, 17), (4, 18), (5, 19), (6, 0)] rfl ?_
      exact hk v5
    · refine g_aload_n F rfl 5 rfl dL_law_501 ?_
      refine g_iconst F 2 rfl dL_law_502 ?_
      refine h_lald F (n := 1) ak_9 (by decide) (by decide) rfl dL_law_503 ?_
      refine g_iload F 0 rfl rfl dL_law_504 ?_
      refine g_i2l F rfl dL_law_506 ?_
      refine g_lcmp F dL_law_507 ?_
      refine g_if_eq F rfl (tgt := 513) rfl dL_law_508 (fun n8 => ?_) (fun n8 => ?_)
      · refine g_goto F (tgt := 2508) rfl dL_law_513 ?_
        refine g_loc [(2, 108), (3, 17), (4, 18), (5, 19), (6, 0)] rfl ?_
        exact hk v5
      · refine g_iconst F 2 rfl dL_law_511 ?_
        exact g_lawret F rfl (show (cells + 2) ≤ 601024 by omega) (show (slots + 12) ≤ 7293034 by omega) rfl dL_law_512
  · refine g_iconst F 2 rfl dL_law_494 ?_
    exact g_lawret F rfl (show (cells + 2) ≤ 601024 by omega) (show (slots + 12) ≤ 7293034 by omega) rfl dL_law_495
def cs_5 (l4 : Int) (L : Nat) (xs : Nat → Int32) (k : V → Res) (v : V) : Res := (chk (0 ≤ (w32 (l4 + 1)) ∧ (w32 (l4 + 1)) < (L : Int)) (chk (0 ≤ (w32 (l4 + 2)) ∧ (w32 (l4 + 2)) < (L : Int)) (chk (0 ≤ (w32 (l4 + 3)) ∧ (w32 (l4 + 3)) < (L : Int)) (if (xi xs (w32 (l4 + 3))) = 0 then (rB (sp_L_word 0 (xi xs (w32 (l4 + 1))) (xi xs (w32 (l4 + 2))) 0 0 v) (fun z5 v5 => (rB (sp_X8_word 0 (xi xs (w32 (l4 + 1))) (xi xs (w32 (l4 + 2))) 0 v5) (fun z6 v6 => (rB (sp_X8_thrown 0  v6) (fun z7 v7 => (if z7 = z5 then (if ¬ z5 = 0 then (k v7)
   else (if (lcmp (v7 9 0 0) z6) = 0 then (k v7)
   else (rOk 0 v7)))
   else (rOk 0 v7))))))))
   else (rB (sp_L_word 0 (xi xs (w32 (l4 + 1))) (xi xs (w32 (l4 + 2))) 1 0 v) (fun z11 v11 => (rB (sp_X8_word 0 (xi xs (w32 (l4 + 1))) (xi xs (w32 (l4 + 2))) 1 v11) (fun z12 v12 => (rB (sp_X8_thrown 0  v12) (fun z13 v13 => (if z13 = z11 then (if ¬ z11 = 0 then (k v13)
   else (if (lcmp (v13 9 0 0) z12) = 0 then (k v13)
   else (rOk 0 v13)))
   else (rOk 0 v13))))))))))))
set_option maxRecDepth 100000 in
set_option maxHeartbeats 4000000 in
theorem kcs_5 {x : Cx} {nm9 : String} {rt9 : Option Nat} (F : Fx x cL_law RL nm9 room_1 7 rt9 (some .boolean) 1) {L : Nat} {xs : Nat → Int32} (hX : FxS x L xs) {l4 : Int} {k : V → Res} {cells slots : Nat} (h1 : cells + 40 ≤ 601024) (h2 : slots + 400 ≤ 7293034) (hk : ∀ v, Gs x (k v) v (cells + 4) (slots + 21) 2508 [(0, (108, 0)), (1, (17, 0)), (2, (18, 0)), (3, (19, 0)), (4, (0, l4))] []) (v : V) : Gs x (cs_5 l4 L xs k v) v cells slots 516 [(0, (108, 0)), (1, (17, 0)), (2, (18, 0)), (3, (19, 0)), (4, (0, l4))] [] := by
  unfold cs_5
  refine g_aload_n F rfl 1 rfl dL_law_516 ?_
  refine g_aload_n F rfl 0 rfl dL_law_517 ?_
  refine g_iload F 4 rfl rfl dL_law_518 ?_
  refine g_iconst F 2 rfl dL_law_520 ?_
  refine g_iadd F rfl rfl dL_law_521 ?_
  refine g_chk (fun n1 => ?_)
  refine g_sld F hX n1 rfl dL_law_522 ?_
  refine g_aload_n F rfl 0 rfl dL_law_523 ?_
  refine g_iload F 4 rfl rfl dL_law_524 ?_
  refine g_iconst F 0 rfl dL_law_526 ?_
  refine g_iadd F rfl rfl dL_law_527 ?_
  refine g_chk (fun n2 => ?_)
  refine g_sld F hX n2 rfl dL_law_528 ?_
  refine g_aload_n F rfl 0 rfl dL_law_529 ?_
  refine g_iload F 4 rfl rfl dL_law_530 ?_
  refine g_iconst F 0 rfl dL_law_532 ?_
  refine g_iadd F rfl rfl dL_law_533 ?_
  refine g_chk (fun n3 => ?_)
  refine g_sld F hX n3 rfl dL_law_534 ?_
  refine g_if_eq F rfl (tgt := 542) rfl dL_law_535 (fun n4 => ?_) (fun n4 => ?_)
  · refine g_iconst F 2 rfl dL_law_542 ?_
    refine g_aload_n F rfl 3 rfl dL_law_543 ?_
    refine g_callSX F (by decide) [(17, 0), (0, (xi xs (w32 (l4 + 1)))), (0, (xi xs (w32 (l4 + 2)))), (2, 0), (19, 0)] [17, 0, 0, 2, 19] ml_RL_149 wt_L_word (c_L_word 0 (xi xs (w32 (l4 + 1))) (xi xs (w32 (l4 + 2))) 0 0) mw_L_word rfl rfl rfl (Nat.le_of_ble_eq_true rfl) (Nat.le_of_ble_eq_true rfl) (show cells + 4 ≤ 601024 by omega) (show slots + 21 ≤ 7293034 by omega) (Nat.le_of_ble_eq_true rfl) dL_law_544 (fun z5 v5 hz5 => ?_)
    refine g_istore F rfl (Nat.le_of_ble_eq_true rfl) (ls' := [(5, (0, z5)), (0, (108, 0)), (1, (17, 0)), (2, (18, 0)), (3, (19, 0)), (4, (0, l4))]) rfl dL_law_547 ?_
    refine g_aload_n F rfl 3 rfl dL_law_549 ?_
    refine g_aload_n F rfl 1 rfl dL_law_550 ?_
    refine g_iload F 5 rfl rfl dL_law_551 ?_
    refine g_iconst F 2 rfl dL_law_553 ?_
    refine g_iadd F rfl rfl dL_law_554 ?_
    refine g_sld F hX n1 rfl dL_law_555 ?_
    refine g_aload_n F rfl 1 rfl dL_law_556 ?_
    refine g_iload F 5 rfl rfl dL_law_557 ?_
    refine g_iconst F 0 rfl dL_law_559 ?_
    refine g_iadd F rfl rfl dL_law_560 ?_
    refine g_sld F hX n2 rfl dL_law_561 ?_
    refine g_aload_n F rfl 1 rfl dL_law_562 ?_
    refine g_iload F 5 rfl rfl dL_law_563 ?_
    refine g_iconst F 0 rfl dL_law_565 ?_
    refine g_iadd F rfl rfl dL_law_566 ?_
    refine g_sld F hX n3 rfl dL_law_567 ?_
    refine g_if_eq_t F rfl n4 (tgt := 575) rfl dL_law_568 ?_
    refine g_iconst F 2 rfl dL_law_575 ?_
    refine g_callV F (by decide) (K := 8) (b := 0) [(0, (xi xs (w32 (l4 + 1)))), (0, (xi xs (w32 (l4 + 2)))), (2, 0)] [0, 0, 2] ml_RL_152 wi_X8_word ws_X8_word (c_X8_word 0 (xi xs (w32 (l4 + 1))) (xi xs (w32 (l4 + 2))) 0 (by decide)) mi_X8_word (by decide) ⟨_, rfl, rfl⟩ (by decide) rfl rfl rfl (Nat.le_of_ble_eq_true rfl) (Nat.le_of_ble_eq_true rfl) (show (cells + 4) + 0 ≤ 601024 by omega) (show (slots + 21) + 0 ≤ 7293034 by omega) (Nat.le_of_ble_eq_true rfl) dL_law_576 (fun z6 v6 hz6 => ?_)
    refine g_istore F rfl (Nat.le_of_ble_eq_true rfl) (ls' := [(6, (0, z6)), (5, (0, z5)), (0, (108, 0)), (1, (17, 0)), (2, (18, 0)), (3, (19, 0)), (4, (0, l4))]) rfl dL_law_579 ?_
    refine g_aload_n F rfl 4 rfl dL_law_581 ?_
    refine g_callV F (by decide) (K := 8) (b := 0) [] [] ml_RL_132 wi_X8_thrown ws_X8_thrown (c_X8_thrown 0  (by decide)) mi_X8_thrown (by decide) ⟨_, rfl, rfl⟩ (by decide) rfl rfl rfl (Nat.le_of_ble_eq_true rfl) (Nat.le_of_ble_eq_true rfl) (show (cells + 4) + 0 ≤ 601024 by omega) (show (slots + 21) + 0 ≤ 7293034 by omega) (Nat.le_of_ble_eq_true rfl) dL_law_582 (fun z7 v7 hz7 => ?_)
    refine g_iload F 1 rfl rfl dL_law_585 ?_
    refine g_icmp_eq F rfl rfl (tgt := 592) rfl dL_law_587 (fun n8 => ?_) (fun n8 => ?_)
    · refine g_iload F 1 rfl rfl dL_law_592 ?_
      refine g_if_ne F rfl (tgt := 609) rfl dL_law_594 (fun n9 => ?_) (fun n9 => ?_)
      · refine g_goto F (tgt := 2508) rfl dL_law_609 ?_
        refine g_loc [(2, 108), (3, 17), (4, 18), (5, 19), (6, 0)] rfl ?_
        exact hk v7
      · refine g_aload_n F rfl 5 rfl dL_law_597 ?_
        refine g_iconst F 2 rfl dL_law_598 ?_
        refine h_lald F (n := 1) ak_9 (by decide) (by decide) rfl dL_law_599 ?_
        refine g_iload F 0 rfl rfl dL_law_600 ?_
        refine g_i2l F rfl dL_law_602 ?_
        refine g_lcmp F dL_law_603 ?_
        refine g_if_eq F rfl (tgt := 609) rfl dL_law_604 (fun n10 => ?_) (fun n10 => ?_)
        · refine g_goto F (tgt := 2508) rfl dL_law_609 ?_
          refine g_loc [(2, 108), (3, 17), (4, 18), (5, 19), (6, 0)] rfl ?_
          exact hk v7
        · refine g_iconst F 2 rfl dL_law_607 ?_
          exact g_lawret F rfl (show (cells + 4) ≤ 601024 by omega) (show (slots + 21) ≤ 7293034 by omega) rfl dL_law_608
    · refine g_iconst F 2 rfl dL_law_590 ?_
      exact g_lawret F rfl (show (cells + 4) ≤ 601024 by omega) (show (slots + 21) ≤ 7293034 by omega) rfl dL_law_591
  · refine g_iconst F 2 rfl dL_law_538 ?_
    refine g_goto F (tgt := 543) rfl dL_law_539 ?_
    refine g_aload_n F rfl 3 rfl dL_law_543 ?_
    refine g_callSX F (by decide) [(17, 0), (0, (xi xs (w32 (l4 + 1)))), (0, (xi xs (w32 (l4 + 2)))), (2, 1), (19, 0)] [17, 0, 0, 2, 19] ml_RL_149 wt_L_word (c_L_word 0 (xi xs (w32 (l4 + 1))) (xi xs (w32 (l4 + 2))) 1 0) mw_L_word rfl rfl rfl (Nat.le_of_ble_eq_true rfl) (Nat.le_of_ble_eq_true rfl) (show cells + 4 ≤ 601024 by omega) (show slots + 21 ≤ 7293034 by omega) (Nat.le_of_ble_eq_true rfl) dL_law_544 (fun z11 v11 hz11 => ?_)
    refine g_istore F rfl (Nat.le_of_ble_eq_true rfl) (ls' := [(5, (0, z11)), (0, (108, 0)), (1, (17, 0)), (2, (18, 0)), (3, (19, 0)), (4, (0, l4))]) rfl dL_law_547 ?_
    refine g_aload_n F rfl 3 rfl dL_law_549 ?_
    refine g_aload_n F rfl 1 rfl dL_law_550 ?_
    refine g_iload F 5 rfl rfl dL_law_551 ?_
    refine g_iconst F 2 rfl dL_law_553 ?_
    refine g_iadd F rfl rfl dL_law_554 ?_
    refine g_sld F hX n1 rfl dL_law_555 ?_
    refine g_aload_n F rfl 1 rfl dL_law_556 ?_
    refine g_iload F 5 rfl rfl dL_law_557 ?_
    refine g_iconst F 0 rfl dL_law_559 ?_
    refine g_iadd F rfl rfl dL_law_560 ?_
    refine g_sld F hX n2 rfl dL_law_561 ?_
    refine g_aload_n F rfl 1 rfl dL_law_562 ?_
    refine g_iload F 5 rfl rfl dL_law_563 ?_
    refine g_iconst F 0 rfl dL_law_565 ?_
    refine g_iadd F rfl rfl dL_law_566 ?_
    refine g_sld F hX n3 rfl dL_law_567 ?_
    refine g_if_eq_f F rfl n4 (tgt := 575) rfl dL_law_568 ?_
    refine g_iconst F 2 rfl dL_law_571 ?_
    refine g_goto F (tgt := 576) rfl dL_law_572 ?_
    refine g_callV F (by decide) (K := 8) (b := 0) [(0, (xi xs (w32 (l4 + 1)))), (0, (xi xs (w32 (l4 + 2)))), (2, 1)] [0, 0, 2] ml_RL_152 wi_X8_word ws_X8_word (c_X8_word 0 (xi xs (w32 (l4 + 1))) (xi xs (w32 (l4 + 2))) 1 (by decide)) mi_X8_word (by decide) ⟨_, rfl, rfl⟩ (by decide) rfl rfl rfl (Nat.le_of_ble_eq_true rfl) (Nat.le_of_ble_eq_true rfl) (show (cells + 4) + 0 ≤ 601024 by omega) (show (slots + 21) + 0 ≤ 7293034 by omega) (Nat.le_of_ble_eq_true rfl) dL_law_576 (fun z12 v12 hz12 => ?_)
    refine g_istore F rfl (Nat.le_of_ble_eq_true rfl) (ls' := [(6, (0, z12)), (5, (0, z11)), (0, (108, 0)), (1, (17, 0)), (2, (18, 0)), (3, (19, 0)), (4, (0, l4))]) rfl dL_law_579 ?_
    refine g_aload_n F rfl 4 rfl dL_law_581 ?_
    refine g_callV F (by decide) (K := 8) (b := 0) [] [] ml_RL_132 wi_X8_thrown ws_X8_thrown (c_X8_thrown 0  (by decide)) mi_X8_thrown (by decide) ⟨_, rfl, rfl⟩ (by decide) rfl rfl rfl (Nat.le_of_ble_eq_true rfl) (Nat.le_of_ble_eq_true rfl) (show (cells + 4) + 0 ≤ 601024 by omega) (show (slots + 21) + 0 ≤ 7293034 by omega) (Nat.le_of_ble_eq_true rfl) dL_law_582 (fun z13 v13 hz13 => ?_)
    refine g_iload F 1 rfl rfl dL_law_585 ?_
    refine g_icmp_eq F rfl rfl (tgt := 592) rfl dL_law_587 (fun n14 => ?_) (fun n14 => ?_)
    · refine g_iload F 1 rfl rfl dL_law_592 ?_
      refine g_if_ne F rfl (tgt := 609) rfl dL_law_594 (fun n15 => ?_) (fun n15 => ?_)
      · refine g_goto F (tgt := 2508) rfl dL_law_609 ?_
        refine g_loc [(2, 108), (3, 17), (4, 18), (5, 19), (6, 0)] rfl ?_
        exact hk v13
      · refine g_aload_n F rfl 5 rfl dL_law_597 ?_
        refine g_iconst F 2 rfl dL_law_598 ?_
        refine h_lald F (n := 1) ak_9 (by decide) (by decide) rfl dL_law_599 ?_
        refine g_iload F 0 rfl rfl dL_law_600 ?_
        refine g_i2l F rfl dL_law_602 ?_
        refine g_lcmp F dL_law_603 ?_
        refine g_if_eq F rfl (tgt := 609) rfl dL_law_604 (fun n16 => ?_) (fun n16 => ?_)
        · refine g_goto F (tgt := 2508) rfl dL_law_609 ?_
          refine g_loc [(2, 108), (3, 17), (4, 18), (5, 19), (6, 0)] rfl ?_
          exact hk v13
        · refine g_iconst F 2 rfl dL_law_607 ?_
          exact g_lawret F rfl (show (cells + 4) ≤ 601024 by omega) (show (slots + 21) ≤ 7293034 by omega) rfl dL_law_608
    · refine g_iconst F 2 rfl dL_law_590 ?_
      exact g_lawret F rfl (show (cells + 4) ≤ 601024 by omega) (show (slots + 21) ≤ 7293034 by omega) rfl dL_law_591
def cs_6 (l4 : Int) (L : Nat) (xs : Nat → Int32) (k : V → Res) (v : V) : Res := (chk (0 ≤ (w32 (l4 + 1)) ∧ (w32 (l4 + 1)) < (L : Int)) (chk (0 ≤ (w32 (l4 + 2)) ∧ (w32 (l4 + 2)) < (L : Int)) (chk (0 ≤ (w32 (l4 + 3)) ∧ (w32 (l4 + 3)) < (L : Int)) (rB (sp_L_paper 0 (xi xs (w32 (l4 + 1))) (xi xs (w32 (l4 + 2))) (xi xs (w32 (l4 + 3))) v) (fun z4 v4 => (rB (sp_X8_paper 0 (xi xs (w32 (l4 + 1))) (xi xs (w32 (l4 + 2))) (xi xs (w32 (l4 + 3))) v4) (fun z5 v5 => (rB (sp_X8_thrown 0  v5) (fun z6 v6 => (if z6 = z4 then (k v6)
   else (rOk 0 v6)))))))))))
set_option maxRecDepth 100000 in
set_option maxHeartbeats 4000000 in
theorem kcs_6 {x : Cx} {nm9 : String} {rt9 : Option Nat} (F : Fx x cL_law RL nm9 room_1 7 rt9 (some .boolean) 1) {L : Nat} {xs : Nat → Int32} (hX : FxS x L xs) {l4 : Int} {k : V → Res} {cells slots : Nat} (h1 : cells + 40 ≤ 601024) (h2 : slots + 400 ≤ 7293034) (hk : ∀ v, Gs x (k v) v (cells + 3) (slots + 18) 2508 [(0, (108, 0)), (1, (17, 0)), (2, (18, 0)), (3, (19, 0)), (4, (0, l4))] []) (v : V) : Gs x (cs_6 l4 L xs k v) v cells slots 612 [(0, (108, 0)), (1, (17, 0)), (2, (18, 0)), (3, (19, 0)), (4, (0, l4))] [] := by
  unfold cs_6
  refine g_aload_n F rfl 1 rfl dL_law_612 ?_
  refine g_aload_n F rfl 0 rfl dL_law_613 ?_
  refine g_iload F 4 rfl rfl dL_law_614 ?_
  refine g_iconst F 2 rfl dL_law_616 ?_
  refine g_iadd F rfl rfl dL_law_617 ?_
  refine g_chk (fun n1 => ?_)
  refine g_sld F hX n1 rfl dL_law_618 ?_
  refine g_aload_n F rfl 0 rfl dL_law_619 ?_
  refine g_iload F 4 rfl rfl dL_law_620 ?_
  refine g_iconst F 0 rfl dL_law_622 ?_
  refine g_iadd F rfl rfl dL_law_623 ?_
  refine g_chk (fun n2 => ?_)
  refine g_sld F hX n2 rfl dL_law_624 ?_
  refine g_aload_n F rfl 0 rfl dL_law_625 ?_
  refine g_iload F 4 rfl rfl dL_law_626 ?_
  refine g_iconst F 0 rfl dL_law_628 ?_
  refine g_iadd F rfl rfl dL_law_629 ?_
  refine g_chk (fun n3 => ?_)
  refine g_sld F hX n3 rfl dL_law_630 ?_
  refine g_callSX F (by decide) [(17, 0), (0, (xi xs (w32 (l4 + 1)))), (0, (xi xs (w32 (l4 + 2)))), (0, (xi xs (w32 (l4 + 3))))] [17, 0, 0, 0] ml_RL_153 wt_L_paper (c_L_paper 0 (xi xs (w32 (l4 + 1))) (xi xs (w32 (l4 + 2))) (xi xs (w32 (l4 + 3)))) mw_L_paper rfl rfl rfl (Nat.le_of_ble_eq_true rfl) (Nat.le_of_ble_eq_true rfl) (show cells + 3 ≤ 601024 by omega) (show slots + 18 ≤ 7293034 by omega) (Nat.le_of_ble_eq_true rfl) dL_law_631 (fun z4 v4 hz4 => ?_)
  refine g_istore F rfl (Nat.le_of_ble_eq_true rfl) (ls' := [(5, (0, z4)), (0, (108, 0)), (1, (17, 0)), (2, (18, 0)), (3, (19, 0)), (4, (0, l4))]) rfl dL_law_634 ?_
  refine g_aload_n F rfl 3 rfl dL_law_636 ?_
  refine g_aload_n F rfl 1 rfl dL_law_637 ?_
  refine g_iload F 5 rfl rfl dL_law_638 ?_
  refine g_iconst F 2 rfl dL_law_640 ?_
  refine g_iadd F rfl rfl dL_law_641 ?_
  refine g_sld F hX n1 rfl dL_law_642 ?_
  refine g_aload_n F rfl 1 rfl dL_law_643 ?_
  refine g_iload F 5 rfl rfl dL_law_644 ?_
  refine g_iconst F 0 rfl dL_law_646 ?_
  refine g_iadd F rfl rfl dL_law_647 ?_
  refine g_sld F hX n2 rfl dL_law_648 ?_
  refine g_aload_n F rfl 1 rfl dL_law_649 ?_
  refine g_iload F 5 rfl rfl dL_law_650 ?_
  refine g_iconst F 0 rfl dL_law_652 ?_
  refine g_iadd F rfl rfl dL_law_653 ?_
  refine g_sld F hX n3 rfl dL_law_654 ?_
  refine g_callV F (by decide) (K := 8) (b := 0) [(0, (xi xs (w32 (l4 + 1)))), (0, (xi xs (w32 (l4 + 2)))), (0, (xi xs (w32 (l4 + 3))))] [0, 0, 0] ml_RL_156 wi_X8_paper ws_X8_paper (c_X8_paper 0 (xi xs (w32 (l4 + 1))) (xi xs (w32 (l4 + 2))) (xi xs (w32 (l4 + 3))) (by decide)) mi_X8_paper (by decide) ⟨_, rfl, rfl⟩ (by decide) rfl rfl rfl (Nat.le_of_ble_eq_true rfl) (Nat.le_of_ble_eq_true rfl) (show (cells + 3) + 0 ≤ 601024 by omega) (show (slots + 18) + 0 ≤ 7293034 by omega) (Nat.le_of_ble_eq_true rfl) dL_law_655 (fun z5 v5 hz5 => ?_)
  refine g_aload_n F rfl 3 rfl dL_law_658 ?_
  refine g_callV F (by decide) (K := 8) (b := 0) [] [] ml_RL_132 wi_X8_thrown ws_X8_thrown (c_X8_thrown 0  (by decide)) mi_X8_thrown (by decide) ⟨_, rfl, rfl⟩ (by decide) rfl rfl rfl (Nat.le_of_ble_eq_true rfl) (Nat.le_of_ble_eq_true rfl) (show (cells + 3) + 0 ≤ 601024 by omega) (show (slots + 18) + 0 ≤ 7293034 by omega) (Nat.le_of_ble_eq_true rfl) dL_law_659 (fun z6 v6 hz6 => ?_)
  refine g_iload F 0 rfl rfl dL_law_662 ?_
  refine g_icmp_eq F rfl rfl (tgt := 669) rfl dL_law_664 (fun n7 => ?_) (fun n7 => ?_)
  · refine g_goto F (tgt := 2508) rfl dL_law_669 ?_
    refine g_loc [(1, 108), (2, 17), (3, 18), (4, 19), (5, 0)] rfl ?_
    exact hk v6
  · refine g_iconst F 2 rfl dL_law_667 ?_
    exact g_lawret F rfl (show (cells + 3) ≤ 601024 by omega) (show (slots + 18) ≤ 7293034 by omega) rfl dL_law_668
def cs_7 (l4 : Int) (L : Nat) (xs : Nat → Int32) (k : V → Res) (v : V) : Res := (chk (0 ≤ (w32 (l4 + 1)) ∧ (w32 (l4 + 1)) < (L : Int)) (chk (0 ≤ (w32 (l4 + 2)) ∧ (w32 (l4 + 2)) < (L : Int)) (rB (sp_L_right 0 (xi xs (w32 (l4 + 1))) (xi xs (w32 (l4 + 2))) 0 v) (fun z3 v3 => (rB (sp_X8_right 0 (xi xs (w32 (l4 + 1))) (xi xs (w32 (l4 + 2))) v3) (fun z4 v4 => (rB (sp_X8_thrown 0  v4) (fun z5 v5 => (if z5 = z3 then (if ¬ z3 = 0 then (k v5)
   else (if (lcmp (v5 9 0 0) z4) = 0 then (k v5)
   else (rOk 0 v5)))
   else (rOk 0 v5))))))))))
set_option maxRecDepth 100000 in
set_option maxHeartbeats 4000000 in
theorem kcs_7 {x : Cx} {nm9 : String} {rt9 : Option Nat} (F : Fx x cL_law RL nm9 room_1 7 rt9 (some .boolean) 1) {L : Nat} {xs : Nat → Int32} (hX : FxS x L xs) {l4 : Int} {k : V → Res} {cells slots : Nat} (h1 : cells + 40 ≤ 601024) (h2 : slots + 400 ≤ 7293034) (hk : ∀ v, Gs x (k v) v (cells + 2) (slots + 12) 2508 [(0, (108, 0)), (1, (17, 0)), (2, (18, 0)), (3, (19, 0)), (4, (0, l4))] []) (v : V) : Gs x (cs_7 l4 L xs k v) v cells slots 672 [(0, (108, 0)), (1, (17, 0)), (2, (18, 0)), (3, (19, 0)), (4, (0, l4))] [] := by
  unfold cs_7
  refine g_aload_n F rfl 1 rfl dL_law_672 ?_
  refine g_aload_n F rfl 0 rfl dL_law_673 ?_
  refine g_iload F 4 rfl rfl dL_law_674 ?_
  refine g_iconst F 2 rfl dL_law_676 ?_
  refine g_iadd F rfl rfl dL_law_677 ?_
  refine g_chk (fun n1 => ?_)
  refine g_sld F hX n1 rfl dL_law_678 ?_
  refine g_aload_n F rfl 0 rfl dL_law_679 ?_
  refine g_iload F 4 rfl rfl dL_law_680 ?_
  refine g_iconst F 0 rfl dL_law_682 ?_
  refine g_iadd F rfl rfl dL_law_683 ?_
  refine g_chk (fun n2 => ?_)
  refine g_sld F hX n2 rfl dL_law_684 ?_
  refine g_aload_n F rfl 3 rfl dL_law_685 ?_
  refine g_callSX F (by decide) [(17, 0), (0, (xi xs (w32 (l4 + 1)))), (0, (xi xs (w32 (l4 + 2)))), (19, 0)] [17, 0, 0, 19] ml_RL_157 wt_L_right (c_L_right 0 (xi xs (w32 (l4 + 1))) (xi xs (w32 (l4 + 2))) 0) mw_L_right rfl rfl rfl (Nat.le_of_ble_eq_true rfl) (Nat.le_of_ble_eq_true rfl) (show cells + 2 ≤ 601024 by omega) (show slots + 12 ≤ 7293034 by omega) (Nat.le_of_ble_eq_true rfl) dL_law_686 (fun z3 v3 hz3 => ?_)
  refine g_istore F rfl (Nat.le_of_ble_eq_true rfl) (ls' := [(5, (0, z3)), (0, (108, 0)), (1, (17, 0)), (2, (18, 0)), (3, (19, 0)), (4, (0, l4))]) rfl dL_law_689 ?_
  refine g_aload_n F rfl 3 rfl dL_law_691 ?_
  refine g_aload_n F rfl 1 rfl dL_law_692 ?_
  refine g_iload F 5 rfl rfl dL_law_693 ?_
  refine g_iconst F 2 rfl dL_law_695 ?_
  refine g_iadd F rfl rfl dL_law_696 ?_
  refine g_sld F hX n1 rfl dL_law_697 ?_
  refine g_aload_n F rfl 1 rfl dL_law_698 ?_
  refine g_iload F 5 rfl rfl dL_law_699 ?_
  refine g_iconst F 0 rfl dL_law_701 ?_
  refine g_iadd F rfl rfl dL_law_702 ?_
  refine g_sld F hX n2 rfl dL_law_703 ?_
  refine g_callV F (by decide) (K := 8) (b := 0) [(0, (xi xs (w32 (l4 + 1)))), (0, (xi xs (w32 (l4 + 2))))] [0, 0] ml_RL_159 wi_X8_right ws_X8_right (c_X8_right 0 (xi xs (w32 (l4 + 1))) (xi xs (w32 (l4 + 2))) (by decide)) mi_X8_right (by decide) ⟨_, rfl, rfl⟩ (by decide) rfl rfl rfl (Nat.le_of_ble_eq_true rfl) (Nat.le_of_ble_eq_true rfl) (show (cells + 2) + 0 ≤ 601024 by omega) (show (slots + 12) + 0 ≤ 7293034 by omega) (Nat.le_of_ble_eq_true rfl) dL_law_704 (fun z4 v4 hz4 => ?_)
  refine g_istore F rfl (Nat.le_of_ble_eq_true rfl) (ls' := [(6, (0, z4)), (5, (0, z3)), (0, (108, 0)), (1, (17, 0)), (2, (18, 0)), (3, (19, 0)), (4, (0, l4))]) rfl dL_law_707 ?_
  refine g_aload_n F rfl 4 rfl dL_law_709 ?_
  refine g_callV F (by decide) (K := 8) (b := 0) [] [] ml_RL_132 wi_X8_thrown ws_X8_thrown (c_X8_thrown 0  (by decide)) mi_X8_thrown (by decide) ⟨_, rfl, rfl⟩ (by decide) rfl rfl rfl (Nat.le_of_ble_eq_true rfl) (Nat.le_of_ble_eq_true rfl) (show (cells + 2) + 0 ≤ 601024 by omega) (show (slots + 12) + 0 ≤ 7293034 by omega) (Nat.le_of_ble_eq_true rfl) dL_law_710 (fun z5 v5 hz5 => ?_)
  refine g_iload F 1 rfl rfl dL_law_713 ?_
  refine g_icmp_eq F rfl rfl (tgt := 720) rfl dL_law_715 (fun n6 => ?_) (fun n6 => ?_)
  · refine g_iload F 1 rfl rfl dL_law_720 ?_
    refine g_if_ne F rfl (tgt := 737) rfl dL_law_722 (fun n7 => ?_) (fun n7 => ?_)
    · refine g_goto F (tgt := 2508) rfl dL_law_737 ?_
      refine g_loc [(2, 108), (3, 17), (4, 18), (5, 19), (6, 0)] rfl ?_
      exact hk v5
    · refine g_aload_n F rfl 5 rfl dL_law_725 ?_
      refine g_iconst F 2 rfl dL_law_726 ?_
      refine h_lald F (n := 1) ak_9 (by decide) (by decide) rfl dL_law_727 ?_
      refine g_iload F 0 rfl rfl dL_law_728 ?_
      refine g_i2l F rfl dL_law_730 ?_
      refine g_lcmp F dL_law_731 ?_
      refine g_if_eq F rfl (tgt := 737) rfl dL_law_732 (fun n8 => ?_) (fun n8 => ?_)
      · refine g_goto F (tgt := 2508) rfl dL_law_737 ?_
        refine g_loc [(2, 108), (3, 17), (4, 18), (5, 19), (6, 0)] rfl ?_
        exact hk v5
      · refine g_iconst F 2 rfl dL_law_735 ?_
        exact g_lawret F rfl (show (cells + 2) ≤ 601024 by omega) (show (slots + 12) ≤ 7293034 by omega) rfl dL_law_736
  · refine g_iconst F 2 rfl dL_law_718 ?_
    exact g_lawret F rfl (show (cells + 2) ≤ 601024 by omega) (show (slots + 12) ≤ 7293034 by omega) rfl dL_law_719
def cs_8 (l4 : Int) (L : Nat) (xs : Nat → Int32) (k : V → Res) (v : V) : Res := (chk (0 ≤ (w32 (l4 + 1)) ∧ (w32 (l4 + 1)) < (L : Int)) (chk (0 ≤ (w32 (l4 + 2)) ∧ (w32 (l4 + 2)) < (L : Int)) (rB (sp_L_bar 0 (xi xs (w32 (l4 + 1))) (xi xs (w32 (l4 + 2))) 0 v) (fun z3 v3 => (rB (sp_X8_bar 0 (xi xs (w32 (l4 + 1))) (xi xs (w32 (l4 + 2))) v3) (fun z4 v4 => (rB (sp_X8_thrown 0  v4) (fun z5 v5 => (if z5 = z3 then (if ¬ z3 = 0 then (k v5)
   else (if (lcmp (v5 9 0 0) z4) = 0 then (k v5)
   else (rOk 0 v5)))
   else (rOk 0 v5))))))))))
set_option maxRecDepth 100000 in
set_option maxHeartbeats 4000000 in
theorem kcs_8 {x : Cx} {nm9 : String} {rt9 : Option Nat} (F : Fx x cL_law RL nm9 room_1 7 rt9 (some .boolean) 1) {L : Nat} {xs : Nat → Int32} (hX : FxS x L xs) {l4 : Int} {k : V → Res} {cells slots : Nat} (h1 : cells + 40 ≤ 601024) (h2 : slots + 400 ≤ 7293034) (hk : ∀ v, Gs x (k v) v (cells + 2) (slots + 12) 2508 [(0, (108, 0)), (1, (17, 0)), (2, (18, 0)), (3, (19, 0)), (4, (0, l4))] []) (v : V) : Gs x (cs_8 l4 L xs k v) v cells slots 740 [(0, (108, 0)), (1, (17, 0)), (2, (18, 0)), (3, (19, 0)), (4, (0, l4))] [] := by
  unfold cs_8
  refine g_aload_n F rfl 1 rfl dL_law_740 ?_
  refine g_aload_n F rfl 0 rfl dL_law_741 ?_
  refine g_iload F 4 rfl rfl dL_law_742 ?_
  refine g_iconst F 2 rfl dL_law_744 ?_
  refine g_iadd F rfl rfl dL_law_745 ?_
  refine g_chk (fun n1 => ?_)
  refine g_sld F hX n1 rfl dL_law_746 ?_
  refine g_aload_n F rfl 0 rfl dL_law_747 ?_
  refine g_iload F 4 rfl rfl dL_law_748 ?_
  refine g_iconst F 0 rfl dL_law_750 ?_
  refine g_iadd F rfl rfl dL_law_751 ?_
  refine g_chk (fun n2 => ?_)
  refine g_sld F hX n2 rfl dL_law_752 ?_
  refine g_aload_n F rfl 3 rfl dL_law_753 ?_
  refine g_callSX F (by decide) [(17, 0), (0, (xi xs (w32 (l4 + 1)))), (0, (xi xs (w32 (l4 + 2)))), (19, 0)] [17, 0, 0, 19] ml_RL_160 wt_L_bar (c_L_bar 0 (xi xs (w32 (l4 + 1))) (xi xs (w32 (l4 + 2))) 0) mw_L_bar rfl rfl rfl (Nat.le_of_ble_eq_true rfl) (Nat.le_of_ble_eq_true rfl) (show cells + 2 ≤ 601024 by omega) (show slots + 12 ≤ 7293034 by omega) (Nat.le_of_ble_eq_true rfl) dL_law_754 (fun z3 v3 hz3 => ?_)
  refine g_istore F rfl (Nat.le_of_ble_eq_true rfl) (ls' := [(5, (0, z3)), (0, (108, 0)), (1, (17, 0)), (2, (18, 0)), (3, (19, 0)), (4, (0, l4))]) rfl dL_law_757 ?_
  refine g_aload_n F rfl 3 rfl dL_law_759 ?_
  refine g_aload_n F rfl 1 rfl dL_law_760 ?_
  refine g_iload F 5 rfl rfl dL_law_761 ?_
  refine g_iconst F 2 rfl dL_law_763 ?_
  refine g_iadd F rfl rfl dL_law_764 ?_
  refine g_sld F hX n1 rfl dL_law_765 ?_
  refine g_aload_n F rfl 1 rfl dL_law_766 ?_
  refine g_iload F 5 rfl rfl dL_law_767 ?_
  refine g_iconst F 0 rfl dL_law_769 ?_
  refine g_iadd F rfl rfl dL_law_770 ?_
  refine g_sld F hX n2 rfl dL_law_771 ?_
  refine g_callV F (by decide) (K := 8) (b := 0) [(0, (xi xs (w32 (l4 + 1)))), (0, (xi xs (w32 (l4 + 2))))] [0, 0] ml_RL_162 wi_X8_bar ws_X8_bar (c_X8_bar 0 (xi xs (w32 (l4 + 1))) (xi xs (w32 (l4 + 2))) (by decide)) mi_X8_bar (by decide) ⟨_, rfl, rfl⟩ (by decide) rfl rfl rfl (Nat.le_of_ble_eq_true rfl) (Nat.le_of_ble_eq_true rfl) (show (cells + 2) + 0 ≤ 601024 by omega) (show (slots + 12) + 0 ≤ 7293034 by omega) (Nat.le_of_ble_eq_true rfl) dL_law_772 (fun z4 v4 hz4 => ?_)
  refine g_istore F rfl (Nat.le_of_ble_eq_true rfl) (ls' := [(6, (0, z4)), (5, (0, z3)), (0, (108, 0)), (1, (17, 0)), (2, (18, 0)), (3, (19, 0)), (4, (0, l4))]) rfl dL_law_775 ?_
  refine g_aload_n F rfl 4 rfl dL_law_777 ?_
  refine g_callV F (by decide) (K := 8) (b := 0) [] [] ml_RL_132 wi_X8_thrown ws_X8_thrown (c_X8_thrown 0  (by decide)) mi_X8_thrown (by decide) ⟨_, rfl, rfl⟩ (by decide) rfl rfl rfl (Nat.le_of_ble_eq_true rfl) (Nat.le_of_ble_eq_true rfl) (show (cells + 2) + 0 ≤ 601024 by omega) (show (slots + 12) + 0 ≤ 7293034 by omega) (Nat.le_of_ble_eq_true rfl) dL_law_778 (fun z5 v5 hz5 => ?_)
  refine g_iload F 1 rfl rfl dL_law_781 ?_
  refine g_icmp_eq F rfl rfl (tgt := 788) rfl dL_law_783 (fun n6 => ?_) (fun n6 => ?_)
  · refine g_iload F 1 rfl rfl dL_law_788 ?_
    refine g_if_ne F rfl (tgt := 805) rfl dL_law_790 (fun n7 => ?_) (fun n7 => ?_)
    · refine g_goto F (tgt := 2508) rfl dL_law_805 ?_
      refine g_loc [(2, 108), (3, 17), (4, 18), (5, 19), (6, 0)] rfl ?_
      exact hk v5
    · refine g_aload_n F rfl 5 rfl dL_law_793 ?_
      refine g_iconst F 2 rfl dL_law_794 ?_
      refine h_lald F (n := 1) ak_9 (by decide) (by decide) rfl dL_law_795 ?_
      refine g_iload F 0 rfl rfl dL_law_796 ?_
      refine g_i2l F rfl dL_law_798 ?_
      refine g_lcmp F dL_law_799 ?_
      refine g_if_eq F rfl (tgt := 805) rfl dL_law_800 (fun n8 => ?_) (fun n8 => ?_)
      · refine g_goto F (tgt := 2508) rfl dL_law_805 ?_
        refine g_loc [(2, 108), (3, 17), (4, 18), (5, 19), (6, 0)] rfl ?_
        exact hk v5
      · refine g_iconst F 2 rfl dL_law_803 ?_
        exact g_lawret F rfl (show (cells + 2) ≤ 601024 by omega) (show (slots + 12) ≤ 7293034 by omega) rfl dL_law_804
  · refine g_iconst F 2 rfl dL_law_786 ?_
    exact g_lawret F rfl (show (cells + 2) ≤ 601024 by omega) (show (slots + 12) ≤ 7293034 by omega) rfl dL_law_787
def cs_9 (l4 : Int) (L : Nat) (xs : Nat → Int32) (k : V → Res) (v : V) : Res := (chk (0 ≤ (w32 (l4 + 1)) ∧ (w32 (l4 + 1)) < (L : Int)) (chk (0 ≤ (w32 (l4 + 2)) ∧ (w32 (l4 + 2)) < (L : Int)) (if (xi xs (w32 (l4 + 2))) = 0 then (rB (sp_L_seal 0 (xi xs (w32 (l4 + 1))) 0 0 v) (fun z4 v4 => (rB (sp_X8_seal 0 (xi xs (w32 (l4 + 1))) 0 v4) (fun z5 v5 => (rB (sp_X8_thrown 0  v5) (fun z6 v6 => (if z6 = z4 then (if ¬ z4 = 0 then (k v6)
   else (if z5 = 0 then (if (lcmp (v6 9 0 0) 0) = 0 then (k v6)
   else (rOk 0 v6))
   else (if (lcmp (v6 9 0 0) 1) = 0 then (k v6)
   else (rOk 0 v6))))
   else (rOk 0 v6))))))))
   else (rB (sp_L_seal 0 (xi xs (w32 (l4 + 1))) 1 0 v) (fun z12 v12 => (rB (sp_X8_seal 0 (xi xs (w32 (l4 + 1))) 1 v12) (fun z13 v13 => (rB (sp_X8_thrown 0  v13) (fun z14 v14 => (if z14 = z12 then (if ¬ z12 = 0 then (k v14)
   else (if z13 = 0 then (if (lcmp (v14 9 0 0) 0) = 0 then (k v14)
   else (rOk 0 v14))
   else (if (lcmp (v14 9 0 0) 1) = 0 then (k v14)
   else (rOk 0 v14))))
   else (rOk 0 v14)))))))))))
set_option maxRecDepth 100000 in
set_option maxHeartbeats 4000000 in
theorem kcs_9 {x : Cx} {nm9 : String} {rt9 : Option Nat} (F : Fx x cL_law RL nm9 room_1 7 rt9 (some .boolean) 1) {L : Nat} {xs : Nat → Int32} (hX : FxS x L xs) {l4 : Int} {k : V → Res} {cells slots : Nat} (h1 : cells + 40 ≤ 601024) (h2 : slots + 400 ≤ 7293034) (hk : ∀ v, Gs x (k v) v (cells + 2) (slots + 12) 2508 [(0, (108, 0)), (1, (17, 0)), (2, (18, 0)), (3, (19, 0)), (4, (0, l4))] []) (v : V) : Gs x (cs_9 l4 L xs k v) v cells slots 808 [(0, (108, 0)), (1, (17, 0)), (2, (18, 0)), (3, (19, 0)), (4, (0, l4))] [] := by
  unfold cs_9
  refine g_aload_n F rfl 1 rfl dL_law_808 ?_
  refine g_aload_n F rfl 0 rfl dL_law_809 ?_
  refine g_iload F 4 rfl rfl dL_law_810 ?_
  refine g_iconst F 2 rfl dL_law_812 ?_
  refine g_iadd F rfl rfl dL_law_813 ?_
  refine g_chk (fun n1 => ?_)
  refine g_sld F hX n1 rfl dL_law_814 ?_
  refine g_aload_n F rfl 0 rfl dL_law_815 ?_
  refine g_iload F 4 rfl rfl dL_law_816 ?_
  refine g_iconst F 0 rfl dL_law_818 ?_
  refine g_iadd F rfl rfl dL_law_819 ?_
  refine g_chk (fun n2 => ?_)
  refine g_sld F hX n2 rfl dL_law_820 ?_
  refine g_if_eq F rfl (tgt := 828) rfl dL_law_821 (fun n3 => ?_) (fun n3 => ?_)
  · refine g_iconst F 2 rfl dL_law_828 ?_
    refine g_aload_n F rfl 3 rfl dL_law_829 ?_
    refine g_callSX F (by decide) [(17, 0), (0, (xi xs (w32 (l4 + 1)))), (2, 0), (19, 0)] [17, 0, 2, 19] ml_RL_163 wt_L_seal (c_L_seal 0 (xi xs (w32 (l4 + 1))) 0 0) mw_L_seal rfl rfl rfl (Nat.le_of_ble_eq_true rfl) (Nat.le_of_ble_eq_true rfl) (show cells + 2 ≤ 601024 by omega) (show slots + 12 ≤ 7293034 by omega) (Nat.le_of_ble_eq_true rfl) dL_law_830 (fun z4 v4 hz4 => ?_)
    refine g_istore F rfl (Nat.le_of_ble_eq_true rfl) (ls' := [(5, (0, z4)), (0, (108, 0)), (1, (17, 0)), (2, (18, 0)), (3, (19, 0)), (4, (0, l4))]) rfl dL_law_833 ?_
    refine g_aload_n F rfl 3 rfl dL_law_835 ?_
    refine g_aload_n F rfl 1 rfl dL_law_836 ?_
    refine g_iload F 5 rfl rfl dL_law_837 ?_
    refine g_iconst F 2 rfl dL_law_839 ?_
    refine g_iadd F rfl rfl dL_law_840 ?_
    refine g_sld F hX n1 rfl dL_law_841 ?_
    refine g_aload_n F rfl 1 rfl dL_law_842 ?_
    refine g_iload F 5 rfl rfl dL_law_843 ?_
    refine g_iconst F 0 rfl dL_law_845 ?_
    refine g_iadd F rfl rfl dL_law_846 ?_
    refine g_sld F hX n2 rfl dL_law_847 ?_
    refine g_if_eq_t F rfl n3 (tgt := 855) rfl dL_law_848 ?_
    refine g_iconst F 2 rfl dL_law_855 ?_
    refine g_callV F (by decide) (K := 8) (b := 0) [(0, (xi xs (w32 (l4 + 1)))), (2, 0)] [0, 2] ml_RL_166 wi_X8_seal ws_X8_seal (c_X8_seal 0 (xi xs (w32 (l4 + 1))) 0 (by decide)) mi_X8_seal (by decide) ⟨_, rfl, rfl⟩ (by decide) rfl rfl rfl (Nat.le_of_ble_eq_true rfl) (Nat.le_of_ble_eq_true rfl) (show (cells + 2) + 0 ≤ 601024 by omega) (show (slots + 12) + 0 ≤ 7293034 by omega) (Nat.le_of_ble_eq_true rfl) dL_law_856 (fun z5 v5 hz5 => ?_)
    refine g_istore F rfl (Nat.le_of_ble_eq_true rfl) (ls' := [(6, (2, z5)), (5, (0, z4)), (0, (108, 0)), (1, (17, 0)), (2, (18, 0)), (3, (19, 0)), (4, (0, l4))]) rfl dL_law_859 ?_
    refine g_aload_n F rfl 4 rfl dL_law_861 ?_
    refine g_callV F (by decide) (K := 8) (b := 0) [] [] ml_RL_132 wi_X8_thrown ws_X8_thrown (c_X8_thrown 0  (by decide)) mi_X8_thrown (by decide) ⟨_, rfl, rfl⟩ (by decide) rfl rfl rfl (Nat.le_of_ble_eq_true rfl) (Nat.le_of_ble_eq_true rfl) (show (cells + 2) + 0 ≤ 601024 by omega) (show (slots + 12) + 0 ≤ 7293034 by omega) (Nat.le_of_ble_eq_true rfl) dL_law_862 (fun z6 v6 hz6 => ?_)
    refine g_iload F 1 rfl rfl dL_law_865 ?_
    refine g_icmp_eq F rfl rfl (tgt := 872) rfl dL_law_867 (fun n7 => ?_) (fun n7 => ?_)
    · refine g_iload F 1 rfl rfl dL_law_872 ?_
      refine g_if_ne F rfl (tgt := 896) rfl dL_law_874 (fun n8 => ?_) (fun n8 => ?_)
      · refine g_goto F (tgt := 2508) rfl dL_law_896 ?_
        refine g_loc [(2, 108), (3, 17), (4, 18), (5, 19), (6, 0)] rfl ?_
        exact hk v6
      · refine g_aload_n F rfl 5 rfl dL_law_877 ?_
        refine g_iconst F 2 rfl dL_law_878 ?_
        refine h_lald F (n := 1) ak_9 (by decide) (by decide) rfl dL_law_879 ?_
        refine g_iload F 0 rfl rfl dL_law_880 ?_
        refine g_if_eq F rfl (tgt := 889) rfl dL_law_882 (fun n9 => ?_) (fun n9 => ?_)
        · refine g_lconst F (z := 0) rfl dL_law_889 ?_
          refine g_lcmp F dL_law_890 ?_
          refine g_if_eq F rfl (tgt := 896) rfl dL_law_891 (fun n10 => ?_) (fun n10 => ?_)
          · refine g_goto F (tgt := 2508) rfl dL_law_896 ?_
            refine g_loc [(2, 108), (3, 17), (4, 18), (5, 19), (6, 0)] rfl ?_
            exact hk v6
          · refine g_iconst F 2 rfl dL_law_894 ?_
            exact g_lawret F rfl (show (cells + 2) ≤ 601024 by omega) (show (slots + 12) ≤ 7293034 by omega) rfl dL_law_895
        · refine g_lconst F (z := 1) rfl dL_law_885 ?_
          refine g_goto F (tgt := 890) rfl dL_law_886 ?_
          refine g_lcmp F dL_law_890 ?_
          refine g_if_eq F rfl (tgt := 896) rfl dL_law_891 (fun n11 => ?_) (fun n11 => ?_)
          · refine g_goto F (tgt := 2508) rfl dL_law_896 ?_
            refine g_loc [(2, 108), (3, 17), (4, 18), (5, 19), (6, 0)] rfl ?_
            exact hk v6
          · refine g_iconst F 2 rfl dL_law_894 ?_
            exact g_lawret F rfl (show (cells + 2) ≤ 601024 by omega) (show (slots + 12) ≤ 7293034 by omega) rfl dL_law_895
    · refine g_iconst F 2 rfl dL_law_870 ?_
      exact g_lawret F rfl (show (cells + 2) ≤ 601024 by omega) (show (slots + 12) ≤ 7293034 by omega) rfl dL_law_871
  · refine g_iconst F 2 rfl dL_law_824 ?_
    refine g_goto F (tgt := 829) rfl dL_law_825 ?_
    refine g_aload_n F rfl 3 rfl dL_law_829 ?_
    refine g_callSX F (by decide) [(17, 0), (0, (xi xs (w32 (l4 + 1)))), (2, 1), (19, 0)] [17, 0, 2, 19] ml_RL_163 wt_L_seal (c_L_seal 0 (xi xs (w32 (l4 + 1))) 1 0) mw_L_seal rfl rfl rfl (Nat.le_of_ble_eq_true rfl) (Nat.le_of_ble_eq_true rfl) (show cells + 2 ≤ 601024 by omega) (show slots + 12 ≤ 7293034 by omega) (Nat.le_of_ble_eq_true rfl) dL_law_830 (fun z12 v12 hz12 => ?_)
    refine g_istore F rfl (Nat.le_of_ble_eq_true rfl) (ls' := [(5, (0, z12)), (0, (108, 0)), (1, (17, 0)), (2, (18, 0)), (3, (19, 0)), (4, (0, l4))]) rfl dL_law_833 ?_
    refine g_aload_n F rfl 3 rfl dL_law_835 ?_
    refine g_aload_n F rfl 1 rfl dL_law_836 ?_
    refine g_iload F 5 rfl rfl dL_law_837 ?_
    refine g_iconst F 2 rfl dL_law_839 ?_
    refine g_iadd F rfl rfl dL_law_840 ?_
    refine g_sld F hX n1 rfl dL_law_841 ?_
    refine g_aload_n F rfl 1 rfl dL_law_842 ?_
    refine g_iload F 5 rfl rfl dL_law_843 ?_
    refine g_iconst F 0 rfl dL_law_845 ?_
    refine g_iadd F rfl rfl dL_law_846 ?_
    refine g_sld F hX n2 rfl dL_law_847 ?_
    refine g_if_eq_f F rfl n3 (tgt := 855) rfl dL_law_848 ?_
    refine g_iconst F 2 rfl dL_law_851 ?_
    refine g_goto F (tgt := 856) rfl dL_law_852 ?_
    refine g_callV F (by decide) (K := 8) (b := 0) [(0, (xi xs (w32 (l4 + 1)))), (2, 1)] [0, 2] ml_RL_166 wi_X8_seal ws_X8_seal (c_X8_seal 0 (xi xs (w32 (l4 + 1))) 1 (by decide)) mi_X8_seal (by decide) ⟨_, rfl, rfl⟩ (by decide) rfl rfl rfl (Nat.le_of_ble_eq_true rfl) (Nat.le_of_ble_eq_true rfl) (show (cells + 2) + 0 ≤ 601024 by omega) (show (slots + 12) + 0 ≤ 7293034 by omega) (Nat.le_of_ble_eq_true rfl) dL_law_856 (fun z13 v13 hz13 => ?_)
    refine g_istore F rfl (Nat.le_of_ble_eq_true rfl) (ls' := [(6, (2, z13)), (5, (0, z12)), (0, (108, 0)), (1, (17, 0)), (2, (18, 0)), (3, (19, 0)), (4, (0, l4))]) rfl dL_law_859 ?_
    refine g_aload_n F rfl 4 rfl dL_law_861 ?_
    refine g_callV F (by decide) (K := 8) (b := 0) [] [] ml_RL_132 wi_X8_thrown ws_X8_thrown (c_X8_thrown 0  (by decide)) mi_X8_thrown (by decide) ⟨_, rfl, rfl⟩ (by decide) rfl rfl rfl (Nat.le_of_ble_eq_true rfl) (Nat.le_of_ble_eq_true rfl) (show (cells + 2) + 0 ≤ 601024 by omega) (show (slots + 12) + 0 ≤ 7293034 by omega) (Nat.le_of_ble_eq_true rfl) dL_law_862 (fun z14 v14 hz14 => ?_)
    refine g_iload F 1 rfl rfl dL_law_865 ?_
    refine g_icmp_eq F rfl rfl (tgt := 872) rfl dL_law_867 (fun n15 => ?_) (fun n15 => ?_)
    · refine g_iload F 1 rfl rfl dL_law_872 ?_
      refine g_if_ne F rfl (tgt := 896) rfl dL_law_874 (fun n16 => ?_) (fun n16 => ?_)
      · refine g_goto F (tgt := 2508) rfl dL_law_896 ?_
        refine g_loc [(2, 108), (3, 17), (4, 18), (5, 19), (6, 0)] rfl ?_
        exact hk v14
      · refine g_aload_n F rfl 5 rfl dL_law_877 ?_
        refine g_iconst F 2 rfl dL_law_878 ?_
        refine h_lald F (n := 1) ak_9 (by decide) (by decide) rfl dL_law_879 ?_
        refine g_iload F 0 rfl rfl dL_law_880 ?_
        refine g_if_eq F rfl (tgt := 889) rfl dL_law_882 (fun n17 => ?_) (fun n17 => ?_)
        · refine g_lconst F (z := 0) rfl dL_law_889 ?_
          refine g_lcmp F dL_law_890 ?_
          refine g_if_eq F rfl (tgt := 896) rfl dL_law_891 (fun n18 => ?_) (fun n18 => ?_)
          · refine g_goto F (tgt := 2508) rfl dL_law_896 ?_
            refine g_loc [(2, 108), (3, 17), (4, 18), (5, 19), (6, 0)] rfl ?_
            exact hk v14
          · refine g_iconst F 2 rfl dL_law_894 ?_
            exact g_lawret F rfl (show (cells + 2) ≤ 601024 by omega) (show (slots + 12) ≤ 7293034 by omega) rfl dL_law_895
        · refine g_lconst F (z := 1) rfl dL_law_885 ?_
          refine g_goto F (tgt := 890) rfl dL_law_886 ?_
          refine g_lcmp F dL_law_890 ?_
          refine g_if_eq F rfl (tgt := 896) rfl dL_law_891 (fun n19 => ?_) (fun n19 => ?_)
          · refine g_goto F (tgt := 2508) rfl dL_law_896 ?_
            refine g_loc [(2, 108), (3, 17), (4, 18), (5, 19), (6, 0)] rfl ?_
            exact hk v14
          · refine g_iconst F 2 rfl dL_law_894 ?_
            exact g_lawret F rfl (show (cells + 2) ≤ 601024 by omega) (show (slots + 12) ≤ 7293034 by omega) rfl dL_law_895
    · refine g_iconst F 2 rfl dL_law_870 ?_
      exact g_lawret F rfl (show (cells + 2) ≤ 601024 by omega) (show (slots + 12) ≤ 7293034 by omega) rfl dL_law_871
def cs_10 (l4 : Int) (L : Nat) (xs : Nat → Int32) (k : V → Res) (v : V) : Res := (chk (0 ≤ (w32 (l4 + 1)) ∧ (w32 (l4 + 1)) < (L : Int)) (chk (0 ≤ (w32 (l4 + 2)) ∧ (w32 (l4 + 2)) < (L : Int)) (rB (sp_L_bring 0 (xi xs (w32 (l4 + 1))) (xi xs (w32 (l4 + 2))) 0 v) (fun z3 v3 => (rB (sp_X8_bring 0 (xi xs (w32 (l4 + 1))) (xi xs (w32 (l4 + 2))) v3) (fun z4 v4 => (rB (sp_X8_thrown 0  v4) (fun z5 v5 => (if z5 = z3 then (if ¬ z3 = 0 then (k v5)
   else (if (lcmp (v5 9 0 0) z4) = 0 then (k v5)
   else (rOk 0 v5)))
   else (rOk 0 v5))))))))))
set_option maxRecDepth 100000 in
set_option maxHeartbeats 4000000 in
theorem kcs_10 {x : Cx} {nm9 : String} {rt9 : Option Nat} (F : Fx x cL_law RL nm9 room_1 7 rt9 (some .boolean) 1) {L : Nat} {xs : Nat → Int32} (hX : FxS x L xs) {l4 : Int} {k : V → Res} {cells slots : Nat} (h1 : cells + 40 ≤ 601024) (h2 : slots + 400 ≤ 7293034) (hk : ∀ v, Gs x (k v) v (cells + 3) (slots + 18) 2508 [(0, (108, 0)), (1, (17, 0)), (2, (18, 0)), (3, (19, 0)), (4, (0, l4))] []) (v : V) : Gs x (cs_10 l4 L xs k v) v cells slots 899 [(0, (108, 0)), (1, (17, 0)), (2, (18, 0)), (3, (19, 0)), (4, (0, l4))] [] := by
  unfold cs_10
  refine g_aload_n F rfl 1 rfl dL_law_899 ?_
  refine g_aload_n F rfl 0 rfl dL_law_900 ?_
  refine g_iload F 4 rfl rfl dL_law_901 ?_
  refine g_iconst F 2 rfl dL_law_903 ?_
  refine g_iadd F rfl rfl dL_law_904 ?_
  refine g_chk (fun n1 => ?_)
  refine g_sld F hX n1 rfl dL_law_905 ?_
  refine g_aload_n F rfl 0 rfl dL_law_906 ?_
  refine g_iload F 4 rfl rfl dL_law_907 ?_
  refine g_iconst F 0 rfl dL_law_909 ?_
  refine g_iadd F rfl rfl dL_law_910 ?_
  refine g_chk (fun n2 => ?_)
  refine g_sld F hX n2 rfl dL_law_911 ?_
  refine g_aload_n F rfl 3 rfl dL_law_912 ?_
  refine g_callSX F (by decide) [(17, 0), (0, (xi xs (w32 (l4 + 1)))), (0, (xi xs (w32 (l4 + 2)))), (19, 0)] [17, 0, 0, 19] ml_RL_167 wt_L_bring (c_L_bring 0 (xi xs (w32 (l4 + 1))) (xi xs (w32 (l4 + 2))) 0) mw_L_bring rfl rfl rfl (Nat.le_of_ble_eq_true rfl) (Nat.le_of_ble_eq_true rfl) (show cells + 3 ≤ 601024 by omega) (show slots + 18 ≤ 7293034 by omega) (Nat.le_of_ble_eq_true rfl) dL_law_913 (fun z3 v3 hz3 => ?_)
  refine g_istore F rfl (Nat.le_of_ble_eq_true rfl) (ls' := [(5, (0, z3)), (0, (108, 0)), (1, (17, 0)), (2, (18, 0)), (3, (19, 0)), (4, (0, l4))]) rfl dL_law_916 ?_
  refine g_aload_n F rfl 3 rfl dL_law_918 ?_
  refine g_aload_n F rfl 1 rfl dL_law_919 ?_
  refine g_iload F 5 rfl rfl dL_law_920 ?_
  refine g_iconst F 2 rfl dL_law_922 ?_
  refine g_iadd F rfl rfl dL_law_923 ?_
  refine g_sld F hX n1 rfl dL_law_924 ?_
  refine g_aload_n F rfl 1 rfl dL_law_925 ?_
  refine g_iload F 5 rfl rfl dL_law_926 ?_
  refine g_iconst F 0 rfl dL_law_928 ?_
  refine g_iadd F rfl rfl dL_law_929 ?_
  refine g_sld F hX n2 rfl dL_law_930 ?_
  refine g_callV F (by decide) (K := 8) (b := 0) [(0, (xi xs (w32 (l4 + 1)))), (0, (xi xs (w32 (l4 + 2))))] [0, 0] ml_RL_169 wi_X8_bring ws_X8_bring (c_X8_bring 0 (xi xs (w32 (l4 + 1))) (xi xs (w32 (l4 + 2))) (by decide)) mi_X8_bring (by decide) ⟨_, rfl, rfl⟩ (by decide) rfl rfl rfl (Nat.le_of_ble_eq_true rfl) (Nat.le_of_ble_eq_true rfl) (show (cells + 3) + 0 ≤ 601024 by omega) (show (slots + 18) + 0 ≤ 7293034 by omega) (Nat.le_of_ble_eq_true rfl) dL_law_931 (fun z4 v4 hz4 => ?_)
  refine g_istore F rfl (Nat.le_of_ble_eq_true rfl) (ls' := [(6, (0, z4)), (5, (0, z3)), (0, (108, 0)), (1, (17, 0)), (2, (18, 0)), (3, (19, 0)), (4, (0, l4))]) rfl dL_law_934 ?_
  refine g_aload_n F rfl 4 rfl dL_law_936 ?_
  refine g_callV F (by decide) (K := 8) (b := 0) [] [] ml_RL_132 wi_X8_thrown ws_X8_thrown (c_X8_thrown 0  (by decide)) mi_X8_thrown (by decide) ⟨_, rfl, rfl⟩ (by decide) rfl rfl rfl (Nat.le_of_ble_eq_true rfl) (Nat.le_of_ble_eq_true rfl) (show (cells + 3) + 0 ≤ 601024 by omega) (show (slots + 18) + 0 ≤ 7293034 by omega) (Nat.le_of_ble_eq_true rfl) dL_law_937 (fun z5 v5 hz5 => ?_)
  refine g_iload F 1 rfl rfl dL_law_940 ?_
  refine g_icmp_eq F rfl rfl (tgt := 947) rfl dL_law_942 (fun n6 => ?_) (fun n6 => ?_)
  · refine g_iload F 1 rfl rfl dL_law_947 ?_
    refine g_if_ne F rfl (tgt := 964) rfl dL_law_949 (fun n7 => ?_) (fun n7 => ?_)
    · refine g_goto F (tgt := 2508) rfl dL_law_964 ?_
      refine g_loc [(2, 108), (3, 17), (4, 18), (5, 19), (6, 0)] rfl ?_
      exact hk v5
    · refine g_aload_n F rfl 5 rfl dL_law_952 ?_
      refine g_iconst F 2 rfl dL_law_953 ?_
      refine h_lald F (n := 1) ak_9 (by decide) (by decide) rfl dL_law_954 ?_
      refine g_iload F 0 rfl rfl dL_law_955 ?_
      refine g_i2l F rfl dL_law_957 ?_
      refine g_lcmp F dL_law_958 ?_
      refine g_if_eq F rfl (tgt := 964) rfl dL_law_959 (fun n8 => ?_) (fun n8 => ?_)
      · refine g_goto F (tgt := 2508) rfl dL_law_964 ?_
        refine g_loc [(2, 108), (3, 17), (4, 18), (5, 19), (6, 0)] rfl ?_
        exact hk v5
      · refine g_iconst F 2 rfl dL_law_962 ?_
        exact g_lawret F rfl (show (cells + 3) ≤ 601024 by omega) (show (slots + 18) ≤ 7293034 by omega) rfl dL_law_963
  · refine g_iconst F 2 rfl dL_law_945 ?_
    exact g_lawret F rfl (show (cells + 3) ≤ 601024 by omega) (show (slots + 18) ≤ 7293034 by omega) rfl dL_law_946
def cs_11 (l4 : Int) (L : Nat) (xs : Nat → Int32) (k : V → Res) (v : V) : Res := (chk (0 ≤ (w32 (l4 + 1)) ∧ (w32 (l4 + 1)) < (L : Int)) (rB (sp_L_list 0 (xi xs (w32 (l4 + 1))) v) (fun z2 v2 => (rB (sp_X8_list 0 (xi xs (w32 (l4 + 1))) v2) (fun z3 v3 => (rB (sp_X8_thrown 0  v3) (fun z4 v4 => (if z4 = z2 then (k v4)
   else (rOk 0 v4)))))))))
set_option maxRecDepth 100000 in
set_option maxHeartbeats 4000000 in
theorem kcs_11 {x : Cx} {nm9 : String} {rt9 : Option Nat} (F : Fx x cL_law RL nm9 room_1 7 rt9 (some .boolean) 1) {L : Nat} {xs : Nat → Int32} (hX : FxS x L xs) {l4 : Int} {k : V → Res} {cells slots : Nat} (h1 : cells + 40 ≤ 601024) (h2 : slots + 400 ≤ 7293034) (hk : ∀ v, Gs x (k v) v (cells + 2) (slots + 12) 2508 [(0, (108, 0)), (1, (17, 0)), (2, (18, 0)), (3, (19, 0)), (4, (0, l4))] []) (v : V) : Gs x (cs_11 l4 L xs k v) v cells slots 967 [(0, (108, 0)), (1, (17, 0)), (2, (18, 0)), (3, (19, 0)), (4, (0, l4))] [] := by
  unfold cs_11
  refine g_aload_n F rfl 1 rfl dL_law_967 ?_
  refine g_aload_n F rfl 0 rfl dL_law_968 ?_
  refine g_iload F 4 rfl rfl dL_law_969 ?_
  refine g_iconst F 2 rfl dL_law_971 ?_
  refine g_iadd F rfl rfl dL_law_972 ?_
  refine g_chk (fun n1 => ?_)
  refine g_sld F hX n1 rfl dL_law_973 ?_
  refine g_callSX F (by decide) [(17, 0), (0, (xi xs (w32 (l4 + 1))))] [17, 0] ml_RL_170 wt_L_list (c_L_list 0 (xi xs (w32 (l4 + 1)))) mw_L_list rfl rfl rfl (Nat.le_of_ble_eq_true rfl) (Nat.le_of_ble_eq_true rfl) (show cells + 2 ≤ 601024 by omega) (show slots + 12 ≤ 7293034 by omega) (Nat.le_of_ble_eq_true rfl) dL_law_974 (fun z2 v2 hz2 => ?_)
  refine g_istore F rfl (Nat.le_of_ble_eq_true rfl) (ls' := [(5, (0, z2)), (0, (108, 0)), (1, (17, 0)), (2, (18, 0)), (3, (19, 0)), (4, (0, l4))]) rfl dL_law_977 ?_
  refine g_aload_n F rfl 3 rfl dL_law_979 ?_
  refine g_aload_n F rfl 1 rfl dL_law_980 ?_
  refine g_iload F 5 rfl rfl dL_law_981 ?_
  refine g_iconst F 2 rfl dL_law_983 ?_
  refine g_iadd F rfl rfl dL_law_984 ?_
  refine g_sld F hX n1 rfl dL_law_985 ?_
  refine g_callV F (by decide) (K := 8) (b := 0) [(0, (xi xs (w32 (l4 + 1))))] [0] ml_RL_173 wi_X8_list ws_X8_list (c_X8_list 0 (xi xs (w32 (l4 + 1))) (by decide)) mi_X8_list (by decide) ⟨_, rfl, rfl⟩ (by decide) rfl rfl rfl (Nat.le_of_ble_eq_true rfl) (Nat.le_of_ble_eq_true rfl) (show (cells + 2) + 0 ≤ 601024 by omega) (show (slots + 12) + 0 ≤ 7293034 by omega) (Nat.le_of_ble_eq_true rfl) dL_law_986 (fun z3 v3 hz3 => ?_)
  refine g_aload_n F rfl 3 rfl dL_law_989 ?_
  refine g_callV F (by decide) (K := 8) (b := 0) [] [] ml_RL_132 wi_X8_thrown ws_X8_thrown (c_X8_thrown 0  (by decide)) mi_X8_thrown (by decide) ⟨_, rfl, rfl⟩ (by decide) rfl rfl rfl (Nat.le_of_ble_eq_true rfl) (Nat.le_of_ble_eq_true rfl) (show (cells + 2) + 0 ≤ 601024 by omega) (show (slots + 12) + 0 ≤ 7293034 by omega) (Nat.le_of_ble_eq_true rfl) dL_law_990 (fun z4 v4 hz4 => ?_)
  refine g_iload F 0 rfl rfl dL_law_993 ?_
  refine g_icmp_eq F rfl rfl (tgt := 1000) rfl dL_law_995 (fun n5 => ?_) (fun n5 => ?_)
  · refine g_goto F (tgt := 2508) rfl dL_law_1000 ?_
    refine g_loc [(1, 108), (2, 17), (3, 18), (4, 19), (5, 0)] rfl ?_
    exact hk v4
  · refine g_iconst F 2 rfl dL_law_998 ?_
    exact g_lawret F rfl (show (cells + 2) ≤ 601024 by omega) (show (slots + 12) ≤ 7293034 by omega) rfl dL_law_999
def cs_12 (l4 : Int) (L : Nat) (xs : Nat → Int32) (k : V → Res) (v : V) : Res := (chk (0 ≤ (w32 (l4 + 1)) ∧ (w32 (l4 + 1)) < (L : Int)) (rB (sp_L_fail 0 (xi xs (w32 (l4 + 1))) 0 v) (fun z2 v2 => (rB (sp_X8_fail 0 (xi xs (w32 (l4 + 1))) v2) (fun z3 v3 => (rB (sp_X8_thrown 0  v3) (fun z4 v4 => (if z4 = z2 then (if ¬ z2 = 0 then (k v4)
   else (if (lcmp (v4 9 0 0) z3) = 0 then (k v4)
   else (rOk 0 v4)))
   else (rOk 0 v4)))))))))
set_option maxRecDepth 100000 in
set_option maxHeartbeats 4000000 in
theorem kcs_12 {x : Cx} {nm9 : String} {rt9 : Option Nat} (F : Fx x cL_law RL nm9 room_1 7 rt9 (some .boolean) 1) {L : Nat} {xs : Nat → Int32} (hX : FxS x L xs) {l4 : Int} {k : V → Res} {cells slots : Nat} (h1 : cells + 40 ≤ 601024) (h2 : slots + 400 ≤ 7293034) (hk : ∀ v, Gs x (k v) v (cells + 2) (slots + 12) 2508 [(0, (108, 0)), (1, (17, 0)), (2, (18, 0)), (3, (19, 0)), (4, (0, l4))] []) (v : V) : Gs x (cs_12 l4 L xs k v) v cells slots 1003 [(0, (108, 0)), (1, (17, 0)), (2, (18, 0)), (3, (19, 0)), (4, (0, l4))] [] := by
  unfold cs_12
  refine g_aload_n F rfl 1 rfl dL_law_1003 ?_
  refine g_aload_n F rfl 0 rfl dL_law_1004 ?_
  refine g_iload F 4 rfl rfl dL_law_1005 ?_
  refine g_iconst F 2 rfl dL_law_1007 ?_
  refine g_iadd F rfl rfl dL_law_1008 ?_
  refine g_chk (fun n1 => ?_)
  refine g_sld F hX n1 rfl dL_law_1009 ?_
  refine g_aload_n F rfl 3 rfl dL_law_1010 ?_
  refine g_callSX F (by decide) [(17, 0), (0, (xi xs (w32 (l4 + 1)))), (19, 0)] [17, 0, 19] ml_RL_174 wt_L_fail (c_L_fail 0 (xi xs (w32 (l4 + 1))) 0) mw_L_fail rfl rfl rfl (Nat.le_of_ble_eq_true rfl) (Nat.le_of_ble_eq_true rfl) (show cells + 2 ≤ 601024 by omega) (show slots + 12 ≤ 7293034 by omega) (Nat.le_of_ble_eq_true rfl) dL_law_1011 (fun z2 v2 hz2 => ?_)
  refine g_istore F rfl (Nat.le_of_ble_eq_true rfl) (ls' := [(5, (0, z2)), (0, (108, 0)), (1, (17, 0)), (2, (18, 0)), (3, (19, 0)), (4, (0, l4))]) rfl dL_law_1014 ?_
  refine g_aload_n F rfl 3 rfl dL_law_1016 ?_
  refine g_aload_n F rfl 1 rfl dL_law_1017 ?_
  refine g_iload F 5 rfl rfl dL_law_1018 ?_
  refine g_iconst F 2 rfl dL_law_1020 ?_
  refine g_iadd F rfl rfl dL_law_1021 ?_
  refine g_sld F hX n1 rfl dL_law_1022 ?_
  refine g_callV F (by decide) (K := 8) (b := 0) [(0, (xi xs (w32 (l4 + 1))))] [0] ml_RL_176 wi_X8_fail ws_X8_fail (c_X8_fail 0 (xi xs (w32 (l4 + 1))) (by decide)) mi_X8_fail (by decide) ⟨_, rfl, rfl⟩ (by decide) rfl rfl rfl (Nat.le_of_ble_eq_true rfl) (Nat.le_of_ble_eq_true rfl) (show (cells + 2) + 0 ≤ 601024 by omega) (show (slots + 12) + 0 ≤ 7293034 by omega) (Nat.le_of_ble_eq_true rfl) dL_law_1023 (fun z3 v3 hz3 => ?_)
  refine g_istore F rfl (Nat.le_of_ble_eq_true rfl) (ls' := [(6, (0, z3)), (5, (0, z2)), (0, (108, 0)), (1, (17, 0)), (2, (18, 0)), (3, (19, 0)), (4, (0, l4))]) rfl dL_law_1026 ?_
  refine g_aload_n F rfl 4 rfl dL_law_1028 ?_
  refine g_callV F (by decide) (K := 8) (b := 0) [] [] ml_RL_132 wi_X8_thrown ws_X8_thrown (c_X8_thrown 0  (by decide)) mi_X8_thrown (by decide) ⟨_, rfl, rfl⟩ (by decide) rfl rfl rfl (Nat.le_of_ble_eq_true rfl) (Nat.le_of_ble_eq_true rfl) (show (cells + 2) + 0 ≤ 601024 by omega) (show (slots + 12) + 0 ≤ 7293034 by omega) (Nat.le_of_ble_eq_true rfl) dL_law_1029 (fun z4 v4 hz4 => ?_)
  refine g_iload F 1 rfl rfl dL_law_1032 ?_
  refine g_icmp_eq F rfl rfl (tgt := 1039) rfl dL_law_1034 (fun n5 => ?_) (fun n5 => ?_)
  · refine g_iload F 1 rfl rfl dL_law_1039 ?_
    refine g_if_ne F rfl (tgt := 1056) rfl dL_law_1041 (fun n6 => ?_) (fun n6 => ?_)
    · refine g_goto F (tgt := 2508) rfl dL_law_1056 ?_
      refine g_loc [(2, 108), (3, 17), (4, 18), (5, 19), (6, 0)] rfl ?_
      exact hk v4
    · refine g_aload_n F rfl 5 rfl dL_law_1044 ?_
      refine g_iconst F 2 rfl dL_law_1045 ?_
      refine h_lald F (n := 1) ak_9 (by decide) (by decide) rfl dL_law_1046 ?_
      refine g_iload F 0 rfl rfl dL_law_1047 ?_
      refine g_i2l F rfl dL_law_1049 ?_
      refine g_lcmp F dL_law_1050 ?_
      refine g_if_eq F rfl (tgt := 1056) rfl dL_law_1051 (fun n7 => ?_) (fun n7 => ?_)
      · refine g_goto F (tgt := 2508) rfl dL_law_1056 ?_
        refine g_loc [(2, 108), (3, 17), (4, 18), (5, 19), (6, 0)] rfl ?_
        exact hk v4
      · refine g_iconst F 2 rfl dL_law_1054 ?_
        exact g_lawret F rfl (show (cells + 2) ≤ 601024 by omega) (show (slots + 12) ≤ 7293034 by omega) rfl dL_law_1055
  · refine g_iconst F 2 rfl dL_law_1037 ?_
    exact g_lawret F rfl (show (cells + 2) ≤ 601024 by omega) (show (slots + 12) ≤ 7293034 by omega) rfl dL_law_1038
def cs_13 (l4 : Int) (L : Nat) (xs : Nat → Int32) (k : V → Res) (v : V) : Res := (chk (0 ≤ (w32 (l4 + 1)) ∧ (w32 (l4 + 1)) < (L : Int)) (chk (0 ≤ (w32 (l4 + 2)) ∧ (w32 (l4 + 2)) < (L : Int)) (chk (0 ≤ (w32 (l4 + 3)) ∧ (w32 (l4 + 3)) < (L : Int)) (chk (0 ≤ (w32 (l4 + 4)) ∧ (w32 (l4 + 4)) < (L : Int)) (rB (sp_L_sell 0 (xi xs (w32 (l4 + 1))) (xi xs (w32 (l4 + 2))) (xi xs (w32 (l4 + 3))) (xi xs (w32 (l4 + 4))) 0 v) (fun z5 v5 => (rB (sp_X8_sell 0 (xi xs (w32 (l4 + 1))) (xi xs (w32 (l4 + 2))) (xi xs (w32 (l4 + 3))) (xi xs (w32 (l4 + 4))) v5) (fun z6 v6 => (rB (sp_X8_thrown 0  v6) (fun z7 v7 => (if z7 = z5 then (if ¬ z5 = 0 then (k v7)
   else (if (lcmp (v7 9 0 0) z6) = 0 then (k v7)
   else (rOk 0 v7)))
   else (rOk 0 v7))))))))))))
set_option maxRecDepth 100000 in
set_option maxHeartbeats 4000000 in
theorem kcs_13 {x : Cx} {nm9 : String} {rt9 : Option Nat} (F : Fx x cL_law RL nm9 room_1 7 rt9 (some .boolean) 1) {L : Nat} {xs : Nat → Int32} (hX : FxS x L xs) {l4 : Int} {k : V → Res} {cells slots : Nat} (h1 : cells + 40 ≤ 601024) (h2 : slots + 400 ≤ 7293034) (hk : ∀ v, Gs x (k v) v (cells + 8) (slots + 49) 2508 [(0, (108, 0)), (1, (17, 0)), (2, (18, 0)), (3, (19, 0)), (4, (0, l4))] []) (v : V) : Gs x (cs_13 l4 L xs k v) v cells slots 1059 [(0, (108, 0)), (1, (17, 0)), (2, (18, 0)), (3, (19, 0)), (4, (0, l4))] [] := by
  unfold cs_13
  refine g_aload_n F rfl 1 rfl dL_law_1059 ?_
  refine g_aload_n F rfl 0 rfl dL_law_1060 ?_
  refine g_iload F 4 rfl rfl dL_law_1061 ?_
  refine g_iconst F 2 rfl dL_law_1063 ?_
  refine g_iadd F rfl rfl dL_law_1064 ?_
  refine g_chk (fun n1 => ?_)
  refine g_sld F hX n1 rfl dL_law_1065 ?_
  refine g_aload_n F rfl 0 rfl dL_law_1066 ?_
  refine g_iload F 4 rfl rfl dL_law_1067 ?_
  refine g_iconst F 0 rfl dL_law_1069 ?_
  refine g_iadd F rfl rfl dL_law_1070 ?_
  refine g_chk (fun n2 => ?_)
  refine g_sld F hX n2 rfl dL_law_1071 ?_
  refine g_aload_n F rfl 0 rfl dL_law_1072 ?_
  refine g_iload F 4 rfl rfl dL_law_1073 ?_
  refine g_iconst F 0 rfl dL_law_1075 ?_
  refine g_iadd F rfl rfl dL_law_1076 ?_
  refine g_chk (fun n3 => ?_)
  refine g_sld F hX n3 rfl dL_law_1077 ?_
  refine g_aload_n F rfl 0 rfl dL_law_1078 ?_
  refine g_iload F 4 rfl rfl dL_law_1079 ?_
  refine g_iconst F 0 rfl dL_law_1081 ?_
  refine g_iadd F rfl rfl dL_law_1082 ?_
  refine g_chk (fun n4 => ?_)
  refine g_sld F hX n4 rfl dL_law_1083 ?_
  refine g_aload_n F rfl 3 rfl dL_law_1084 ?_
  refine g_callSX F (by decide) [(17, 0), (0, (xi xs (w32 (l4 + 1)))), (0, (xi xs (w32 (l4 + 2)))), (0, (xi xs (w32 (l4 + 3)))), (0, (xi xs (w32 (l4 + 4)))), (19, 0)] [17, 0, 0, 0, 0, 19] ml_RL_177 wt_L_sell (c_L_sell 0 (xi xs (w32 (l4 + 1))) (xi xs (w32 (l4 + 2))) (xi xs (w32 (l4 + 3))) (xi xs (w32 (l4 + 4))) 0) mw_L_sell rfl rfl rfl (Nat.le_of_ble_eq_true rfl) (Nat.le_of_ble_eq_true rfl) (show cells + 8 ≤ 601024 by omega) (show slots + 49 ≤ 7293034 by omega) (Nat.le_of_ble_eq_true rfl) dL_law_1085 (fun z5 v5 hz5 => ?_)
  refine g_istore F rfl (Nat.le_of_ble_eq_true rfl) (ls' := [(5, (0, z5)), (0, (108, 0)), (1, (17, 0)), (2, (18, 0)), (3, (19, 0)), (4, (0, l4))]) rfl dL_law_1088 ?_
  refine g_aload_n F rfl 3 rfl dL_law_1090 ?_
  refine g_aload_n F rfl 1 rfl dL_law_1091 ?_
  refine g_iload F 5 rfl rfl dL_law_1092 ?_
  refine g_iconst F 2 rfl dL_law_1094 ?_
  refine g_iadd F rfl rfl dL_law_1095 ?_
  refine g_sld F hX n1 rfl dL_law_1096 ?_
  refine g_aload_n F rfl 1 rfl dL_law_1097 ?_
  refine g_iload F 5 rfl rfl dL_law_1098 ?_
  refine g_iconst F 0 rfl dL_law_1100 ?_
  refine g_iadd F rfl rfl dL_law_1101 ?_
  refine g_sld F hX n2 rfl dL_law_1102 ?_
  refine g_aload_n F rfl 1 rfl dL_law_1103 ?_
  refine g_iload F 5 rfl rfl dL_law_1104 ?_
  refine g_iconst F 0 rfl dL_law_1106 ?_
  refine g_iadd F rfl rfl dL_law_1107 ?_
  refine g_sld F hX n3 rfl dL_law_1108 ?_
  refine g_aload_n F rfl 1 rfl dL_law_1109 ?_
  refine g_iload F 5 rfl rfl dL_law_1110 ?_
  refine g_iconst F 0 rfl dL_law_1112 ?_
  refine g_iadd F rfl rfl dL_law_1113 ?_
  refine g_sld F hX n4 rfl dL_law_1114 ?_
  refine g_callV F (by decide) (K := 8) (b := 0) [(0, (xi xs (w32 (l4 + 1)))), (0, (xi xs (w32 (l4 + 2)))), (0, (xi xs (w32 (l4 + 3)))), (0, (xi xs (w32 (l4 + 4))))] [0, 0, 0, 0] ml_RL_180 wi_X8_sell ws_X8_sell (c_X8_sell 0 (xi xs (w32 (l4 + 1))) (xi xs (w32 (l4 + 2))) (xi xs (w32 (l4 + 3))) (xi xs (w32 (l4 + 4))) (by decide)) mi_X8_sell (by decide) ⟨_, rfl, rfl⟩ (by decide) rfl rfl rfl (Nat.le_of_ble_eq_true rfl) (Nat.le_of_ble_eq_true rfl) (show (cells + 8) + 0 ≤ 601024 by omega) (show (slots + 49) + 0 ≤ 7293034 by omega) (Nat.le_of_ble_eq_true rfl) dL_law_1115 (fun z6 v6 hz6 => ?_)
  refine g_istore F rfl (Nat.le_of_ble_eq_true rfl) (ls' := [(6, (0, z6)), (5, (0, z5)), (0, (108, 0)), (1, (17, 0)), (2, (18, 0)), (3, (19, 0)), (4, (0, l4))]) rfl dL_law_1118 ?_
  refine g_aload_n F rfl 4 rfl dL_law_1120 ?_
  refine g_callV F (by decide) (K := 8) (b := 0) [] [] ml_RL_132 wi_X8_thrown ws_X8_thrown (c_X8_thrown 0  (by decide)) mi_X8_thrown (by decide) ⟨_, rfl, rfl⟩ (by decide) rfl rfl rfl (Nat.le_of_ble_eq_true rfl) (Nat.le_of_ble_eq_true rfl) (show (cells + 8) + 0 ≤ 601024 by omega) (show (slots + 49) + 0 ≤ 7293034 by omega) (Nat.le_of_ble_eq_true rfl) dL_law_1121 (fun z7 v7 hz7 => ?_)
  refine g_iload F 1 rfl rfl dL_law_1124 ?_
  refine g_icmp_eq F rfl rfl (tgt := 1131) rfl dL_law_1126 (fun n8 => ?_) (fun n8 => ?_)
  · refine g_iload F 1 rfl rfl dL_law_1131 ?_
    refine g_if_ne F rfl (tgt := 1148) rfl dL_law_1133 (fun n9 => ?_) (fun n9 => ?_)
    · refine g_goto F (tgt := 2508) rfl dL_law_1148 ?_
      refine g_loc [(2, 108), (3, 17), (4, 18), (5, 19), (6, 0)] rfl ?_
      exact hk v7
    · refine g_aload_n F rfl 5 rfl dL_law_1136 ?_
      refine g_iconst F 2 rfl dL_law_1137 ?_
      refine h_lald F (n := 1) ak_9 (by decide) (by decide) rfl dL_law_1138 ?_
      refine g_iload F 0 rfl rfl dL_law_1139 ?_
      refine g_i2l F rfl dL_law_1141 ?_
      refine g_lcmp F dL_law_1142 ?_
      refine g_if_eq F rfl (tgt := 1148) rfl dL_law_1143 (fun n10 => ?_) (fun n10 => ?_)
      · refine g_goto F (tgt := 2508) rfl dL_law_1148 ?_
        refine g_loc [(2, 108), (3, 17), (4, 18), (5, 19), (6, 0)] rfl ?_
        exact hk v7
      · refine g_iconst F 2 rfl dL_law_1146 ?_
        exact g_lawret F rfl (show (cells + 8) ≤ 601024 by omega) (show (slots + 49) ≤ 7293034 by omega) rfl dL_law_1147
  · refine g_iconst F 2 rfl dL_law_1129 ?_
    exact g_lawret F rfl (show (cells + 8) ≤ 601024 by omega) (show (slots + 49) ≤ 7293034 by omega) rfl dL_law_1130
def cs_14 (l4 : Int) (L : Nat) (xs : Nat → Int32) (k : V → Res) (v : V) : Res := (chk (0 ≤ (w32 (l4 + 1)) ∧ (w32 (l4 + 1)) < (L : Int)) (chk (0 ≤ (w32 (l4 + 2)) ∧ (w32 (l4 + 2)) < (L : Int)) (chk (0 ≤ (w32 (l4 + 3)) ∧ (w32 (l4 + 3)) < (L : Int)) (chk (0 ≤ (w32 (l4 + 4)) ∧ (w32 (l4 + 4)) < (L : Int)) (chk (0 ≤ (w32 (l4 + 5)) ∧ (w32 (l4 + 5)) < (L : Int)) (rB (sp_L_consign 0 (xi xs (w32 (l4 + 1))) (xi xs (w32 (l4 + 2))) (xi xs (w32 (l4 + 3))) (xi xs (w32 (l4 + 4))) (xi xs (w32 (l4 + 5))) v) (fun z6 v6 => (rB (sp_X8_consign 0 (xi xs (w32 (l4 + 1))) (xi xs (w32 (l4 + 2))) (xi xs (w32 (l4 + 3))) (xi xs (w32 (l4 + 4))) (xi xs (w32 (l4 + 5))) v6) (fun z7 v7 => (rB (sp_X8_thrown 0  v7) (fun z8 v8 => (if z8 = z6 then (k v8)
   else (rOk 0 v8)))))))))))))
set_option maxRecDepth 100000 in
set_option maxHeartbeats 4000000 in
theorem kcs_14 {x : Cx} {nm9 : String} {rt9 : Option Nat} (F : Fx x cL_law RL nm9 room_1 7 rt9 (some .boolean) 1) {L : Nat} {xs : Nat → Int32} (hX : FxS x L xs) {l4 : Int} {k : V → Res} {cells slots : Nat} (h1 : cells + 40 ≤ 601024) (h2 : slots + 400 ≤ 7293034) (hk : ∀ v, Gs x (k v) v (cells + 9) (slots + 52) 2508 [(0, (108, 0)), (1, (17, 0)), (2, (18, 0)), (3, (19, 0)), (4, (0, l4))] []) (v : V) : Gs x (cs_14 l4 L xs k v) v cells slots 1151 [(0, (108, 0)), (1, (17, 0)), (2, (18, 0)), (3, (19, 0)), (4, (0, l4))] [] := by
  unfold cs_14
  refine g_aload_n F rfl 1 rfl dL_law_1151 ?_
  refine g_aload_n F rfl 0 rfl dL_law_1152 ?_
  refine g_iload F 4 rfl rfl dL_law_1153 ?_
  refine g_iconst F 2 rfl dL_law_1155 ?_
  refine g_iadd F rfl rfl dL_law_1156 ?_
  refine g_chk (fun n1 => ?_)
  refine g_sld F hX n1 rfl dL_law_1157 ?_
  refine g_aload_n F rfl 0 rfl dL_law_1158 ?_
  refine g_iload F 4 rfl rfl dL_law_1159 ?_
  refine g_iconst F 0 rfl dL_law_1161 ?_
  refine g_iadd F rfl rfl dL_law_1162 ?_
  refine g_chk (fun n2 => ?_)
  refine g_sld F hX n2 rfl dL_law_1163 ?_
  refine g_aload_n F rfl 0 rfl dL_law_1164 ?_
  refine g_iload F 4 rfl rfl dL_law_1165 ?_
  refine g_iconst F 0 rfl dL_law_1167 ?_
  refine g_iadd F rfl rfl dL_law_1168 ?_
  refine g_chk (fun n3 => ?_)
  refine g_sld F hX n3 rfl dL_law_1169 ?_
  refine g_aload_n F rfl 0 rfl dL_law_1170 ?_
  refine g_iload F 4 rfl rfl dL_law_1171 ?_
  refine g_iconst F 0 rfl dL_law_1173 ?_
  refine g_iadd F rfl rfl dL_law_1174 ?_
  refine g_chk (fun n4 => ?_)
  refine g_sld F hX n4 rfl dL_law_1175 ?_
  refine g_aload_n F rfl 0 rfl dL_law_1176 ?_
  refine g_iload F 4 rfl rfl dL_law_1177 ?_
  refine g_iconst F 0 rfl dL_law_1179 ?_
  refine g_iadd F rfl rfl dL_law_1180 ?_
  refine g_chk (fun n5 => ?_)
  refine g_sld F hX n5 rfl dL_law_1181 ?_
  refine g_callSX F (by decide) [(17, 0), (0, (xi xs (w32 (l4 + 1)))), (0, (xi xs (w32 (l4 + 2)))), (0, (xi xs (w32 (l4 + 3)))), (0, (xi xs (w32 (l4 + 4)))), (0, (xi xs (w32 (l4 + 5))))] [17, 0, 0, 0, 0, 0] ml_RL_181 wt_L_consign (c_L_consign 0 (xi xs (w32 (l4 + 1))) (xi xs (w32 (l4 + 2))) (xi xs (w32 (l4 + 3))) (xi xs (w32 (l4 + 4))) (xi xs (w32 (l4 + 5)))) mw_L_consign rfl rfl rfl (Nat.le_of_ble_eq_true rfl) (Nat.le_of_ble_eq_true rfl) (show cells + 9 ≤ 601024 by omega) (show slots + 52 ≤ 7293034 by omega) (Nat.le_of_ble_eq_true rfl) dL_law_1182 (fun z6 v6 hz6 => ?_)
  refine g_istore F rfl (Nat.le_of_ble_eq_true rfl) (ls' := [(5, (0, z6)), (0, (108, 0)), (1, (17, 0)), (2, (18, 0)), (3, (19, 0)), (4, (0, l4))]) rfl dL_law_1185 ?_
  refine g_aload_n F rfl 3 rfl dL_law_1187 ?_
  refine g_aload_n F rfl 1 rfl dL_law_1188 ?_
  refine g_iload F 5 rfl rfl dL_law_1189 ?_
  refine g_iconst F 2 rfl dL_law_1191 ?_
  refine g_iadd F rfl rfl dL_law_1192 ?_
  refine g_sld F hX n1 rfl dL_law_1193 ?_
  refine g_aload_n F rfl 1 rfl dL_law_1194 ?_
  refine g_iload F 5 rfl rfl dL_law_1195 ?_
  refine g_iconst F 0 rfl dL_law_1197 ?_
  refine g_iadd F rfl rfl dL_law_1198 ?_
  refine g_sld F hX n2 rfl dL_law_1199 ?_
  refine g_aload_n F rfl 1 rfl dL_law_1200 ?_
  refine g_iload F 5 rfl rfl dL_law_1201 ?_
  refine g_iconst F 0 rfl dL_law_1203 ?_
  refine g_iadd F rfl rfl dL_law_1204 ?_
  refine g_sld F hX n3 rfl dL_law_1205 ?_
  refine g_aload_n F rfl 1 rfl dL_law_1206 ?_
  refine g_iload F 5 rfl rfl dL_law_1207 ?_
  refine g_iconst F 0 rfl dL_law_1209 ?_
  refine g_iadd F rfl rfl dL_law_1210 ?_
  refine g_sld F hX n4 rfl dL_law_1211 ?_
  refine g_aload_n F rfl 1 rfl dL_law_1212 ?_
  refine g_iload F 5 rfl rfl dL_law_1213 ?_
  refine g_iconst F 0 rfl dL_law_1215 ?_
  refine g_iadd F rfl rfl dL_law_1216 ?_
  refine g_sld F hX n5 rfl dL_law_1217 ?_
  refine g_callV F (by decide) (K := 8) (b := 0) [(0, (xi xs (w32 (l4 + 1)))), (0, (xi xs (w32 (l4 + 2)))), (0, (xi xs (w32 (l4 + 3)))), (0, (xi xs (w32 (l4 + 4)))), (0, (xi xs (w32 (l4 + 5))))] [0, 0, 0, 0, 0] ml_RL_184 wi_X8_consign ws_X8_consign (c_X8_consign 0 (xi xs (w32 (l4 + 1))) (xi xs (w32 (l4 + 2))) (xi xs (w32 (l4 + 3))) (xi xs (w32 (l4 + 4))) (xi xs (w32 (l4 + 5))) (by decide)) mi_X8_consign (by decide) ⟨_, rfl, rfl⟩ (by decide) rfl rfl rfl (Nat.le_of_ble_eq_true rfl) (Nat.le_of_ble_eq_true rfl) (show (cells + 9) + 0 ≤ 601024 by omega) (show (slots + 52) + 0 ≤ 7293034 by omega) (Nat.le_of_ble_eq_true rfl) dL_law_1218 (fun z7 v7 hz7 => ?_)
  refine g_aload_n F rfl 3 rfl dL_law_1221 ?_
  refine g_callV F (by decide) (K := 8) (b := 0) [] [] ml_RL_132 wi_X8_thrown ws_X8_thrown (c_X8_thrown 0  (by decide)) mi_X8_thrown (by decide) ⟨_, rfl, rfl⟩ (by decide) rfl rfl rfl (Nat.le_of_ble_eq_true rfl) (Nat.le_of_ble_eq_true rfl) (show (cells + 9) + 0 ≤ 601024 by omega) (show (slots + 52) + 0 ≤ 7293034 by omega) (Nat.le_of_ble_eq_true rfl) dL_law_1222 (fun z8 v8 hz8 => ?_)
  refine g_iload F 0 rfl rfl dL_law_1225 ?_
  refine g_icmp_eq F rfl rfl (tgt := 1232) rfl dL_law_1227 (fun n9 => ?_) (fun n9 => ?_)
  · refine g_goto F (tgt := 2508) rfl dL_law_1232 ?_
    refine g_loc [(1, 108), (2, 17), (3, 18), (4, 19), (5, 0)] rfl ?_
    exact hk v8
  · refine g_iconst F 2 rfl dL_law_1230 ?_
    exact g_lawret F rfl (show (cells + 9) ≤ 601024 by omega) (show (slots + 52) ≤ 7293034 by omega) rfl dL_law_1231
def cs_15 (l4 : Int) (L : Nat) (xs : Nat → Int32) (k : V → Res) (v : V) : Res := (chk (0 ≤ (w32 (l4 + 1)) ∧ (w32 (l4 + 1)) < (L : Int)) (rB (sp_L_back 0 (xi xs (w32 (l4 + 1))) 0 v) (fun z2 v2 => (rB (sp_X8_back 0 (xi xs (w32 (l4 + 1))) v2) (fun z3 v3 => (rB (sp_X8_thrown 0  v3) (fun z4 v4 => (if z4 = z2 then (if ¬ z2 = 0 then (k v4)
   else (if (lcmp (v4 9 0 0) z3) = 0 then (k v4)
   else (rOk 0 v4)))
   else (rOk 0 v4)))))))))
set_option maxRecDepth 100000 in
set_option maxHeartbeats 4000000 in
theorem kcs_15 {x : Cx} {nm9 : String} {rt9 : Option Nat} (F : Fx x cL_law RL nm9 room_1 7 rt9 (some .boolean) 1) {L : Nat} {xs : Nat → Int32} (hX : FxS x L xs) {l4 : Int} {k : V → Res} {cells slots : Nat} (h1 : cells + 40 ≤ 601024) (h2 : slots + 400 ≤ 7293034) (hk : ∀ v, Gs x (k v) v (cells + 2) (slots + 12) 2508 [(0, (108, 0)), (1, (17, 0)), (2, (18, 0)), (3, (19, 0)), (4, (0, l4))] []) (v : V) : Gs x (cs_15 l4 L xs k v) v cells slots 1235 [(0, (108, 0)), (1, (17, 0)), (2, (18, 0)), (3, (19, 0)), (4, (0, l4))] [] := by
  unfold cs_15
  refine g_aload_n F rfl 1 rfl dL_law_1235 ?_
  refine g_aload_n F rfl 0 rfl dL_law_1236 ?_
  refine g_iload F 4 rfl rfl dL_law_1237 ?_
  refine g_iconst F 2 rfl dL_law_1239 ?_
  refine g_iadd F rfl rfl dL_law_1240 ?_
  refine g_chk (fun n1 => ?_)
  refine g_sld F hX n1 rfl dL_law_1241 ?_
  refine g_aload_n F rfl 3 rfl dL_law_1242 ?_
  refine g_callSX F (by decide) [(17, 0), (0, (xi xs (w32 (l4 + 1)))), (19, 0)] [17, 0, 19] ml_RL_185 wt_L_back (c_L_back 0 (xi xs (w32 (l4 + 1))) 0) mw_L_back rfl rfl rfl (Nat.le_of_ble_eq_true rfl) (Nat.le_of_ble_eq_true rfl) (show cells + 2 ≤ 601024 by omega) (show slots + 12 ≤ 7293034 by omega) (Nat.le_of_ble_eq_true rfl) dL_law_1243 (fun z2 v2 hz2 => ?_)
  refine g_istore F rfl (Nat.le_of_ble_eq_true rfl) (ls' := [(5, (0, z2)), (0, (108, 0)), (1, (17, 0)), (2, (18, 0)), (3, (19, 0)), (4, (0, l4))]) rfl dL_law_1246 ?_
  refine g_aload_n F rfl 3 rfl dL_law_1248 ?_
  refine g_aload_n F rfl 1 rfl dL_law_1249 ?_
  refine g_iload F 5 rfl rfl dL_law_1250 ?_
  refine g_iconst F 2 rfl dL_law_1252 ?_
  refine g_iadd F rfl rfl dL_law_1253 ?_
  refine g_sld F hX n1 rfl dL_law_1254 ?_
  refine g_callV F (by decide) (K := 8) (b := 0) [(0, (xi xs (w32 (l4 + 1))))] [0] ml_RL_187 wi_X8_back ws_X8_back (c_X8_back 0 (xi xs (w32 (l4 + 1))) (by decide)) mi_X8_back (by decide) ⟨_, rfl, rfl⟩ (by decide) rfl rfl rfl (Nat.le_of_ble_eq_true rfl) (Nat.le_of_ble_eq_true rfl) (show (cells + 2) + 0 ≤ 601024 by omega) (show (slots + 12) + 0 ≤ 7293034 by omega) (Nat.le_of_ble_eq_true rfl) dL_law_1255 (fun z3 v3 hz3 => ?_)
  refine g_istore F rfl (Nat.le_of_ble_eq_true rfl) (ls' := [(6, (0, z3)), (5, (0, z2)), (0, (108, 0)), (1, (17, 0)), (2, (18, 0)), (3, (19, 0)), (4, (0, l4))]) rfl dL_law_1258 ?_
  refine g_aload_n F rfl 4 rfl dL_law_1260 ?_
  refine g_callV F (by decide) (K := 8) (b := 0) [] [] ml_RL_132 wi_X8_thrown ws_X8_thrown (c_X8_thrown 0  (by decide)) mi_X8_thrown (by decide) ⟨_, rfl, rfl⟩ (by decide) rfl rfl rfl (Nat.le_of_ble_eq_true rfl) (Nat.le_of_ble_eq_true rfl) (show (cells + 2) + 0 ≤ 601024 by omega) (show (slots + 12) + 0 ≤ 7293034 by omega) (Nat.le_of_ble_eq_true rfl) dL_law_1261 (fun z4 v4 hz4 => ?_)
  refine g_iload F 1 rfl rfl dL_law_1264 ?_
  refine g_icmp_eq F rfl rfl (tgt := 1271) rfl dL_law_1266 (fun n5 => ?_) (fun n5 => ?_)
  · refine g_iload F 1 rfl rfl dL_law_1271 ?_
    refine g_if_ne F rfl (tgt := 1288) rfl dL_law_1273 (fun n6 => ?_) (fun n6 => ?_)
    · refine g_goto F (tgt := 2508) rfl dL_law_1288 ?_
      refine g_loc [(2, 108), (3, 17), (4, 18), (5, 19), (6, 0)] rfl ?_
      exact hk v4
    · refine g_aload_n F rfl 5 rfl dL_law_1276 ?_
      refine g_iconst F 2 rfl dL_law_1277 ?_
      refine h_lald F (n := 1) ak_9 (by decide) (by decide) rfl dL_law_1278 ?_
      refine g_iload F 0 rfl rfl dL_law_1279 ?_
      refine g_i2l F rfl dL_law_1281 ?_
      refine g_lcmp F dL_law_1282 ?_
      refine g_if_eq F rfl (tgt := 1288) rfl dL_law_1283 (fun n7 => ?_) (fun n7 => ?_)
      · refine g_goto F (tgt := 2508) rfl dL_law_1288 ?_
        refine g_loc [(2, 108), (3, 17), (4, 18), (5, 19), (6, 0)] rfl ?_
        exact hk v4
      · refine g_iconst F 2 rfl dL_law_1286 ?_
        exact g_lawret F rfl (show (cells + 2) ≤ 601024 by omega) (show (slots + 12) ≤ 7293034 by omega) rfl dL_law_1287
  · refine g_iconst F 2 rfl dL_law_1269 ?_
    exact g_lawret F rfl (show (cells + 2) ≤ 601024 by omega) (show (slots + 12) ≤ 7293034 by omega) rfl dL_law_1270

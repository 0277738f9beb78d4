def cs_16 (l4 : Int) (L : Nat) (xs : Nat → Int32) (k : V → Res) (v : V) : Res := (chk (0 ≤ (w32 (l4 + 1)) ∧ (w32 (l4 + 1)) < (L : Int)) (chk (0 ≤ (w32 (l4 + 2)) ∧ (w32 (l4 + 2)) < (L : Int)) (chk (0 ≤ (w32 (l4 + 3)) ∧ (w32 (l4 + 3)) < (L : Int)) (rB (sp_L_deal 0 (xi xs (w32 (l4 + 1))) (xi xs (w32 (l4 + 2))) (xi xs (w32 (l4 + 3))) 0 v) (fun z4 v4 => (rB (sp_X8_deal 0 (xi xs (w32 (l4 + 1))) (xi xs (w32 (l4 + 2))) (xi xs (w32 (l4 + 3))) v4) (fun z5 v5 => (rB (sp_X8_thrown 0  v5) (fun z6 v6 => (if z6 = z4 then (if ¬ z4 = 0 then (k v6)
   else (if (lcmp (v6 9 0 0) z5) = 0 then (k v6)
   else (rOk 0 v6)))
   else (rOk 0 v6)))))))))))
set_option maxRecDepth 100000 in
set_option maxHeartbeats 4000000 in
theorem kcs_16 {x : Cx} {nm9 : String} {rt9 : Option Nat} (F : Fx x cL_law RL nm9 room_1 7 rt9 (some .boolean) 1) {L : Nat} {xs : Nat → Int32} (hX : FxS x L xs) {l4 : Int} {k : V → Res} {cells slots : Nat} (h1 : cells + 40 ≤ 601024) (h2 : slots + 400 ≤ 7293034) (hk : ∀ v, Gs x (k v) v (cells + 8) (slots + 49) 2508 [(0, (108, 0)), (1, (17, 0)), (2, (18, 0)), (3, (19, 0)), (4, (0, l4))] []) (v : V) : Gs x (cs_16 l4 L xs k v) v cells slots 1291 [(0, (108, 0)), (1, (17, 0)), (2, (18, 0)), (3, (19, 0)), (4, (0, l4))] [] := by
  unfold cs_16
  refine g_aload_n F rfl 1 rfl dL_law_1291 ?_
  refine g_aload_n F rfl 0 rfl dL_law_1292 ?_
  refine g_iload F 4 rfl rfl dL_law_1293 ?_
  refine g_iconst F 2 rfl dL_law_1295 ?_
  refine g_iadd F rfl rfl dL_law_1296 ?_
  refine g_chk (fun n1 => ?_)
  refine g_sld F hX n1 rfl dL_law_1297 ?_
  refine g_aload_n F rfl 0 rfl dL_law_1298 ?_
  refine g_iload F 4 rfl rfl dL_law_1299 ?_
  refine g_iconst F 0 rfl dL_law_1301 ?_
  refine g_iadd F rfl rfl dL_law_1302 ?_
  refine g_chk (fun n2 => ?_)
  refine g_sld F hX n2 rfl dL_law_1303 ?_
  refine g_aload_n F rfl 0 rfl dL_law_1304 ?_
  refine g_iload F 4 rfl rfl dL_law_1305 ?_
  refine g_iconst F 0 rfl dL_law_1307 ?_
  refine g_iadd F rfl rfl dL_law_1308 ?_
  refine g_chk (fun n3 => ?_)
  refine g_sld F hX n3 rfl dL_law_1309 ?_
  refine g_aload_n F rfl 3 rfl dL_law_1310 ?_
  refine g_callSX F (by decide) [(17, 0), (0, (xi xs (w32 (l4 + 1)))), (0, (xi xs (w32 (l4 + 2)))), (0, (xi xs (w32 (l4 + 3)))), (19, 0)] [17, 0, 0, 0, 19] ml_RL_188 wt_L_deal (c_L_deal 0 (xi xs (w32 (l4 + 1))) (xi xs (w32 (l4 + 2))) (xi xs (w32 (l4 + 3))) 0) mw_L_deal rfl rfl rfl (Nat.le_of_ble_eq_true rfl) (Nat.le_of_ble_eq_true rfl) (show cells + 8 ≤ 601024 by omega) (show slots + 49 ≤ 7293034 by omega) (Nat.le_of_ble_eq_true rfl) dL_law_1311 (fun z4 v4 hz4 => ?_)
  refine g_istore F rfl (Nat.le_of_ble_eq_true rfl) (ls' := [(5, (0, z4)), (0, (108, 0)), (1, (17, 0)), (2, (18, 0)), (3, (19, 0)), (4, (0, l4))]) rfl dL_law_1314 ?_
  refine g_aload_n F rfl 3 rfl dL_law_1316 ?_
  refine g_aload_n F rfl 1 rfl dL_law_1317 ?_
  refine g_iload F 5 rfl rfl dL_law_1318 ?_
  refine g_iconst F 2 rfl dL_law_1320 ?_
  refine g_iadd F rfl rfl dL_law_1321 ?_
  refine g_sld F hX n1 rfl dL_law_1322 ?_
  refine g_aload_n F rfl 1 rfl dL_law_1323 ?_
  refine g_iload F 5 rfl rfl dL_law_1324 ?_
  refine g_iconst F 0 rfl dL_law_1326 ?_
  refine g_iadd F rfl rfl dL_law_1327 ?_
  refine g_sld F hX n2 rfl dL_law_1328 ?_
  refine g_aload_n F rfl 1 rfl dL_law_1329 ?_
  refine g_iload F 5 rfl rfl dL_law_1330 ?_
  refine g_iconst F 0 rfl dL_law_1332 ?_
  refine g_iadd F rfl rfl dL_law_1333 ?_
  refine g_sld F hX n3 rfl dL_law_1334 ?_
  refine g_callV F (by decide) (K := 8) (b := 0) [(0, (xi xs (w32 (l4 + 1)))), (0, (xi xs (w32 (l4 + 2)))), (0, (xi xs (w32 (l4 + 3))))] [0, 0, 0] ml_RL_191 wi_X8_deal ws_X8_deal (c_X8_deal 0 (xi xs (w32 (l4 + 1))) (xi xs (w32 (l4 + 2))) (xi xs (w32 (l4 + 3))) (by decide)) mi_X8_deal (by decide) ⟨_, rfl, rfl⟩ (by decide) rfl rfl rfl (Nat.le_of_ble_eq_true rfl) (Nat.le_of_ble_eq_true rfl) (show (cells + 8) + 0 ≤ 601024 by omega) (show (slots + 49) + 0 ≤ 7293034 by omega) (Nat.le_of_ble_eq_true rfl) dL_law_1335 (fun z5 v5 hz5 => ?_)
  refine g_istore F rfl (Nat.le_of_ble_eq_true rfl) (ls' := [(6, (0, z5)), (5, (0, z4)), (0, (108, 0)), (1, (17, 0)), (2, (18, 0)), (3, (19, 0)), (4, (0, l4))]) rfl dL_law_1338 ?_
  refine g_aload_n F rfl 4 rfl dL_law_1340 ?_
  refine g_callV F (by decide) (K := 8) (b := 0) [] [] ml_RL_132 wi_X8_thrown ws_X8_thrown (c_X8_thrown 0  (by decide)) mi_X8_thrown (by decide) ⟨_, rfl, rfl⟩ (by decide) rfl rfl rfl (Nat.le_of_ble_eq_true rfl) (Nat.le_of_ble_eq_true rfl) (show (cells + 8) + 0 ≤ 601024 by omega) (show (slots + 49) + 0 ≤ 7293034 by omega) (Nat.le_of_ble_eq_true rfl) dL_law_1341 (fun z6 v6 hz6 => ?_)
  refine g_iload F 1 rfl rfl dL_law_1344 ?_
  refine g_icmp_eq F rfl rfl (tgt := 1351) rfl dL_law_1346 (fun n7 => ?_) (fun n7 => ?_)
  · refine g_iload F 1 rfl rfl dL_law_1351 ?_
    refine g_if_ne F rfl (tgt := 1368) rfl dL_law_1353 (fun n8 => ?_) (fun n8 => ?_)
    · refine g_goto F (tgt := 2508) rfl dL_law_1368 ?_
      refine g_loc [(2, 108), (3, 17), (4, 18), (5, 19), (6, 0)] rfl ?_
      exact hk v6
    · refine g_aload_n F rfl 5 rfl dL_law_1356 ?_
      refine g_iconst F 2 rfl dL_law_1357 ?_
      refine h_lald F (n := 1) ak_9 (by decide) (by decide) rfl dL_law_1358 ?_
      refine g_iload F 0 rfl rfl dL_law_1359 ?_
      refine g_i2l F rfl dL_law_1361 ?_
      refine g_lcmp F dL_law_1362 ?_
      refine g_if_eq F rfl (tgt := 1368) rfl dL_law_1363 (fun n9 => ?_) (fun n9 => ?_)
      · refine g_goto F (tgt := 2508) rfl dL_law_1368 ?_
        refine g_loc [(2, 108), (3, 17), (4, 18), (5, 19), (6, 0)] rfl ?_
        exact hk v6
      · refine g_iconst F 2 rfl dL_law_1366 ?_
        exact g_lawret F rfl (show (cells + 8) ≤ 601024 by omega) (show (slots + 49) ≤ 7293034 by omega) rfl dL_law_1367
  · refine g_iconst F 2 rfl dL_law_1349 ?_
    exact g_lawret F rfl (show (cells + 8) ≤ 601024 by omega) (show (slots + 49) ≤ 7293034 by omega) rfl dL_law_1350
def cs_17 (l4 : Int) (L : Nat) (xs : Nat → Int32) (k : V → Res) (v : V) : Res := (chk (0 ≤ (w32 (l4 + 1)) ∧ (w32 (l4 + 1)) < (L : Int)) (chk (0 ≤ (w32 (l4 + 2)) ∧ (w32 (l4 + 2)) < (L : Int)) (chk (0 ≤ (w32 (l4 + 3)) ∧ (w32 (l4 + 3)) < (L : Int)) (rB (sp_L_tell 0 (xi xs (w32 (l4 + 1))) (xi xs (w32 (l4 + 2))) (xi xs (w32 (l4 + 3))) 0 v) (fun z4 v4 => (rB (sp_X8_tell 0 (xi xs (w32 (l4 + 1))) (xi xs (w32 (l4 + 2))) (xi xs (w32 (l4 + 3))) v4) (fun z5 v5 => (rB (sp_X8_thrown 0  v5) (fun z6 v6 => (if z6 = z4 then (if ¬ z4 = 0 then (k v6)
   else (if z5 = 0 then (if (lcmp (v6 9 0 0) 0) = 0 then (k v6)
   else (rOk 0 v6))
   else (if (lcmp (v6 9 0 0) 1) = 0 then (k v6)
   else (rOk 0 v6))))
   else (rOk 0 v6)))))))))))
set_option maxRecDepth 100000 in
set_option maxHeartbeats 4000000 in
theorem kcs_17 {x : Cx} {nm9 : String} {rt9 : Option Nat} (F : Fx x cL_law RL nm9 room_1 7 rt9 (some .boolean) 1) {L : Nat} {xs : Nat → Int32} (hX : FxS x L xs) {l4 : Int} {k : V → Res} {cells slots : Nat} (h1 : cells + 40 ≤ 601024) (h2 : slots + 400 ≤ 7293034) (hk : ∀ v, Gs x (k v) v (cells + 4) (slots + 24) 2508 [(0, (108, 0)), (1, (17, 0)), (2, (18, 0)), (3, (19, 0)), (4, (0, l4))] []) (v : V) : Gs x (cs_17 l4 L xs k v) v cells slots 1371 [(0, (108, 0)), (1, (17, 0)), (2, (18, 0)), (3, (19, 0)), (4, (0, l4))] [] := by
  unfold cs_17
  refine g_aload_n F rfl 1 rfl dL_law_1371 ?_
  refine g_aload_n F rfl 0 rfl dL_law_1372 ?_
  refine g_iload F 4 rfl rfl dL_law_1373 ?_
  refine g_iconst F 2 rfl dL_law_1375 ?_
  refine g_iadd F rfl rfl dL_law_1376 ?_
  refine g_chk (fun n1 => ?_)
  refine g_sld F hX n1 rfl dL_law_1377 ?_
  refine g_aload_n F rfl 0 rfl dL_law_1378 ?_
  refine g_iload F 4 rfl rfl dL_law_1379 ?_
  refine g_iconst F 0 rfl dL_law_1381 ?_
  refine g_iadd F rfl rfl dL_law_1382 ?_
  refine g_chk (fun n2 => ?_)
  refine g_sld F hX n2 rfl dL_law_1383 ?_
  refine g_aload_n F rfl 0 rfl dL_law_1384 ?_
  refine g_iload F 4 rfl rfl dL_law_1385 ?_
  refine g_iconst F 0 rfl dL_law_1387 ?_
  refine g_iadd F rfl rfl dL_law_1388 ?_
  refine g_chk (fun n3 => ?_)
  refine g_sld F hX n3 rfl dL_law_1389 ?_
  refine g_aload_n F rfl 3 rfl dL_law_1390 ?_
  refine g_callSX F (by decide) [(17, 0), (0, (xi xs (w32 (l4 + 1)))), (0, (xi xs (w32 (l4 + 2)))), (0, (xi xs (w32 (l4 + 3)))), (19, 0)] [17, 0, 0, 0, 19] ml_RL_192 wt_L_tell (c_L_tell 0 (xi xs (w32 (l4 + 1))) (xi xs (w32 (l4 + 2))) (xi xs (w32 (l4 + 3))) 0) mw_L_tell rfl rfl rfl (Nat.le_of_ble_eq_true rfl) (Nat.le_of_ble_eq_true rfl) (show cells + 4 ≤ 601024 by omega) (show slots + 24 ≤ 7293034 by omega) (Nat.le_of_ble_eq_true rfl) dL_law_1391 (fun z4 v4 hz4 => ?_)
  refine g_istore F rfl (Nat.le_of_ble_eq_true rfl) (ls' := [(5, (0, z4)), (0, (108, 0)), (1, (17, 0)), (2, (18, 0)), (3, (19, 0)), (4, (0, l4))]) rfl dL_law_1394 ?_
  refine g_aload_n F rfl 3 rfl dL_law_1396 ?_
  refine g_aload_n F rfl 1 rfl dL_law_1397 ?_
  refine g_iload F 5 rfl rfl dL_law_1398 ?_
  refine g_iconst F 2 rfl dL_law_1400 ?_
  refine g_iadd F rfl rfl dL_law_1401 ?_
  refine g_sld F hX n1 rfl dL_law_1402 ?_
  refine g_aload_n F rfl 1 rfl dL_law_1403 ?_
  refine g_iload F 5 rfl rfl dL_law_1404 ?_
  refine g_iconst F 0 rfl dL_law_1406 ?_
  refine g_iadd F rfl rfl dL_law_1407 ?_
  refine g_sld F hX n2 rfl dL_law_1408 ?_
  refine g_aload_n F rfl 1 rfl dL_law_1409 ?_
  refine g_iload F 5 rfl rfl dL_law_1410 ?_
  refine g_iconst F 0 rfl dL_law_1412 ?_
  refine g_iadd F rfl rfl dL_law_1413 ?_
  refine g_sld F hX n3 rfl dL_law_1414 ?_
  refine g_callV F (by decide) (K := 8) (b := 0) [(0, (xi xs (w32 (l4 + 1)))), (0, (xi xs (w32 (l4 + 2)))), (0, (xi xs (w32 (l4 + 3))))] [0, 0, 0] ml_RL_194 wi_X8_tell ws_X8_tell (c_X8_tell 0 (xi xs (w32 (l4 + 1))) (xi xs (w32 (l4 + 2))) (xi xs (w32 (l4 + 3))) (by decide)) mi_X8_tell (by decide) ⟨_, rfl, rfl⟩ (by decide) rfl rfl rfl (Nat.le_of_ble_eq_true rfl) (Nat.le_of_ble_eq_true rfl) (show (cells + 4) + 0 ≤ 601024 by omega) (show (slots + 24) + 0 ≤ 7293034 by omega) (Nat.le_of_ble_eq_true rfl) dL_law_1415 (fun z5 v5 hz5 => ?_)
  refine g_istore F rfl (Nat.le_of_ble_eq_true rfl) (ls' := [(6, (2, z5)), (5, (0, z4)), (0, (108, 0)), (1, (17, 0)), (2, (18, 0)), (3, (19, 0)), (4, (0, l4))]) rfl dL_law_1418 ?_
  refine g_aload_n F rfl 4 rfl dL_law_1420 ?_
  refine g_callV F (by decide) (K := 8) (b := 0) [] [] ml_RL_132 wi_X8_thrown ws_X8_thrown (c_X8_thrown 0  (by decide)) mi_X8_thrown (by decide) ⟨_, rfl, rfl⟩ (by decide) rfl rfl rfl (Nat.le_of_ble_eq_true rfl) (Nat.le_of_ble_eq_true rfl) (show (cells + 4) + 0 ≤ 601024 by omega) (show (slots + 24) + 0 ≤ 7293034 by omega) (Nat.le_of_ble_eq_true rfl) dL_law_1421 (fun z6 v6 hz6 => ?_)
  refine g_iload F 1 rfl rfl dL_law_1424 ?_
  refine g_icmp_eq F rfl rfl (tgt := 1431) rfl dL_law_1426 (fun n7 => ?_) (fun n7 => ?_)
  · refine g_iload F 1 rfl rfl dL_law_1431 ?_
    refine g_if_ne F rfl (tgt := 1455) rfl dL_law_1433 (fun n8 => ?_) (fun n8 => ?_)
    · refine g_goto F (tgt := 2508) rfl dL_law_1455 ?_
      refine g_loc [(2, 108), (3, 17), (4, 18), (5, 19), (6, 0)] rfl ?_
      exact hk v6
    · refine g_aload_n F rfl 5 rfl dL_law_1436 ?_
      refine g_iconst F 2 rfl dL_law_1437 ?_
      refine h_lald F (n := 1) ak_9 (by decide) (by decide) rfl dL_law_1438 ?_
      refine g_iload F 0 rfl rfl dL_law_1439 ?_
      refine g_if_eq F rfl (tgt := 1448) rfl dL_law_1441 (fun n9 => ?_) (fun n9 => ?_)
      · refine g_lconst F (z := 0) rfl dL_law_1448 ?_
        refine g_lcmp F dL_law_1449 ?_
        refine g_if_eq F rfl (tgt := 1455) rfl dL_law_1450 (fun n10 => ?_) (fun n10 => ?_)
        · refine g_goto F (tgt := 2508) rfl dL_law_1455 ?_
          refine g_loc [(2, 108), (3, 17), (4, 18), (5, 19), (6, 0)] rfl ?_
          exact hk v6
        · refine g_iconst F 2 rfl dL_law_1453 ?_
          exact g_lawret F rfl (show (cells + 4) ≤ 601024 by omega) (show (slots + 24) ≤ 7293034 by omega) rfl dL_law_1454
      · refine g_lconst F (z := 1) rfl dL_law_1444 ?_
        refine g_goto F (tgt := 1449) rfl dL_law_1445 ?_
        refine g_lcmp F dL_law_1449 ?_
        refine g_if_eq F rfl (tgt := 1455) rfl dL_law_1450 (fun n11 => ?_) (fun n11 => ?_)
        · refine g_goto F (tgt := 2508) rfl dL_law_1455 ?_
          refine g_loc [(2, 108), (3, 17), (4, 18), (5, 19), (6, 0)] rfl ?_
          exact hk v6
        · refine g_iconst F 2 rfl dL_law_1453 ?_
          exact g_lawret F rfl (show (cells + 4) ≤ 601024 by omega) (show (slots + 24) ≤ 7293034 by omega) rfl dL_law_1454
  · refine g_iconst F 2 rfl dL_law_1429 ?_
    exact g_lawret F rfl (show (cells + 4) ≤ 601024 by omega) (show (slots + 24) ≤ 7293034 by omega) rfl dL_law_1430
def cs_18 (l4 : Int) (L : Nat) (xs : Nat → Int32) (k : V → Res) (v : V) : Res := (chk (0 ≤ (w32 (l4 + 1)) ∧ (w32 (l4 + 1)) < (L : Int)) (chk (0 ≤ (w32 (l4 + 2)) ∧ (w32 (l4 + 2)) < (L : Int)) (rB (sp_L_restore 0 (xi xs (w32 (l4 + 1))) (xi xs (w32 (l4 + 2))) 0 v) (fun z3 v3 => (rB (sp_X8_restore 0 (xi xs (w32 (l4 + 1))) (xi xs (w32 (l4 + 2))) v3) (fun z4 v4 => (rB (sp_X8_thrown 0  v4) (fun z5 v5 => (if z5 = z3 then (if ¬ z3 = 0 then (k v5)
   else (if (lcmp (v5 9 0 0) z4) = 0 then (k v5)
   else (rOk 0 v5)))
   else (rOk 0 v5))))))))))
set_option maxRecDepth 100000 in
set_option maxHeartbeats 4000000 in
theorem kcs_18 {x : Cx} {nm9 : String} {rt9 : Option Nat} (F : Fx x cL_law RL nm9 room_1 7 rt9 (some .boolean) 1) {L : Nat} {xs : Nat → Int32} (hX : FxS x L xs) {l4 : Int} {k : V → Res} {cells slots : Nat} (h1 : cells + 40 ≤ 601024) (h2 : slots + 400 ≤ 7293034) (hk : ∀ v, Gs x (k v) v (cells + 3) (slots + 18) 2508 [(0, (108, 0)), (1, (17, 0)), (2, (18, 0)), (3, (19, 0)), (4, (0, l4))] []) (v : V) : Gs x (cs_18 l4 L xs k v) v cells slots 1458 [(0, (108, 0)), (1, (17, 0)), (2, (18, 0)), (3, (19, 0)), (4, (0, l4))] [] := by
  unfold cs_18
  refine g_aload_n F rfl 1 rfl dL_law_1458 ?_
  refine g_aload_n F rfl 0 rfl dL_law_1459 ?_
  refine g_iload F 4 rfl rfl dL_law_1460 ?_
  refine g_iconst F 2 rfl dL_law_1462 ?_
  refine g_iadd F rfl rfl dL_law_1463 ?_
  refine g_chk (fun n1 => ?_)
  refine g_sld F hX n1 rfl dL_law_1464 ?_
  refine g_aload_n F rfl 0 rfl dL_law_1465 ?_
  refine g_iload F 4 rfl rfl dL_law_1466 ?_
  refine g_iconst F 0 rfl dL_law_1468 ?_
  refine g_iadd F rfl rfl dL_law_1469 ?_
  refine g_chk (fun n2 => ?_)
  refine g_sld F hX n2 rfl dL_law_1470 ?_
  refine g_aload_n F rfl 3 rfl dL_law_1471 ?_
  refine g_callSX F (by decide) [(17, 0), (0, (xi xs (w32 (l4 + 1)))), (0, (xi xs (w32 (l4 + 2)))), (19, 0)] [17, 0, 0, 19] ml_RL_195 wt_L_restore (c_L_restore 0 (xi xs (w32 (l4 + 1))) (xi xs (w32 (l4 + 2))) 0) mw_L_restore rfl rfl rfl (Nat.le_of_ble_eq_true rfl) (Nat.le_of_ble_eq_true rfl) (show cells + 3 ≤ 601024 by omega) (show slots + 18 ≤ 7293034 by omega) (Nat.le_of_ble_eq_true rfl) dL_law_1472 (fun z3 v3 hz3 => ?_)
  refine g_istore F rfl (Nat.le_of_ble_eq_true rfl) (ls' := [(5, (0, z3)), (0, (108, 0)), (1, (17, 0)), (2, (18, 0)), (3, (19, 0)), (4, (0, l4))]) rfl dL_law_1475 ?_
  refine g_aload_n F rfl 3 rfl dL_law_1477 ?_
  refine g_aload_n F rfl 1 rfl dL_law_1478 ?_
  refine g_iload F 5 rfl rfl dL_law_1479 ?_
  refine g_iconst F 2 rfl dL_law_1481 ?_
  refine g_iadd F rfl rfl dL_law_1482 ?_
  refine g_sld F hX n1 rfl dL_law_1483 ?_
  refine g_aload_n F rfl 1 rfl dL_law_1484 ?_
  refine g_iload F 5 rfl rfl dL_law_1485 ?_
  refine g_iconst F 0 rfl dL_law_1487 ?_
  refine g_iadd F rfl rfl dL_law_1488 ?_
  refine g_sld F hX n2 rfl dL_law_1489 ?_
  refine g_callV F (by decide) (K := 8) (b := 0) [(0, (xi xs (w32 (l4 + 1)))), (0, (xi xs (w32 (l4 + 2))))] [0, 0] ml_RL_197 wi_X8_restore ws_X8_restore (c_X8_restore 0 (xi xs (w32 (l4 + 1))) (xi xs (w32 (l4 + 2))) (by decide)) mi_X8_restore (by decide) ⟨_, rfl, rfl⟩ (by decide) rfl rfl rfl (Nat.le_of_ble_eq_true rfl) (Nat.le_of_ble_eq_true rfl) (show (cells + 3) + 0 ≤ 601024 by omega) (show (slots + 18) + 0 ≤ 7293034 by omega) (Nat.le_of_ble_eq_true rfl) dL_law_1490 (fun z4 v4 hz4 => ?_)
  refine g_istore F rfl (Nat.le_of_ble_eq_true rfl) (ls' := [(6, (0, z4)), (5, (0, z3)), (0, (108, 0)), (1, (17, 0)), (2, (18, 0)), (3, (19, 0)), (4, (0, l4))]) rfl dL_law_1493 ?_
  refine g_aload_n F rfl 4 rfl dL_law_1495 ?_
  refine g_callV F (by decide) (K := 8) (b := 0) [] [] ml_RL_132 wi_X8_thrown ws_X8_thrown (c_X8_thrown 0  (by decide)) mi_X8_thrown (by decide) ⟨_, rfl, rfl⟩ (by decide) rfl rfl rfl (Nat.le_of_ble_eq_true rfl) (Nat.le_of_ble_eq_true rfl) (show (cells + 3) + 0 ≤ 601024 by omega) (show (slots + 18) + 0 ≤ 7293034 by omega) (Nat.le_of_ble_eq_true rfl) dL_law_1496 (fun z5 v5 hz5 => ?_)
  refine g_iload F 1 rfl rfl dL_law_1499 ?_
  refine g_icmp_eq F rfl rfl (tgt := 1506) rfl dL_law_1501 (fun n6 => ?_) (fun n6 => ?_)
  · refine g_iload F 1 rfl rfl dL_law_1506 ?_
    refine g_if_ne F rfl (tgt := 1523) rfl dL_law_1508 (fun n7 => ?_) (fun n7 => ?_)
    · refine g_goto F (tgt := 2508) rfl dL_law_1523 ?_
      refine g_loc [(2, 108), (3, 17), (4, 18), (5, 19), (6, 0)] rfl ?_
      exact hk v5
    · refine g_aload_n F rfl 5 rfl dL_law_1511 ?_
      refine g_iconst F 2 rfl dL_law_1512 ?_
      refine h_lald F (n := 1) ak_9 (by decide) (by decide) rfl dL_law_1513 ?_
      refine g_iload F 0 rfl rfl dL_law_1514 ?_
      refine g_i2l F rfl dL_law_1516 ?_
      refine g_lcmp F dL_law_1517 ?_
      refine g_if_eq F rfl (tgt := 1523) rfl dL_law_1518 (fun n8 => ?_) (fun n8 => ?_)
      · refine g_goto F (tgt := 2508) rfl dL_law_1523 ?_
        refine g_loc [(2, 108), (3, 17), (4, 18), (5, 19), (6, 0)] rfl ?_
        exact hk v5
      · refine g_iconst F 2 rfl dL_law_1521 ?_
        exact g_lawret F rfl (show (cells + 3) ≤ 601024 by omega) (show (slots + 18) ≤ 7293034 by omega) rfl dL_law_1522
  · refine g_iconst F 2 rfl dL_law_1504 ?_
    exact g_lawret F rfl (show (cells + 3) ≤ 601024 by omega) (show (slots + 18) ≤ 7293034 by omega) rfl dL_law_1505
def cs_19 (l4 : Int) (L : Nat) (xs : Nat → Int32) (k : V → Res) (v : V) : Res := (chk (0 ≤ (w32 (l4 + 1)) ∧ (w32 (l4 + 1)) < (L : Int)) (chk (0 ≤ (w32 (l4 + 2)) ∧ (w32 (l4 + 2)) < (L : Int)) (chk (0 ≤ (w32 (l4 + 3)) ∧ (w32 (l4 + 3)) < (L : Int)) (chk (0 ≤ (w32 (l4 + 4)) ∧ (w32 (l4 + 4)) < (L : Int)) (chk (0 ≤ (w32 (l4 + 5)) ∧ (w32 (l4 + 5)) < (L : Int)) (rB (sp_L_lend 0 (xi xs (w32 (l4 + 1))) (xi xs (w32 (l4 + 2))) (xi xs (w32 (l4 + 3))) (xi xs (w32 (l4 + 4))) (xi xs (w32 (l4 + 5))) 0 v) (fun z6 v6 => (rB (sp_X8_lend 0 (xi xs (w32 (l4 + 1))) (xi xs (w32 (l4 + 2))) (xi xs (w32 (l4 + 3))) (xi xs (w32 (l4 + 4))) (xi xs (w32 (l4 + 5))) v6) (fun z7 v7 => (rB (sp_X8_thrown 0  v7) (fun z8 v8 => (if z8 = z6 then (if ¬ z6 = 0 then (k v8)
   else (if (lcmp (v8 9 0 0) z7) = 0 then (k v8)
   else (rOk 0 v8)))
   else (rOk 0 v8)))))))))))))
set_option maxRecDepth 100000 in
set_option maxHeartbeats 4000000 in
theorem kcs_19 {x : Cx} {nm9 : String} {rt9 : Option Nat} (F : Fx x cL_law RL nm9 room_1 7 rt9 (some .boolean) 1) {L : Nat} {xs : Nat → Int32} (hX : FxS x L xs) {l4 : Int} {k : V → Res} {cells slots : Nat} (h1 : cells + 40 ≤ 601024) (h2 : slots + 400 ≤ 7293034) (hk : ∀ v, Gs x (k v) v (cells + 10) (slots + 62) 2508 [(0, (108, 0)), (1, (17, 0)), (2, (18, 0)), (3, (19, 0)), (4, (0, l4))] []) (v : V) : Gs x (cs_19 l4 L xs k v) v cells slots 1526 [(0, (108, 0)), (1, (17, 0)), (2, (18, 0)), (3, (19, 0)), (4, (0, l4))] [] := by
  unfold cs_19
  refine g_aload_n F rfl 1 rfl dL_law_1526 ?_
  refine g_aload_n F rfl 0 rfl dL_law_1527 ?_
  refine g_iload F 4 rfl rfl dL_law_1528 ?_
  refine g_iconst F 2 rfl dL_law_1530 ?_
  refine g_iadd F rfl rfl dL_law_1531 ?_
  refine g_chk (fun n1 => ?_)
  refine g_sld F hX n1 rfl dL_law_1532 ?_
  refine g_aload_n F rfl 0 rfl dL_law_1533 ?_
  refine g_iload F 4 rfl rfl dL_law_1534 ?_
  refine g_iconst F 0 rfl dL_law_1536 ?_
  refine g_iadd F rfl rfl dL_law_1537 ?_
  refine g_chk (fun n2 => ?_)
  refine g_sld F hX n2 rfl dL_law_1538 ?_
  refine g_aload_n F rfl 0 rfl dL_law_1539 ?_
  refine g_iload F 4 rfl rfl dL_law_1540 ?_
  refine g_iconst F 0 rfl dL_law_1542 ?_
  refine g_iadd F rfl rfl dL_law_1543 ?_
  refine g_chk (fun n3 => ?_)
  refine g_sld F hX n3 rfl dL_law_1544 ?_
  refine g_aload_n F rfl 0 rfl dL_law_1545 ?_
  refine g_iload F 4 rfl rfl dL_law_1546 ?_
  refine g_iconst F 0 rfl dL_law_1548 ?_
  refine g_iadd F rfl rfl dL_law_1549 ?_
  refine g_chk (fun n4 => ?_)
  refine g_sld F hX n4 rfl dL_law_1550 ?_
  refine g_aload_n F rfl 0 rfl dL_law_1551 ?_
  refine g_iload F 4 rfl rfl dL_law_1552 ?_
  refine g_iconst F 0 rfl dL_law_1554 ?_
  refine g_iadd F rfl rfl dL_law_1555 ?_
  refine g_chk (fun n5 => ?_)
  refine g_sld F hX n5 rfl dL_law_1556 ?_
  refine g_aload_n F rfl 3 rfl dL_law_1557 ?_
  refine g_callSX F (by decide) [(17, 0), (0, (xi xs (w32 (l4 + 1)))), (0, (xi xs (w32 (l4 + 2)))), (0, (xi xs (w32 (l4 + 3)))), (0, (xi xs (w32 (l4 + 4)))), (0, (xi xs (w32 (l4 + 5)))), (19, 0)] [17, 0, 0, 0, 0, 0, 19] ml_RL_198 wt_L_lend (c_L_lend 0 (xi xs (w32 (l4 + 1))) (xi xs (w32 (l4 + 2))) (xi xs (w32 (l4 + 3))) (xi xs (w32 (l4 + 4))) (xi xs (w32 (l4 + 5))) 0) mw_L_lend rfl rfl rfl (Nat.le_of_ble_eq_true rfl) (Nat.le_of_ble_eq_true rfl) (show cells + 10 ≤ 601024 by omega) (show slots + 62 ≤ 7293034 by omega) (Nat.le_of_ble_eq_true rfl) dL_law_1558 (fun z6 v6 hz6 => ?_)
  refine g_istore F rfl (Nat.le_of_ble_eq_true rfl) (ls' := [(5, (0, z6)), (0, (108, 0)), (1, (17, 0)), (2, (18, 0)), (3, (19, 0)), (4, (0, l4))]) rfl dL_law_1561 ?_
  refine g_aload_n F rfl 3 rfl dL_law_1563 ?_
  refine g_aload_n F rfl 1 rfl dL_law_1564 ?_
  refine g_iload F 5 rfl rfl dL_law_1565 ?_
  refine g_iconst F 2 rfl dL_law_1567 ?_
  refine g_iadd F rfl rfl dL_law_1568 ?_
  refine g_sld F hX n1 rfl dL_law_1569 ?_
  refine g_aload_n F rfl 1 rfl dL_law_1570 ?_
  refine g_iload F 5 rfl rfl dL_law_1571 ?_
  refine g_iconst F 0 rfl dL_law_1573 ?_
  refine g_iadd F rfl rfl dL_law_1574 ?_
  refine g_sld F hX n2 rfl dL_law_1575 ?_
  refine g_aload_n F rfl 1 rfl dL_law_1576 ?_
  refine g_iload F 5 rfl rfl dL_law_1577 ?_
  refine g_iconst F 0 rfl dL_law_1579 ?_
  refine g_iadd F rfl rfl dL_law_1580 ?_
  refine g_sld F hX n3 rfl dL_law_1581 ?_
  refine g_aload_n F rfl 1 rfl dL_law_1582 ?_
  refine g_iload F 5 rfl rfl dL_law_1583 ?_
  refine g_iconst F 0 rfl dL_law_1585 ?_
  refine g_iadd F rfl rfl dL_law_1586 ?_
  refine g_sld F hX n4 rfl dL_law_1587 ?_
  refine g_aload_n F rfl 1 rfl dL_law_1588 ?_
  refine g_iload F 5 rfl rfl dL_law_1589 ?_
  refine g_iconst F 0 rfl dL_law_1591 ?_
  refine g_iadd F rfl rfl dL_law_1592 ?_
  refine g_sld F hX n5 rfl dL_law_1593 ?_
  refine g_callV F (by decide) (K := 8) (b := 0) [(0, (xi xs (w32 (l4 + 1)))), (0, (xi xs (w32 (l4 + 2)))), (0, (xi xs (w32 (l4 + 3)))), (0, (xi xs (w32 (l4 + 4)))), (0, (xi xs (w32 (l4 + 5))))] [0, 0, 0, 0, 0] ml_RL_201 wi_X8_lend ws_X8_lend (c_X8_lend 0 (xi xs (w32 (l4 + 1))) (xi xs (w32 (l4 + 2))) (xi xs (w32 (l4 + 3))) (xi xs (w32 (l4 + 4))) (xi xs (w32 (l4 + 5))) (by decide)) mi_X8_lend (by decide) ⟨_, rfl, rfl⟩ (by decide) rfl rfl rfl (Nat.le_of_ble_eq_true rfl) (Nat.le_of_ble_eq_true rfl) (show (cells + 10) + 0 ≤ 601024 by omega) (show (slots + 62) + 0 ≤ 7293034 by omega) (Nat.le_of_ble_eq_true rfl) dL_law_1594 (fun z7 v7 hz7 => ?_)
  refine g_istore F rfl (Nat.le_of_ble_eq_true rfl) (ls' := [(6, (0, z7)), (5, (0, z6)), (0, (108, 0)), (1, (17, 0)), (2, (18, 0)), (3, (19, 0)), (4, (0, l4))]) rfl dL_law_1597 ?_
  refine g_aload_n F rfl 4 rfl dL_law_1599 ?_
  refine g_callV F (by decide) (K := 8) (b := 0) [] [] ml_RL_132 wi_X8_thrown ws_X8_thrown (c_X8_thrown 0  (by decide)) mi_X8_thrown (by decide) ⟨_, rfl, rfl⟩ (by decide) rfl rfl rfl (Nat.le_of_ble_eq_true rfl) (Nat.le_of_ble_eq_true rfl) (show (cells + 10) + 0 ≤ 601024 by omega) (show (slots + 62) + 0 ≤ 7293034 by omega) (Nat.le_of_ble_eq_true rfl) dL_law_1600 (fun z8 v8 hz8 => ?_)
  refine g_iload F 1 rfl rfl dL_law_1603 ?_
  refine g_icmp_eq F rfl rfl (tgt := 1610) rfl dL_law_1605 (fun n9 => ?_) (fun n9 => ?_)
  · refine g_iload F 1 rfl rfl dL_law_1610 ?_
    refine g_if_ne F rfl (tgt := 1627) rfl dL_law_1612 (fun n10 => ?_) (fun n10 => ?_)
    · refine g_goto F (tgt := 2508) rfl dL_law_1627 ?_
      refine g_loc [(2, 108), (3, 17), (4, 18), (5, 19), (6, 0)] rfl ?_
      exact hk v8
    · refine g_aload_n F rfl 5 rfl dL_law_1615 ?_
      refine g_iconst F 2 rfl dL_law_1616 ?_
      refine h_lald F (n := 1) ak_9 (by decide) (by decide) rfl dL_law_1617 ?_
      refine g_iload F 0 rfl rfl dL_law_1618 ?_
      refine g_i2l F rfl dL_law_1620 ?_
      refine g_lcmp F dL_law_1621 ?_
      refine g_if_eq F rfl (tgt := 1627) rfl dL_law_1622 (fun n11 => ?_) (fun n11 => ?_)
      · refine g_goto F (tgt := 2508) rfl dL_law_1627 ?_
        refine g_loc [(2, 108), (3, 17), (4, 18), (5, 19), (6, 0)] rfl ?_
        exact hk v8
      · refine g_iconst F 2 rfl dL_law_1625 ?_
        exact g_lawret F rfl (show (cells + 10) ≤ 601024 by omega) (show (slots + 62) ≤ 7293034 by omega) rfl dL_law_1626
  · refine g_iconst F 2 rfl dL_law_1608 ?_
    exact g_lawret F rfl (show (cells + 10) ≤ 601024 by omega) (show (slots + 62) ≤ 7293034 by omega) rfl dL_law_1609
def cs_20 (l4 : Int) (L : Nat) (xs : Nat → Int32) (k : V → Res) (v : V) : Res := (chk (0 ≤ (w32 (l4 + 1)) ∧ (w32 (l4 + 1)) < (L : Int)) (rB (sp_L_repay 0 (xi xs (w32 (l4 + 1))) 0 v) (fun z2 v2 => (rB (sp_X8_repay 0 (xi xs (w32 (l4 + 1))) v2) (fun z3 v3 => (rB (sp_X8_thrown 0  v3) (fun z4 v4 => (if z4 = z2 then (if ¬ z2 = 0 then (k v4)
   else (if (lcmp (v4 9 0 0) z3) = 0 then (k v4)
   else (rOk 0 v4)))
   else (rOk 0 v4)))))))))
set_option maxRecDepth 100000 in
set_option maxHeartbeats 4000000 in
theorem kcs_20 {x : Cx} {nm9 : String} {rt9 : Option Nat} (F : Fx x cL_law RL nm9 room_1 7 rt9 (some .boolean) 1) {L : Nat} {xs : Nat → Int32} (hX : FxS x L xs) {l4 : Int} {k : V → Res} {cells slots : Nat} (h1 : cells + 40 ≤ 601024) (h2 : slots + 400 ≤ 7293034) (hk : ∀ v, Gs x (k v) v (cells + 2) (slots + 12) 2508 [(0, (108, 0)), (1, (17, 0)), (2, (18, 0)), (3, (19, 0)), (4, (0, l4))] []) (v : V) : Gs x (cs_20 l4 L xs k v) v cells slots 1630 [(0, (108, 0)), (1, (17, 0)), (2, (18, 0)), (3, (19, 0)), (4, (0, l4))] [] := by
  unfold cs_20
  refine g_aload_n F rfl 1 rfl dL_law_1630 ?_
  refine g_aload_n F rfl 0 rfl dL_law_1631 ?_
  refine g_iload F 4 rfl rfl dL_law_1632 ?_
  refine g_iconst F 2 rfl dL_law_1634 ?_
  refine g_iadd F rfl rfl dL_law_1635 ?_
  refine g_chk (fun n1 => ?_)
  refine g_sld F hX n1 rfl dL_law_1636 ?_
  refine g_aload_n F rfl 3 rfl dL_law_1637 ?_
  refine g_callSX F (by decide) [(17, 0), (0, (xi xs (w32 (l4 + 1)))), (19, 0)] [17, 0, 19] ml_RL_202 wt_L_repay (c_L_repay 0 (xi xs (w32 (l4 + 1))) 0) mw_L_repay rfl rfl rfl (Nat.le_of_ble_eq_true rfl) (Nat.le_of_ble_eq_true rfl) (show cells + 2 ≤ 601024 by omega) (show slots + 12 ≤ 7293034 by omega) (Nat.le_of_ble_eq_true rfl) dL_law_1638 (fun z2 v2 hz2 => ?_)
  refine g_istore F rfl (Nat.le_of_ble_eq_true rfl) (ls' := [(5, (0, z2)), (0, (108, 0)), (1, (17, 0)), (2, (18, 0)), (3, (19, 0)), (4, (0, l4))]) rfl dL_law_1641 ?_
  refine g_aload_n F rfl 3 rfl dL_law_1643 ?_
  refine g_aload_n F rfl 1 rfl dL_law_1644 ?_
  refine g_iload F 5 rfl rfl dL_law_1645 ?_
  refine g_iconst F 2 rfl dL_law_1647 ?_
  refine g_iadd F rfl rfl dL_law_1648 ?_
  refine g_sld F hX n1 rfl dL_law_1649 ?_
  refine g_callV F (by decide) (K := 8) (b := 0) [(0, (xi xs (w32 (l4 + 1))))] [0] ml_RL_204 wi_X8_repay ws_X8_repay (c_X8_repay 0 (xi xs (w32 (l4 + 1))) (by decide)) mi_X8_repay (by decide) ⟨_, rfl, rfl⟩ (by decide) rfl rfl rfl (Nat.le_of_ble_eq_true rfl) (Nat.le_of_ble_eq_true rfl) (show (cells + 2) + 0 ≤ 601024 by omega) (show (slots + 12) + 0 ≤ 7293034 by omega) (Nat.le_of_ble_eq_true rfl) dL_law_1650 (fun z3 v3 hz3 => ?_)
  refine g_istore F rfl (Nat.le_of_ble_eq_true rfl) (ls' := [(6, (0, z3)), (5, (0, z2)), (0, (108, 0)), (1, (17, 0)), (2, (18, 0)), (3, (19, 0)), (4, (0, l4))]) rfl dL_law_1653 ?_
  refine g_aload_n F rfl 4 rfl dL_law_1655 ?_
  refine g_callV F (by decide) (K := 8) (b := 0) [] [] ml_RL_132 wi_X8_thrown ws_X8_thrown (c_X8_thrown 0  (by decide)) mi_X8_thrown (by decide) ⟨_, rfl, rfl⟩ (by decide) rfl rfl rfl (Nat.le_of_ble_eq_true rfl) (Nat.le_of_ble_eq_true rfl) (show (cells + 2) + 0 ≤ 601024 by omega) (show (slots + 12) + 0 ≤ 7293034 by omega) (Nat.le_of_ble_eq_true rfl) dL_law_1656 (fun z4 v4 hz4 => ?_)
  refine g_iload F 1 rfl rfl dL_law_1659 ?_
  refine g_icmp_eq F rfl rfl (tgt := 1666) rfl dL_law_1661 (fun n5 => ?_) (fun n5 => ?_)
  · refine g_iload F 1 rfl rfl dL_law_1666 ?_
    refine g_if_ne F rfl (tgt := 1683) rfl dL_law_1668 (fun n6 => ?_) (fun n6 => ?_)
    · refine g_goto F (tgt := 2508) rfl dL_law_1683 ?_
      refine g_loc [(2, 108), (3, 17), (4, 18), (5, 19), (6, 0)] rfl ?_
      exact hk v4
    · refine g_aload_n F rfl 5 rfl dL_law_1671 ?_
      refine g_iconst F 2 rfl dL_law_1672 ?_
      refine h_lald F (n := 1) ak_9 (by decide) (by decide) rfl dL_law_1673 ?_
      refine g_iload F 0 rfl rfl dL_law_1674 ?_
      refine g_i2l F rfl dL_law_1676 ?_
      refine g_lcmp F dL_law_1677 ?_
      refine g_if_eq F rfl (tgt := 1683) rfl dL_law_1678 (fun n7 => ?_) (fun n7 => ?_)
      · refine g_goto F (tgt := 2508) rfl dL_law_1683 ?_
        refine g_loc [(2, 108), (3, 17), (4, 18), (5, 19), (6, 0)] rfl ?_
        exact hk v4
      · refine g_iconst F 2 rfl dL_law_1681 ?_
        exact g_lawret F rfl (show (cells + 2) ≤ 601024 by omega) (show (slots + 12) ≤ 7293034 by omega) rfl dL_law_1682
  · refine g_iconst F 2 rfl dL_law_1664 ?_
    exact g_lawret F rfl (show (cells + 2) ≤ 601024 by omega) (show (slots + 12) ≤ 7293034 by omega) rfl dL_law_1665
def cs_21 (l4 : Int) (L : Nat) (xs : Nat → Int32) (k : V → Res) (v : V) : Res := (chk (0 ≤ (w32 (l4 + 1)) ∧ (w32 (l4 + 1)) < (L : Int)) (rB (sp_L_seize 0 (xi xs (w32 (l4 + 1))) 0 v) (fun z2 v2 => (rB (sp_X8_seize 0 (xi xs (w32 (l4 + 1))) v2) (fun z3 v3 => (rB (sp_X8_thrown 0  v3) (fun z4 v4 => (if z4 = z2 then (if ¬ z2 = 0 then (k v4)
   else (if (lcmp (v4 9 0 0) z3) = 0 then (k v4)
   else (rOk 0 v4)))
   else (rOk 0 v4)))))))))
set_option maxRecDepth 100000 in
set_option maxHeartbeats 4000000 in
theorem kcs_21 {x : Cx} {nm9 : String} {rt9 : Option Nat} (F : Fx x cL_law RL nm9 room_1 7 rt9 (some .boolean) 1) {L : Nat} {xs : Nat → Int32} (hX : FxS x L xs) {l4 : Int} {k : V → Res} {cells slots : Nat} (h1 : cells + 40 ≤ 601024) (h2 : slots + 400 ≤ 7293034) (hk : ∀ v, Gs x (k v) v (cells + 2) (slots + 12) 2508 [(0, (108, 0)), (1, (17, 0)), (2, (18, 0)), (3, (19, 0)), (4, (0, l4))] []) (v : V) : Gs x (cs_21 l4 L xs k v) v cells slots 1686 [(0, (108, 0)), (1, (17, 0)), (2, (18, 0)), (3, (19, 0)), (4, (0, l4))] [] := by
  unfold cs_21
  refine g_aload_n F rfl 1 rfl dL_law_1686 ?_
  refine g_aload_n F rfl 0 rfl dL_law_1687 ?_
  refine g_iload F 4 rfl rfl dL_law_1688 ?_
  refine g_iconst F 2 rfl dL_law_1690 ?_
  refine g_iadd F rfl rfl dL_law_1691 ?_
  refine g_chk (fun n1 => ?_)
  refine g_sld F hX n1 rfl dL_law_1692 ?_
  refine g_aload_n F rfl 3 rfl dL_law_1693 ?_
  refine g_callSX F (by decide) [(17, 0), (0, (xi xs (w32 (l4 + 1)))), (19, 0)] [17, 0, 19] ml_RL_205 wt_L_seize (c_L_seize 0 (xi xs (w32 (l4 + 1))) 0) mw_L_seize rfl rfl rfl (Nat.le_of_ble_eq_true rfl) (Nat.le_of_ble_eq_true rfl) (show cells + 2 ≤ 601024 by omega) (show slots + 12 ≤ 7293034 by omega) (Nat.le_of_ble_eq_true rfl) dL_law_1694 (fun z2 v2 hz2 => ?_)
  refine g_istore F rfl (Nat.le_of_ble_eq_true rfl) (ls' := [(5, (0, z2)), (0, (108, 0)), (1, (17, 0)), (2, (18, 0)), (3, (19, 0)), (4, (0, l4))]) rfl dL_law_1697 ?_
  refine g_aload_n F rfl 3 rfl dL_law_1699 ?_
  refine g_aload_n F rfl 1 rfl dL_law_1700 ?_
  refine g_iload F 5 rfl rfl dL_law_1701 ?_
  refine g_iconst F 2 rfl dL_law_1703 ?_
  refine g_iadd F rfl rfl dL_law_1704 ?_
  refine g_sld F hX n1 rfl dL_law_1705 ?_
  refine g_callV F (by decide) (K := 8) (b := 0) [(0, (xi xs (w32 (l4 + 1))))] [0] ml_RL_207 wi_X8_seize ws_X8_seize (c_X8_seize 0 (xi xs (w32 (l4 + 1))) (by decide)) mi_X8_seize (by decide) ⟨_, rfl, rfl⟩ (by decide) rfl rfl rfl (Nat.le_of_ble_eq_true rfl) (Nat.le_of_ble_eq_true rfl) (show (cells + 2) + 0 ≤ 601024 by omega) (show (slots + 12) + 0 ≤ 7293034 by omega) (Nat.le_of_ble_eq_true rfl) dL_law_1706 (fun z3 v3 hz3 => ?_)
  refine g_istore F rfl (Nat.le_of_ble_eq_true rfl) (ls' := [(6, (0, z3)), (5, (0, z2)), (0, (108, 0)), (1, (17, 0)), (2, (18, 0)), (3, (19, 0)), (4, (0, l4))]) rfl dL_law_1709 ?_
  refine g_aload_n F rfl 4 rfl dL_law_1711 ?_
  refine g_callV F (by decide) (K := 8) (b := 0) [] [] ml_RL_132 wi_X8_thrown ws_X8_thrown (c_X8_thrown 0  (by decide)) mi_X8_thrown (by decide) ⟨_, rfl, rfl⟩ (by decide) rfl rfl rfl (Nat.le_of_ble_eq_true rfl) (Nat.le_of_ble_eq_true rfl) (show (cells + 2) + 0 ≤ 601024 by omega) (show (slots + 12) + 0 ≤ 7293034 by omega) (Nat.le_of_ble_eq_true rfl) dL_law_1712 (fun z4 v4 hz4 => ?_)
  refine g_iload F 1 rfl rfl dL_law_1715 ?_
  refine g_icmp_eq F rfl rfl (tgt := 1722) rfl dL_law_1717 (fun n5 => ?_) (fun n5 => ?_)
  · refine g_iload F 1 rfl rfl dL_law_1722 ?_
    refine g_if_ne F rfl (tgt := 1739) rfl dL_law_1724 (fun n6 => ?_) (fun n6 => ?_)
    · refine g_goto F (tgt := 2508) rfl dL_law_1739 ?_
      refine g_loc [(2, 108), (3, 17), (4, 18), (5, 19), (6, 0)] rfl ?_
      exact hk v4
    · refine g_aload_n F rfl 5 rfl dL_law_1727 ?_
      refine g_iconst F 2 rfl dL_law_1728 ?_
      refine h_lald F (n := 1) ak_9 (by decide) (by decide) rfl dL_law_1729 ?_
      refine g_iload F 0 rfl rfl dL_law_1730 ?_
      refine g_i2l F rfl dL_law_1732 ?_
      refine g_lcmp F dL_law_1733 ?_
      refine g_if_eq F rfl (tgt := 1739) rfl dL_law_1734 (fun n7 => ?_) (fun n7 => ?_)
      · refine g_goto F (tgt := 2508) rfl dL_law_1739 ?_
        refine g_loc [(2, 108), (3, 17), (4, 18), (5, 19), (6, 0)] rfl ?_
        exact hk v4
      · refine g_iconst F 2 rfl dL_law_1737 ?_
        exact g_lawret F rfl (show (cells + 2) ≤ 601024 by omega) (show (slots + 12) ≤ 7293034 by omega) rfl dL_law_1738
  · refine g_iconst F 2 rfl dL_law_1720 ?_
    exact g_lawret F rfl (show (cells + 2) ≤ 601024 by omega) (show (slots + 12) ≤ 7293034 by omega) rfl dL_law_1721
def cs_22 (l4 : Int) (L : Nat) (xs : Nat → Int32) (k : V → Res) (v : V) : Res := (chk (0 ≤ (w32 (l4 + 1)) ∧ (w32 (l4 + 1)) < (L : Int)) (chk (0 ≤ (w32 (l4 + 2)) ∧ (w32 (l4 + 2)) < (L : Int)) (chk (0 ≤ (w32 (l4 + 3)) ∧ (w32 (l4 + 3)) < (L : Int)) (rB (sp_L_assign 0 (xi xs (w32 (l4 + 1))) (xi xs (w32 (l4 + 2))) (xi xs (w32 (l4 + 3))) 0 v) (fun z4 v4 => (rB (sp_X8_assign 0 (xi xs (w32 (l4 + 1))) (xi xs (w32 (l4 + 2))) (xi xs (w32 (l4 + 3))) v4) (fun z5 v5 => (rB (sp_X8_thrown 0  v5) (fun z6 v6 => (if z6 = z4 then (if ¬ z4 = 0 then (k v6)
   else (if (lcmp (v6 9 0 0) z5) = 0 then (k v6)
   else (rOk 0 v6)))
   else (rOk 0 v6)))))))))))
set_option maxRecDepth 100000 in
set_option maxHeartbeats 4000000 in
theorem kcs_22 {x : Cx} {nm9 : String} {rt9 : Option Nat} (F : Fx x cL_law RL nm9 room_1 7 rt9 (some .boolean) 1) {L : Nat} {xs : Nat → Int32} (hX : FxS x L xs) {l4 : Int} {k : V → Res} {cells slots : Nat} (h1 : cells + 40 ≤ 601024) (h2 : slots + 400 ≤ 7293034) (hk : ∀ v, Gs x (k v) v (cells + 6) (slots + 36) 2508 [(0, (108, 0)), (1, (17, 0)), (2, (18, 0)), (3, (19, 0)), (4, (0, l4))] []) (v : V) : Gs x (cs_22 l4 L xs k v) v cells slots 1742 [(0, (108, 0)), (1, (17, 0)), (2, (18, 0)), (3, (19, 0)), (4, (0, l4))] [] := by
  unfold cs_22
  refine g_aload_n F rfl 1 rfl dL_law_1742 ?_
  refine g_aload_n F rfl 0 rfl dL_law_1743 ?_
  refine g_iload F 4 rfl rfl dL_law_1744 ?_
  refine g_iconst F 2 rfl dL_law_1746 ?_
  refine g_iadd F rfl rfl dL_law_1747 ?_
  refine g_chk (fun n1 => ?_)
  refine g_sld F hX n1 rfl dL_law_1748 ?_
  refine g_aload_n F rfl 0 rfl dL_law_1749 ?_
  refine g_iload F 4 rfl rfl dL_law_1750 ?_
  refine g_iconst F 0 rfl dL_law_1752 ?_
  refine g_iadd F rfl rfl dL_law_1753 ?_
  refine g_chk (fun n2 => ?_)
  refine g_sld F hX n2 rfl dL_law_1754 ?_
  refine g_aload_n F rfl 0 rfl dL_law_1755 ?_
  refine g_iload F 4 rfl rfl dL_law_1756 ?_
  refine g_iconst F 0 rfl dL_law_1758 ?_
  refine g_iadd F rfl rfl dL_law_1759 ?_
  refine g_chk (fun n3 => ?_)
  refine g_sld F hX n3 rfl dL_law_1760 ?_
  refine g_aload_n F rfl 3 rfl dL_law_1761 ?_
  refine g_callSX F (by decide) [(17, 0), (0, (xi xs (w32 (l4 + 1)))), (0, (xi xs (w32 (l4 + 2)))), (0, (xi xs (w32 (l4 + 3)))), (19, 0)] [17, 0, 0, 0, 19] ml_RL_208 wt_L_assign (c_L_assign 0 (xi xs (w32 (l4 + 1))) (xi xs (w32 (l4 + 2))) (xi xs (w32 (l4 + 3))) 0) mw_L_assign rfl rfl rfl (Nat.le_of_ble_eq_true rfl) (Nat.le_of_ble_eq_true rfl) (show cells + 6 ≤ 601024 by omega) (show slots + 36 ≤ 7293034 by omega) (Nat.le_of_ble_eq_true rfl) dL_law_1762 (fun z4 v4 hz4 => ?_)
  refine g_istore F rfl (Nat.le_of_ble_eq_true rfl) (ls' := [(5, (0, z4)), (0, (108, 0)), (1, (17, 0)), (2, (18, 0)), (3, (19, 0)), (4, (0, l4))]) rfl dL_law_1765 ?_
  refine g_aload_n F rfl 3 rfl dL_law_1767 ?_
  refine g_aload_n F rfl 1 rfl dL_law_1768 ?_
  refine g_iload F 5 rfl rfl dL_law_1769 ?_
  refine g_iconst F 2 rfl dL_law_1771 ?_
  refine g_iadd F rfl rfl dL_law_1772 ?_
  refine g_sld F hX n1 rfl dL_law_1773 ?_
  refine g_aload_n F rfl 1 rfl dL_law_1774 ?_
  refine g_iload F 5 rfl rfl dL_law_1775 ?_
  refine g_iconst F 0 rfl dL_law_1777 ?_
  refine g_iadd F rfl rfl dL_law_1778 ?_
  refine g_sld F hX n2 rfl dL_law_1779 ?_
  refine g_aload_n F rfl 1 rfl dL_law_1780 ?_
  refine g_iload F 5 rfl rfl dL_law_1781 ?_
  refine g_iconst F 0 rfl dL_law_1783 ?_
  refine g_iadd F rfl rfl dL_law_1784 ?_
  refine g_sld F hX n3 rfl dL_law_1785 ?_
  refine g_callV F (by decide) (K := 8) (b := 0) [(0, (xi xs (w32 (l4 + 1)))), (0, (xi xs (w32 (l4 + 2)))), (0, (xi xs (w32 (l4 + 3))))] [0, 0, 0] ml_RL_210 wi_X8_assign ws_X8_assign (c_X8_assign 0 (xi xs (w32 (l4 + 1))) (xi xs (w32 (l4 + 2))) (xi xs (w32 (l4 + 3))) (by decide)) mi_X8_assign (by decide) ⟨_, rfl, rfl⟩ (by decide) rfl rfl rfl (Nat.le_of_ble_eq_true rfl) (Nat.le_of_ble_eq_true rfl) (show (cells + 6) + 0 ≤ 601024 by omega) (show (slots + 36) + 0 ≤ 7293034 by omega) (Nat.le_of_ble_eq_true rfl) dL_law_1786 (fun z5 v5 hz5 => ?_)
  refine g_istore F rfl (Nat.le_of_ble_eq_true rfl) (ls' := [(6, (0, z5)), (5, (0, z4)), (0, (108, 0)), (1, (17, 0)), (2, (18, 0)), (3, (19, 0)), (4, (0, l4))]) rfl dL_law_1789 ?_
  refine g_aload_n F rfl 4 rfl dL_law_1791 ?_
  refine g_callV F (by decide) (K := 8) (b := 0) [] [] ml_RL_132 wi_X8_thrown ws_X8_thrown (c_X8_thrown 0  (by decide)) mi_X8_thrown (by decide) ⟨_, rfl, rfl⟩ (by decide) rfl rfl rfl (Nat.le_of_ble_eq_true rfl) (Nat.le_of_ble_eq_true rfl) (show (cells + 6) + 0 ≤ 601024 by omega) (show (slots + 36) + 0 ≤ 7293034 by omega) (Nat.le_of_ble_eq_true rfl) dL_law_1792 (fun z6 v6 hz6 => ?_)
  refine g_iload F 1 rfl rfl dL_law_1795 ?_
  refine g_icmp_eq F rfl rfl (tgt := 1802) rfl dL_law_1797 (fun n7 => ?_) (fun n7 => ?_)
  · refine g_iload F 1 rfl rfl dL_law_1802 ?_
    refine g_if_ne F rfl (tgt := 1819) rfl dL_law_1804 (fun n8 => ?_) (fun n8 => ?_)
    · refine g_goto F (tgt := 2508) rfl dL_law_1819 ?_
      refine g_loc [(2, 108), (3, 17), (4, 18), (5, 19), (6, 0)] rfl ?_
      exact hk v6
    · refine g_aload_n F rfl 5 rfl dL_law_1807 ?_
      refine g_iconst F 2 rfl dL_law_1808 ?_
      refine h_lald F (n := 1) ak_9 (by decide) (by decide) rfl dL_law_1809 ?_
      refine g_iload F 0 rfl rfl dL_law_1810 ?_
      refine g_i2l F rfl dL_law_1812 ?_
      refine g_lcmp F dL_law_1813 ?_
      refine g_if_eq F rfl (tgt := 1819) rfl dL_law_1814 (fun n9 => ?_) (fun n9 => ?_)
      · refine g_goto F (tgt := 2508) rfl dL_law_1819 ?_
        refine g_loc [(2, 108), (3, 17), (4, 18), (5, 19), (6, 0)] rfl ?_
        exact hk v6
      · refine g_iconst F 2 rfl dL_law_1817 ?_
        exact g_lawret F rfl (show (cells + 6) ≤ 601024 by omega) (show (slots + 36) ≤ 7293034 by omega) rfl dL_law_1818
  · refine g_iconst F 2 rfl dL_law_1800 ?_
    exact g_lawret F rfl (show (cells + 6) ≤ 601024 by omega) (show (slots + 36) ≤ 7293034 by omega) rfl dL_law_1801
def cs_23 (l4 : Int) (L : Nat) (xs : Nat → Int32) (k : V → Res) (v : V) : Res := (chk (0 ≤ (w32 (l4 + 1)) ∧ (w32 (l4 + 1)) < (L : Int)) (chk (0 ≤ (w32 (l4 + 2)) ∧ (w32 (l4 + 2)) < (L : Int)) (chk (0 ≤ (w32 (l4 + 3)) ∧ (w32 (l4 + 3)) < (L : Int)) (chk (0 ≤ (w32 (l4 + 4)) ∧ (w32 (l4 + 4)) < (L : Int)) (rB (sp_L_bars 0 (xi xs (w32 (l4 + 1))) (xi xs (w32 (l4 + 2))) (xi xs (w32 (l4 + 3))) (xi xs (w32 (l4 + 4))) 0 v) (fun z5 v5 => (rB (sp_X8_bars 0 (xi xs (w32 (l4 + 1))) (xi xs (w32 (l4 + 2))) (xi xs (w32 (l4 + 3))) (xi xs (w32 (l4 + 4))) v5) (fun z6 v6 => (rB (sp_X8_thrown 0  v6) (fun z7 v7 => (if z7 = z5 then (if ¬ z5 = 0 then (k v7)
   else (if (lcmp (v7 9 0 0) z6) = 0 then (k v7)
   else (rOk 0 v7)))
   else (rOk 0 v7))))))))))))
set_option maxRecDepth 100000 in
set_option maxHeartbeats 4000000 in
theorem kcs_23 {x : Cx} {nm9 : String} {rt9 : Option Nat} (F : Fx x cL_law RL nm9 room_1 7 rt9 (some .boolean) 1) {L : Nat} {xs : Nat → Int32} (hX : FxS x L xs) {l4 : Int} {k : V → Res} {cells slots : Nat} (h1 : cells + 40 ≤ 601024) (h2 : slots + 400 ≤ 7293034) (hk : ∀ v, Gs x (k v) v (cells + 5) (slots + 30) 2508 [(0, (108, 0)), (1, (17, 0)), (2, (18, 0)), (3, (19, 0)), (4, (0, l4))] []) (v : V) : Gs x (cs_23 l4 L xs k v) v cells slots 1822 [(0, (108, 0)), (1, (17, 0)), (2, (18, 0)), (3, (19, 0)), (4, (0, l4))] [] := by
  unfold cs_23
  refine g_aload_n F rfl 1 rfl dL_law_1822 ?_
  refine g_aload_n F rfl 0 rfl dL_law_1823 ?_
  refine g_iload F 4 rfl rfl dL_law_1824 ?_
  refine g_iconst F 2 rfl dL_law_1826 ?_
  refine g_iadd F rfl rfl dL_law_1827 ?_
  refine g_chk (fun n1 => ?_)
  refine g_sld F hX n1 rfl dL_law_1828 ?_
  refine g_aload_n F rfl 0 rfl dL_law_1829 ?_
  refine g_iload F 4 rfl rfl dL_law_1830 ?_
  refine g_iconst F 0 rfl dL_law_1832 ?_
  refine g_iadd F rfl rfl dL_law_1833 ?_
  refine g_chk (fun n2 => ?_)
  refine g_sld F hX n2 rfl dL_law_1834 ?_
  refine g_aload_n F rfl 0 rfl dL_law_1835 ?_
  refine g_iload F 4 rfl rfl dL_law_1836 ?_
  refine g_iconst F 0 rfl dL_law_1838 ?_
  refine g_iadd F rfl rfl dL_law_1839 ?_
  refine g_chk (fun n3 => ?_)
  refine g_sld F hX n3 rfl dL_law_1840 ?_
  refine g_aload_n F rfl 0 rfl dL_law_1841 ?_
  refine g_iload F 4 rfl rfl dL_law_1842 ?_
  refine g_iconst F 0 rfl dL_law_1844 ?_
  refine g_iadd F rfl rfl dL_law_1845 ?_
  refine g_chk (fun n4 => ?_)
  refine g_sld F hX n4 rfl dL_law_1846 ?_
  refine g_aload_n F rfl 3 rfl dL_law_1847 ?_
  refine g_callSX F (by decide) [(17, 0), (0, (xi xs (w32 (l4 + 1)))), (0, (xi xs (w32 (l4 + 2)))), (0, (xi xs (w32 (l4 + 3)))), (0, (xi xs (w32 (l4 + 4)))), (19, 0)] [17, 0, 0, 0, 0, 19] ml_RL_211 wt_L_bars (c_L_bars 0 (xi xs (w32 (l4 + 1))) (xi xs (w32 (l4 + 2))) (xi xs (w32 (l4 + 3))) (xi xs (w32 (l4 + 4))) 0) mw_L_bars rfl rfl rfl (Nat.le_of_ble_eq_true rfl) (Nat.le_of_ble_eq_true rfl) (show cells + 5 ≤ 601024 by omega) (show slots + 30 ≤ 7293034 by omega) (Nat.le_of_ble_eq_true rfl) dL_law_1848 (fun z5 v5 hz5 => ?_)
  refine g_istore F rfl (Nat.le_of_ble_eq_true rfl) (ls' := [(5, (0, z5)), (0, (108, 0)), (1, (17, 0)), (2, (18, 0)), (3, (19, 0)), (4, (0, l4))]) rfl dL_law_1851 ?_
  refine g_aload_n F rfl 3 rfl dL_law_1853 ?_
  refine g_aload_n F rfl 1 rfl dL_law_1854 ?_
  refine g_iload F 5 rfl rfl dL_law_1855 ?_
  refine g_iconst F 2 rfl dL_law_1857 ?_
  refine g_iadd F rfl rfl dL_law_1858 ?_
  refine g_sld F hX n1 rfl dL_law_1859 ?_
  refine g_aload_n F rfl 1 rfl dL_law_1860 ?_
  refine g_iload F 5 rfl rfl dL_law_1861 ?_
  refine g_iconst F 0 rfl dL_law_1863 ?_
  refine g_iadd F rfl rfl dL_law_1864 ?_
  refine g_sld F hX n2 rfl dL_law_1865 ?_
  refine g_aload_n F rfl 1 rfl dL_law_1866 ?_
  refine g_iload F 5 rfl rfl dL_law_1867 ?_
  refine g_iconst F 0 rfl dL_law_1869 ?_
  refine g_iadd F rfl rfl dL_law_1870 ?_
  refine g_sld F hX n3 rfl dL_law_1871 ?_
  refine g_aload_n F rfl 1 rfl dL_law_1872 ?_
  refine g_iload F 5 rfl rfl dL_law_1873 ?_
  refine g_iconst F 0 rfl dL_law_1875 ?_
  refine g_iadd F rfl rfl dL_law_1876 ?_
  refine g_sld F hX n4 rfl dL_law_1877 ?_
  refine g_callV F (by decide) (K := 8) (b := 0) [(0, (xi xs (w32 (l4 + 1)))), (0, (xi xs (w32 (l4 + 2)))), (0, (xi xs (w32 (l4 + 3)))), (0, (xi xs (w32 (l4 + 4))))] [0, 0, 0, 0] ml_RL_213 wi_X8_bars ws_X8_bars (c_X8_bars 0 (xi xs (w32 (l4 + 1))) (xi xs (w32 (l4 + 2))) (xi xs (w32 (l4 + 3))) (xi xs (w32 (l4 + 4))) (by decide)) mi_X8_bars (by decide) ⟨_, rfl, rfl⟩ (by decide) rfl rfl rfl (Nat.le_of_ble_eq_true rfl) (Nat.le_of_ble_eq_true rfl) (show (cells + 5) + 0 ≤ 601024 by omega) (show (slots + 30) + 0 ≤ 7293034 by omega) (Nat.le_of_ble_eq_true rfl) dL_law_1878 (fun z6 v6 hz6 => ?_)
  refine g_istore F rfl (Nat.le_of_ble_eq_true rfl) (ls' := [(6, (0, z6)), (5, (0, z5)), (0, (108, 0)), (1, (17, 0)), (2, (18, 0)), (3, (19, 0)), (4, (0, l4))]) rfl dL_law_1881 ?_
  refine g_aload_n F rfl 4 rfl dL_law_1883 ?_
  refine g_callV F (by decide) (K := 8) (b := 0) [] [] ml_RL_132 wi_X8_thrown ws_X8_thrown (c_X8_thrown 0  (by decide)) mi_X8_thrown (by decide) ⟨_, rfl, rfl⟩ (by decide) rfl rfl rfl (Nat.le_of_ble_eq_true rfl) (Nat.le_of_ble_eq_true rfl) (show (cells + 5) + 0 ≤ 601024 by omega) (show (slots + 30) + 0 ≤ 7293034 by omega) (Nat.le_of_ble_eq_true rfl) dL_law_1884 (fun z7 v7 hz7 => ?_)
  refine g_iload F 1 rfl rfl dL_law_1887 ?_
  refine g_icmp_eq F rfl rfl (tgt := 1894) rfl dL_law_1889 (fun n8 => ?_) (fun n8 => ?_)
  · refine g_iload F 1 rfl rfl dL_law_1894 ?_
    refine g_if_ne F rfl (tgt := 1911) rfl dL_law_1896 (fun n9 => ?_) (fun n9 => ?_)
    · refine g_goto F (tgt := 2508) rfl dL_law_1911 ?_
      refine g_loc [(2, 108), (3, 17), (4, 18), (5, 19), (6, 0)] rfl ?_
      exact hk v7
    · refine g_aload_n F rfl 5 rfl dL_law_1899 ?_
      refine g_iconst F 2 rfl dL_law_1900 ?_
      refine h_lald F (n := 1) ak_9 (by decide) (by decide) rfl dL_law_1901 ?_
      refine g_iload F 0 rfl rfl dL_law_1902 ?_
      refine g_i2l F rfl dL_law_1904 ?_
      refine g_lcmp F dL_law_1905 ?_
      refine g_if_eq F rfl (tgt := 1911) rfl dL_law_1906 (fun n10 => ?_) (fun n10 => ?_)
      · refine g_goto F (tgt := 2508) rfl dL_law_1911 ?_
        refine g_loc [(2, 108), (3, 17), (4, 18), (5, 19), (6, 0)] rfl ?_
        exact hk v7
      · refine g_iconst F 2 rfl dL_law_1909 ?_
        exact g_lawret F rfl (show (cells + 5) ≤ 601024 by omega) (show (slots + 30) ≤ 7293034 by omega) rfl dL_law_1910
  · refine g_iconst F 2 rfl dL_law_1892 ?_
    exact g_lawret F rfl (show (cells + 5) ≤ 601024 by omega) (show (slots + 30) ≤ 7293034 by omega) rfl dL_law_1893
def cs_24 (l4 : Int) (L : Nat) (xs : Nat → Int32) (k : V → Res) (v : V) : Res := (chk (0 ≤ (w32 (l4 + 1)) ∧ (w32 (l4 + 1)) < (L : Int)) (chk (0 ≤ (w32 (l4 + 2)) ∧ (w32 (l4 + 2)) < (L : Int)) (chk (0 ≤ (w32 (l4 + 3)) ∧ (w32 (l4 + 3)) < (L : Int)) (chk (0 ≤ (w32 (l4 + 4)) ∧ (w32 (l4 + 4)) < (L : Int)) (rB (sp_L_barredBy 0 (xi xs (w32 (l4 + 1))) (xi xs (w32 (l4 + 2))) (xi xs (w32 (l4 + 3))) (xi xs (w32 (l4 + 4))) 0 v) (fun z5 v5 => (rB (sp_X8_barredBy 0 (xi xs (w32 (l4 + 1))) (xi xs (w32 (l4 + 2))) (xi xs (w32 (l4 + 3))) (xi xs (w32 (l4 + 4))) v5) (fun z6 v6 => (rB (sp_X8_thrown 0  v6) (fun z7 v7 => (if z7 = z5 then (if ¬ z5 = 0 then (k v7)
   else (if (lcmp (v7 9 0 0) z6) = 0 then (k v7)
   else (rOk 0 v7)))
   else (rOk 0 v7))))))))))))
set_option maxRecDepth 100000 in
set_option maxHeartbeats 4000000 in
theorem kcs_24 {x : Cx} {nm9 : String} {rt9 : Option Nat} (F : Fx x cL_law RL nm9 room_1 7 rt9 (some .boolean) 1) {L : Nat} {xs : Nat → Int32} (hX : FxS x L xs) {l4 : Int} {k : V → Res} {cells slots : Nat} (h1 : cells + 40 ≤ 601024) (h2 : slots + 400 ≤ 7293034) (hk : ∀ v, Gs x (k v) v (cells + 5) (slots + 30) 2508 [(0, (108, 0)), (1, (17, 0)), (2, (18, 0)), (3, (19, 0)), (4, (0, l4))] []) (v : V) : Gs x (cs_24 l4 L xs k v) v cells slots 1914 [(0, (108, 0)), (1, (17, 0)), (2, (18, 0)), (3, (19, 0)), (4, (0, l4))] [] := by
  unfold cs_24
  refine g_aload_n F rfl 1 rfl dL_law_1914 ?_
  refine g_aload_n F rfl 0 rfl dL_law_1915 ?_
  refine g_iload F 4 rfl rfl dL_law_1916 ?_
  refine g_iconst F 2 rfl dL_law_1918 ?_
  refine g_iadd F rfl rfl dL_law_1919 ?_
  refine g_chk (fun n1 => ?_)
  refine g_sld F hX n1 rfl dL_law_1920 ?_
  refine g_aload_n F rfl 0 rfl dL_law_1921 ?_
  refine g_iload F 4 rfl rfl dL_law_1922 ?_
  refine g_iconst F 0 rfl dL_law_1924 ?_
  refine g_iadd F rfl rfl dL_law_1925 ?_
  refine g_chk (fun n2 => ?_)
  refine g_sld F hX n2 rfl dL_law_1926 ?_
  refine g_aload_n F rfl 0 rfl dL_law_1927 ?_
  refine g_iload F 4 rfl rfl dL_law_1928 ?_
  refine g_iconst F 0 rfl dL_law_1930 ?_
  refine g_iadd F rfl rfl dL_law_1931 ?_
  refine g_chk (fun n3 => ?_)
  refine g_sld F hX n3 rfl dL_law_1932 ?_
  refine g_aload_n F rfl 0 rfl dL_law_1933 ?_
  refine g_iload F 4 rfl rfl dL_law_1934 ?_
  refine g_iconst F 0 rfl dL_law_1936 ?_
  refine g_iadd F rfl rfl dL_law_1937 ?_
  refine g_chk (fun n4 => ?_)
  refine g_sld F hX n4 rfl dL_law_1938 ?_
  refine g_aload_n F rfl 3 rfl dL_law_1939 ?_
  refine g_callSX F (by decide) [(17, 0), (0, (xi xs (w32 (l4 + 1)))), (0, (xi xs (w32 (l4 + 2)))), (0, (xi xs (w32 (l4 + 3)))), (0, (xi xs (w32 (l4 + 4)))), (19, 0)] [17, 0, 0, 0, 0, 19] ml_RL_214 wt_L_barredBy (c_L_barredBy 0 (xi xs (w32 (l4 + 1))) (xi xs (w32 (l4 + 2))) (xi xs (w32 (l4 + 3))) (xi xs (w32 (l4 + 4))) 0) mw_L_barredBy rfl rfl rfl (Nat.le_of_ble_eq_true rfl) (Nat.le_of_ble_eq_true rfl) (show cells + 5 ≤ 601024 by omega) (show slots + 30 ≤ 7293034 by omega) (Nat.le_of_ble_eq_true rfl) dL_law_1940 (fun z5 v5 hz5 => ?_)
  refine g_istore F rfl (Nat.le_of_ble_eq_true rfl) (ls' := [(5, (0, z5)), (0, (108, 0)), (1, (17, 0)), (2, (18, 0)), (3, (19, 0)), (4, (0, l4))]) rfl dL_law_1943 ?_
  refine g_aload_n F rfl 3 rfl dL_law_1945 ?_
  refine g_aload_n F rfl 1 rfl dL_law_1946 ?_
  refine g_iload F 5 rfl rfl dL_law_1947 ?_
  refine g_iconst F 2 rfl dL_law_1949 ?_
  refine g_iadd F rfl rfl dL_law_1950 ?_
  refine g_sld F hX n1 rfl dL_law_1951 ?_
  refine g_aload_n F rfl 1 rfl dL_law_1952 ?_
  refine g_iload F 5 rfl rfl dL_law_1953 ?_
  refine g_iconst F 0 rfl dL_law_1955 ?_
  refine g_iadd F rfl rfl dL_law_1956 ?_
  refine g_sld F hX n2 rfl dL_law_1957 ?_
  refine g_aload_n F rfl 1 rfl dL_law_1958 ?_
  refine g_iload F 5 rfl rfl dL_law_1959 ?_
  refine g_iconst F 0 rfl dL_law_1961 ?_
  refine g_iadd F rfl rfl dL_law_1962 ?_
  refine g_sld F hX n3 rfl dL_law_1963 ?_
  refine g_aload_n F rfl 1 rfl dL_law_1964 ?_
  refine g_iload F 5 rfl rfl dL_law_1965 ?_
  refine g_iconst F 0 rfl dL_law_1967 ?_
  refine g_iadd F rfl rfl dL_law_1968 ?_
  refine g_sld F hX n4 rfl dL_law_1969 ?_
  refine g_callV F (by decide) (K := 8) (b := 0) [(0, (xi xs (w32 (l4 + 1)))), (0, (xi xs (w32 (l4 + 2)))), (0, (xi xs (w32 (l4 + 3)))), (0, (xi xs (w32 (l4 + 4))))] [0, 0, 0, 0] ml_RL_216 wi_X8_barredBy ws_X8_barredBy (c_X8_barredBy 0 (xi xs (w32 (l4 + 1))) (xi xs (w32 (l4 + 2))) (xi xs (w32 (l4 + 3))) (xi xs (w32 (l4 + 4))) (by decide)) mi_X8_barredBy (by decide) ⟨_, rfl, rfl⟩ (by decide) rfl rfl rfl (Nat.le_of_ble_eq_true rfl) (Nat.le_of_ble_eq_true rfl) (show (cells + 5) + 0 ≤ 601024 by omega) (show (slots + 30) + 0 ≤ 7293034 by omega) (Nat.le_of_ble_eq_true rfl) dL_law_1970 (fun z6 v6 hz6 => ?_)
  refine g_istore F rfl (Nat.le_of_ble_eq_true rfl) (ls' := [(6, (0, z6)), (5, (0, z5)), (0, (108, 0)), (1, (17, 0)), (2, (18, 0)), (3, (19, 0)), (4, (0, l4))]) rfl dL_law_1973 ?_
  refine g_aload_n F rfl 4 rfl dL_law_1975 ?_
  refine g_callV F (by decide) (K := 8) (b := 0) [] [] ml_RL_132 wi_X8_thrown ws_X8_thrown (c_X8_thrown 0  (by decide)) mi_X8_thrown (by decide) ⟨_, rfl, rfl⟩ (by decide) rfl rfl rfl (Nat.le_of_ble_eq_true rfl) (Nat.le_of_ble_eq_true rfl) (show (cells + 5) + 0 ≤ 601024 by omega) (show (slots + 30) + 0 ≤ 7293034 by omega) (Nat.le_of_ble_eq_true rfl) dL_law_1976 (fun z7 v7 hz7 => ?_)
  refine g_iload F 1 rfl rfl dL_law_1979 ?_
  refine g_icmp_eq F rfl rfl (tgt := 1986) rfl dL_law_1981 (fun n8 => ?_) (fun n8 => ?_)
  · refine g_iload F 1 rfl rfl dL_law_1986 ?_
    refine g_if_ne F rfl (tgt := 2003) rfl dL_law_1988 (fun n9 => ?_) (fun n9 => ?_)
    · refine g_goto F (tgt := 2508) rfl dL_law_2003 ?_
      refine g_loc [(2, 108), (3, 17), (4, 18), (5, 19), (6, 0)] rfl ?_
      exact hk v7
    · refine g_aload_n F rfl 5 rfl dL_law_1991 ?_
      refine g_iconst F 2 rfl dL_law_1992 ?_
      refine h_lald F (n := 1) ak_9 (by decide) (by decide) rfl dL_law_1993 ?_
      refine g_iload F 0 rfl rfl dL_law_1994 ?_
      refine g_i2l F rfl dL_law_1996 ?_
      refine g_lcmp F dL_law_1997 ?_
      refine g_if_eq F rfl (tgt := 2003) rfl dL_law_1998 (fun n10 => ?_) (fun n10 => ?_)
      · refine g_goto F (tgt := 2508) rfl dL_law_2003 ?_
        refine g_loc [(2, 108), (3, 17), (4, 18), (5, 19), (6, 0)] rfl ?_
        exact hk v7
      · refine g_iconst F 2 rfl dL_law_2001 ?_
        exact g_lawret F rfl (show (cells + 5) ≤ 601024 by omega) (show (slots + 30) ≤ 7293034 by omega) rfl dL_law_2002
  · refine g_iconst F 2 rfl dL_law_1984 ?_
    exact g_lawret F rfl (show (cells + 5) ≤ 601024 by omega) (show (slots + 30) ≤ 7293034 by omega) rfl dL_law_1985
def cs_25 (l4 : Int) (L : Nat) (xs : Nat → Int32) (k : V → Res) (v : V) : Res := (chk (0 ≤ (w32 (l4 + 1)) ∧ (w32 (l4 + 1)) < (L : Int)) (chk (0 ≤ (w32 (l4 + 2)) ∧ (w32 (l4 + 2)) < (L : Int)) (rB (sp_L_price 0 (xi xs (w32 (l4 + 1))) (xi xs (w32 (l4 + 2))) 0 v) (fun z3 v3 => (rB (sp_X8_price 0 (xi xs (w32 (l4 + 1))) (xi xs (w32 (l4 + 2))) v3) (fun z4 v4 => (rB (sp_X8_thrown 0  v4) (fun z5 v5 => (if z5 = z3 then (if ¬ z3 = 0 then (k v5)
   else (if (lcmp (v5 9 0 0) z4) = 0 then (k v5)
   else (rOk 0 v5)))
   else (rOk 0 v5))))))))))
set_option maxRecDepth 100000 in
set_option maxHeartbeats 4000000 in
theorem kcs_25 {x : Cx} {nm9 : String} {rt9 : Option Nat} (F : Fx x cL_law RL nm9 room_1 7 rt9 (some .boolean) 1) {L : Nat} {xs : Nat → Int32} (hX : FxS x L xs) {l4 : Int} {k : V → Res} {cells slots : Nat} (h1 : cells + 40 ≤ 601024) (h2 : slots + 400 ≤ 7293034) (hk : ∀ v, Gs x (k v) v (cells + 2) (slots + 12) 2508 [(0, (108, 0)), (1, (17, 0)), (2, (18, 0)), (3, (19, 0)), (4, (0, l4))] []) (v : V) : Gs x (cs_25 l4 L xs k v) v cells slots 2006 [(0, (108, 0)), (1, (17, 0)), (2, (18, 0)), (3, (19, 0)), (4, (0, l4))] [] := by
  unfold cs_25
  refine g_aload_n F rfl 1 rfl dL_law_2006 ?_
  refine g_aload_n F rfl 0 rfl dL_law_2007 ?_
  refine g_iload F 4 rfl rfl dL_law_2008 ?_
  refine g_iconst F 2 rfl dL_law_2010 ?_
  refine g_iadd F rfl rfl dL_law_2011 ?_
  refine g_chk (fun n1 => ?_)
  refine g_sld F hX n1 rfl dL_law_2012 ?_
  refine g_aload_n F rfl 0 rfl dL_law_2013 ?_
  refine g_iload F 4 rfl rfl dL_law_2014 ?_
  refine g_iconst F 0 rfl dL_law_2016 ?_
  refine g_iadd F rfl rfl dL_law_2017 ?_
  refine g_chk (fun n2 => ?_)
  refine g_sld F hX n2 rfl dL_law_2018 ?_
  refine g_aload_n F rfl 3 rfl dL_law_2019 ?_
  refine g_callSX F (by decide) [(17, 0), (0, (xi xs (w32 (l4 + 1)))), (0, (xi xs (w32 (l4 + 2)))), (19, 0)] [17, 0, 0, 19] ml_RL_217 wt_L_price (c_L_price 0 (xi xs (w32 (l4 + 1))) (xi xs (w32 (l4 + 2))) 0) mw_L_price rfl rfl rfl (Nat.le_of_ble_eq_true rfl) (Nat.le_of_ble_eq_true rfl) (show cells + 2 ≤ 601024 by omega) (show slots + 12 ≤ 7293034 by omega) (Nat.le_of_ble_eq_true rfl) dL_law_2020 (fun z3 v3 hz3 => ?_)
  refine g_istore F rfl (Nat.le_of_ble_eq_true rfl) (ls' := [(5, (0, z3)), (0, (108, 0)), (1, (17, 0)), (2, (18, 0)), (3, (19, 0)), (4, (0, l4))]) rfl dL_law_2023 ?_
  refine g_aload_n F rfl 3 rfl dL_law_2025 ?_
  refine g_aload_n F rfl 1 rfl dL_law_2026 ?_
  refine g_iload F 5 rfl rfl dL_law_2027 ?_
  refine g_iconst F 2 rfl dL_law_2029 ?_
  refine g_iadd F rfl rfl dL_law_2030 ?_
  refine g_sld F hX n1 rfl dL_law_2031 ?_
  refine g_aload_n F rfl 1 rfl dL_law_2032 ?_
  refine g_iload F 5 rfl rfl dL_law_2033 ?_
  refine g_iconst F 0 rfl dL_law_2035 ?_
  refine g_iadd F rfl rfl dL_law_2036 ?_
  refine g_sld F hX n2 rfl dL_law_2037 ?_
  refine g_callV F (by decide) (K := 8) (b := 0) [(0, (xi xs (w32 (l4 + 1)))), (0, (xi xs (w32 (l4 + 2))))] [0, 0] ml_RL_219 wi_X8_price ws_X8_price (c_X8_price 0 (xi xs (w32 (l4 + 1))) (xi xs (w32 (l4 + 2))) (by decide)) mi_X8_price (by decide) ⟨_, rfl, rfl⟩ (by decide) rfl rfl rfl (Nat.le_of_ble_eq_true rfl) (Nat.le_of_ble_eq_true rfl) (show (cells + 2) + 0 ≤ 601024 by omega) (show (slots + 12) + 0 ≤ 7293034 by omega) (Nat.le_of_ble_eq_true rfl) dL_law_2038 (fun z4 v4 hz4 => ?_)
  refine g_istore F rfl (Nat.le_of_ble_eq_true rfl) (ls' := [(6, (0, z4)), (5, (0, z3)), (0, (108, 0)), (1, (17, 0)), (2, (18, 0)), (3, (19, 0)), (4, (0, l4))]) rfl dL_law_2041 ?_
  refine g_aload_n F rfl 4 rfl dL_law_2043 ?_
  refine g_callV F (by decide) (K := 8) (b := 0) [] [] ml_RL_132 wi_X8_thrown ws_X8_thrown (c_X8_thrown 0  (by decide)) mi_X8_thrown (by decide) ⟨_, rfl, rfl⟩ (by decide) rfl rfl rfl (Nat.le_of_ble_eq_true rfl) (Nat.le_of_ble_eq_true rfl) (show (cells + 2) + 0 ≤ 601024 by omega) (show (slots + 12) + 0 ≤ 7293034 by omega) (Nat.le_of_ble_eq_true rfl) dL_law_2044 (fun z5 v5 hz5 => ?_)
  refine g_iload F 1 rfl rfl dL_law_2047 ?_
  refine g_icmp_eq F rfl rfl (tgt := 2054) rfl dL_law_2049 (fun n6 => ?_) (fun n6 => ?_)
  · refine g_iload F 1 rfl rfl dL_law_2054 ?_
    refine g_if_ne F rfl (tgt := 2071) rfl dL_law_2056 (fun n7 => ?_) (fun n7 => ?_)
    · refine g_goto F (tgt := 2508) rfl dL_law_2071 ?_
      refine g_loc [(2, 108), (3, 17), (4, 18), (5, 19), (6, 0)] rfl ?_
      exact hk v5
    · refine g_aload_n F rfl 5 rfl dL_law_2059 ?_
      refine g_iconst F 2 rfl dL_law_2060 ?_
      refine h_lald F (n := 1) ak_9 (by decide) (by decide) rfl dL_law_2061 ?_
      refine g_iload F 0 rfl rfl dL_law_2062 ?_
      refine g_i2l F rfl dL_law_2064 ?_
      refine g_lcmp F dL_law_2065 ?_
      refine g_if_eq F rfl (tgt := 2071) rfl dL_law_2066 (fun n8 => ?_) (fun n8 => ?_)
      · refine g_goto F (tgt := 2508) rfl dL_law_2071 ?_
        refine g_loc [(2, 108), (3, 17), (4, 18), (5, 19), (6, 0)] rfl ?_
        exact hk v5
      · refine g_iconst F 2 rfl dL_law_2069 ?_
        exact g_lawret F rfl (show (cells + 2) ≤ 601024 by omega) (show (slots + 12) ≤ 7293034 by omega) rfl dL_law_2070
  · refine g_iconst F 2 rfl dL_law_2052 ?_
    exact g_lawret F rfl (show (cells + 2) ≤ 601024 by omega) (show (slots + 12) ≤ 7293034 by omega) rfl dL_law_2053
def cs_26 (l4 : Int) (L : Nat) (xs : Nat → Int32) (k : V → Res) (v : V) : Res := (chk (0 ≤ (w32 (l4 + 1)) ∧ (w32 (l4 + 1)) < (L : Int)) (chk (0 ≤ (w32 (l4 + 2)) ∧ (w32 (l4 + 2)) < (L : Int)) (rB (sp_L_ofParty 0 (xi xs (w32 (l4 + 1))) (xi xs (w32 (l4 + 2))) 0 v) (fun z3 v3 => (rB (sp_X8_ofParty 0 (xi xs (w32 (l4 + 1))) (xi xs (w32 (l4 + 2))) v3) (fun z4 v4 => (rB (sp_X8_thrown 0  v4) (fun z5 v5 => (if z5 = z3 then (if ¬ z3 = 0 then (k v5)
   else (if (lcmp (v5 9 0 0) z4) = 0 then (k v5)
   else (rOk 0 v5)))
   else (rOk 0 v5))))))))))
set_option maxRecDepth 100000 in
set_option maxHeartbeats 4000000 in
theorem kcs_26 {x : Cx} {nm9 : String} {rt9 : Option Nat} (F : Fx x cL_law RL nm9 room_1 7 rt9 (some .boolean) 1) {L : Nat} {xs : Nat → Int32} (hX : FxS x L xs) {l4 : Int} {k : V → Res} {cells slots : Nat} (h1 : cells + 40 ≤ 601024) (h2 : slots + 400 ≤ 7293034) (hk : ∀ v, Gs x (k v) v (cells + 2) (slots + 12) 2508 [(0, (108, 0)), (1, (17, 0)), (2, (18, 0)), (3, (19, 0)), (4, (0, l4))] []) (v : V) : Gs x (cs_26 l4 L xs k v) v cells slots 2074 [(0, (108, 0)), (1, (17, 0)), (2, (18, 0)), (3, (19, 0)), (4, (0, l4))] [] := by
  unfold cs_26
  refine g_aload_n F rfl 1 rfl dL_law_2074 ?_
  refine g_aload_n F rfl 0 rfl dL_law_2075 ?_
  refine g_iload F 4 rfl rfl dL_law_2076 ?_
  refine g_iconst F 2 rfl dL_law_2078 ?_
  refine g_iadd F rfl rfl dL_law_2079 ?_
  refine g_chk (fun n1 => ?_)
  refine g_sld F hX n1 rfl dL_law_2080 ?_
  refine g_aload_n F rfl 0 rfl dL_law_2081 ?_
  refine g_iload F 4 rfl rfl dL_law_2082 ?_
  refine g_iconst F 0 rfl dL_law_2084 ?_
  refine g_iadd F rfl rfl dL_law_2085 ?_
  refine g_chk (fun n2 => ?_)
  refine g_sld F hX n2 rfl dL_law_2086 ?_
  refine g_aload_n F rfl 3 rfl dL_law_2087 ?_
  refine g_callSX F (by decide) [(17, 0), (0, (xi xs (w32 (l4 + 1)))), (0, (xi xs (w32 (l4 + 2)))), (19, 0)] [17, 0, 0, 19] ml_RL_220 wt_L_ofParty (c_L_ofParty 0 (xi xs (w32 (l4 + 1))) (xi xs (w32 (l4 + 2))) 0) mw_L_ofParty rfl rfl rfl (Nat.le_of_ble_eq_true rfl) (Nat.le_of_ble_eq_true rfl) (show cells + 2 ≤ 601024 by omega) (show slots + 12 ≤ 7293034 by omega) (Nat.le_of_ble_eq_true rfl) dL_law_2088 (fun z3 v3 hz3 => ?_)
  refine g_istore F rfl (Nat.le_of_ble_eq_true rfl) (ls' := [(5, (0, z3)), (0, (108, 0)), (1, (17, 0)), (2, (18, 0)), (3, (19, 0)), (4, (0, l4))]) rfl dL_law_2091 ?_
  refine g_aload_n F rfl 3 rfl dL_law_2093 ?_
  refine g_aload_n F rfl 1 rfl dL_law_2094 ?_
  refine g_iload F 5 rfl rfl dL_law_2095 ?_
  refine g_iconst F 2 rfl dL_law_2097 ?_
  refine g_iadd F rfl rfl dL_law_2098 ?_
  refine g_sld F hX n1 rfl dL_law_2099 ?_
  refine g_aload_n F rfl 1 rfl dL_law_2100 ?_
  refine g_iload F 5 rfl rfl dL_law_2101 ?_
  refine g_iconst F 0 rfl dL_law_2103 ?_
  refine g_iadd F rfl rfl dL_law_2104 ?_
  refine g_sld F hX n2 rfl dL_law_2105 ?_
  refine g_callV F (by decide) (K := 8) (b := 0) [(0, (xi xs (w32 (l4 + 1)))), (0, (xi xs (w32 (l4 + 2))))] [0, 0] ml_RL_222 wi_X8_ofParty ws_X8_ofParty (c_X8_ofParty 0 (xi xs (w32 (l4 + 1))) (xi xs (w32 (l4 + 2))) (by decide)) mi_X8_ofParty (by decide) ⟨_, rfl, rfl⟩ (by decide) rfl rfl rfl (Nat.le_of_ble_eq_true rfl) (Nat.le_of_ble_eq_true rfl) (show (cells + 2) + 0 ≤ 601024 by omega) (show (slots + 12) + 0 ≤ 7293034 by omega) (Nat.le_of_ble_eq_true rfl) dL_law_2106 (fun z4 v4 hz4 => ?_)
  refine g_istore F rfl (Nat.le_of_ble_eq_true rfl) (ls' := [(6, (0, z4)), (5, (0, z3)), (0, (108, 0)), (1, (17, 0)), (2, (18, 0)), (3, (19, 0)), (4, (0, l4))]) rfl dL_law_2109 ?_
  refine g_aload_n F rfl 4 rfl dL_law_2111 ?_
  refine g_callV F (by decide) (K := 8) (b := 0) [] [] ml_RL_132 wi_X8_thrown ws_X8_thrown (c_X8_thrown 0  (by decide)) mi_X8_thrown (by decide) ⟨_, rfl, rfl⟩ (by decide) rfl rfl rfl (Nat.le_of_ble_eq_true rfl) (Nat.le_of_ble_eq_true rfl) (show (cells + 2) + 0 ≤ 601024 by omega) (show (slots + 12) + 0 ≤ 7293034 by omega) (Nat.le_of_ble_eq_true rfl) dL_law_2112 (fun z5 v5 hz5 => ?_)
  refine g_iload F 1 rfl rfl dL_law_2115 ?_
  refine g_icmp_eq F rfl rfl (tgt := 2122) rfl dL_law_2117 (fun n6 => ?_) (fun n6 => ?_)
  · refine g_iload F 1 rfl rfl dL_law_2122 ?_
    refine g_if_ne F rfl (tgt := 2139) rfl dL_law_2124 (fun n7 => ?_) (fun n7 => ?_)
    · refine g_goto F (tgt := 2508) rfl dL_law_2139 ?_
      refine g_loc [(2, 108), (3, 17), (4, 18), (5, 19), (6, 0)] rfl ?_
      exact hk v5
    · refine g_aload_n F rfl 5 rfl dL_law_2127 ?_
      refine g_iconst F 2 rfl dL_law_2128 ?_
      refine h_lald F (n := 1) ak_9 (by decide) (by decide) rfl dL_law_2129 ?_
      refine g_iload F 0 rfl rfl dL_law_2130 ?_
      refine g_i2l F rfl dL_law_2132 ?_
      refine g_lcmp F dL_law_2133 ?_
      refine g_if_eq F rfl (tgt := 2139) rfl dL_law_2134 (fun n8 => ?_) (fun n8 => ?_)
      · refine g_goto F (tgt := 2508) rfl dL_law_2139 ?_
        refine g_loc [(2, 108), (3, 17), (4, 18), (5, 19), (6, 0)] rfl ?_
        exact hk v5
      · refine g_iconst F 2 rfl dL_law_2137 ?_
        exact g_lawret F rfl (show (cells + 2) ≤ 601024 by omega) (show (slots + 12) ≤ 7293034 by omega) rfl dL_law_2138
  · refine g_iconst F 2 rfl dL_law_2120 ?_
    exact g_lawret F rfl (show (cells + 2) ≤ 601024 by omega) (show (slots + 12) ≤ 7293034 by omega) rfl dL_law_2121
def cs_27 (l4 : Int) (L : Nat) (xs : Nat → Int32) (k : V → Res) (v : V) : Res := (chk (0 ≤ (w32 (l4 + 1)) ∧ (w32 (l4 + 1)) < (L : Int)) (chk (0 ≤ (w32 (l4 + 2)) ∧ (w32 (l4 + 2)) < (L : Int)) (rB (sp_L_ofWork 0 (xi xs (w32 (l4 + 1))) (xi xs (w32 (l4 + 2))) 0 v) (fun z3 v3 => (rB (sp_X8_ofWork 0 (xi xs (w32 (l4 + 1))) (xi xs (w32 (l4 + 2))) v3) (fun z4 v4 => (rB (sp_X8_thrown 0  v4) (fun z5 v5 => (if z5 = z3 then (if ¬ z3 = 0 then (k v5)
   else (if (lcmp (v5 9 0 0) z4) = 0 then (k v5)
   else (rOk 0 v5)))
   else (rOk 0 v5))))))))))
set_option maxRecDepth 100000 in
set_option maxHeartbeats 4000000 in
theorem kcs_27 {x : Cx} {nm9 : String} {rt9 : Option Nat} (F : Fx x cL_law RL nm9 room_1 7 rt9 (some .boolean) 1) {L : Nat} {xs : Nat → Int32} (hX : FxS x L xs) {l4 : Int} {k : V → Res} {cells slots : Nat} (h1 : cells + 40 ≤ 601024) (h2 : slots + 400 ≤ 7293034) (hk : ∀ v, Gs x (k v) v (cells + 2) (slots + 12) 2508 [(0, (108, 0)), (1, (17, 0)), (2, (18, 0)), (3, (19, 0)), (4, (0, l4))] []) (v : V) : Gs x (cs_27 l4 L xs k v) v cells slots 2142 [(0, (108, 0)), (1, (17, 0)), (2, (18, 0)), (3, (19, 0)), (4, (0, l4))] [] := by
  unfold cs_27
  refine g_aload_n F rfl 1 rfl dL_law_2142 ?_
  refine g_aload_n F rfl 0 rfl dL_law_2143 ?_
  refine g_iload F 4 rfl rfl dL_law_2144 ?_
  refine g_iconst F 2 rfl dL_law_2146 ?_
  refine g_iadd F rfl rfl dL_law_2147 ?_
  refine g_chk (fun n1 => ?_)
  refine g_sld F hX n1 rfl dL_law_2148 ?_
  refine g_aload_n F rfl 0 rfl dL_law_2149 ?_
  refine g_iload F 4 rfl rfl dL_law_2150 ?_
  refine g_iconst F 0 rfl dL_law_2152 ?_
  refine g_iadd F rfl rfl dL_law_2153 ?_
  refine g_chk (fun n2 => ?_)
  refine g_sld F hX n2 rfl dL_law_2154 ?_
  refine g_aload_n F rfl 3 rfl dL_law_2155 ?_
  refine g_callSX F (by decide) [(17, 0), (0, (xi xs (w32 (l4 + 1)))), (0, (xi xs (w32 (l4 + 2)))), (19, 0)] [17, 0, 0, 19] ml_RL_223 wt_L_ofWork (c_L_ofWork 0 (xi xs (w32 (l4 + 1))) (xi xs (w32 (l4 + 2))) 0) mw_L_ofWork rfl rfl rfl (Nat.le_of_ble_eq_true rfl) (Nat.le_of_ble_eq_true rfl) (show cells + 2 ≤ 601024 by omega) (show slots + 12 ≤ 7293034 by omega) (Nat.le_of_ble_eq_true rfl) dL_law_2156 (fun z3 v3 hz3 => ?_)
  refine g_istore F rfl (Nat.le_of_ble_eq_true rfl) (ls' := [(5, (0, z3)), (0, (108, 0)), (1, (17, 0)), (2, (18, 0)), (3, (19, 0)), (4, (0, l4))]) rfl dL_law_2159 ?_
  refine g_aload_n F rfl 3 rfl dL_law_2161 ?_
  refine g_aload_n F rfl 1 rfl dL_law_2162 ?_
  refine g_iload F 5 rfl rfl dL_law_2163 ?_
  refine g_iconst F 2 rfl dL_law_2165 ?_
  refine g_iadd F rfl rfl dL_law_2166 ?_
  refine g_sld F hX n1 rfl dL_law_2167 ?_
  refine g_aload_n F rfl 1 rfl dL_law_2168 ?_
  refine g_iload F 5 rfl rfl dL_law_2169 ?_
  refine g_iconst F 0 rfl dL_law_2171 ?_
  refine g_iadd F rfl rfl dL_law_2172 ?_
  refine g_sld F hX n2 rfl dL_law_2173 ?_
  refine g_callV F (by decide) (K := 8) (b := 0) [(0, (xi xs (w32 (l4 + 1)))), (0, (xi xs (w32 (l4 + 2))))] [0, 0] ml_RL_225 wi_X8_ofWork ws_X8_ofWork (c_X8_ofWork 0 (xi xs (w32 (l4 + 1))) (xi xs (w32 (l4 + 2))) (by decide)) mi_X8_ofWork (by decide) ⟨_, rfl, rfl⟩ (by decide) rfl rfl rfl (Nat.le_of_ble_eq_true rfl) (Nat.le_of_ble_eq_true rfl) (show (cells + 2) + 0 ≤ 601024 by omega) (show (slots + 12) + 0 ≤ 7293034 by omega) (Nat.le_of_ble_eq_true rfl) dL_law_2174 (fun z4 v4 hz4 => ?_)
  refine g_istore F rfl (Nat.le_of_ble_eq_true rfl) (ls' := [(6, (0, z4)), (5, (0, z3)), (0, (108, 0)), (1, (17, 0)), (2, (18, 0)), (3, (19, 0)), (4, (0, l4))]) rfl dL_law_2177 ?_
  refine g_aload_n F rfl 4 rfl dL_law_2179 ?_
  refine g_callV F (by decide) (K := 8) (b := 0) [] [] ml_RL_132 wi_X8_thrown ws_X8_thrown (c_X8_thrown 0  (by decide)) mi_X8_thrown (by decide) ⟨_, rfl, rfl⟩ (by decide) rfl rfl rfl (Nat.le_of_ble_eq_true rfl) (Nat.le_of_ble_eq_true rfl) (show (cells + 2) + 0 ≤ 601024 by omega) (show (slots + 12) + 0 ≤ 7293034 by omega) (Nat.le_of_ble_eq_true rfl) dL_law_2180 (fun z5 v5 hz5 => ?_)
  refine g_iload F 1 rfl rfl dL_law_2183 ?_
  refine g_icmp_eq F rfl rfl (tgt := 2190) rfl dL_law_2185 (fun n6 => ?_) (fun n6 => ?_)
  · refine g_iload F 1 rfl rfl dL_law_2190 ?_
    refine g_if_ne F rfl (tgt := 2207) rfl dL_law_2192 (fun n7 => ?_) (fun n7 => ?_)
    · refine g_goto F (tgt := 2508) rfl dL_law_2207 ?_
      refine g_loc [(2, 108), (3, 17), (4, 18), (5, 19), (6, 0)] rfl ?_
      exact hk v5
    · refine g_aload_n F rfl 5 rfl dL_law_2195 ?_
      refine g_iconst F 2 rfl dL_law_2196 ?_
      refine h_lald F (n := 1) ak_9 (by decide) (by decide) rfl dL_law_2197 ?_
      refine g_iload F 0 rfl rfl dL_law_2198 ?_
      refine g_i2l F rfl dL_law_2200 ?_
      refine g_lcmp F dL_law_2201 ?_
      refine g_if_eq F rfl (tgt := 2207) rfl dL_law_2202 (fun n8 => ?_) (fun n8 => ?_)
      · refine g_goto F (tgt := 2508) rfl dL_law_2207 ?_
        refine g_loc [(2, 108), (3, 17), (4, 18), (5, 19), (6, 0)] rfl ?_
        exact hk v5
      · refine g_iconst F 2 rfl dL_law_2205 ?_
        exact g_lawret F rfl (show (cells + 2) ≤ 601024 by omega) (show (slots + 12) ≤ 7293034 by omega) rfl dL_law_2206
  · refine g_iconst F 2 rfl dL_law_2188 ?_
    exact g_lawret F rfl (show (cells + 2) ≤ 601024 by omega) (show (slots + 12) ≤ 7293034 by omega) rfl dL_law_2189
def cs_28 (l4 : Int) (L : Nat) (xs : Nat → Int32) (k : V → Res) (v : V) : Res := (chk (0 ≤ (w32 (l4 + 1)) ∧ (w32 (l4 + 1)) < (L : Int)) (chk (0 ≤ (w32 (l4 + 2)) ∧ (w32 (l4 + 2)) < (L : Int)) (rB (sp_L_ofLot 0 (xi xs (w32 (l4 + 1))) (xi xs (w32 (l4 + 2))) 0 v) (fun z3 v3 => (rB (sp_X8_ofLot 0 (xi xs (w32 (l4 + 1))) (xi xs (w32 (l4 + 2))) v3) (fun z4 v4 => (rB (sp_X8_thrown 0  v4) (fun z5 v5 => (if z5 = z3 then (if ¬ z3 = 0 then (k v5)
   else (if (lcmp (v5 9 0 0) z4) = 0 then (k v5)
   else (rOk 0 v5)))
   else (rOk 0 v5))))))))))
set_option maxRecDepth 100000 in
set_option maxHeartbeats 4000000 in
theorem kcs_28 {x : Cx} {nm9 : String} {rt9 : Option Nat} (F : Fx x cL_law RL nm9 room_1 7 rt9 (some .boolean) 1) {L : Nat} {xs : Nat → Int32} (hX : FxS x L xs) {l4 : Int} {k : V → Res} {cells slots : Nat} (h1 : cells + 40 ≤ 601024) (h2 : slots + 400 ≤ 7293034) (hk : ∀ v, Gs x (k v) v (cells + 2) (slots + 12) 2508 [(0, (108, 0)), (1, (17, 0)), (2, (18, 0)), (3, (19, 0)), (4, (0, l4))] []) (v : V) : Gs x (cs_28 l4 L xs k v) v cells slots 2210 [(0, (108, 0)), (1, (17, 0)), (2, (18, 0)), (3, (19, 0)), (4, (0, l4))] [] := by
  unfold cs_28
  refine g_aload_n F rfl 1 rfl dL_law_2210 ?_
  refine g_aload_n F rfl 0 rfl dL_law_2211 ?_
  refine g_iload F 4 rfl rfl dL_law_2212 ?_
  refine g_iconst F 2 rfl dL_law_2214 ?_
  refine g_iadd F rfl rfl dL_law_2215 ?_
  refine g_chk (fun n1 => ?_)
  refine g_sld F hX n1 rfl dL_law_2216 ?_
  refine g_aload_n F rfl 0 rfl dL_law_2217 ?_
  refine g_iload F 4 rfl rfl dL_law_2218 ?_
  refine g_iconst F 0 rfl dL_law_2220 ?_
  refine g_iadd F rfl rfl dL_law_2221 ?_
  refine g_chk (fun n2 => ?_)
  refine g_sld F hX n2 rfl dL_law_2222 ?_
  refine g_aload_n F rfl 3 rfl dL_law_2223 ?_
  refine g_callSX F (by decide) [(17, 0), (0, (xi xs (w32 (l4 + 1)))), (0, (xi xs (w32 (l4 + 2)))), (19, 0)] [17, 0, 0, 19] ml_RL_226 wt_L_ofLot (c_L_ofLot 0 (xi xs (w32 (l4 + 1))) (xi xs (w32 (l4 + 2))) 0) mw_L_ofLot rfl rfl rfl (Nat.le_of_ble_eq_true rfl) (Nat.le_of_ble_eq_true rfl) (show cells + 2 ≤ 601024 by omega) (show slots + 12 ≤ 7293034 by omega) (Nat.le_of_ble_eq_true rfl) dL_law_2224 (fun z3 v3 hz3 => ?_)
  refine g_istore F rfl (Nat.le_of_ble_eq_true rfl) (ls' := [(5, (0, z3)), (0, (108, 0)), (1, (17, 0)), (2, (18, 0)), (3, (19, 0)), (4, (0, l4))]) rfl dL_law_2227 ?_
  refine g_aload_n F rfl 3 rfl dL_law_2229 ?_
  refine g_aload_n F rfl 1 rfl dL_law_2230 ?_
  refine g_iload F 5 rfl rfl dL_law_2231 ?_
  refine g_iconst F 2 rfl dL_law_2233 ?_
  refine g_iadd F rfl rfl dL_law_2234 ?_
  refine g_sld F hX n1 rfl dL_law_2235 ?_
  refine g_aload_n F rfl 1 rfl dL_law_2236 ?_
  refine g_iload F 5 rfl rfl dL_law_2237 ?_
  refine g_iconst F 0 rfl dL_law_2239 ?_
  refine g_iadd F rfl rfl dL_law_2240 ?_
  refine g_sld F hX n2 rfl dL_law_2241 ?_
  refine g_callV F (by decide) (K := 8) (b := 0) [(0, (xi xs (w32 (l4 + 1)))), (0, (xi xs (w32 (l4 + 2))))] [0, 0] ml_RL_228 wi_X8_ofLot ws_X8_ofLot (c_X8_ofLot 0 (xi xs (w32 (l4 + 1))) (xi xs (w32 (l4 + 2))) (by decide)) mi_X8_ofLot (by decide) ⟨_, rfl, rfl⟩ (by decide) rfl rfl rfl (Nat.le_of_ble_eq_true rfl) (Nat.le_of_ble_eq_true rfl) (show (cells + 2) + 0 ≤ 601024 by omega) (show (slots + 12) + 0 ≤ 7293034 by omega) (Nat.le_of_ble_eq_true rfl) dL_law_2242 (fun z4 v4 hz4 => ?_)
  refine g_istore F rfl (Nat.le_of_ble_eq_true rfl) (ls' := [(6, (0, z4)), (5, (0, z3)), (0, (108, 0)), (1, (17, 0)), (2, (18, 0)), (3, (19, 0)), (4, (0, l4))]) rfl dL_law_2245 ?_
  refine g_aload_n F rfl 4 rfl dL_law_2247 ?_
  refine g_callV F (by decide) (K := 8) (b := 0) [] [] ml_RL_132 wi_X8_thrown ws_X8_thrown (c_X8_thrown 0  (by decide)) mi_X8_thrown (by decide) ⟨_, rfl, rfl⟩ (by decide) rfl rfl rfl (Nat.le_of_ble_eq_true rfl) (Nat.le_of_ble_eq_true rfl) (show (cells + 2) + 0 ≤ 601024 by omega) (show (slots + 12) + 0 ≤ 7293034 by omega) (Nat.le_of_ble_eq_true rfl) dL_law_2248 (fun z5 v5 hz5 => ?_)
  refine g_iload F 1 rfl rfl dL_law_2251 ?_
  refine g_icmp_eq F rfl rfl (tgt := 2258) rfl dL_law_2253 (fun n6 => ?_) (fun n6 => ?_)
  · refine g_iload F 1 rfl rfl dL_law_2258 ?_
    refine g_if_ne F rfl (tgt := 2275) rfl dL_law_2260 (fun n7 => ?_) (fun n7 => ?_)
    · refine g_goto F (tgt := 2508) rfl dL_law_2275 ?_
      refine g_loc [(2, 108), (3, 17), (4, 18), (5, 19), (6, 0)] rfl ?_
      exact hk v5
    · refine g_aload_n F rfl 5 rfl dL_law_2263 ?_
      refine g_iconst F 2 rfl dL_law_2264 ?_
      refine h_lald F (n := 1) ak_9 (by decide) (by decide) rfl dL_law_2265 ?_
      refine g_iload F 0 rfl rfl dL_law_2266 ?_
      refine g_i2l F rfl dL_law_2268 ?_
      refine g_lcmp F dL_law_2269 ?_
      refine g_if_eq F rfl (tgt := 2275) rfl dL_law_2270 (fun n8 => ?_) (fun n8 => ?_)
      · refine g_goto F (tgt := 2508) rfl dL_law_2275 ?_
        refine g_loc [(2, 108), (3, 17), (4, 18), (5, 19), (6, 0)] rfl ?_
        exact hk v5
      · refine g_iconst F 2 rfl dL_law_2273 ?_
        exact g_lawret F rfl (show (cells + 2) ≤ 601024 by omega) (show (slots + 12) ≤ 7293034 by omega) rfl dL_law_2274
  · refine g_iconst F 2 rfl dL_law_2256 ?_
    exact g_lawret F rfl (show (cells + 2) ≤ 601024 by omega) (show (slots + 12) ≤ 7293034 by omega) rfl dL_law_2257
def cs_29 (l4 : Int) (L : Nat) (xs : Nat → Int32) (k : V → Res) (v : V) : Res := (chk (0 ≤ (w32 (l4 + 1)) ∧ (w32 (l4 + 1)) < (L : Int)) (chk (0 ≤ (w32 (l4 + 2)) ∧ (w32 (l4 + 2)) < (L : Int)) (rB (sp_L_ofLoan 0 (xi xs (w32 (l4 + 1))) (xi xs (w32 (l4 + 2))) 0 v) (fun z3 v3 => (rB (sp_X8_ofLoan 0 (xi xs (w32 (l4 + 1))) (xi xs (w32 (l4 + 2))) v3) (fun z4 v4 => (rB (sp_X8_thrown 0  v4) (fun z5 v5 => (if z5 = z3 then (if ¬ z3 = 0 then (k v5)
   else (if (lcmp (v5 9 0 0) z4) = 0 then (k v5)
   else (rOk 0 v5)))
   else (rOk 0 v5))))))))))
set_option maxRecDepth 100000 in
set_option maxHeartbeats 4000000 in
theorem kcs_29 {x : Cx} {nm9 : String} {rt9 : Option Nat} (F : Fx x cL_law RL nm9 room_1 7 rt9 (some .boolean) 1) {L : Nat} {xs : Nat → Int32} (hX : FxS x L xs) {l4 : Int} {k : V → Res} {cells slots : Nat} (h1 : cells + 40 ≤ 601024) (h2 : slots + 400 ≤ 7293034) (hk : ∀ v, Gs x (k v) v (cells + 2) (slots + 12) 2508 [(0, (108, 0)), (1, (17, 0)), (2, (18, 0)), (3, (19, 0)), (4, (0, l4))] []) (v : V) : Gs x (cs_29 l4 L xs k v) v cells slots 2278 [(0, (108, 0)), (1, (17, 0)), (2, (18, 0)), (3, (19, 0)), (4, (0, l4))] [] := by
  unfold cs_29
  refine g_aload_n F rfl 1 rfl dL_law_2278 ?_
  refine g_aload_n F rfl 0 rfl dL_law_2279 ?_
  refine g_iload F 4 rfl rfl dL_law_2280 ?_
  refine g_iconst F 2 rfl dL_law_2282 ?_
  refine g_iadd F rfl rfl dL_law_2283 ?_
  refine g_chk (fun n1 => ?_)
  refine g_sld F hX n1 rfl dL_law_2284 ?_
  refine g_aload_n F rfl 0 rfl dL_law_2285 ?_
  refine g_iload F 4 rfl rfl dL_law_2286 ?_
  refine g_iconst F 0 rfl dL_law_2288 ?_
  refine g_iadd F rfl rfl dL_law_2289 ?_
  refine g_chk (fun n2 => ?_)
  refine g_sld F hX n2 rfl dL_law_2290 ?_
  refine g_aload_n F rfl 3 rfl dL_law_2291 ?_
  refine g_callSX F (by decide) [(17, 0), (0, (xi xs (w32 (l4 + 1)))), (0, (xi xs (w32 (l4 + 2)))), (19, 0)] [17, 0, 0, 19] ml_RL_229 wt_L_ofLoan (c_L_ofLoan 0 (xi xs (w32 (l4 + 1))) (xi xs (w32 (l4 + 2))) 0) mw_L_ofLoan rfl rfl rfl (Nat.le_of_ble_eq_true rfl) (Nat.le_of_ble_eq_true rfl) (show cells + 2 ≤ 601024 by omega) (show slots + 12 ≤ 7293034 by omega) (Nat.le_of_ble_eq_true rfl) dL_law_2292 (fun z3 v3 hz3 => ?_)
  refine g_istore F rfl (Nat.le_of_ble_eq_true rfl) (ls' := [(5, (0, z3)), (0, (108, 0)), (1, (17, 0)), (2, (18, 0)), (3, (19, 0)), (4, (0, l4))]) rfl dL_law_2295 ?_
  refine g_aload_n F rfl 3 rfl dL_law_2297 ?_
  refine g_aload_n F rfl 1 rfl dL_law_2298 ?_
  refine g_iload F 5 rfl rfl dL_law_2299 ?_
  refine g_iconst F 2 rfl dL_law_2301 ?_
  refine g_iadd F rfl rfl dL_law_2302 ?_
  refine g_sld F hX n1 rfl dL_law_2303 ?_
  refine g_aload_n F rfl 1 rfl dL_law_2304 ?_
  refine g_iload F 5 rfl rfl dL_law_2305 ?_
  refine g_iconst F 0 rfl dL_law_2307 ?_
  refine g_iadd F rfl rfl dL_law_2308 ?_
  refine g_sld F hX n2 rfl dL_law_2309 ?_
  refine g_callV F (by decide) (K := 8) (b := 0) [(0, (xi xs (w32 (l4 + 1)))), (0, (xi xs (w32 (l4 + 2))))] [0, 0] ml_RL_231 wi_X8_ofLoan ws_X8_ofLoan (c_X8_ofLoan 0 (xi xs (w32 (l4 + 1))) (xi xs (w32 (l4 + 2))) (by decide)) mi_X8_ofLoan (by decide) ⟨_, rfl, rfl⟩ (by decide) rfl rfl rfl (Nat.le_of_ble_eq_true rfl) (Nat.le_of_ble_eq_true rfl) (show (cells + 2) + 0 ≤ 601024 by omega) (show (slots + 12) + 0 ≤ 7293034 by omega) (Nat.le_of_ble_eq_true rfl) dL_law_2310 (fun z4 v4 hz4 => ?_)
  refine g_istore F rfl (Nat.le_of_ble_eq_true rfl) (ls' := [(6, (0, z4)), (5, (0, z3)), (0, (108, 0)), (1, (17, 0)), (2, (18, 0)), (3, (19, 0)), (4, (0, l4))]) rfl dL_law_2313 ?_
  refine g_aload_n F rfl 4 rfl dL_law_2315 ?_
  refine g_callV F (by decide) (K := 8) (b := 0) [] [] ml_RL_132 wi_X8_thrown ws_X8_thrown (c_X8_thrown 0  (by decide)) mi_X8_thrown (by decide) ⟨_, rfl, rfl⟩ (by decide) rfl rfl rfl (Nat.le_of_ble_eq_true rfl) (Nat.le_of_ble_eq_true rfl) (show (cells + 2) + 0 ≤ 601024 by omega) (show (slots + 12) + 0 ≤ 7293034 by omega) (Nat.le_of_ble_eq_true rfl) dL_law_2316 (fun z5 v5 hz5 => ?_)
  refine g_iload F 1 rfl rfl dL_law_2319 ?_
  refine g_icmp_eq F rfl rfl (tgt := 2326) rfl dL_law_2321 (fun n6 => ?_) (fun n6 => ?_)
  · refine g_iload F 1 rfl rfl dL_law_2326 ?_
    refine g_if_ne F rfl (tgt := 2343) rfl dL_law_2328 (fun n7 => ?_) (fun n7 => ?_)
    · refine g_goto F (tgt := 2508) rfl dL_law_2343 ?_
      refine g_loc [(2, 108), (3, 17), (4, 18), (5, 19), (6, 0)] rfl ?_
      exact hk v5
    · refine g_aload_n F rfl 5 rfl dL_law_2331 ?_
      refine g_iconst F 2 rfl dL_law_2332 ?_
      refine h_lald F (n := 1) ak_9 (by decide) (by decide) rfl dL_law_2333 ?_
      refine g_iload F 0 rfl rfl dL_law_2334 ?_
      refine g_i2l F rfl dL_law_2336 ?_
      refine g_lcmp F dL_law_2337 ?_
      refine g_if_eq F rfl (tgt := 2343) rfl dL_law_2338 (fun n8 => ?_) (fun n8 => ?_)
      · refine g_goto F (tgt := 2508) rfl dL_law_2343 ?_
        refine g_loc [(2, 108), (3, 17), (4, 18), (5, 19), (6, 0)] rfl ?_
        exact hk v5
      · refine g_iconst F 2 rfl dL_law_2341 ?_
        exact g_lawret F rfl (show (cells + 2) ≤ 601024 by omega) (show (slots + 12) ≤ 7293034 by omega) rfl dL_law_2342
  · refine g_iconst F 2 rfl dL_law_2324 ?_
    exact g_lawret F rfl (show (cells + 2) ≤ 601024 by omega) (show (slots + 12) ≤ 7293034 by omega) rfl dL_law_2325
def cs_30 (l4 : Int) (L : Nat) (xs : Nat → Int32) (k : V → Res) (v : V) : Res := (chk (0 ≤ (w32 (l4 + 1)) ∧ (w32 (l4 + 1)) < (L : Int)) (chk (0 ≤ (w32 (l4 + 2)) ∧ (w32 (l4 + 2)) < (L : Int)) (rB (sp_L_doubt 0 (xi xs (w32 (l4 + 1))) (xi xs (w32 (l4 + 2))) 0 v) (fun z3 v3 => (rB (sp_X8_doubt 0 (xi xs (w32 (l4 + 1))) (xi xs (w32 (l4 + 2))) v3) (fun z4 v4 => (rB (sp_X8_thrown 0  v4) (fun z5 v5 => (if z5 = z3 then (if ¬ z3 = 0 then (k v5)
   else (if (lcmp (v5 9 0 0) z4) = 0 then (k v5)
   else (rOk 0 v5)))
   else (rOk 0 v5))))))))))
set_option maxRecDepth 100000 in
set_option maxHeartbeats 4000000 in
theorem kcs_30 {x : Cx} {nm9 : String} {rt9 : Option Nat} (F : Fx x cL_law RL nm9 room_1 7 rt9 (some .boolean) 1) {L : Nat} {xs : Nat → Int32} (hX : FxS x L xs) {l4 : Int} {k : V → Res} {cells slots : Nat} (h1 : cells + 40 ≤ 601024) (h2 : slots + 400 ≤ 7293034) (hk : ∀ v, Gs x (k v) v (cells + 2) (slots + 12) 2508 [(0, (108, 0)), (1, (17, 0)), (2, (18, 0)), (3, (19, 0)), (4, (0, l4))] []) (v : V) : Gs x (cs_30 l4 L xs k v) v cells slots 2346 [(0, (108, 0)), (1, (17, 0)), (2, (18, 0)), (3, (19, 0)), (4, (0, l4))] [] := by
  unfold cs_30
  refine g_aload_n F rfl 1 rfl dL_law_2346 ?_
  refine g_aload_n F rfl 0 rfl dL_law_2347 ?_
  refine g_iload F 4 rfl rfl dL_law_2348 ?_
  refine g_iconst F 2 rfl dL_law_2350 ?_
  refine g_iadd F rfl rfl dL_law_2351 ?_
  refine g_chk (fun n1 => ?_)
  refine g_sld F hX n1 rfl dL_law_2352 ?_
  refine g_aload_n F rfl 0 rfl dL_law_2353 ?_
  refine g_iload F 4 rfl rfl dL_law_2354 ?_
  refine g_iconst F 0 rfl dL_law_2356 ?_
  refine g_iadd F rfl rfl dL_law_2357 ?_
  refine g_chk (fun n2 => ?_)
  refine g_sld F hX n2 rfl dL_law_2358 ?_
  refine g_aload_n F rfl 3 rfl dL_law_2359 ?_
  refine g_callSX F (by decide) [(17, 0), (0, (xi xs (w32 (l4 + 1)))), (0, (xi xs (w32 (l4 + 2)))), (19, 0)] [17, 0, 0, 19] ml_RL_232 wt_L_doubt (c_L_doubt 0 (xi xs (w32 (l4 + 1))) (xi xs (w32 (l4 + 2))) 0) mw_L_doubt rfl rfl rfl (Nat.le_of_ble_eq_true rfl) (Nat.le_of_ble_eq_true rfl) (show cells + 2 ≤ 601024 by omega) (show slots + 12 ≤ 7293034 by omega) (Nat.le_of_ble_eq_true rfl) dL_law_2360 (fun z3 v3 hz3 => ?_)
  refine g_istore F rfl (Nat.le_of_ble_eq_true rfl) (ls' := [(5, (0, z3)), (0, (108, 0)), (1, (17, 0)), (2, (18, 0)), (3, (19, 0)), (4, (0, l4))]) rfl dL_law_2363 ?_
  refine g_aload_n F rfl 3 rfl dL_law_2365 ?_
  refine g_aload_n F rfl 1 rfl dL_law_2366 ?_
  refine g_iload F 5 rfl rfl dL_law_2367 ?_
  refine g_iconst F 2 rfl dL_law_2369 ?_
  refine g_iadd F rfl rfl dL_law_2370 ?_
  refine g_sld F hX n1 rfl dL_law_2371 ?_
  refine g_aload_n F rfl 1 rfl dL_law_2372 ?_
  refine g_iload F 5 rfl rfl dL_law_2373 ?_
  refine g_iconst F 0 rfl dL_law_2375 ?_
  refine g_iadd F rfl rfl dL_law_2376 ?_
  refine g_sld F hX n2 rfl dL_law_2377 ?_
  refine g_callV F (by decide) (K := 8) (b := 0) [(0, (xi xs (w32 (l4 + 1)))), (0, (xi xs (w32 (l4 + 2))))] [0, 0] ml_RL_234 wi_X8_doubt ws_X8_doubt (c_X8_doubt 0 (xi xs (w32 (l4 + 1))) (xi xs (w32 (l4 + 2))) (by decide)) mi_X8_doubt (by decide) ⟨_, rfl, rfl⟩ (by decide) rfl rfl rfl (Nat.le_of_ble_eq_true rfl) (Nat.le_of_ble_eq_true rfl) (show (cells + 2) + 0 ≤ 601024 by omega) (show (slots + 12) + 0 ≤ 7293034 by omega) (Nat.le_of_ble_eq_true rfl) dL_law_2378 (fun z4 v4 hz4 => ?_)
  refine g_istore F rfl (Nat.le_of_ble_eq_true rfl) (ls' := [(6, (0, z4)), (5, (0, z3)), (0, (108, 0)), (1, (17, 0)), (2, (18, 0)), (3, (19, 0)), (4, (0, l4))]) rfl dL_law_2381 ?_
  refine g_aload_n F rfl 4 rfl dL_law_2383 ?_
  refine g_callV F (by decide) (K := 8) (b := 0) [] [] ml_RL_132 wi_X8_thrown ws_X8_thrown (c_X8_thrown 0  (by decide)) mi_X8_thrown (by decide) ⟨_, rfl, rfl⟩ (by decide) rfl rfl rfl (Nat.le_of_ble_eq_true rfl) (Nat.le_of_ble_eq_true rfl) (show (cells + 2) + 0 ≤ 601024 by omega) (show (slots + 12) + 0 ≤ 7293034 by omega) (Nat.le_of_ble_eq_true rfl) dL_law_2384 (fun z5 v5 hz5 => ?_)
  refine g_iload F 1 rfl rfl dL_law_2387 ?_
  refine g_icmp_eq F rfl rfl (tgt := 2394) rfl dL_law_2389 (fun n6 => ?_) (fun n6 => ?_)
  · refine g_iload F 1 rfl rfl dL_law_2394 ?_
    refine g_if_ne F rfl (tgt := 2411) rfl dL_law_2396 (fun n7 => ?_) (fun n7 => ?_)
    · refine g_goto F (tgt := 2508) rfl dL_law_2411 ?_
      refine g_loc [(2, 108), (3, 17), (4, 18), (5, 19), (6, 0)] rfl ?_
      exact hk v5
    · refine g_aload_n F rfl 5 rfl dL_law_2399 ?_
      refine g_iconst F 2 rfl dL_law_2400 ?_
      refine h_lald F (n := 1) ak_9 (by decide) (by decide) rfl dL_law_2401 ?_
      refine g_iload F 0 rfl rfl dL_law_2402 ?_
      refine g_i2l F rfl dL_law_2404 ?_
      refine g_lcmp F dL_law_2405 ?_
      refine g_if_eq F rfl (tgt := 2411) rfl dL_law_2406 (fun n8 => ?_) (fun n8 => ?_)
      · refine g_goto F (tgt := 2508) rfl dL_law_2411 ?_
        refine g_loc [(2, 108), (3, 17), (4, 18), (5, 19), (6, 0)] rfl ?_
        exact hk v5
      · refine g_iconst F 2 rfl dL_law_2409 ?_
        exact g_lawret F rfl (show (cells + 2) ≤ 601024 by omega) (show (slots + 12) ≤ 7293034 by omega) rfl dL_law_2410
  · refine g_iconst F 2 rfl dL_law_2392 ?_
    exact g_lawret F rfl (show (cells + 2) ≤ 601024 by omega) (show (slots + 12) ≤ 7293034 by omega) rfl dL_law_2393
def cs_31 (l4 : Int) (L : Nat) (xs : Nat → Int32) (k : V → Res) (v : V) : Res := (chk (0 ≤ (w32 (l4 + 1)) ∧ (w32 (l4 + 1)) < (L : Int)) (chk (0 ≤ (w32 (l4 + 2)) ∧ (w32 (l4 + 2)) < (L : Int)) (chk (0 ≤ (w32 (l4 + 3)) ∧ (w32 (l4 + 3)) < (L : Int)) (rB (sp_L_gaps 0 (xi xs (w32 (l4 + 1))) (xi xs (w32 (l4 + 2))) (xi xs (w32 (l4 + 3))) 0 v) (fun z4 v4 => (rB (sp_X8_gaps 0 (xi xs (w32 (l4 + 1))) (xi xs (w32 (l4 + 2))) (xi xs (w32 (l4 + 3))) v4) (fun z5 v5 => (rB (sp_X8_thrown 0  v5) (fun z6 v6 => (if z6 = z4 then (if ¬ z4 = 0 then (k v6)
   else (if (lcmp (v6 9 0 0) z5) = 0 then (k v6)
   else (rOk 0 v6)))
   else (rOk 0 v6)))))))))))
set_option maxRecDepth 100000 in
set_option maxHeartbeats 4000000 in
theorem kcs_31 {x : Cx} {nm9 : String} {rt9 : Option Nat} (F : Fx x cL_law RL nm9 room_1 7 rt9 (some .boolean) 1) {L : Nat} {xs : Nat → Int32} (hX : FxS x L xs) {l4 : Int} {k : V → Res} {cells slots : Nat} (h1 : cells + 40 ≤ 601024) (h2 : slots + 400 ≤ 7293034) (hk : ∀ v, Gs x (k v) v (cells + 3) (slots + 18) 2508 [(0, (108, 0)), (1, (17, 0)), (2, (18, 0)), (3, (19, 0)), (4, (0, l4))] []) (v : V) : Gs x (cs_31 l4 L xs k v) v cells slots 2414 [(0, (108, 0)), (1, (17, 0)), (2, (18, 0)), (3, (19, 0)), (4, (0, l4))] [] := by
  unfold cs_31
  refine g_aload_n F rfl 1 rfl dL_law_2414 ?_
  refine g_aload_n F rfl 0 rfl dL_law_2415 ?_
  refine g_iload F 4 rfl rfl dL_law_2416 ?_
  refine g_iconst F 2 rfl dL_law_2418 ?_
  refine g_iadd F rfl rfl dL_law_2419 ?_
  refine g_chk (fun n1 => ?_)
  refine g_sld F hX n1 rfl dL_law_2420 ?_
  refine g_aload_n F rfl 0 rfl dL_law_2421 ?_
  refine g_iload F 4 rfl rfl dL_law_2422 ?_
  refine g_iconst F 0 rfl dL_law_2424 ?_
  refine g_iadd F rfl rfl dL_law_2425 ?_
  refine g_chk (fun n2 => ?_)
  refine g_sld F hX n2 rfl dL_law_2426 ?_
  refine g_aload_n F rfl 0 rfl dL_law_2427 ?_
  refine g_iload F 4 rfl rfl dL_law_2428 ?_
  refine g_iconst F 0 rfl dL_law_2430 ?_
  refine g_iadd F rfl rfl dL_law_2431 ?_
  refine g_chk (fun n3 => ?_)
  refine g_sld F hX n3 rfl dL_law_2432 ?_
  refine g_aload_n F rfl 3 rfl dL_law_2433 ?_
  refine g_callSX F (by decide) [(17, 0), (0, (xi xs (w32 (l4 + 1)))), (0, (xi xs (w32 (l4 + 2)))), (0, (xi xs (w32 (l4 + 3)))), (19, 0)] [17, 0, 0, 0, 19] ml_RL_235 wt_L_gaps (c_L_gaps 0 (xi xs (w32 (l4 + 1))) (xi xs (w32 (l4 + 2))) (xi xs (w32 (l4 + 3))) 0) mw_L_gaps rfl rfl rfl (Nat.le_of_ble_eq_true rfl) (Nat.le_of_ble_eq_true rfl) (show cells + 3 ≤ 601024 by omega) (show slots + 18 ≤ 7293034 by omega) (Nat.le_of_ble_eq_true rfl) dL_law_2434 (fun z4 v4 hz4 => ?_)
  refine g_istore F rfl (Nat.le_of_ble_eq_true rfl) (ls' := [(5, (0, z4)), (0, (108, 0)), (1, (17, 0)), (2, (18, 0)), (3, (19, 0)), (4, (0, l4))]) rfl dL_law_2437 ?_
  refine g_aload_n F rfl 3 rfl dL_law_2439 ?_
  refine g_aload_n F rfl 1 rfl dL_law_2440 ?_
  refine g_iload F 5 rfl rfl dL_law_2441 ?_
  refine g_iconst F 2 rfl dL_law_2443 ?_
  refine g_iadd F rfl rfl dL_law_2444 ?_
  refine g_sld F hX n1 rfl dL_law_2445 ?_
  refine g_aload_n F rfl 1 rfl dL_law_2446 ?_
  refine g_iload F 5 rfl rfl dL_law_2447 ?_
  refine g_iconst F 0 rfl dL_law_2449 ?_
  refine g_iadd F rfl rfl dL_law_2450 ?_
  refine g_sld F hX n2 rfl dL_law_2451 ?_
  refine g_aload_n F rfl 1 rfl dL_law_2452 ?_
  refine g_iload F 5 rfl rfl dL_law_2453 ?_
  refine g_iconst F 0 rfl dL_law_2455 ?_
  refine g_iadd F rfl rfl dL_law_2456 ?_
  refine g_sld F hX n3 rfl dL_law_2457 ?_
  refine g_callV F (by decide) (K := 8) (b := 0) [(0, (xi xs (w32 (l4 + 1)))), (0, (xi xs (w32 (l4 + 2)))), (0, (xi xs (w32 (l4 + 3))))] [0, 0, 0] ml_RL_237 wi_X8_gaps ws_X8_gaps (c_X8_gaps 0 (xi xs (w32 (l4 + 1))) (xi xs (w32 (l4 + 2))) (xi xs (w32 (l4 + 3))) (by decide)) mi_X8_gaps (by decide) ⟨_, rfl, rfl⟩ (by decide) rfl rfl rfl (Nat.le_of_ble_eq_true rfl) (Nat.le_of_ble_eq_true rfl) (show (cells + 3) + 0 ≤ 601024 by omega) (show (slots + 18) + 0 ≤ 7293034 by omega) (Nat.le_of_ble_eq_true rfl) dL_law_2458 (fun z5 v5 hz5 => ?_)
  refine g_istore F rfl (Nat.le_of_ble_eq_true rfl) (ls' := [(6, (0, z5)), (5, (0, z4)), (0, (108, 0)), (1, (17, 0)), (2, (18, 0)), (3, (19, 0)), (4, (0, l4))]) rfl dL_law_2461 ?_
  refine g_aload_n F rfl 4 rfl dL_law_2463 ?_
  refine g_callV F (by decide) (K := 8) (b := 0) [] [] ml_RL_132 wi_X8_thrown ws_X8_thrown (c_X8_thrown 0  (by decide)) mi_X8_thrown (by decide) ⟨_, rfl, rfl⟩ (by decide) rfl rfl rfl (Nat.le_of_ble_eq_true rfl) (Nat.le_of_ble_eq_true rfl) (show (cells + 3) + 0 ≤ 601024 by omega) (show (slots + 18) + 0 ≤ 7293034 by omega) (Nat.le_of_ble_eq_true rfl) dL_law_2464 (fun z6 v6 hz6 => ?_)
  refine g_iload F 1 rfl rfl dL_law_2467 ?_
  refine g_icmp_eq F rfl rfl (tgt := 2474) rfl dL_law_2469 (fun n7 => ?_) (fun n7 => ?_)
  · refine g_iload F 1 rfl rfl dL_law_2474 ?_
    refine g_if_ne F rfl (tgt := 2491) rfl dL_law_2476 (fun n8 => ?_) (fun n8 => ?_)
    · refine g_goto F (tgt := 2508) rfl dL_law_2491 ?_
      refine g_loc [(2, 108), (3, 17), (4, 18), (5, 19), (6, 0)] rfl ?_
      exact hk v6
    · refine g_aload_n F rfl 5 rfl dL_law_2479 ?_
      refine g_iconst F 2 rfl dL_law_2480 ?_
      refine h_lald F (n := 1) ak_9 (by decide) (by decide) rfl dL_law_2481 ?_
      refine g_iload F 0 rfl rfl dL_law_2482 ?_
      refine g_i2l F rfl dL_law_2484 ?_
      refine g_lcmp F dL_law_2485 ?_
      refine g_if_eq F rfl (tgt := 2491) rfl dL_law_2486 (fun n9 => ?_) (fun n9 => ?_)
      · refine g_goto F (tgt := 2508) rfl dL_law_2491 ?_
        refine g_loc [(2, 108), (3, 17), (4, 18), (5, 19), (6, 0)] rfl ?_
        exact hk v6
      · refine g_iconst F 2 rfl dL_law_2489 ?_
        exact g_lawret F rfl (show (cells + 3) ≤ 601024 by omega) (show (slots + 18) ≤ 7293034 by omega) rfl dL_law_2490
  · refine g_iconst F 2 rfl dL_law_2472 ?_
    exact g_lawret F rfl (show (cells + 3) ≤ 601024 by omega) (show (slots + 18) ≤ 7293034 by omega) rfl dL_law_2473
def cs_32 (l4 : Int) (L : Nat) (xs : Nat → Int32) (k : V → Res) (v : V) : Res := (rB (sp_X7_index 0  v) (fun z1 v1 => (rB (sp_X8_index 0  v1) (fun z2 v2 => (if (lcmp z1 z2) = 0 then (k v2)
   else (rOk 0 v2))))))
set_option maxRecDepth 100000 in
set_option maxHeartbeats 4000000 in
theorem kcs_32 {x : Cx} {nm9 : String} {rt9 : Option Nat} (F : Fx x cL_law RL nm9 room_1 7 rt9 (some .boolean) 1) {L : Nat} {xs : Nat → Int32} (hX : FxS x L xs) {l4 : Int} {k : V → Res} {cells slots : Nat} (h1 : cells + 40 ≤ 601024) (h2 : slots + 400 ≤ 7293034) (hk : ∀ v, Gs x (k v) v (cells + 0) (slots + 0) 2508 [(0, (108, 0)), (1, (17, 0)), (2, (18, 0)), (3, (19, 0)), (4, (0, l4))] []) (v : V) : Gs x (cs_32 l4 L xs k v) v cells slots 2494 [(0, (108, 0)), (1, (17, 0)), (2, (18, 0)), (3, (19, 0)), (4, (0, l4))] [] := by
  unfold cs_32
  refine g_aload_n F rfl 1 rfl dL_law_2494 ?_
  refine g_callV F (by decide) (K := 7) (b := 0) [] [] ml_RL_238 wi_X7_index ws_X7_index (c_X7_index 0  (by decide)) mi_X7_index (by decide) ⟨_, rfl, rfl⟩ (by decide) rfl rfl rfl (Nat.le_of_ble_eq_true rfl) (Nat.le_of_ble_eq_true rfl) (show cells + 0 ≤ 601024 by omega) (show slots + 0 ≤ 7293034 by omega) (Nat.le_of_ble_eq_true rfl) dL_law_2495 (fun z1 v1 hz1 => ?_)
  refine g_aload_n F rfl 2 rfl dL_law_2498 ?_
  refine g_callV F (by decide) (K := 8) (b := 0) [] [] ml_RL_242 wi_X8_index ws_X8_index (c_X8_index 0  (by decide)) mi_X8_index (by decide) ⟨_, rfl, rfl⟩ (by decide) rfl rfl rfl (Nat.le_of_ble_eq_true rfl) (Nat.le_of_ble_eq_true rfl) (show cells + 0 ≤ 601024 by omega) (show slots + 0 ≤ 7293034 by omega) (Nat.le_of_ble_eq_true rfl) dL_law_2499 (fun z2 v2 hz2 => ?_)
  refine g_lcmp F dL_law_2502 ?_
  refine g_if_eq F rfl (tgt := 2508) rfl dL_law_2503 (fun n3 => ?_) (fun n3 => ?_)
  · refine g_loc [(0, 108), (1, 17), (2, 18), (3, 19), (4, 0)] rfl ?_
    exact hk v2
  · refine g_iconst F 2 rfl dL_law_2506 ?_
    exact g_lawret F rfl (show cells ≤ 601024 by omega) (show slots ≤ 7293034 by omega) rfl dL_law_2507

def law_lp (L : Nat) (xs : Nat → Int32) : Nat → V → Int → Res
  | 0, _, _ => none
  | n + 1, v, l4 => (if (w32 ((L : Int) - 6)) < l4 then (rOk 1 v)
   else (chk (0 ≤ l4 ∧ l4 < (L : Int)) (if (and32 (xi xs l4) 63) = 0 then (cs_0 l4 L xs (fun v1 => (law_lp L xs n v1 (w32 (l4 + 6)))) v)
   else (if (and32 (xi xs l4) 63) = 1 then (cs_1 l4 L xs (fun v1 => (law_lp L xs n v1 (w32 (l4 + 6)))) v)
   else (if (and32 (xi xs l4) 63) = 2 then (cs_2 l4 L xs (fun v1 => (law_lp L xs n v1 (w32 (l4 + 6)))) v)
   else (if (and32 (xi xs l4) 63) = 3 then (cs_3 l4 L xs (fun v1 => (law_lp L xs n v1 (w32 (l4 + 6)))) v)
   else (if (and32 (xi xs l4) 63) = 4 then (cs_4 l4 L xs (fun v1 => (law_lp L xs n v1 (w32 (l4 + 6)))) v)
   else (if (and32 (xi xs l4) 63) = 5 then (cs_5 l4 L xs (fun v1 => (law_lp L xs n v1 (w32 (l4 + 6)))) v)
   else (if (and32 (xi xs l4) 63) = 6 then (cs_6 l4 L xs (fun v1 => (law_lp L xs n v1 (w32 (l4 + 6)))) v)
   else (if (and32 (xi xs l4) 63) = 7 then (cs_7 l4 L xs (fun v1 => (law_lp L xs n v1 (w32 (l4 + 6)))) v)
   else (if (and32 (xi xs l4) 63) = 8 then (cs_8 l4 L xs (fun v1 => (law_lp L xs n v1 (w32 (l4 + 6)))) v)
   else (if (and32 (xi xs l4) 63) = 9 then (cs_9 l4 L xs (fun v1 => (law_lp L xs n v1 (w32 (l4 + 6)))) v)
   else (if (and32 (xi xs l4) 63) = 10 then (cs_10 l4 L xs (fun v1 => (law_lp L xs n v1 (w32 (l4 + 6)))) v)
   else (if (and32 (xi xs l4) 63) = 11 then (cs_11 l4 L xs (fun v1 => (law_lp L xs n v1 (w32 (l4 + 6)))) v)
   else (if (and32 (xi xs l4) 63) = 12 then (cs_12 l4 L xs (fun v1 => (law_lp L xs n v1 (w32 (l4 + 6)))) v)
   else (if (and32 (xi xs l4) 63) = 13 then (cs_13 l4 L xs (fun v1 => (law_lp L xs n v1 (w32 (l4 + 6)))) v)
   else (if (and32 (xi xs l4) 63) = 14 then (cs_14 l4 L xs (fun v1 => (law_lp L xs n v1 (w32 (l4 + 6)))) v)
   else (if (and32 (xi xs l4) 63) = 15 then (cs_15 l4 L xs (fun v1 => (law_lp L xs n v1 (w32 (l4 + 6)))) v)
   else (if (and32 (xi xs l4) 63) = 16 then (cs_16 l4 L xs (fun v1 => (law_lp L xs n v1 (w32 (l4 + 6)))) v)
   else (if (and32 (xi xs l4) 63) = 17 then (cs_17 l4 L xs (fun v1 => (law_lp L xs n v1 (w32 (l4 + 6)))) v)
   else (if (and32 (xi xs l4) 63) = 18 then (cs_18 l4 L xs (fun v1 => (law_lp L xs n v1 (w32 (l4 + 6)))) v)
   else (if (and32 (xi xs l4) 63) = 19 then (cs_19 l4 L xs (fun v1 => (law_lp L xs n v1 (w32 (l4 + 6)))) v)
   else (if (and32 (xi xs l4) 63) = 20 then (cs_20 l4 L xs (fun v1 => (law_lp L xs n v1 (w32 (l4 + 6)))) v)
   else (if (and32 (xi xs l4) 63) = 21 then (cs_21 l4 L xs (fun v1 => (law_lp L xs n v1 (w32 (l4 + 6)))) v)
   else (if (and32 (xi xs l4) 63) = 22 then (cs_22 l4 L xs (fun v1 => (law_lp L xs n v1 (w32 (l4 + 6)))) v)
   else (if (and32 (xi xs l4) 63) = 23 then (cs_23 l4 L xs (fun v1 => (law_lp L xs n v1 (w32 (l4 + 6)))) v)
   else (if (and32 (xi xs l4) 63) = 24 then (cs_24 l4 L xs (fun v1 => (law_lp L xs n v1 (w32 (l4 + 6)))) v)
   else (if (and32 (xi xs l4) 63) = 25 then (cs_25 l4 L xs (fun v1 => (law_lp L xs n v1 (w32 (l4 + 6)))) v)
   else (if (and32 (xi xs l4) 63) = 26 then (cs_26 l4 L xs (fun v1 => (law_lp L xs n v1 (w32 (l4 + 6)))) v)
   else (if (and32 (xi xs l4) 63) = 27 then (cs_27 l4 L xs (fun v1 => (law_lp L xs n v1 (w32 (l4 + 6)))) v)
   else (if (and32 (xi xs l4) 63) = 28 then (cs_28 l4 L xs (fun v1 => (law_lp L xs n v1 (w32 (l4 + 6)))) v)
   else (if (and32 (xi xs l4) 63) = 29 then (cs_29 l4 L xs (fun v1 => (law_lp L xs n v1 (w32 (l4 + 6)))) v)
   else (if (and32 (xi xs l4) 63) = 30 then (cs_30 l4 L xs (fun v1 => (law_lp L xs n v1 (w32 (l4 + 6)))) v)
   else (if (and32 (xi xs l4) 63) = 31 then (cs_31 l4 L xs (fun v1 => (law_lp L xs n v1 (w32 (l4 + 6)))) v)
   else (if (and32 (xi xs l4) 63) = 32 then (cs_32 l4 L xs (fun v1 => (law_lp L xs n v1 (w32 (l4 + 6)))) v)
   else (law_lp L xs n v (w32 (l4 + 6))))))))))))))))))))))))))))))))))))))
set_option maxRecDepth 100000 in
set_option maxHeartbeats 4000000 in
theorem klaw_lp {x : Cx} {nm9 : String} {rt9 : Option Nat} (F : Fx x cL_law RL nm9 room_1 7 rt9 (some .boolean) 1) {L : Nat} {xs : Nat → Int32} (hX : FxS x L xs) : ∀ (n : Nat) (v : V) (l4 : Int) (cells slots : Nat), cells + n * 40 ≤ 601024 → slots + n * 400 ≤ 7293034 → Gs x (law_lp L xs n v l4) v cells slots 23 [(0, (108, 0)), (1, (17, 0)), (2, (18, 0)), (3, (19, 0)), (4, (0, l4))] [] := by
  intro n
  induction n with
  | zero => intro v l4 cells slots _ _; exact g_none
  | succ n ih =>
    intro v l4 cells slots hc hs
    have hgo : ∀ (cells slots : Nat), cells + n * 40 ≤ 601024 → slots + n * 400 ≤ 7293034 → ∀ v1, Gs x (law_lp L xs n v1 (w32 (l4 + 6))) v1 cells slots 2508 [(0, (108, 0)), (1, (17, 0)), (2, (18, 0)), (3, (19, 0)), (4, (0, l4))] [] := fun cells slots hc hs v1 => by
      refine g_iinc F 4 rfl rfl (Nat.le_of_ble_eq_true rfl) (ls' := [(4, (0, (w32 (l4 + 6)))), (0, (108, 0)), (1, (17, 0)), (2, (18, 0)), (3, (19, 0))]) rfl dL_law_2508 ?_
      refine g_goto F (tgt := 23) rfl dL_law_2511 ?_
      refine g_loc [(1, 108), (2, 17), (3, 18), (4, 19), (0, 0)] rfl ?_
      exact ih v1 (w32 (l4 + 6)) cells slots hc hs
    rw [law_lp]
    refine g_iload F 4 rfl rfl dL_law_23 ?_
    refine g_aload_n F rfl 0 rfl dL_law_25 ?_
    refine g_slen F hX dL_law_26 ?_
    refine g_bipush F rfl (by decide) dL_law_27 ?_
    refine g_isub F rfl rfl dL_law_29 ?_
    refine g_icmp_gt F rfl rfl (tgt := 2514) rfl dL_law_30 (fun n1 => ?_) (fun n1 => ?_)
    · refine g_iconst F 2 rfl dL_law_2514 ?_
      exact g_lawret F rfl (show cells ≤ 601024 by omega) (show slots ≤ 7293034 by omega) rfl dL_law_2515
    · refine g_chk (fun n2 => ?_)
      refine g_aload_n F rfl 0 rfl dL_law_33 ?_
      refine g_iload F 4 rfl rfl dL_law_34 ?_
      refine g_sld F hX n2 rfl dL_law_36 ?_
      refine g_bipush F rfl (by decide) dL_law_37 ?_
      refine g_iand F rfl rfl dL_law_39 ?_
      refine g_if (fun q0 => ?_) (fun q0 => ?_)
      · refine g_tabIn F rfl (by omega) (by omega) (off := 148) (by rw [q0]; rfl) (tgt := 188) rfl dL_law_40 ?_
        exact kcs_0 F hX (by omega) (by omega) (fun v1 => hgo _ _ (show cells + 4 + n * 40 ≤ 601024 by omega) (show slots + 24 + n * 400 ≤ 7293034 by omega) v1) v
      · skip
        refine g_if (fun q1 => ?_) (fun q1 => ?_)
        · refine g_tabIn F rfl (by omega) (by omega) (off := 216) (by rw [q1]; rfl) (tgt := 256) rfl dL_law_40 ?_
          exact kcs_1 F hX (by omega) (by omega) (fun v1 => hgo _ _ (show cells + 7 + n * 40 ≤ 601024 by omega) (show slots + 187 + n * 400 ≤ 7293034 by omega) v1) v
        · skip
          refine g_if (fun q2 => ?_) (fun q2 => ?_)
          · refine g_tabIn F rfl (by omega) (by omega) (off := 284) (by rw [q2]; rfl) (tgt := 324) rfl dL_law_40 ?_
            exact kcs_2 F hX (by omega) (by omega) (fun v1 => hgo _ _ (show cells + 2 + n * 40 ≤ 601024 by omega) (show slots + 12 + n * 400 ≤ 7293034 by omega) v1) v
          · skip
            refine g_if (fun q3 => ?_) (fun q3 => ?_)
            · refine g_tabIn F rfl (by omega) (by omega) (off := 352) (by rw [q3]; rfl) (tgt := 392) rfl dL_law_40 ?_
              exact kcs_3 F hX (by omega) (by omega) (fun v1 => hgo _ _ (show cells + 2 + n * 40 ≤ 601024 by omega) (show slots + 12 + n * 400 ≤ 7293034 by omega) v1) v
            · skip
              refine g_if (fun q4 => ?_) (fun q4 => ?_)
              · refine g_tabIn F rfl (by omega) (by omega) (off := 408) (by rw [q4]; rfl) (tgt := 448) rfl dL_law_40 ?_
                exact kcs_4 F hX (by omega) (by omega) (fun v1 => hgo _ _ (show cells + 2 + n * 40 ≤ 601024 by omega) (show slots + 12 + n * 400 ≤ 7293034 by omega) v1) v
              · skip
                refine g_if (fun q5 => ?_) (fun q5 => ?_)
                · refine g_tabIn F rfl (by omega) (by omega) (off := 476) (by rw [q5]; rfl) (tgt := 516) rfl dL_law_40 ?_
                  exact kcs_5 F hX (by omega) (by omega) (fun v1 => hgo _ _ (show cells + 4 + n * 40 ≤ 601024 by omega) (show slots + 21 + n * 400 ≤ 7293034 by omega) v1) v
                · skip
                  refine g_if (fun q6 => ?_) (fun q6 => ?_)
                  · refine g_tabIn F rfl (by omega) (by omega) (off := 572) (by rw [q6]; rfl) (tgt := 612) rfl dL_law_40 ?_
                    exact kcs_6 F hX (by omega) (by omega) (fun v1 => hgo _ _ (show cells + 3 + n * 40 ≤ 601024 by omega) (show slots + 18 + n * 400 ≤ 7293034 by omega) v1) v
                  · skip
                    refine g_if (fun q7 => ?_) (fun q7 => ?_)
                    · refine g_tabIn F rfl (by omega) (by omega) (off := 632) (by rw [q7]; rfl) (tgt := 672) rfl dL_law_40 ?_
                      exact kcs_7 F hX (by omega) (by omega) (fun v1 => hgo _ _ (show cells + 2 + n * 40 ≤ 601024 by omega) (show slots + 12 + n * 400 ≤ 7293034 by omega) v1) v
                    · skip
                      refine g_if (fun q8 => ?_) (fun q8 => ?_)
                      · refine g_tabIn F rfl (by omega) (by omega) (off := 700) (by rw [q8]; rfl) (tgt := 740) rfl dL_law_40 ?_
                        exact kcs_8 F hX (by omega) (by omega) (fun v1 => hgo _ _ (show cells + 2 + n * 40 ≤ 601024 by omega) (show slots + 12 + n * 400 ≤ 7293034 by omega) v1) v
                      · skip
                        refine g_if (fun q9 => ?_) (fun q9 => ?_)
                        · refine g_tabIn F rfl (by omega) (by omega) (off := 768) (by rw [q9]; rfl) (tgt := 808) rfl dL_law_40 ?_
                          exact kcs_9 F hX (by omega) (by omega) (fun v1 => hgo _ _ (show cells + 2 + n * 40 ≤ 601024 by omega) (show slots + 12 + n * 400 ≤ 7293034 by omega) v1) v
                        · skip
                          refine g_if (fun q10 => ?_) (fun q10 => ?_)
                          · refine g_tabIn F rfl (by omega) (by omega) (off := 859) (by rw [q10]; rfl) (tgt := 899) rfl dL_law_40 ?_
                            exact kcs_10 F hX (by omega) (by omega) (fun v1 => hgo _ _ (show cells + 3 + n * 40 ≤ 601024 by omega) (show slots + 18 + n * 400 ≤ 7293034 by omega) v1) v
                          · skip
                            refine g_if (fun q11 => ?_) (fun q11 => ?_)
                            · refine g_tabIn F rfl (by omega) (by omega) (off := 927) (by rw [q11]; rfl) (tgt := 967) rfl dL_law_40 ?_
                              exact kcs_11 F hX (by omega) (by omega) (fun v1 => hgo _ _ (show cells + 2 + n * 40 ≤ 601024 by omega) (show slots + 12 + n * 400 ≤ 7293034 by omega) v1) v
                            · skip
                              refine g_if (fun q12 => ?_) (fun q12 => ?_)
                              · refine g_tabIn F rfl (by omega) (by omega) (off := 963) (by rw [q12]; rfl) (tgt := 1003) rfl dL_law_40 ?_
                                exact kcs_12 F hX (by omega) (by omega) (fun v1 => hgo _ _ (show cells + 2 + n * 40 ≤ 601024 by omega) (show slots + 12 + n * 400 ≤ 7293034 by omega) v1) v
                              · skip
                                refine g_if (fun q13 => ?_) (fun q13 => ?_)
                                · refine g_tabIn F rfl (by omega) (by omega) (off := 1019) (by rw [q13]; rfl) (tgt := 1059) rfl dL_law_40 ?_
                                  exact kcs_13 F hX (by omega) (by omega) (fun v1 => hgo _ _ (show cells + 8 + n * 40 ≤ 601024 by omega) (show slots + 49 + n * 400 ≤ 7293034 by omega) v1) v
                                · skip
                                  refine g_if (fun q14 => ?_) (fun q14 => ?_)
                                  · refine g_tabIn F rfl (by omega) (by omega) (off := 1111) (by rw [q14]; rfl) (tgt := 1151) rfl dL_law_40 ?_
                                    exact kcs_14 F hX (by omega) (by omega) (fun v1 => hgo _ _ (show cells + 9 + n * 40 ≤ 601024 by omega) (show slots + 52 + n * 400 ≤ 7293034 by omega) v1) v
                                  · skip
                                    refine g_if (fun q15 => ?_) (fun q15 => ?_)
                                    · refine g_tabIn F rfl (by omega) (by omega) (off := 1195) (by rw [q15]; rfl) (tgt := 1235) rfl dL_law_40 ?_
                                      exact kcs_15 F hX (by omega) (by omega) (fun v1 => hgo _ _ (show cells + 2 + n * 40 ≤ 601024 by omega) (show slots + 12 + n * 400 ≤ 7293034 by omega) v1) v
                                    · skip
                                      refine g_if (fun q16 => ?_) (fun q16 => ?_)
                                      · refine g_tabIn F rfl (by omega) (by omega) (off := 1251) (by rw [q16]; rfl) (tgt := 1291) rfl dL_law_40 ?_
                                        exact kcs_16 F hX (by omega) (by omega) (fun v1 => hgo _ _ (show cells + 8 + n * 40 ≤ 601024 by omega) (show slots + 49 + n * 400 ≤ 7293034 by omega) v1) v
                                      · skip
                                        refine g_if (fun q17 => ?_) (fun q17 => ?_)
                                        · refine g_tabIn F rfl (by omega) (by omega) (off := 1331) (by rw [q17]; rfl) (tgt := 1371) rfl dL_law_40 ?_
                                          exact kcs_17 F hX (by omega) (by omega) (fun v1 => hgo _ _ (show cells + 4 + n * 40 ≤ 601024 by omega) (show slots + 24 + n * 400 ≤ 7293034 by omega) v1) v
                                        · skip
                                          refine g_if (fun q18 => ?_) (fun q18 => ?_)
                                          · refine g_tabIn F rfl (by omega) (by omega) (off := 1418) (by rw [q18]; rfl) (tgt := 1458) rfl dL_law_40 ?_
                                            exact kcs_18 F hX (by omega) (by omega) (fun v1 => hgo _ _ (show cells + 3 + n * 40 ≤ 601024 by omega) (show slots + 18 + n * 400 ≤ 7293034 by omega) v1) v
                                          · skip
                                            refine g_if (fun q19 => ?_) (fun q19 => ?_)
                                            · refine g_tabIn F rfl (by omega) (by omega) (off := 1486) (by rw [q19]; rfl) (tgt := 1526) rfl dL_law_40 ?_
                                              exact kcs_19 F hX (by omega) (by omega) (fun v1 => hgo _ _ (show cells + 10 + n * 40 ≤ 601024 by omega) (show slots + 62 + n * 400 ≤ 7293034 by omega) v1) v
                                            · skip
                                              refine g_if (fun q20 => ?_) (fun q20 => ?_)
                                              · refine g_tabIn F rfl (by omega) (by omega) (off := 1590) (by rw [q20]; rfl) (tgt := 1630) rfl dL_law_40 ?_
                                                exact kcs_20 F hX (by omega) (by omega) (fun v1 => hgo _ _ (show cells + 2 + n * 40 ≤ 601024 by omega) (show slots + 12 + n * 400 ≤ 7293034 by omega) v1) v
                                              · skip
                                                refine g_if (fun q21 => ?_) (fun q21 => ?_)
                                                · refine g_tabIn F rfl (by omega) (by omega) (off := 1646) (by rw [q21]; rfl) (tgt := 1686) rfl dL_law_40 ?_
                                                  exact kcs_21 F hX (by omega) (by omega) (fun v1 => hgo _ _ (show cells + 2 + n * 40 ≤ 601024 by omega) (show slots + 12 + n * 400 ≤ 7293034 by omega) v1) v
                                                · skip
                                                  refine g_if (fun q22 => ?_) (fun q22 => ?_)
                                                  · refine g_tabIn F rfl (by omega) (by omega) (off := 1702) (by rw [q22]; rfl) (tgt := 1742) rfl dL_law_40 ?_
                                                    exact kcs_22 F hX (by omega) (by omega) (fun v1 => hgo _ _ (show cells + 6 + n * 40 ≤ 601024 by omega) (show slots + 36 + n * 400 ≤ 7293034 by omega) v1) v
                                                  · skip
                                                    refine g_if (fun q23 => ?_) (fun q23 => ?_)
                                                    · refine g_tabIn F rfl (by omega) (by omega) (off := 1782) (by rw [q23]; rfl) (tgt := 1822) rfl dL_law_40 ?_
                                                      exact kcs_23 F hX (by omega) (by omega) (fun v1 => hgo _ _ (show cells + 5 + n * 40 ≤ 601024 by omega) (show slots + 30 + n * 400 ≤ 7293034 by omega) v1) v
                                                    · skip
                                                      refine g_if (fun q24 => ?_) (fun q24 => ?_)
                                                      · refine g_tabIn F rfl (by omega) (by omega) (off := 1874) (by rw [q24]; rfl) (tgt := 1914) rfl dL_law_40 ?_
                                                        exact kcs_24 F hX (by omega) (by omega) (fun v1 => hgo _ _ (show cells + 5 + n * 40 ≤ 601024 by omega) (show slots + 30 + n * 400 ≤ 7293034 by omega) v1) v
                                                      · skip
                                                        refine g_if (fun q25 => ?_) (fun q25 => ?_)
                                                        · refine g_tabIn F rfl (by omega) (by omega) (off := 1966) (by rw [q25]; rfl) (tgt := 2006) rfl dL_law_40 ?_
                                                          exact kcs_25 F hX (by omega) (by omega) (fun v1 => hgo _ _ (show cells + 2 + n * 40 ≤ 601024 by omega) (show slots + 12 + n * 400 ≤ 7293034 by omega) v1) v
                                                        · skip
                                                          refine g_if (fun q26 => ?_) (fun q26 => ?_)
                                                          · refine g_tabIn F rfl (by omega) (by omega) (off := 2034) (by rw [q26]; rfl) (tgt := 2074) rfl dL_law_40 ?_
                                                            exact kcs_26 F hX (by omega) (by omega) (fun v1 => hgo _ _ (show cells + 2 + n * 40 ≤ 601024 by omega) (show slots + 12 + n * 400 ≤ 7293034 by omega) v1) v
                                                          · skip
                                                            refine g_if (fun q27 => ?_) (fun q27 => ?_)
                                                            · refine g_tabIn F rfl (by omega) (by omega) (off := 2102) (by rw [q27]; rfl) (tgt := 2142) rfl dL_law_40 ?_
                                                              exact kcs_27 F hX (by omega) (by omega) (fun v1 => hgo _ _ (show cells + 2 + n * 40 ≤ 601024 by omega) (show slots + 12 + n * 400 ≤ 7293034 by omega) v1) v
                                                            · skip
                                                              refine g_if (fun q28 => ?_) (fun q28 => ?_)
                                                              · refine g_tabIn F rfl (by omega) (by omega) (off := 2170) (by rw [q28]; rfl) (tgt := 2210) rfl dL_law_40 ?_
                                                                exact kcs_28 F hX (by omega) (by omega) (fun v1 => hgo _ _ (show cells + 2 + n * 40 ≤ 601024 by omega) (show slots + 12 + n * 400 ≤ 7293034 by omega) v1) v
                                                              · skip
                                                                refine g_if (fun q29 => ?_) (fun q29 => ?_)
                                                                · refine g_tabIn F rfl (by omega) (by omega) (off := 2238) (by rw [q29]; rfl) (tgt := 2278) rfl dL_law_40 ?_
                                                                  exact kcs_29 F hX (by omega) (by omega) (fun v1 => hgo _ _ (show cells + 2 + n * 40 ≤ 601024 by omega) (show slots + 12 + n * 400 ≤ 7293034 by omega) v1) v
                                                                · skip
                                                                  refine g_if (fun q30 => ?_) (fun q30 => ?_)
                                                                  · refine g_tabIn F rfl (by omega) (by omega) (off := 2306) (by rw [q30]; rfl) (tgt := 2346) rfl dL_law_40 ?_
                                                                    exact kcs_30 F hX (by omega) (by omega) (fun v1 => hgo _ _ (show cells + 2 + n * 40 ≤ 601024 by omega) (show slots + 12 + n * 400 ≤ 7293034 by omega) v1) v
                                                                  · skip
                                                                    refine g_if (fun q31 => ?_) (fun q31 => ?_)
                                                                    · refine g_tabIn F rfl (by omega) (by omega) (off := 2374) (by rw [q31]; rfl) (tgt := 2414) rfl dL_law_40 ?_
                                                                      exact kcs_31 F hX (by omega) (by omega) (fun v1 => hgo _ _ (show cells + 3 + n * 40 ≤ 601024 by omega) (show slots + 18 + n * 400 ≤ 7293034 by omega) v1) v
                                                                    · skip
                                                                      refine g_if (fun q32 => ?_) (fun q32 => ?_)
                                                                      · refine g_tabIn F rfl (by omega) (by omega) (off := 2454) (by rw [q32]; rfl) (tgt := 2494) rfl dL_law_40 ?_
                                                                        exact kcs_32 F hX (by omega) (by omega) (fun v1 => hgo _ _ (show cells + 0 + n * 40 ≤ 601024 by omega) (show slots + 0 + n * 400 ≤ 7293034 by omega) v1) v
                                                                      · skip
                                                                        refine g_tabOut F rfl (by omega) (tgt := 2508) rfl dL_law_40 ?_
                                                                        exact hgo cells slots (by omega) (by omega) v
def sp_law (L : Nat) (xs : Nat → Int32) (v : V) : Res := (chk ((0 : Int) ≤ 0 ∧ ¬ v 99 7 0 = 1) (rLet (nw v 7 0) (fun v1 => (rB (sp_X7_init 0  v1) (fun z3 v3 => (chk ((0 : Int) ≤ 0 ∧ ¬ v3 99 8 0 = 1) (rLet (nw v3 8 0) (fun v4 => (rB (sp_X8_init 0  v4) (fun z6 v6 => (chk ((0 : Int) ≤ 0 ∧ ¬ v6 99 9 0 = 1) (rLet (nw v6 9 0) (fun v7 => (law_lp L xs 514 v7 0))))))))))))))
set_option maxRecDepth 100000 in
set_option maxHeartbeats 4000000 in
theorem k_law {x : Cx} {nm9 : String} {rt9 : Option Nat} (F : Fx x cL_law RL nm9 room_1 7 rt9 (some .boolean) 1) {L : Nat} {xs : Nat → Int32} (hX : FxS x L xs) (v : V) : Gs x (sp_law L xs v) v 0 0 0 [(0, (108, 0))] [] := by
  unfold sp_law
  refine g_chk (fun n2 => ?_)
  refine h_new F (n := 10) (Kz := 7) 0 fn_RL_8 rfl rfl n2 (Nat.le_of_ble_eq_true rfl) (Nat.le_of_ble_eq_true rfl) dL_law_0 (fun v1 => ?_)
  refine g_dup F rfl dL_law_3 ?_
  refine g_callI F (by decide) (K := 7) (b := 0) [] [] ml_RL_122 wi_X7_init rfl (c_X7_init 0  (by decide)) mi_X7_init (by decide) rfl rfl rfl (Nat.le_of_ble_eq_true rfl) (Nat.le_of_ble_eq_true rfl) (Nat.le_of_ble_eq_true rfl) (Nat.le_of_ble_eq_true rfl) (Nat.le_of_ble_eq_true rfl) dL_law_4 (fun z3 v3 hz3 => ?_)
  refine g_astore_n F rfl (Nat.le_of_ble_eq_true rfl) (ls' := [(1, (17, 0)), (0, (108, 0))]) rfl dL_law_7 ?_
  refine g_chk (fun n5 => ?_)
  refine h_new F (n := 46) (Kz := 8) 0 fn_RL_123 rfl rfl n5 (Nat.le_of_ble_eq_true rfl) (Nat.le_of_ble_eq_true rfl) dL_law_8 (fun v4 => ?_)
  refine g_dup F rfl dL_law_11 ?_
  refine g_callI F (by decide) (K := 8) (b := 0) [] [] ml_RL_125 wi_X8_init rfl (c_X8_init 0  (by decide)) mi_X8_init (by decide) rfl rfl rfl (Nat.le_of_ble_eq_true rfl) (Nat.le_of_ble_eq_true rfl) (Nat.le_of_ble_eq_true rfl) (Nat.le_of_ble_eq_true rfl) (Nat.le_of_ble_eq_true rfl) dL_law_12 (fun z6 v6 hz6 => ?_)
  refine g_astore_n F rfl (Nat.le_of_ble_eq_true rfl) (ls' := [(2, (18, 0)), (1, (17, 0)), (0, (108, 0))]) rfl dL_law_15 ?_
  refine g_iconst F 2 rfl dL_law_16 ?_
  refine g_chk (fun n8 => ?_)
  refine h_newa F (n := 1) (Kz := 9) 0 ak_9 rfl rfl aw_long rfl (Nat.le_of_ble_eq_true rfl) rfl n8 rfl (Nat.le_of_ble_eq_true rfl) (Nat.le_of_ble_eq_true rfl) dL_law_17 (fun v7 => ?_)
  refine g_astore_n F rfl (Nat.le_of_ble_eq_true rfl) (ls' := [(3, (19, 0)), (2, (18, 0)), (1, (17, 0)), (0, (108, 0))]) rfl dL_law_19 ?_
  refine g_iconst F 2 rfl dL_law_20 ?_
  refine g_istore F rfl (Nat.le_of_ble_eq_true rfl) (ls' := [(4, (2, 0)), (3, (19, 0)), (2, (18, 0)), (1, (17, 0)), (0, (108, 0))]) rfl dL_law_21 ?_
  refine g_loc [(4, 108), (3, 17), (2, 18), (1, 19), (0, 0)] rfl ?_
  exact klaw_lp F hX 514 v7 0 46 4383 (by decide) (by decide)

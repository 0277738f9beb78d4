def lp_L_areKept_4_18 (l1 : Int) (k : V → Int → Int → Int → Int → Int → Int → Res) : Nat → V → Int → Int → Int → Int → Int → Int → Res
  | 0, _, _, _, _, _, _, _ => none
  | n + 1, v, l4, l6, l8, l10, l11, l12 => (if 6 ≤ l12 then (k v l4 l6 l8 l10 l11 l12)
   else (rB (sp_X7_ofParty 0 l12 0 v) (fun z2 v2 => (rB (sp_X7_ofParty 0 l12 1 v2) (fun z3 v3 => (rB (sp_X7_ofParty 0 l12 2 v3) (fun z4 v4 => (rB (sp_X7_ofParty 0 l12 3 v4) (fun z5 v5 => (if l11 = 0 then (lp_L_areKept_4_18 l1 k n v5 (w64 (l4 + z2)) (w64 (l6 + z4)) (w64 (l8 + z5)) (w32 (l10 + z3)) 0 (w32 (l12 + 1)))
   else (rB (sp_X7_ofParty 0 l12 0 v5) (fun z7 v7 => (if z7 < 0 then (lp_L_areKept_4_18 l1 k n v7 (w64 (l4 + z2)) (w64 (l6 + z4)) (w64 (l8 + z5)) (w32 (l10 + z3)) 0 (w32 (l12 + 1)))
   else (rB (sp_X7_ofParty 0 l12 6 v7) (fun z9 v9 => (if 4 < z9 then (lp_L_areKept_4_18 l1 k n v9 (w64 (l4 + z2)) (w64 (l6 + z4)) (w64 (l8 + z5)) (w32 (l10 + z3)) 0 (w32 (l12 + 1)))
   else (lp_L_areKept_4_18 l1 k n v9 (w64 (l4 + z2)) (w64 (l6 + z4)) (w64 (l8 + z5)) (w32 (l10 + z3)) 1 (w32 (l12 + 1)))))))))))))))))))
set_option maxRecDepth 100000 in
set_option maxHeartbeats 4000000 in
theorem kl_L_areKept_4_18 {l1 : Int} {x : Cx} (F : Fx x cL_areKept RL "areKept" ({ frames := 9, cells := 1862, slots := 11184, locals := 153 }) 21 (some 2) (some .boolean) 0) {k : V → Int → Int → Int → Int → Int → Int → Res} (c9 s9 : Nat) (hC : c9 ≤ 1862) (hS : s9 ≤ 11184) (hk : ∀ (v : V) (l4 l6 l8 l10 l11 l12 : Int), Gs x (k v l4 l6 l8 l10 l11 l12) v c9 s9 116 [(0, (17, 0)), (1, (1, l1)), (3, (0, 4)), (4, (1, l4)), (6, (1, l6)), (8, (1, l8)), (10, (0, l10)), (11, (0, l11)), (12, (0, l12))] []) : ∀ (n : Nat) (v : V) (l4 l6 l8 l10 l11 l12 : Int) (cells slots : Nat), cells + n * 12 ≤ c9 → slots + n * 72 ≤ s9 → Gs x (lp_L_areKept_4_18 l1 k n v l4 l6 l8 l10 l11 l12) v cells slots 18 [(0, (17, 0)), (1, (1, l1)), (3, (0, 4)), (4, (1, l4)), (6, (1, l6)), (8, (1, l8)), (10, (0, l10)), (11, (0, l11)), (12, (0, l12))] [] := by
  intro n
  induction n with
  | zero => intro v l4 l6 l8 l10 l11 l12 cells slots _ _; exact g_none
  | succ n ih =>
    intro v l4 l6 l8 l10 l11 l12 cells slots hc hs
    rw [lp_L_areKept_4_18]
    refine g_iload F 8 rfl rfl dL_areKept_18 ?_
    refine g_bipush F rfl (by decide) dL_areKept_20 ?_
    refine g_icmp_ge F rfl rfl (tgt := 116) rfl dL_areKept_22 (fun n1 => ?_) (fun n1 => ?_)
    · refine g_loc [(0, 17), (1, 1), (2, 0), (3, 1), (4, 1), (5, 1), (6, 0), (7, 0), (8, 0)] rfl ?_
      refine g_wide (c2 := c9) (s2 := s9) (show cells ≤ c9 by omega) (show slots ≤ s9 by omega) ?_
      exact hk v l4 l6 l8 l10 l11 l12
    · refine g_lload F 3 rfl dL_areKept_25 ?_
      refine g_aload_n F rfl 0 rfl dL_areKept_27 ?_
      refine g_iload F 8 rfl rfl dL_areKept_28 ?_
      refine g_iconst F 2 rfl dL_areKept_30 ?_
      refine g_callV F (by decide) (K := 7) (b := 0) [(0, l12), (2, 0)] [0, 0] ml_RL_24 wi_X7_ofParty ws_X7_ofParty (c_X7_ofParty 0 l12 0 (by decide)) mi_X7_ofParty (by decide) ⟨_, rfl, rfl⟩ (by decide) rfl rfl rfl (Nat.le_of_ble_eq_true rfl) (Nat.le_of_ble_eq_true rfl) (show cells + 2 ≤ 1862 by omega) (show slots + 12 ≤ 11184 by omega) (Nat.le_of_ble_eq_true rfl) dL_areKept_31 (fun z2 v2 hz2 => ?_)
      refine g_i2l F rfl dL_areKept_34 ?_
      refine g_ladd F dL_areKept_35 ?_
      refine g_lstore F (Nat.le_of_ble_eq_true rfl) (ls' := [(4, (1, (w64 (l4 + z2)))), (0, (17, 0)), (1, (1, l1)), (3, (0, 4)), (6, (1, l6)), (8, (1, l8)), (10, (0, l10)), (11, (0, l11)), (12, (0, l12))]) rfl dL_areKept_36 ?_
      refine g_iload F 6 rfl rfl dL_areKept_38 ?_
      refine g_aload_n F rfl 1 rfl dL_areKept_40 ?_
      refine g_iload F 8 rfl rfl dL_areKept_41 ?_
      refine g_iconst F 2 rfl dL_areKept_43 ?_
      refine g_callV F (by decide) (K := 7) (b := 0) [(0, l12), (2, 1)] [0, 0] ml_RL_24 wi_X7_ofParty ws_X7_ofParty (c_X7_ofParty 0 l12 1 (by decide)) mi_X7_ofParty (by decide) ⟨_, rfl, rfl⟩ (by decide) rfl rfl rfl (Nat.le_of_ble_eq_true rfl) (Nat.le_of_ble_eq_true rfl) (show (cells + 2) + 2 ≤ 1862 by omega) (show (slots + 12) + 12 ≤ 11184 by omega) (Nat.le_of_ble_eq_true rfl) dL_areKept_44 (fun z3 v3 hz3 => ?_)
      refine g_iadd F rfl rfl dL_areKept_47 ?_
      refine g_istore F rfl (Nat.le_of_ble_eq_true rfl) (ls' := [(10, (0, (w32 (l10 + z3)))), (4, (1, (w64 (l4 + z2)))), (0, (17, 0)), (1, (1, l1)), (3, (0, 4)), (6, (1, l6)), (8, (1, l8)), (11, (0, l11)), (12, (0, l12))]) rfl dL_areKept_48 ?_
      refine g_lload F 5 rfl dL_areKept_50 ?_
      refine g_aload_n F rfl 2 rfl dL_areKept_52 ?_
      refine g_iload F 8 rfl rfl dL_areKept_53 ?_
      refine g_iconst F 0 rfl dL_areKept_55 ?_
      refine g_callV F (by decide) (K := 7) (b := 0) [(0, l12), (0, 2)] [0, 0] ml_RL_24 wi_X7_ofParty ws_X7_ofParty (c_X7_ofParty 0 l12 2 (by decide)) mi_X7_ofParty (by decide) ⟨_, rfl, rfl⟩ (by decide) rfl rfl rfl (Nat.le_of_ble_eq_true rfl) (Nat.le_of_ble_eq_true rfl) (show (cells + 4) + 2 ≤ 1862 by omega) (show (slots + 24) + 12 ≤ 11184 by omega) (Nat.le_of_ble_eq_true rfl) dL_areKept_56 (fun z4 v4 hz4 => ?_)
      refine g_i2l F rfl dL_areKept_59 ?_
      refine g_ladd F dL_areKept_60 ?_
      refine g_lstore F (Nat.le_of_ble_eq_true rfl) (ls' := [(6, (1, (w64 (l6 + z4)))), (10, (0, (w32 (l10 + z3)))), (4, (1, (w64 (l4 + z2)))), (0, (17, 0)), (1, (1, l1)), (3, (0, 4)), (8, (1, l8)), (11, (0, l11)), (12, (0, l12))]) rfl dL_areKept_61 ?_
      refine g_lload F 6 rfl dL_areKept_63 ?_
      refine g_aload_n F rfl 3 rfl dL_areKept_65 ?_
      refine g_iload F 8 rfl rfl dL_areKept_66 ?_
      refine g_iconst F 0 rfl dL_areKept_68 ?_
      refine g_callV F (by decide) (K := 7) (b := 0) [(0, l12), (0, 3)] [0, 0] ml_RL_24 wi_X7_ofParty ws_X7_ofParty (c_X7_ofParty 0 l12 3 (by decide)) mi_X7_ofParty (by decide) ⟨_, rfl, rfl⟩ (by decide) rfl rfl rfl (Nat.le_of_ble_eq_true rfl) (Nat.le_of_ble_eq_true rfl) (show (cells + 6) + 2 ≤ 1862 by omega) (show (slots + 36) + 12 ≤ 11184 by omega) (Nat.le_of_ble_eq_true rfl) dL_areKept_69 (fun z5 v5 hz5 => ?_)
      refine g_i2l F rfl dL_areKept_72 ?_
      refine g_ladd F dL_areKept_73 ?_
      refine g_lstore F (Nat.le_of_ble_eq_true rfl) (ls' := [(8, (1, (w64 (l8 + z5)))), (6, (1, (w64 (l6 + z4)))), (10, (0, (w32 (l10 + z3)))), (4, (1, (w64 (l4 + z2)))), (0, (17, 0)), (1, (1, l1)), (3, (0, 4)), (11, (0, l11)), (12, (0, l12))]) rfl dL_areKept_74 ?_
      refine g_iload F 7 rfl rfl dL_areKept_76 ?_
      refine g_if_eq F rfl (tgt := 107) rfl dL_areKept_78 (fun n6 => ?_) (fun n6 => ?_)
      · refine g_iconst F 2 rfl dL_areKept_107 ?_
        refine g_istore F rfl (Nat.le_of_ble_eq_true rfl) (ls' := [(11, (2, 0)), (8, (1, (w64 (l8 + z5)))), (6, (1, (w64 (l6 + z4)))), (10, (0, (w32 (l10 + z3)))), (4, (1, (w64 (l4 + z2)))), (0, (17, 0)), (1, (1, l1)), (3, (0, 4)), (12, (0, l12))]) rfl dL_areKept_108 ?_
        refine g_iinc F 8 rfl rfl (Nat.le_of_ble_eq_true rfl) (ls' := [(12, (0, (w32 (l12 + 1)))), (11, (2, 0)), (8, (1, (w64 (l8 + z5)))), (6, (1, (w64 (l6 + z4)))), (10, (0, (w32 (l10 + z3)))), (4, (1, (w64 (l4 + z2)))), (0, (17, 0)), (1, (1, l1)), (3, (0, 4))]) rfl dL_areKept_110 ?_
        refine g_goto F (tgt := 18) rfl dL_areKept_113 ?_
        refine g_loc [(6, 17), (7, 1), (8, 0), (5, 1), (3, 1), (2, 1), (4, 0), (1, 0), (0, 0)] rfl ?_
        exact ih v5 (w64 (l4 + z2)) (w64 (l6 + z4)) (w64 (l8 + z5)) (w32 (l10 + z3)) 0 (w32 (l12 + 1)) (cells + 8) (slots + 48) (by omega) (by omega)
      · refine g_aload_n F rfl 4 rfl dL_areKept_81 ?_
        refine g_iload F 8 rfl rfl dL_areKept_82 ?_
        refine g_iconst F 2 rfl dL_areKept_84 ?_
        refine g_callV F (by decide) (K := 7) (b := 0) [(0, l12), (2, 0)] [0, 0] ml_RL_24 wi_X7_ofParty ws_X7_ofParty (c_X7_ofParty 0 l12 0 (by decide)) mi_X7_ofParty (by decide) ⟨_, rfl, rfl⟩ (by decide) rfl rfl rfl (Nat.le_of_ble_eq_true rfl) (Nat.le_of_ble_eq_true rfl) (show (cells + 8) + 2 ≤ 1862 by omega) (show (slots + 48) + 12 ≤ 11184 by omega) (Nat.le_of_ble_eq_true rfl) dL_areKept_85 (fun z7 v7 hz7 => ?_)
        refine g_if_lt F rfl (tgt := 107) rfl dL_areKept_88 (fun n8 => ?_) (fun n8 => ?_)
        · refine g_iconst F 2 rfl dL_areKept_107 ?_
          refine g_istore F rfl (Nat.le_of_ble_eq_true rfl) (ls' := [(11, (2, 0)), (8, (1, (w64 (l8 + z5)))), (6, (1, (w64 (l6 + z4)))), (10, (0, (w32 (l10 + z3)))), (4, (1, (w64 (l4 + z2)))), (0, (17, 0)), (1, (1, l1)), (3, (0, 4)), (12, (0, l12))]) rfl dL_areKept_108 ?_
          refine g_iinc F 8 rfl rfl (Nat.le_of_ble_eq_true rfl) (ls' := [(12, (0, (w32 (l12 + 1)))), (11, (2, 0)), (8, (1, (w64 (l8 + z5)))), (6, (1, (w64 (l6 + z4)))), (10, (0, (w32 (l10 + z3)))), (4, (1, (w64 (l4 + z2)))), (0, (17, 0)), (1, (1, l1)), (3, (0, 4))]) rfl dL_areKept_110 ?_
          refine g_goto F (tgt := 18) rfl dL_areKept_113 ?_
          refine g_loc [(6, 17), (7, 1), (8, 0), (5, 1), (3, 1), (2, 1), (4, 0), (1, 0), (0, 0)] rfl ?_
          exact ih v7 (w64 (l4 + z2)) (w64 (l6 + z4)) (w64 (l8 + z5)) (w32 (l10 + z3)) 0 (w32 (l12 + 1)) (cells + 10) (slots + 60) (by omega) (by omega)
        · refine g_aload_n F rfl 4 rfl dL_areKept_91 ?_
          refine g_iload F 8 rfl rfl dL_areKept_92 ?_
          refine g_bipush F rfl (by decide) dL_areKept_94 ?_
          refine g_callV F (by decide) (K := 7) (b := 0) [(0, l12), (0, 6)] [0, 0] ml_RL_24 wi_X7_ofParty ws_X7_ofParty (c_X7_ofParty 0 l12 6 (by decide)) mi_X7_ofParty (by decide) ⟨_, rfl, rfl⟩ (by decide) rfl rfl rfl (Nat.le_of_ble_eq_true rfl) (Nat.le_of_ble_eq_true rfl) (show (cells + 10) + 2 ≤ 1862 by omega) (show (slots + 60) + 12 ≤ 11184 by omega) (Nat.le_of_ble_eq_true rfl) dL_areKept_96 (fun z9 v9 hz9 => ?_)
          refine g_iload_n F rfl 6 rfl rfl dL_areKept_99 ?_
          refine g_icmp_gt F rfl rfl (tgt := 107) rfl dL_areKept_100 (fun n10 => ?_) (fun n10 => ?_)
          · refine g_iconst F 2 rfl dL_areKept_107 ?_
            refine g_istore F rfl (Nat.le_of_ble_eq_true rfl) (ls' := [(11, (2, 0)), (8, (1, (w64 (l8 + z5)))), (6, (1, (w64 (l6 + z4)))), (10, (0, (w32 (l10 + z3)))), (4, (1, (w64 (l4 + z2)))), (0, (17, 0)), (1, (1, l1)), (3, (0, 4)), (12, (0, l12))]) rfl dL_areKept_108 ?_
            refine g_iinc F 8 rfl rfl (Nat.le_of_ble_eq_true rfl) (ls' := [(12, (0, (w32 (l12 + 1)))), (11, (2, 0)), (8, (1, (w64 (l8 + z5)))), (6, (1, (w64 (l6 + z4)))), (10, (0, (w32 (l10 + z3)))), (4, (1, (w64 (l4 + z2)))), (0, (17, 0)), (1, (1, l1)), (3, (0, 4))]) rfl dL_areKept_110 ?_
            refine g_goto F (tgt := 18) rfl dL_areKept_113 ?_
            refine g_loc [(6, 17), (7, 1), (8, 0), (5, 1), (3, 1), (2, 1), (4, 0), (1, 0), (0, 0)] rfl ?_
            exact ih v9 (w64 (l4 + z2)) (w64 (l6 + z4)) (w64 (l8 + z5)) (w32 (l10 + z3)) 0 (w32 (l12 + 1)) (cells + 12) (slots + 72) (by omega) (by omega)
          · refine g_iconst F 2 rfl dL_areKept_103 ?_
            refine g_goto F (tgt := 108) rfl dL_areKept_104 ?_
            refine g_istore F rfl (Nat.le_of_ble_eq_true rfl) (ls' := [(11, (2, 1)), (8, (1, (w64 (l8 + z5)))), (6, (1, (w64 (l6 + z4)))), (10, (0, (w32 (l10 + z3)))), (4, (1, (w64 (l4 + z2)))), (0, (17, 0)), (1, (1, l1)), (3, (0, 4)), (12, (0, l12))]) rfl dL_areKept_108 ?_
            refine g_iinc F 8 rfl rfl (Nat.le_of_ble_eq_true rfl) (ls' := [(12, (0, (w32 (l12 + 1)))), (11, (2, 1)), (8, (1, (w64 (l8 + z5)))), (6, (1, (w64 (l6 + z4)))), (10, (0, (w32 (l10 + z3)))), (4, (1, (w64 (l4 + z2)))), (0, (17, 0)), (1, (1, l1)), (3, (0, 4))]) rfl dL_areKept_110 ?_
            refine g_goto F (tgt := 18) rfl dL_areKept_113 ?_
            refine g_loc [(6, 17), (7, 1), (8, 0), (5, 1), (3, 1), (2, 1), (4, 0), (1, 0), (0, 0)] rfl ?_
            exact ih v9 (w64 (l4 + z2)) (w64 (l6 + z4)) (w64 (l8 + z5)) (w32 (l10 + z3)) 1 (w32 (l12 + 1)) (cells + 12) (slots + 72) (by omega) (by omega)
def lp_L_areKept_4_134 (l1 l4 l6 l8 l10 : Int) (k : V → Int → Int → Int → Res) : Nat → V → Int → Int → Int → Res
  | 0, _, _, _, _ => none
  | n + 1, v, l11, l12, l15 => (rB (sp_L_does_28 l15 0 0 0 v) (fun z16 v16 => (if z16 < 0 then (k v16 l11 l12 l15)
   else (if l11 = 0 then (k v16 l11 l12 l15)
   else (rB (sp_X7_ofLot 0 l15 0 v16) (fun z19 v19 => (rB (sp_X7_ofLot 0 l15 2 v19) (fun z20 v20 => (chk (0 ≤ z19 ∧ z19 < 12) (rLet (up v20 17 0 z19 (w32 ((v20 17 0 z19) + z20))) (fun v22 => (if z20 ≤ 0 then (rLet (up v22 18 0 z19 (w32 ((v22 18 0 z19) + 0))) (fun v24 => (rB (sp_X7_ofLot 0 l15 3 v24) (fun z25 v25 => (rB (sp_X7_ofLot 0 l15 6 v25) (fun z26 v26 => (rB (sp_X7_ofLot 0 l15 8 v26) (fun z27 v27 => (if z20 < 0 then (lp_L_areKept_4_134 l1 l4 l6 l8 l10 k n v27 0 (w32 (l12 + z20)) (w32 (l15 + 1)))
   else (rB (sp_X7_ofLot 0 l15 5 v27) (fun z29 v29 => (if l15 ≤ z29 then (lp_L_areKept_4_134 l1 l4 l6 l8 l10 k n v29 0 (w32 (l12 + z20)) (w32 (l15 + 1)))
   else (if z26 < 0 then (if z27 ≤ 0 then (if z27 < 2 then (if z25 < 0 then (rB (sp_X7_ofLot 0 l15 4 v29) (fun z35 v35 => (if z35 < 0 then (rB (sp_X7_ofLot 0 l15 7 v35) (fun z37 v37 => (if z37 < 0 then (lp_L_areKept_4_134 l1 l4 l6 l8 l10 k n v37 0 (w32 (l12 + z20)) (w32 (l15 + 1)))
   else (lp_L_areKept_4_134 l1 l4 l6 l8 l10 k n v37 1 (w32 (l12 + z20)) (w32 (l15 + 1))))))
   else (lp_L_areKept_4_134 l1 l4 l6 l8 l10 k n v35 0 (w32 (l12 + z20)) (w32 (l15 + 1))))))
   else (rB (sp_X7_ofLoan 0 z25 5 v29) (fun z39 v39 => (if ¬ z39 = 0 then (lp_L_areKept_4_134 l1 l4 l6 l8 l10 k n v39 0 (w32 (l12 + z20)) (w32 (l15 + 1)))
   else (rB (sp_X7_ofLot 0 l15 4 v39) (fun z41 v41 => (if z41 < 0 then (rB (sp_X7_ofLot 0 l15 7 v41) (fun z43 v43 => (if z43 < 0 then (lp_L_areKept_4_134 l1 l4 l6 l8 l10 k n v43 0 (w32 (l12 + z20)) (w32 (l15 + 1)))
   else (lp_L_areKept_4_134 l1 l4 l6 l8 l10 k n v43 1 (w32 (l12 + z20)) (w32 (l15 + 1))))))
   else (lp_L_areKept_4_134 l1 l4 l6 l8 l10 k n v41 0 (w32 (l12 + z20)) (w32 (l15 + 1))))))))))
   else (rB (sp_X7_ofLot 0 l15 5 v29) (fun z45 v45 => (rB (sp_X7_ofLot 0 z45 8 v45) (fun z46 v46 => (if ¬ z46 = (w32 (z27 - 1)) then (lp_L_areKept_4_134 l1 l4 l6 l8 l10 k n v46 0 (w32 (l12 + z20)) (w32 (l15 + 1)))
   else (if z25 < 0 then (rB (sp_X7_ofLot 0 l15 4 v46) (fun z49 v49 => (if z49 < 0 then (rB (sp_X7_ofLot 0 l15 7 v49) (fun z51 v51 => (if z51 < 0 then (lp_L_areKept_4_134 l1 l4 l6 l8 l10 k n v51 0 (w32 (l12 + z20)) (w32 (l15 + 1)))
   else (lp_L_areKept_4_134 l1 l4 l6 l8 l10 k n v51 1 (w32 (l12 + z20)) (w32 (l15 + 1))))))
   else (lp_L_areKept_4_134 l1 l4 l6 l8 l10 k n v49 0 (w32 (l12 + z20)) (w32 (l15 + 1))))))
   else (rB (sp_X7_ofLoan 0 z25 5 v46) (fun z53 v53 => (if ¬ z53 = 0 then (lp_L_areKept_4_134 l1 l4 l6 l8 l10 k n v53 0 (w32 (l12 + z20)) (w32 (l15 + 1)))
   else (rB (sp_X7_ofLot 0 l15 4 v53) (fun z55 v55 => (if z55 < 0 then (rB (sp_X7_ofLot 0 l15 7 v55) (fun z57 v57 => (if z57 < 0 then (lp_L_areKept_4_134 l1 l4 l6 l8 l10 k n v57 0 (w32 (l12 + z20)) (w32 (l15 + 1)))
   else (lp_L_areKept_4_134 l1 l4 l6 l8 l10 k n v57 1 (w32 (l12 + z20)) (w32 (l15 + 1))))))
   else (lp_L_areKept_4_134 l1 l4 l6 l8 l10 k n v55 0 (w32 (l12 + z20)) (w32 (l15 + 1))))))))))))))))
   else (lp_L_areKept_4_134 l1 l4 l6 l8 l10 k n v29 0 (w32 (l12 + z20)) (w32 (l15 + 1))))
   else (if z27 ≤ 0 then (lp_L_areKept_4_134 l1 l4 l6 l8 l10 k n v29 0 (w32 (l12 + z20)) (w32 (l15 + 1)))
   else (if z27 < 2 then (if z25 < 0 then (rB (sp_X7_ofLot 0 l15 4 v29) (fun z62 v62 => (if z62 < 0 then (rB (sp_X7_ofLot 0 l15 7 v62) (fun z64 v64 => (if z64 < 0 then (lp_L_areKept_4_134 l1 l4 l6 l8 l10 k n v64 0 (w32 (l12 + z20)) (w32 (l15 + 1)))
   else (lp_L_areKept_4_134 l1 l4 l6 l8 l10 k n v64 1 (w32 (l12 + z20)) (w32 (l15 + 1))))))
   else (lp_L_areKept_4_134 l1 l4 l6 l8 l10 k n v62 0 (w32 (l12 + z20)) (w32 (l15 + 1))))))
   else (rB (sp_X7_ofLoan 0 z25 5 v29) (fun z66 v66 => (if ¬ z66 = 0 then (lp_L_areKept_4_134 l1 l4 l6 l8 l10 k n v66 0 (w32 (l12 + z20)) (w32 (l15 + 1)))
   else (rB (sp_X7_ofLot 0 l15 4 v66) (fun z68 v68 => (if z68 < 0 then (rB (sp_X7_ofLot 0 l15 7 v68) (fun z70 v70 => (if z70 < 0 then (lp_L_areKept_4_134 l1 l4 l6 l8 l10 k n v70 0 (w32 (l12 + z20)) (w32 (l15 + 1)))
   else (lp_L_areKept_4_134 l1 l4 l6 l8 l10 k n v70 1 (w32 (l12 + z20)) (w32 (l15 + 1))))))
   else (lp_L_areKept_4_134 l1 l4 l6 l8 l10 k n v68 0 (w32 (l12 + z20)) (w32 (l15 + 1))))))))))
   else (rB (sp_X7_ofLot 0 l15 5 v29) (fun z72 v72 => (rB (sp_X7_ofLot 0 z72 8 v72) (fun z73 v73 => (if ¬ z73 = (w32 (z27 - 1)) then (lp_L_areKept_4_134 l1 l4 l6 l8 l10 k n v73 0 (w32 (l12 + z20)) (w32 (l15 + 1)))
   else (if z25 < 0 then (rB (sp_X7_ofLot 0 l15 4 v73) (fun z76 v76 => (if z76 < 0 then (rB (sp_X7_ofLot 0 l15 7 v76) (fun z78 v78 => (if z78 < 0 then (lp_L_areKept_4_134 l1 l4 l6 l8 l10 k n v78 0 (w32 (l12 + z20)) (w32 (l15 + 1)))
   else (lp_L_areKept_4_134 l1 l4 l6 l8 l10 k n v78 1 (w32 (l12 + z20)) (w32 (l15 + 1))))))
   else (lp_L_areKept_4_134 l1 l4 l6 l8 l10 k n v76 0 (w32 (l12 + z20)) (w32 (l15 + 1))))))
   else (rB (sp_X7_ofLoan 0 z25 5 v73) (fun z80 v80 => (if ¬ z80 = 0 then (lp_L_areKept_4_134 l1 l4 l6 l8 l10 k n v80 0 (w32 (l12 + z20)) (w32 (l15 + 1)))
   else (rB (sp_X7_ofLot 0 l15 4 v80) (fun z82 v82 => (if z82 < 0 then (rB (sp_X7_ofLot 0 l15 7 v82) (fun z84 v84 => (if z84 < 0 then (lp_L_areKept_4_134 l1 l4 l6 l8 l10 k n v84 0 (w32 (l12 + z20)) (w32 (l15 + 1)))
   else (lp_L_areKept_4_134 l1 l4 l6 l8 l10 k n v84 1 (w32 (l12 + z20)) (w32 (l15 + 1))))))
   else (lp_L_areKept_4_134 l1 l4 l6 l8 l10 k n v82 0 (w32 (l12 + z20)) (w32 (l15 + 1))))))))))))))))))))))))))))))
   else (rLet (up v22 18 0 z19 (w32 ((v22 18 0 z19) + 1))) (fun v86 => (rB (sp_X7_ofLot 0 l15 3 v86) (fun z87 v87 => (rB (sp_X7_ofLot 0 l15 6 v87) (fun z88 v88 => (rB (sp_X7_ofLot 0 l15 8 v88) (fun z89 v89 => (if z20 < 0 then (lp_L_areKept_4_134 l1 l4 l6 l8 l10 k n v89 0 (w32 (l12 + z20)) (w32 (l15 + 1)))
   else (rB (sp_X7_ofLot 0 l15 5 v89) (fun z91 v91 => (if l15 ≤ z91 then (lp_L_areKept_4_134 l1 l4 l6 l8 l10 k n v91 0 (w32 (l12 + z20)) (w32 (l15 + 1)))
   else (if z88 < 0 then (if z89 ≤ 0 then (if z89 < 2 then (if z87 < 0 then (rB (sp_X7_ofLot 0 l15 4 v91) (fun z97 v97 => (if z97 < 0 then (rB (sp_X7_ofLot 0 l15 7 v97) (fun z99 v99 => (if z99 < 0 then (lp_L_areKept_4_134 l1 l4 l6 l8 l10 k n v99 0 (w32 (l12 + z20)) (w32 (l15 + 1)))
   else (lp_L_areKept_4_134 l1 l4 l6 l8 l10 k n v99 1 (w32 (l12 + z20)) (w32 (l15 + 1))))))
   else (rB (sp_X7_ofLot 0 l15 4 v97) (fun z101 v101 => (rB (sp_X7_ofLot 0 l15 1 v101) (fun z102 v102 => (if z101 = z102 then (lp_L_areKept_4_134 l1 l4 l6 l8 l10 k n v102 0 (w32 (l12 + z20)) (w32 (l15 + 1)))
   else (rB (sp_X7_ofLot 0 l15 7 v102) (fun z104 v104 => (if z104 < 0 then (lp_L_areKept_4_134 l1 l4 l6 l8 l10 k n v104 0 (w32 (l12 + z20)) (w32 (l15 + 1)))
   else (lp_L_areKept_4_134 l1 l4 l6 l8 l10 k n v104 1 (w32 (l12 + z20)) (w32 (l15 + 1))))))))))))))
   else (rB (sp_X7_ofLoan 0 z87 5 v91) (fun z106 v106 => (if ¬ z106 = 0 then (lp_L_areKept_4_134 l1 l4 l6 l8 l10 k n v106 0 (w32 (l12 + z20)) (w32 (l15 + 1)))
   else (rB (sp_X7_ofLot 0 l15 4 v106) (fun z108 v108 => (if z108 < 0 then (rB (sp_X7_ofLot 0 l15 7 v108) (fun z110 v110 => (if z110 < 0 then (lp_L_areKept_4_134 l1 l4 l6 l8 l10 k n v110 0 (w32 (l12 + z20)) (w32 (l15 + 1)))
   else (lp_L_areKept_4_134 l1 l4 l6 l8 l10 k n v110 1 (w32 (l12 + z20)) (w32 (l15 + 1))))))
   else (rB (sp_X7_ofLot 0 l15 4 v108) (fun z112 v112 => (rB (sp_X7_ofLot 0 l15 1 v112) (fun z113 v113 => (if z112 = z113 then (lp_L_areKept_4_134 l1 l4 l6 l8 l10 k n v113 0 (w32 (l12 + z20)) (w32 (l15 + 1)))
   else (rB (sp_X7_ofLot 0 l15 7 v113) (fun z115 v115 => (if z115 < 0 then (lp_L_areKept_4_134 l1 l4 l6 l8 l10 k n v115 0 (w32 (l12 + z20)) (w32 (l15 + 1)))
   else (lp_L_areKept_4_134 l1 l4 l6 l8 l10 k n v115 1 (w32 (l12 + z20)) (w32 (l15 + 1))))))))))))))))))
   else (rB (sp_X7_ofLot 0 l15 5 v91) (fun z117 v117 => (rB (sp_X7_ofLot 0 z117 8 v117) (fun z118 v118 => (if ¬ z118 = (w32 (z89 - 1)) then (lp_L_areKept_4_134 l1 l4 l6 l8 l10 k n v118 0 (w32 (l12 + z20)) (w32 (l15 + 1)))
   else (if z87 < 0 then (rB (sp_X7_ofLot 0 l15 4 v118) (fun z121 v121 => (if z121 < 0 then (rB (sp_X7_ofLot 0 l15 7 v121) (fun z123 v123 => (if z123 < 0 then (lp_L_areKept_4_134 l1 l4 l6 l8 l10 k n v123 0 (w32 (l12 + z20)) (w32 (l15 + 1)))
   else (lp_L_areKept_4_134 l1 l4 l6 l8 l10 k n v123 1 (w32 (l12 + z20)) (w32 (l15 + 1))))))
   else (rB (sp_X7_ofLot 0 l15 4 v121) (fun z125 v125 => (rB (sp_X7_ofLot 0 l15 1 v125) (fun z126 v126 => (if z125 = z126 then (lp_L_areKept_4_134 l1 l4 l6 l8 l10 k n v126 0 (w32 (l12 + z20)) (w32 (l15 + 1)))
   else (rB (sp_X7_ofLot 0 l15 7 v126) (fun z128 v128 => (if z128 < 0 then (lp_L_areKept_4_134 l1 l4 l6 l8 l10 k n v128 0 (w32 (l12 + z20)) (w32 (l15 + 1)))
   else (lp_L_areKept_4_134 l1 l4 l6 l8 l10 k n v128 1 (w32 (l12 + z20)) (w32 (l15 + 1))))))))))))))
   else (rB (sp_X7_ofLoan 0 z87 5 v118) (fun z130 v130 => (if ¬ z130 = 0 then (lp_L_areKept_4_134 l1 l4 l6 l8 l10 k n v130 0 (w32 (l12 + z20)) (w32 (l15 + 1)))
   else (rB (sp_X7_ofLot 0 l15 4 v130) (fun z132 v132 => (if z132 < 0 then (rB (sp_X7_ofLot 0 l15 7 v132) (fun z134 v134 => (if z134 < 0 then (lp_L_areKept_4_134 l1 l4 l6 l8 l10 k n v134 0 (w32 (l12 + z20)) (w32 (l15 + 1)))
   else (lp_L_areKept_4_134 l1 l4 l6 l8 l10 k n v134 1 (w32 (l12 + z20)) (w32 (l15 + 1))))))
   else (rB (sp_X7_ofLot 0 l15 4 v132) (fun z136 v136 => (rB (sp_X7_ofLot 0 l15 1 v136) (fun z137 v137 => (if z136 = z137 then (lp_L_areKept_4_134 l1 l4 l6 l8 l10 k n v137 0 (w32 (l12 + z20)) (w32 (l15 + 1)))
   else (rB (sp_X7_ofLot 0 l15 7 v137) (fun z139 v139 => (if z139 < 0 then (lp_L_areKept_4_134 l1 l4 l6 l8 l10 k n v139 0 (w32 (l12 + z20)) (w32 (l15 + 1)))
   else (lp_L_areKept_4_134 l1 l4 l6 l8 l10 k n v139 1 (w32 (l12 + z20)) (w32 (l15 + 1))))))))))))))))))))))))
   else (lp_L_areKept_4_134 l1 l4 l6 l8 l10 k n v91 0 (w32 (l12 + z20)) (w32 (l15 + 1))))
   else (if z89 ≤ 0 then (lp_L_areKept_4_134 l1 l4 l6 l8 l10 k n v91 0 (w32 (l12 + z20)) (w32 (l15 + 1)))
   else (if z89 < 2 then (if z87 < 0 then (rB (sp_X7_ofLot 0 l15 4 v91) (fun z144 v144 => (if z144 < 0 then (rB (sp_X7_ofLot 0 l15 7 v144) (fun z146 v146 => (if z146 < 0 then (lp_L_areKept_4_134 l1 l4 l6 l8 l10 k n v146 0 (w32 (l12 + z20)) (w32 (l15 + 1)))
   else (lp_L_areKept_4_134 l1 l4 l6 l8 l10 k n v146 1 (w32 (l12 + z20)) (w32 (l15 + 1))))))
   else (rB (sp_X7_ofLot 0 l15 4 v144) (fun z148 v148 => (rB (sp_X7_ofLot 0 l15 1 v148) (fun z149 v149 => (if z148 = z149 then (lp_L_areKept_4_134 l1 l4 l6 l8 l10 k n v149 0 (w32 (l12 + z20)) (w32 (l15 + 1)))
   else (rB (sp_X7_ofLot 0 l15 7 v149) (fun z151 v151 => (if z151 < 0 then (lp_L_areKept_4_134 l1 l4 l6 l8 l10 k n v151 0 (w32 (l12 + z20)) (w32 (l15 + 1)))
   else (lp_L_areKept_4_134 l1 l4 l6 l8 l10 k n v151 1 (w32 (l12 + z20)) (w32 (l15 + 1))))))))))))))
   else (rB (sp_X7_ofLoan 0 z87 5 v91) (fun z153 v153 => (if ¬ z153 = 0 then (lp_L_areKept_4_134 l1 l4 l6 l8 l10 k n v153 0 (w32 (l12 + z20)) (w32 (l15 + 1)))
   else (rB (sp_X7_ofLot 0 l15 4 v153) (fun z155 v155 => (if z155 < 0 then (rB (sp_X7_ofLot 0 l15 7 v155) (fun z157 v157 => (if z157 < 0 then (lp_L_areKept_4_134 l1 l4 l6 l8 l10 k n v157 0 (w32 (l12 + z20)) (w32 (l15 + 1)))
   else (lp_L_areKept_4_134 l1 l4 l6 l8 l10 k n v157 1 (w32 (l12 + z20)) (w32 (l15 + 1))))))
   else (rB (sp_X7_ofLot 0 l15 4 v155) (fun z159 v159 => (rB (sp_X7_ofLot 0 l15 1 v159) (fun z160 v160 => (if z159 = z160 then (lp_L_areKept_4_134 l1 l4 l6 l8 l10 k n v160 0 (w32 (l12 + z20)) (w32 (l15 + 1)))
   else (rB (sp_X7_ofLot 0 l15 7 v160) (fun z162 v162 => (if z162 < 0 then (lp_L_areKept_4_134 l1 l4 l6 l8 l10 k n v162 0 (w32 (l12 + z20)) (w32 (l15 + 1)))
   else (lp_L_areKept_4_134 l1 l4 l6 l8 l10 k n v162 1 (w32 (l12 + z20)) (w32 (l15 + 1))))))))))))))))))
   else (rB (sp_X7_ofLot 0 l15 5 v91) (fun z164 v164 => (rB (sp_X7_ofLot 0 z164 8 v164) (fun z165 v165 => (if ¬ z165 = (w32 (z89 - 1)) then (lp_L_areKept_4_134 l1 l4 l6 l8 l10 k n v165 0 (w32 (l12 + z20)) (w32 (l15 + 1)))
   else (if z87 < 0 then (rB (sp_X7_ofLot 0 l15 4 v165) (fun z168 v168 => (if z168 < 0 then (rB (sp_X7_ofLot 0 l15 7 v168) (fun z170 v170 => (if z170 < 0 then (lp_L_areKept_4_134 l1 l4 l6 l8 l10 k n v170 0 (w32 (l12 + z20)) (w32 (l15 + 1)))
   else (lp_L_areKept_4_134 l1 l4 l6 l8 l10 k n v170 1 (w32 (l12 + z20)) (w32 (l15 + 1))))))
   else (rB (sp_X7_ofLot 0 l15 4 v168) (fun z172 v172 => (rB (sp_X7_ofLot 0 l15 1 v172) (fun z173 v173 => (if z172 = z173 then (lp_L_areKept_4_134 l1 l4 l6 l8 l10 k n v173 0 (w32 (l12 + z20)) (w32 (l15 + 1)))
   else (rB (sp_X7_ofLot 0 l15 7 v173) (fun z175 v175 => (if z175 < 0 then (lp_L_areKept_4_134 l1 l4 l6 l8 l10 k n v175 0 (w32 (l12 + z20)) (w32 (l15 + 1)))
   else (lp_L_areKept_4_134 l1 l4 l6 l8 l10 k n v175 1 (w32 (l12 + z20)) (w32 (l15 + 1))))))))))))))
   else (rB (sp_X7_ofLoan 0 z87 5 v165) (fun z177 v177 => (if ¬ z177 = 0 then (lp_L_areKept_4_134 l1 l4 l6 l8 l10 k n v177 0 (w32 (l12 + z20)) (w32 (l15 + 1)))
   else (rB (sp_X7_ofLot 0 l15 4 v177) (fun z179 v179 => (if z179 < 0 then (rB (sp_X7_ofLot 0 l15 7 v179) (fun z181 v181 => (if z181 < 0 then (lp_L_areKept_4_134 l1 l4 l6 l8 l10 k n v181 0 (w32 (l12 + z20)) (w32 (l15 + 1)))
   else (lp_L_areKept_4_134 l1 l4 l6 l8 l10 k n v181 1 (w32 (l12 + z20)) (w32 (l15 + 1))))))
   else (rB (sp_X7_ofLot 0 l15 4 v179) (fun z183 v183 => (rB (sp_X7_ofLot 0 l15 1 v183) (fun z184 v184 => (if z183 = z184 then (lp_L_areKept_4_134 l1 l4 l6 l8 l10 k n v184 0 (w32 (l12 + z20)) (w32 (l15 + 1)))
   else (rB (sp_X7_ofLot 0 l15 7 v184) (fun z186 v186 => (if z186 < 0 then (lp_L_areKept_4_134 l1 l4 l6 l8 l10 k n v186 0 (w32 (l12 + z20)) (w32 (l15 + 1)))
   else (lp_L_areKept_4_134 l1 l4 l6 l8 l10 k n v186 1 (w32 (l12 + z20)) (w32 (l15 + 1))))))))))))))))))))))))))))))))))))))))))))))))))
set_option maxRecDepth 100000 in
set_option maxHeartbeats 4000000 in
theorem kl_L_areKept_4_134 {l1 l4 l6 l8 l10 : Int} {x : Cx} (F : Fx x cL_areKept RL "areKept" ({ frames := 9, cells := 1862, slots := 11184, locals := 153 }) 21 (some 2) (some .boolean) 0) {k : V → Int → Int → Int → Res} (c9 s9 : Nat) (hC : c9 ≤ 1862) (hS : s9 ≤ 11184) (hk : ∀ (v : V) (l11 l12 l15 : Int), Gs x (k v l11 l12 l15) v c9 s9 372 [(0, (17, 0)), (1, (1, l1)), (3, (0, 4)), (4, (1, l4)), (6, (1, l6)), (8, (1, l8)), (10, (0, l10)), (11, (0, l11)), (12, (0, l12)), (13, (27, 0)), (14, (28, 0)), (15, (0, l15))] []) : ∀ (n : Nat) (v : V) (l11 l12 l15 : Int) (cells slots : Nat), cells + n * 28 ≤ c9 → slots + n * 168 ≤ s9 → Gs x (lp_L_areKept_4_134 l1 l4 l6 l8 l10 k n v l11 l12 l15) v cells slots 134 [(0, (17, 0)), (1, (1, l1)), (3, (0, 4)), (4, (1, l4)), (6, (1, l6)), (8, (1, l8)), (10, (0, l10)), (11, (0, l11)), (12, (0, l12)), (13, (27, 0)), (14, (28, 0)), (15, (0, l15))] [] := by
  intro n
  induction n with
  | zero => intro v l11 l12 l15 cells slots _ _; exact g_none
  | succ n ih =>
    intro v l11 l12 l15 cells slots hc hs
    rw [lp_L_areKept_4_134]
    refine g_aload_n F rfl 0 rfl dL_areKept_134 ?_
    refine g_bipush F rfl (by decide) dL_areKept_135 ?_
    refine g_iload F 11 rfl rfl dL_areKept_137 ?_
    refine g_iconst F 2 rfl dL_areKept_139 ?_
    refine g_iconst F 2 rfl dL_areKept_140 ?_
    refine g_iconst F 2 rfl dL_areKept_141 ?_
    refine g_callSX F (by decide) [(17, 0), (0, 28), (0, l15), (2, 0), (2, 0), (2, 0)] [17, 0, 0, 0, 0, 0] ml_RL_155 wt_L_does (c_L_does_28 l15 0 0 0) mw_L_does rfl rfl rfl (Nat.le_of_ble_eq_true rfl) (Nat.le_of_ble_eq_true rfl) (show cells + 2 ≤ 1862 by omega) (show slots + 12 ≤ 11184 by omega) (Nat.le_of_ble_eq_true rfl) dL_areKept_142 (fun z16 v16 hz16 => ?_)
    refine g_if_lt F rfl (tgt := 372) rfl dL_areKept_145 (fun n17 => ?_) (fun n17 => ?_)
    · refine g_loc [(0, 17), (1, 1), (2, 0), (3, 1), (4, 1), (5, 1), (6, 0), (7, 0), (8, 0), (9, 27), (10, 28), (11, 0)] rfl ?_
      refine g_wide (c2 := c9) (s2 := s9) (show (cells + 2) ≤ c9 by omega) (show (slots + 12) ≤ s9 by omega) ?_
      exact hk v16 l11 l12 l15
    · refine g_iload F 7 rfl rfl dL_areKept_148 ?_
      refine g_if_eq F rfl (tgt := 372) rfl dL_areKept_150 (fun n18 => ?_) (fun n18 => ?_)
      · refine g_loc [(0, 17), (1, 1), (2, 0), (3, 1), (4, 1), (5, 1), (6, 0), (7, 0), (8, 0), (9, 27), (10, 28), (11, 0)] rfl ?_
        refine g_wide (c2 := c9) (s2 := s9) (show (cells + 2) ≤ c9 by omega) (show (slots + 12) ≤ s9 by omega) ?_
        exact hk v16 l11 l12 l15
      · refine g_aload_n F rfl 0 rfl dL_areKept_153 ?_
        refine g_iload F 11 rfl rfl dL_areKept_154 ?_
        refine g_iconst F 2 rfl dL_areKept_156 ?_
        refine g_callV F (by decide) (K := 7) (b := 0) [(0, l15), (2, 0)] [0, 0] ml_RL_30 wi_X7_ofLot ws_X7_ofLot (c_X7_ofLot 0 l15 0 (by decide)) mi_X7_ofLot (by decide) ⟨_, rfl, rfl⟩ (by decide) rfl rfl rfl (Nat.le_of_ble_eq_true rfl) (Nat.le_of_ble_eq_true rfl) (show (cells + 2) + 2 ≤ 1862 by omega) (show (slots + 12) + 12 ≤ 11184 by omega) (Nat.le_of_ble_eq_true rfl) dL_areKept_157 (fun z19 v19 hz19 => ?_)
        refine g_istore F rfl (Nat.le_of_ble_eq_true rfl) (ls' := [(16, (0, z19)), (0, (17, 0)), (1, (1, l1)), (3, (0, 4)), (4, (1, l4)), (6, (1, l6)), (8, (1, l8)), (10, (0, l10)), (11, (0, l11)), (12, (0, l12)), (13, (27, 0)), (14, (28, 0)), (15, (0, l15))]) rfl dL_areKept_160 ?_
        refine g_aload_n F rfl 1 rfl dL_areKept_162 ?_
        refine g_iload F 12 rfl rfl dL_areKept_163 ?_
        refine g_iconst F 0 rfl dL_areKept_165 ?_
        refine g_callV F (by decide) (K := 7) (b := 0) [(0, l15), (0, 2)] [0, 0] ml_RL_30 wi_X7_ofLot ws_X7_ofLot (c_X7_ofLot 0 l15 2 (by decide)) mi_X7_ofLot (by decide) ⟨_, rfl, rfl⟩ (by decide) rfl rfl rfl (Nat.le_of_ble_eq_true rfl) (Nat.le_of_ble_eq_true rfl) (show (cells + 4) + 2 ≤ 1862 by omega) (show (slots + 24) + 12 ≤ 11184 by omega) (Nat.le_of_ble_eq_true rfl) dL_areKept_166 (fun z20 v20 hz20 => ?_)
        refine g_istore F rfl (Nat.le_of_ble_eq_true rfl) (ls' := [(17, (0, z20)), (16, (0, z19)), (0, (17, 0)), (1, (1, l1)), (3, (0, 4)), (4, (1, l4)), (6, (1, l6)), (8, (1, l8)), (10, (0, l10)), (11, (0, l11)), (12, (0, l12)), (13, (27, 0)), (14, (28, 0)), (15, (0, l15))]) rfl dL_areKept_169 ?_
        refine g_aload F 11 rfl dL_areKept_171 ?_
        refine g_iload F 1 rfl rfl dL_areKept_173 ?_
        refine g_dup2 F rfl rfl dL_areKept_175 ?_
        refine g_chk (fun n21 => ?_)
        refine h_iald F (n := 12) ak_17 (by decide) n21 rfl dL_areKept_176 ?_
        refine g_iload F 0 rfl rfl dL_areKept_177 ?_
        refine g_iadd F rfl rfl dL_areKept_179 ?_
        refine h_iast F (n := 12) ak_17 rfl (by decide) n21 rfl dL_areKept_180 (fun v22 => ?_)
        refine g_aload F 12 rfl dL_areKept_181 ?_
        refine g_iload F 1 rfl rfl dL_areKept_183 ?_
        refine g_dup2 F rfl rfl dL_areKept_185 ?_
        refine h_iald F (n := 12) ak_18 (by decide) n21 rfl dL_areKept_186 ?_
        refine g_iload F 0 rfl rfl dL_areKept_187 ?_
        refine g_if_le F rfl (tgt := 196) rfl dL_areKept_189 (fun n23 => ?_) (fun n23 => ?_)
        · refine g_iconst F 2 rfl dL_areKept_196 ?_
          refine g_iadd F rfl rfl dL_areKept_197 ?_
          refine h_iast F (n := 12) ak_18 rfl (by decide) n21 rfl dL_areKept_198 (fun v24 => ?_)
          refine g_iload F 10 rfl rfl dL_areKept_199 ?_
          refine g_iload F 0 rfl rfl dL_areKept_201 ?_
          refine g_iadd F rfl rfl dL_areKept_203 ?_
          refine g_istore F rfl (Nat.le_of_ble_eq_true rfl) (ls' := [(12, (0, (w32 (l12 + z20)))), (17, (0, z20)), (16, (0, z19)), (0, (17, 0)), (1, (1, l1)), (3, (0, 4)), (4, (1, l4)), (6, (1, l6)), (8, (1, l8)), (10, (0, l10)), (11, (0, l11)), (13, (27, 0)), (14, (28, 0)), (15, (0, l15))]) rfl dL_areKept_204 ?_
          refine g_aload_n F rfl 3 rfl dL_areKept_206 ?_
          refine g_iload F 13 rfl rfl dL_areKept_207 ?_
          refine g_iconst F 0 rfl dL_areKept_209 ?_
          refine g_callV F (by decide) (K := 7) (b := 0) [(0, l15), (0, 3)] [0, 0] ml_RL_30 wi_X7_ofLot ws_X7_ofLot (c_X7_ofLot 0 l15 3 (by decide)) mi_X7_ofLot (by decide) ⟨_, rfl, rfl⟩ (by decide) rfl rfl rfl (Nat.le_of_ble_eq_true rfl) (Nat.le_of_ble_eq_true rfl) (show (cells + 6) + 2 ≤ 1862 by omega) (show (slots + 36) + 12 ≤ 11184 by omega) (Nat.le_of_ble_eq_true rfl) dL_areKept_210 (fun z25 v25 hz25 => ?_)
          refine g_istore F rfl (Nat.le_of_ble_eq_true rfl) (ls' := [(18, (0, z25)), (12, (0, (w32 (l12 + z20)))), (17, (0, z20)), (16, (0, z19)), (0, (17, 0)), (1, (1, l1)), (3, (0, 4)), (4, (1, l4)), (6, (1, l6)), (8, (1, l8)), (10, (0, l10)), (11, (0, l11)), (13, (27, 0)), (14, (28, 0)), (15, (0, l15))]) rfl dL_areKept_213 ?_
          refine g_aload_n F rfl 4 rfl dL_areKept_215 ?_
          refine g_iload F 14 rfl rfl dL_areKept_216 ?_
          refine g_bipush F rfl (by decide) dL_areKept_218 ?_
          refine g_callV F (by decide) (K := 7) (b := 0) [(0, l15), (0, 6)] [0, 0] ml_RL_30 wi_X7_ofLot ws_X7_ofLot (c_X7_ofLot 0 l15 6 (by decide)) mi_X7_ofLot (by decide) ⟨_, rfl, rfl⟩ (by decide) rfl rfl rfl (Nat.le_of_ble_eq_true rfl) (Nat.le_of_ble_eq_true rfl) (show (cells + 8) + 2 ≤ 1862 by omega) (show (slots + 48) + 12 ≤ 11184 by omega) (Nat.le_of_ble_eq_true rfl) dL_areKept_220 (fun z26 v26 hz26 => ?_)
          refine g_istore F rfl (Nat.le_of_ble_eq_true rfl) (ls' := [(19, (0, z26)), (18, (0, z25)), (12, (0, (w32 (l12 + z20)))), (17, (0, z20)), (16, (0, z19)), (0, (17, 0)), (1, (1, l1)), (3, (0, 4)), (4, (1, l4)), (6, (1, l6)), (8, (1, l8)), (10, (0, l10)), (11, (0, l11)), (13, (27, 0)), (14, (28, 0)), (15, (0, l15))]) rfl dL_areKept_223 ?_
          refine g_aload_n F rfl 5 rfl dL_areKept_225 ?_
          refine g_iload F 15 rfl rfl dL_areKept_226 ?_
          refine g_bipush F rfl (by decide) dL_areKept_228 ?_
          refine g_callV F (by decide) (K := 7) (b := 0) [(0, l15), (0, 8)] [0, 0] ml_RL_30 wi_X7_ofLot ws_X7_ofLot (c_X7_ofLot 0 l15 8 (by decide)) mi_X7_ofLot (by decide) ⟨_, rfl, rfl⟩ (by decide) rfl rfl rfl (Nat.le_of_ble_eq_true rfl) (Nat.le_of_ble_eq_true rfl) (show (cells + 10) + 2 ≤ 1862 by omega) (show (slots + 60) + 12 ≤ 11184 by omega) (Nat.le_of_ble_eq_true rfl) dL_areKept_230 (fun z27 v27 hz27 => ?_)
          refine g_istore F rfl (Nat.le_of_ble_eq_true rfl) (ls' := [(20, (0, z27)), (19, (0, z26)), (18, (0, z25)), (12, (0, (w32 (l12 + z20)))), (17, (0, z20)), (16, (0, z19)), (0, (17, 0)), (1, (1, l1)), (3, (0, 4)), (4, (1, l4)), (6, (1, l6)), (8, (1, l8)), (10, (0, l10)), (11, (0, l11)), (13, (27, 0)), (14, (28, 0)), (15, (0, l15))]) rfl dL_areKept_233 ?_
          refine g_iload F 4 rfl rfl dL_areKept_235 ?_
          refine g_if_lt F rfl (tgt := 363) rfl dL_areKept_237 (fun n28 => ?_) (fun n28 => ?_)
          · refine g_iconst F 2 rfl dL_areKept_363 ?_
            refine g_istore F rfl (Nat.le_of_ble_eq_true rfl) (ls' := [(11, (2, 0)), (20, (0, z27)), (19, (0, z26)), (18, (0, z25)), (12, (0, (w32 (l12 + z20)))), (17, (0, z20)), (16, (0, z19)), (0, (17, 0)), (1, (1, l1)), (3, (0, 4)), (4, (1, l4)), (6, (1, l6)), (8, (1, l8)), (10, (0, l10)), (13, (27, 0)), (14, (28, 0)), (15, (0, l15))]) rfl dL_areKept_364 ?_
            refine g_iinc F 16 rfl rfl (Nat.le_of_ble_eq_true rfl) (ls' := [(15, (0, (w32 (l15 + 1)))), (11, (2, 0)), (20, (0, z27)), (19, (0, z26)), (18, (0, z25)), (12, (0, (w32 (l12 + z20)))), (17, (0, z20)), (16, (0, z19)), (0, (17, 0)), (1, (1, l1)), (3, (0, 4)), (4, (1, l4)), (6, (1, l6)), (8, (1, l8)), (10, (0, l10)), (13, (27, 0)), (14, (28, 0))]) rfl dL_areKept_366 ?_
            refine g_goto F (tgt := 134) rfl dL_areKept_369 ?_
            refine g_loc [(8, 17), (9, 1), (10, 0), (11, 1), (12, 1), (13, 1), (14, 0), (1, 0), (5, 0), (15, 27), (16, 28), (0, 0)] rfl ?_
            exact ih v27 0 (w32 (l12 + z20)) (w32 (l15 + 1)) (cells + 12) (slots + 72) (by omega) (by omega)
          · refine g_aload_n F rfl 6 rfl dL_areKept_240 ?_
            refine g_iload F 16 rfl rfl dL_areKept_241 ?_
            refine g_iconst F 0 rfl dL_areKept_243 ?_
            refine g_callV F (by decide) (K := 7) (b := 0) [(0, l15), (0, 5)] [0, 0] ml_RL_30 wi_X7_ofLot ws_X7_ofLot (c_X7_ofLot 0 l15 5 (by decide)) mi_X7_ofLot (by decide) ⟨_, rfl, rfl⟩ (by decide) rfl rfl rfl (Nat.le_of_ble_eq_true rfl) (Nat.le_of_ble_eq_true rfl) (show (cells + 12) + 2 ≤ 1862 by omega) (show (slots + 72) + 12 ≤ 11184 by omega) (Nat.le_of_ble_eq_true rfl) dL_areKept_244 (fun z29 v29 hz29 => ?_)
            refine g_iload F 16 rfl rfl dL_areKept_247 ?_
            refine g_icmp_ge F rfl rfl (tgt := 363) rfl dL_areKept_249 (fun n30 => ?_) (fun n30 => ?_)
            · refine g_iconst F 2 rfl dL_areKept_363 ?_
              refine g_istore F rfl (Nat.le_of_ble_eq_true rfl) (ls' := [(11, (2, 0)), (20, (0, z27)), (19, (0, z26)), (18, (0, z25)), (12, (0, (w32 (l12 + z20)))), (17, (0, z20)), (16, (0, z19)), (0, (17, 0)), (1, (1, l1)), (3, (0, 4)), (4, (1, l4)), (6, (1, l6)), (8, (1, l8)), (10, (0, l10)), (13, (27, 0)), (14, (28, 0)), (15, (0, l15))]) rfl dL_areKept_364 ?_
              refine g_iinc F 16 rfl rfl (Nat.le_of_ble_eq_true rfl) (ls' := [(15, (0, (w32 (l15 + 1)))), (11, (2, 0)), (20, (0, z27)), (19, (0, z26)), (18, (0, z25)), (12, (0, (w32 (l12 + z20)))), (17, (0, z20)), (16, (0, z19)), (0, (17, 0)), (1, (1, l1)), (3, (0, 4)), (4, (1, l4)), (6, (1, l6)), (8, (1, l8)), (10, (0, l10)), (13, (27, 0)), (14, (28, 0))]) rfl dL_areKept_366 ?_
              refine g_goto F (tgt := 134) rfl dL_areKept_369 ?_
              refine g_loc [(8, 17), (9, 1), (10, 0), (11, 1), (12, 1), (13, 1), (14, 0), (1, 0), (5, 0), (15, 27), (16, 28), (0, 0)] rfl ?_
              exact ih v29 0 (w32 (l12 + z20)) (w32 (l15 + 1)) (cells + 14) (slots + 84) (by omega) (by omega)
            · refine g_iload F 1 rfl rfl dL_areKept_252 ?_
              refine g_if_lt F rfl (tgt := 261) rfl dL_areKept_254 (fun n31 => ?_) (fun n31 => ?_)
              · refine g_iconst F 2 rfl dL_areKept_261 ?_
                refine g_iload F 0 rfl rfl dL_areKept_262 ?_
                refine g_if_le F rfl (tgt := 271) rfl dL_areKept_264 (fun n32 => ?_) (fun n32 => ?_)
                · refine g_iconst F 2 rfl dL_areKept_271 ?_
                  refine g_icmp_ne_f F rfl rfl (by decide) (tgt := 363) rfl dL_areKept_272 ?_
                  refine g_iload F 0 rfl rfl dL_areKept_275 ?_
                  refine g_iconst F 0 rfl dL_areKept_277 ?_
                  refine g_icmp_lt F rfl rfl (tgt := 301) rfl dL_areKept_278 (fun n33 => ?_) (fun n33 => ?_)
                  · refine g_iload F 2 rfl rfl dL_areKept_301 ?_
                    refine g_if_lt F rfl (tgt := 316) rfl dL_areKept_303 (fun n34 => ?_) (fun n34 => ?_)
                    · refine g_aload_n F rfl 6 rfl dL_areKept_316 ?_
                      refine g_iload F 16 rfl rfl dL_areKept_317 ?_
                      refine g_iconst F 0 rfl dL_areKept_319 ?_
                      refine g_callV F (by decide) (K := 7) (b := 0) [(0, l15), (0, 4)] [0, 0] ml_RL_30 wi_X7_ofLot ws_X7_ofLot (c_X7_ofLot 0 l15 4 (by decide)) mi_X7_ofLot (by decide) ⟨_, rfl, rfl⟩ (by decide) rfl rfl rfl (Nat.le_of_ble_eq_true rfl) (Nat.le_of_ble_eq_true rfl) (show (cells + 14) + 2 ≤ 1862 by omega) (show (slots + 84) + 12 ≤ 11184 by omega) (Nat.le_of_ble_eq_true rfl) dL_areKept_320 (fun z35 v35 hz35 => ?_)
                      refine g_if_lt F rfl (tgt := 348) rfl dL_areKept_323 (fun n36 => ?_) (fun n36 => ?_)
                      · refine g_aload_n F rfl 6 rfl dL_areKept_348 ?_
                        refine g_iload F 16 rfl rfl dL_areKept_349 ?_
                        refine g_bipush F rfl (by decide) dL_areKept_351 ?_
                        refine g_callV F (by decide) (K := 7) (b := 0) [(0, l15), (0, 7)] [0, 0] ml_RL_30 wi_X7_ofLot ws_X7_ofLot (c_X7_ofLot 0 l15 7 (by decide)) mi_X7_ofLot (by decide) ⟨_, rfl, rfl⟩ (by decide) rfl rfl rfl (Nat.le_of_ble_eq_true rfl) (Nat.le_of_ble_eq_true rfl) (show (cells + 16) + 2 ≤ 1862 by omega) (show (slots + 96) + 12 ≤ 11184 by omega) (Nat.le_of_ble_eq_true rfl) dL_areKept_353 (fun z37 v37 hz37 => ?_)
                        refine g_if_lt F rfl (tgt := 363) rfl dL_areKept_356 (fun n38 => ?_) (fun n38 => ?_)
                        · refine g_iconst F 2 rfl dL_areKept_363 ?_
                          refine g_istore F rfl (Nat.le_of_ble_eq_true rfl) (ls' := [(11, (2, 0)), (20, (0, z27)), (19, (0, z26)), (18, (0, z25)), (12, (0, (w32 (l12 + z20)))), (17, (0, z20)), (16, (0, z19)), (0, (17, 0)), (1, (1, l1)), (3, (0, 4)), (4, (1, l4)), (6, (1, l6)), (8, (1, l8)), (10, (0, l10)), (13, (27, 0)), (14, (28, 0)), (15, (0, l15))]) rfl dL_areKept_364 ?_
                          refine g_iinc F 16 rfl rfl (Nat.le_of_ble_eq_true rfl) (ls' := [(15, (0, (w32 (l15 + 1)))), (11, (2, 0)), (20, (0, z27)), (19, (0, z26)), (18, (0, z25)), (12, (0, (w32 (l12 + z20)))), (17, (0, z20)), (16, (0, z19)), (0, (17, 0)), (1, (1, l1)), (3, (0, 4)), (4, (1, l4)), (6, (1, l6)), (8, (1, l8)), (10, (0, l10)), (13, (27, 0)), (14, (28, 0))]) rfl dL_areKept_366 ?_
                          refine g_goto F (tgt := 134) rfl dL_areKept_369 ?_
                          refine g_loc [(8, 17), (9, 1), (10, 0), (11, 1), (12, 1), (13, 1), (14, 0), (1, 0), (5, 0), (15, 27), (16, 28), (0, 0)] rfl ?_
                          exact ih v37 0 (w32 (l12 + z20)) (w32 (l15 + 1)) (cells + 18) (slots + 108) (by omega) (by omega)
                        · refine g_iconst F 2 rfl dL_areKept_359 ?_
                          refine g_goto F (tgt := 364) rfl dL_areKept_360 ?_
                          refine g_istore F rfl (Nat.le_of_ble_eq_true rfl) (ls' := [(11, (2, 1)), (20, (0, z27)), (19, (0, z26)), (18, (0, z25)), (12, (0, (w32 (l12 + z20)))), (17, (0, z20)), (16, (0, z19)), (0, (17, 0)), (1, (1, l1)), (3, (0, 4)), (4, (1, l4)), (6, (1, l6)), (8, (1, l8)), (10, (0, l10)), (13, (27, 0)), (14, (28, 0)), (15, (0, l15))]) rfl dL_areKept_364 ?_
                          refine g_iinc F 16 rfl rfl (Nat.le_of_ble_eq_true rfl) (ls' := [(15, (0, (w32 (l15 + 1)))), (11, (2, 1)), (20, (0, z27)), (19, (0, z26)), (18, (0, z25)), (12, (0, (w32 (l12 + z20)))), (17, (0, z20)), (16, (0, z19)), (0, (17, 0)), (1, (1, l1)), (3, (0, 4)), (4, (1, l4)), (6, (1, l6)), (8, (1, l8)), (10, (0, l10)), (13, (27, 0)), (14, (28, 0))]) rfl dL_areKept_366 ?_
                          refine g_goto F (tgt := 134) rfl dL_areKept_369 ?_
                          refine g_loc [(8, 17), (9, 1), (10, 0), (11, 1), (12, 1), (13, 1), (14, 0), (1, 0), (5, 0), (15, 27), (16, 28), (0, 0)] rfl ?_
                          exact ih v37 1 (w32 (l12 + z20)) (w32 (l15 + 1)) (cells + 18) (slots + 108) (by omega) (by omega)
                      · refine g_iload F 4 rfl rfl dL_areKept_326 ?_
                        refine g_if_le_t F rfl (Int.not_lt.mp (Int.not_lt.mpr n23)) (tgt := 363) rfl dL_areKept_328 ?_
                        refine g_iconst F 2 rfl dL_areKept_363 ?_
                        refine g_istore F rfl (Nat.le_of_ble_eq_true rfl) (ls' := [(11, (2, 0)), (20, (0, z27)), (19, (0, z26)), (18, (0, z25)), (12, (0, (w32 (l12 + z20)))), (17, (0, z20)), (16, (0, z19)), (0, (17, 0)), (1, (1, l1)), (3, (0, 4)), (4, (1, l4)), (6, (1, l6)), (8, (1, l8)), (10, (0, l10)), (13, (27, 0)), (14, (28, 0)), (15, (0, l15))]) rfl dL_areKept_364 ?_
                        refine g_iinc F 16 rfl rfl (Nat.le_of_ble_eq_true rfl) (ls' := [(15, (0, (w32 (l15 + 1)))), (11, (2, 0)), (20, (0, z27)), (19, (0, z26)), (18, (0, z25)), (12, (0, (w32 (l12 + z20)))), (17, (0, z20)), (16, (0, z19)), (0, (17, 0)), (1, (1, l1)), (3, (0, 4)), (4, (1, l4)), (6, (1, l6)), (8, (1, l8)), (10, (0, l10)), (13, (27, 0)), (14, (28, 0))]) rfl dL_areKept_366 ?_
                        refine g_goto F (tgt := 134) rfl dL_areKept_369 ?_
                        refine g_loc [(8, 17), (9, 1), (10, 0), (11, 1), (12, 1), (13, 1), (14, 0), (1, 0), (5, 0), (15, 27), (16, 28), (0, 0)] rfl ?_
                        exact ih v35 0 (w32 (l12 + z20)) (w32 (l15 + 1)) (cells + 16) (slots + 96) (by omega) (by omega)
                    · refine g_aload_n F rfl 6 rfl dL_areKept_306 ?_
                      refine g_iload F 2 rfl rfl dL_areKept_307 ?_
                      refine g_iconst F 0 rfl dL_areKept_309 ?_
                      refine g_callV F (by decide) (K := 7) (b := 0) [(0, z25), (0, 5)] [0, 0] ml_RL_33 wi_X7_ofLoan ws_X7_ofLoan (c_X7_ofLoan 0 z25 5 (by decide)) mi_X7_ofLoan (by decide) ⟨_, rfl, rfl⟩ (by decide) rfl rfl rfl (Nat.le_of_ble_eq_true rfl) (Nat.le_of_ble_eq_true rfl) (show (cells + 14) + 2 ≤ 1862 by omega) (show (slots + 84) + 12 ≤ 11184 by omega) (Nat.le_of_ble_eq_true rfl) dL_areKept_310 (fun z39 v39 hz39 => ?_)
                      refine g_if_ne F rfl (tgt := 363) rfl dL_areKept_313 (fun n40 => ?_) (fun n40 => ?_)
                      · refine g_iconst F 2 rfl dL_areKept_363 ?_
                        refine g_istore F rfl (Nat.le_of_ble_eq_true rfl) (ls' := [(11, (2, 0)), (20, (0, z27)), (19, (0, z26)), (18, (0, z25)), (12, (0, (w32 (l12 + z20)))), (17, (0, z20)), (16, (0, z19)), (0, (17, 0)), (1, (1, l1)), (3, (0, 4)), (4, (1, l4)), (6, (1, l6)), (8, (1, l8)), (10, (0, l10)), (13, (27, 0)), (14, (28, 0)), (15, (0, l15))]) rfl dL_areKept_364 ?_
                        refine g_iinc F 16 rfl rfl (Nat.le_of_ble_eq_true rfl) (ls' := [(15, (0, (w32 (l15 + 1)))), (11, (2, 0)), (20, (0, z27)), (19, (0, z26)), (18, (0, z25)), (12, (0, (w32 (l12 + z20)))), (17, (0, z20)), (16, (0, z19)), (0, (17, 0)), (1, (1, l1)), (3, (0, 4)), (4, (1, l4)), (6, (1, l6)), (8, (1, l8)), (10, (0, l10)), (13, (27, 0)), (14, (28, 0))]) rfl dL_areKept_366 ?_
                        refine g_goto F (tgt := 134) rfl dL_areKept_369 ?_
                        refine g_loc [(8, 17), (9, 1), (10, 0), (11, 1), (12, 1), (13, 1), (14, 0), (1, 0), (5, 0), (15, 27), (16, 28), (0, 0)] rfl ?_
                        exact ih v39 0 (w32 (l12 + z20)) (w32 (l15 + 1)) (cells + 16) (slots + 96) (by omega) (by omega)
                      · refine g_aload_n F rfl 6 rfl dL_areKept_316 ?_
                        refine g_iload F 16 rfl rfl dL_areKept_317 ?_
                        refine g_iconst F 0 rfl dL_areKept_319 ?_
                        refine g_callV F (by decide) (K := 7) (b := 0) [(0, l15), (0, 4)] [0, 0] ml_RL_30 wi_X7_ofLot ws_X7_ofLot (c_X7_ofLot 0 l15 4 (by decide)) mi_X7_ofLot (by decide) ⟨_, rfl, rfl⟩ (by decide) rfl rfl rfl (Nat.le_of_ble_eq_true rfl) (Nat.le_of_ble_eq_true rfl) (show (cells + 16) + 2 ≤ 1862 by omega) (show (slots + 96) + 12 ≤ 11184 by omega) (Nat.le_of_ble_eq_true rfl) dL_areKept_320 (fun z41 v41 hz41 => ?_)
                        refine g_if_lt F rfl (tgt := 348) rfl dL_areKept_323 (fun n42 => ?_) (fun n42 => ?_)
                        · refine g_aload_n F rfl 6 rfl dL_areKept_348 ?_
                          refine g_iload F 16 rfl rfl dL_areKept_349 ?_
                          refine g_bipush F rfl (by decide) dL_areKept_351 ?_
                          refine g_callV F (by decide) (K := 7) (b := 0) [(0, l15), (0, 7)] [0, 0] ml_RL_30 wi_X7_ofLot ws_X7_ofLot (c_X7_ofLot 0 l15 7 (by decide)) mi_X7_ofLot (by decide) ⟨_, rfl, rfl⟩ (by decide) rfl rfl rfl (Nat.le_of_ble_eq_true rfl) (Nat.le_of_ble_eq_true rfl) (show (cells + 18) + 2 ≤ 1862 by omega) (show (slots + 108) + 12 ≤ 11184 by omega) (Nat.le_of_ble_eq_true rfl) dL_areKept_353 (fun z43 v43 hz43 => ?_)
                          refine g_if_lt F rfl (tgt := 363) rfl dL_areKept_356 (fun n44 => ?_) (fun n44 => ?_)
                          · refine g_iconst F 2 rfl dL_areKept_363 ?_
                            refine g_istore F rfl (Nat.le_of_ble_eq_true rfl) (ls' := [(11, (2, 0)), (20, (0, z27)), (19, (0, z26)), (18, (0, z25)), (12, (0, (w32 (l12 + z20)))), (17, (0, z20)), (16, (0, z19)), (0, (17, 0)), (1, (1, l1)), (3, (0, 4)), (4, (1, l4)), (6, (1, l6)), (8, (1, l8)), (10, (0, l10)), (13, (27, 0)), (14, (28, 0)), (15, (0, l15))]) rfl dL_areKept_364 ?_
                            refine g_iinc F 16 rfl rfl (Nat.le_of_ble_eq_true rfl) (ls' := [(15, (0, (w32 (l15 + 1)))), (11, (2, 0)), (20, (0, z27)), (19, (0, z26)), (18, (0, z25)), (12, (0, (w32 (l12 + z20)))), (17, (0, z20)), (16, (0, z19)), (0, (17, 0)), (1, (1, l1)), (3, (0, 4)), (4, (1, l4)), (6, (1, l6)), (8, (1, l8)), (10, (0, l10)), (13, (27, 0)), (14, (28, 0))]) rfl dL_areKept_366 ?_
                            refine g_goto F (tgt := 134) rfl dL_areKept_369 ?_
                            refine g_loc [(8, 17), (9, 1), (10, 0), (11, 1), (12, 1), (13, 1), (14, 0), (1, 0), (5, 0), (15, 27), (16, 28), (0, 0)] rfl ?_
                            exact ih v43 0 (w32 (l12 + z20)) (w32 (l15 + 1)) (cells + 20) (slots + 120) (by omega) (by omega)
                          · refine g_iconst F 2 rfl dL_areKept_359 ?_
                            refine g_goto F (tgt := 364) rfl dL_areKept_360 ?_
                            refine g_istore F rfl (Nat.le_of_ble_eq_true rfl) (ls' := [(11, (2, 1)), (20, (0, z27)), (19, (0, z26)), (18, (0, z25)), (12, (0, (w32 (l12 + z20)))), (17, (0, z20)), (16, (0, z19)), (0, (17, 0)), (1, (1, l1)), (3, (0, 4)), (4, (1, l4)), (6, (1, l6)), (8, (1, l8)), (10, (0, l10)), (13, (27, 0)), (14, (28, 0)), (15, (0, l15))]) rfl dL_areKept_364 ?_
                            refine g_iinc F 16 rfl rfl (Nat.le_of_ble_eq_true rfl) (ls' := [(15, (0, (w32 (l15 + 1)))), (11, (2, 1)), (20, (0, z27)), (19, (0, z26)), (18, (0, z25)), (12, (0, (w32 (l12 + z20)))), (17, (0, z20)), (16, (0, z19)), (0, (17, 0)), (1, (1, l1)), (3, (0, 4)), (4, (1, l4)), (6, (1, l6)), (8, (1, l8)), (10, (0, l10)), (13, (27, 0)), (14, (28, 0))]) rfl dL_areKept_366 ?_
                            refine g_goto F (tgt := 134) rfl dL_areKept_369 ?_
                            refine g_loc [(8, 17), (9, 1), (10, 0), (11, 1), (12, 1), (13, 1), (14, 0), (1, 0), (5, 0), (15, 27), (16, 28), (0, 0)] rfl ?_
                            exact ih v43 1 (w32 (l12 + z20)) (w32 (l15 + 1)) (cells + 20) (slots + 120) (by omega) (by omega)
                        · refine g_iload F 4 rfl rfl dL_areKept_326 ?_
                          refine g_if_le_t F rfl (Int.not_lt.mp (Int.not_lt.mpr n23)) (tgt := 363) rfl dL_areKept_328 ?_
                          refine g_iconst F 2 rfl dL_areKept_363 ?_
                          refine g_istore F rfl (Nat.le_of_ble_eq_true rfl) (ls' := [(11, (2, 0)), (20, (0, z27)), (19, (0, z26)), (18, (0, z25)), (12, (0, (w32 (l12 + z20)))), (17, (0, z20)), (16, (0, z19)), (0, (17, 0)), (1, (1, l1)), (3, (0, 4)), (4, (1, l4)), (6, (1, l6)), (8, (1, l8)), (10, (0, l10)), (13, (27, 0)), (14, (28, 0)), (15, (0, l15))]) rfl dL_areKept_364 ?_
                          refine g_iinc F 16 rfl rfl (Nat.le_of_ble_eq_true rfl) (ls' := [(15, (0, (w32 (l15 + 1)))), (11, (2, 0)), (20, (0, z27)), (19, (0, z26)), (18, (0, z25)), (12, (0, (w32 (l12 + z20)))), (17, (0, z20)), (16, (0, z19)), (0, (17, 0)), (1, (1, l1)), (3, (0, 4)), (4, (1, l4)), (6, (1, l6)), (8, (1, l8)), (10, (0, l10)), (13, (27, 0)), (14, (28, 0))]) rfl dL_areKept_366 ?_
                          refine g_goto F (tgt := 134) rfl dL_areKept_369 ?_
                          refine g_loc [(8, 17), (9, 1), (10, 0), (11, 1), (12, 1), (13, 1), (14, 0), (1, 0), (5, 0), (15, 27), (16, 28), (0, 0)] rfl ?_
                          exact ih v41 0 (w32 (l12 + z20)) (w32 (l15 + 1)) (cells + 18) (slots + 108) (by omega) (by omega)
                  · refine g_aload_n F rfl 6 rfl dL_areKept_281 ?_
                    refine g_aload_n F rfl 6 rfl dL_areKept_282 ?_
                    refine g_iload F 16 rfl rfl dL_areKept_283 ?_
                    refine g_iconst F 0 rfl dL_areKept_285 ?_
                    refine g_callV F (by decide) (K := 7) (b := 0) [(0, l15), (0, 5)] [0, 0] ml_RL_30 wi_X7_ofLot ws_X7_ofLot (c_X7_ofLot 0 l15 5 (by decide)) mi_X7_ofLot (by decide) ⟨_, rfl, rfl⟩ (by decide) rfl rfl rfl (Nat.le_of_ble_eq_true rfl) (Nat.le_of_ble_eq_true rfl) (show (cells + 14) + 2 ≤ 1862 by omega) (show (slots + 84) + 12 ≤ 11184 by omega) (Nat.le_of_ble_eq_true rfl) dL_areKept_286 (fun z45 v45 hz45 => ?_)
                    refine g_bipush F rfl (by decide) dL_areKept_289 ?_
                    refine g_callV F (by decide) (K := 7) (b := 0) [(0, z45), (0, 8)] [0, 0] ml_RL_30 wi_X7_ofLot ws_X7_ofLot (c_X7_ofLot 0 z45 8 (by decide)) mi_X7_ofLot (by decide) ⟨_, rfl, rfl⟩ (by decide) rfl rfl rfl (Nat.le_of_ble_eq_true rfl) (Nat.le_of_ble_eq_true rfl) (show (cells + 16) + 2 ≤ 1862 by omega) (show (slots + 96) + 12 ≤ 11184 by omega) (Nat.le_of_ble_eq_true rfl) dL_areKept_291 (fun z46 v46 hz46 => ?_)
                    refine g_iload F 0 rfl rfl dL_areKept_294 ?_
                    refine g_iconst F 2 rfl dL_areKept_296 ?_
                    refine g_isub F rfl rfl dL_areKept_297 ?_
                    refine g_icmp_ne F rfl rfl (tgt := 363) rfl dL_areKept_298 (fun n47 => ?_) (fun n47 => ?_)
                    · refine g_iconst F 2 rfl dL_areKept_363 ?_
                      refine g_istore F rfl (Nat.le_of_ble_eq_true rfl) (ls' := [(11, (2, 0)), (20, (0, z27)), (19, (0, z26)), (18, (0, z25)), (12, (0, (w32 (l12 + z20)))), (17, (0, z20)), (16, (0, z19)), (0, (17, 0)), (1, (1, l1)), (3, (0, 4)), (4, (1, l4)), (6, (1, l6)), (8, (1, l8)), (10, (0, l10)), (13, (27, 0)), (14, (28, 0)), (15, (0, l15))]) rfl dL_areKept_364 ?_
                      refine g_iinc F 16 rfl rfl (Nat.le_of_ble_eq_true rfl) (ls' := [(15, (0, (w32 (l15 + 1)))), (11, (2, 0)), (20, (0, z27)), (19, (0, z26)), (18, (0, z25)), (12, (0, (w32 (l12 + z20)))), (17, (0, z20)), (16, (0, z19)), (0, (17, 0)), (1, (1, l1)), (3, (0, 4)), (4, (1, l4)), (6, (1, l6)), (8, (1, l8)), (10, (0, l10)), (13, (27, 0)), (14, (28, 0))]) rfl dL_areKept_366 ?_
                      refine g_goto F (tgt := 134) rfl dL_areKept_369 ?_
                      refine g_loc [(8, 17), (9, 1), (10, 0), (11, 1), (12, 1), (13, 1), (14, 0), (1, 0), (5, 0), (15, 27), (16, 28), (0, 0)] rfl ?_
                      exact ih v46 0 (w32 (l12 + z20)) (w32 (l15 + 1)) (cells + 18) (slots + 108) (by omega) (by omega)
                    · refine g_iload F 2 rfl rfl dL_areKept_301 ?_
                      refine g_if_lt F rfl (tgt := 316) rfl dL_areKept_303 (fun n48 => ?_) (fun n48 => ?_)
                      · refine g_aload_n F rfl 6 rfl dL_areKept_316 ?_
                        refine g_iload F 16 rfl rfl dL_areKept_317 ?_
                        refine g_iconst F 0 rfl dL_areKept_319 ?_
                        refine g_callV F (by decide) (K := 7) (b := 0) [(0, l15), (0, 4)] [0, 0] ml_RL_30 wi_X7_ofLot ws_X7_ofLot (c_X7_ofLot 0 l15 4 (by decide)) mi_X7_ofLot (by decide) ⟨_, rfl, rfl⟩ (by decide) rfl rfl rfl (Nat.le_of_ble_eq_true rfl) (Nat.le_of_ble_eq_true rfl) (show (cells + 18) + 2 ≤ 1862 by omega) (show (slots + 108) + 12 ≤ 11184 by omega) (Nat.le_of_ble_eq_true rfl) dL_areKept_320 (fun z49 v49 hz49 => ?_)
                        refine g_if_lt F rfl (tgt := 348) rfl dL_areKept_323 (fun n50 => ?_) (fun n50 => ?_)
                        · refine g_aload_n F rfl 6 rfl dL_areKept_348 ?_
                          refine g_iload F 16 rfl rfl dL_areKept_349 ?_
                          refine g_bipush F rfl (by decide) dL_areKept_351 ?_
                          refine g_callV F (by decide) (K := 7) (b := 0) [(0, l15), (0, 7)] [0, 0] ml_RL_30 wi_X7_ofLot ws_X7_ofLot (c_X7_ofLot 0 l15 7 (by decide)) mi_X7_ofLot (by decide) ⟨_, rfl, rfl⟩ (by decide) rfl rfl rfl (Nat.le_of_ble_eq_true rfl) (Nat.le_of_ble_eq_true rfl) (show (cells + 20) + 2 ≤ 1862 by omega) (show (slots + 120) + 12 ≤ 11184 by omega) (Nat.le_of_ble_eq_true rfl) dL_areKept_353 (fun z51 v51 hz51 => ?_)
                          refine g_if_lt F rfl (tgt := 363) rfl dL_areKept_356 (fun n52 => ?_) (fun n52 => ?_)
                          · refine g_iconst F 2 rfl dL_areKept_363 ?_
                            refine g_istore F rfl (Nat.le_of_ble_eq_true rfl) (ls' := [(11, (2, 0)), (20, (0, z27)), (19, (0, z26)), (18, (0, z25)), (12, (0, (w32 (l12 + z20)))), (17, (0, z20)), (16, (0, z19)), (0, (17, 0)), (1, (1, l1)), (3, (0, 4)), (4, (1, l4)), (6, (1, l6)), (8, (1, l8)), (10, (0, l10)), (13, (27, 0)), (14, (28, 0)), (15, (0, l15))]) rfl dL_areKept_364 ?_
                            refine g_iinc F 16 rfl rfl (Nat.le_of_ble_eq_true rfl) (ls' := [(15, (0, (w32 (l15 + 1)))), (11, (2, 0)), (20, (0, z27)), (19, (0, z26)), (18, (0, z25)), (12, (0, (w32 (l12 + z20)))), (17, (0, z20)), (16, (0, z19)), (0, (17, 0)), (1, (1, l1)), (3, (0, 4)), (4, (1, l4)), (6, (1, l6)), (8, (1, l8)), (10, (0, l10)), (13, (27, 0)), (14, (28, 0))]) rfl dL_areKept_366 ?_
                            refine g_goto F (tgt := 134) rfl dL_areKept_369 ?_
                            refine g_loc [(8, 17), (9, 1), (10, 0), (11, 1), (12, 1), (13, 1), (14, 0), (1, 0), (5, 0), (15, 27), (16, 28), (0, 0)] rfl ?_
                            exact ih v51 0 (w32 (l12 + z20)) (w32 (l15 + 1)) (cells + 22) (slots + 132) (by omega) (by omega)
                          · refine g_iconst F 2 rfl dL_areKept_359 ?_
                            refine g_goto F (tgt := 364) rfl dL_areKept_360 ?_
                            refine g_istore F rfl (Nat.le_of_ble_eq_true rfl) (ls' := [(11, (2, 1)), (20, (0, z27)), (19, (0, z26)), (18, (0, z25)), (12, (0, (w32 (l12 + z20)))), (17, (0, z20)), (16, (0, z19)), (0, (17, 0)), (1, (1, l1)), (3, (0, 4)), (4, (1, l4)), (6, (1, l6)), (8, (1, l8)), (10, (0, l10)), (13, (27, 0)), (14, (28, 0)), (15, (0, l15))]) rfl dL_areKept_364 ?_
                            refine g_iinc F 16 rfl rfl (Nat.le_of_ble_eq_true rfl) (ls' := [(15, (0, (w32 (l15 + 1)))), (11, (2, 1)), (20, (0, z27)), (19, (0, z26)), (18, (0, z25)), (12, (0, (w32 (l12 + z20)))), (17, (0, z20)), (16, (0, z19)), (0, (17, 0)), (1, (1, l1)), (3, (0, 4)), (4, (1, l4)), (6, (1, l6)), (8, (1, l8)), (10, (0, l10)), (13, (27, 0)), (14, (28, 0))]) rfl dL_areKept_366 ?_
                            refine g_goto F (tgt := 134) rfl dL_areKept_369 ?_
                            refine g_loc [(8, 17), (9, 1), (10, 0), (11, 1), (12, 1), (13, 1), (14, 0), (1, 0), (5, 0), (15, 27), (16, 28), (0, 0)] rfl ?_
                            exact ih v51 1 (w32 (l12 + z20)) (w32 (l15 + 1)) (cells + 22) (slots + 132) (by omega) (by omega)
                        · refine g_iload F 4 rfl rfl dL_areKept_326 ?_
                          refine g_if_le_t F rfl (Int.not_lt.mp (Int.not_lt.mpr n23)) (tgt := 363) rfl dL_areKept_328 ?_
                          refine g_iconst F 2 rfl dL_areKept_363 ?_
                          refine g_istore F rfl (Nat.le_of_ble_eq_true rfl) (ls' := [(11, (2, 0)), (20, (0, z27)), (19, (0, z26)), (18, (0, z25)), (12, (0, (w32 (l12 + z20)))), (17, (0, z20)), (16, (0, z19)), (0, (17, 0)), (1, (1, l1)), (3, (0, 4)), (4, (1, l4)), (6, (1, l6)), (8, (1, l8)), (10, (0, l10)), (13, (27, 0)), (14, (28, 0)), (15, (0, l15))]) rfl dL_areKept_364 ?_
                          refine g_iinc F 16 rfl rfl (Nat.le_of_ble_eq_true rfl) (ls' := [(15, (0, (w32 (l15 + 1)))), (11, (2, 0)), (20, (0, z27)), (19, (0, z26)), (18, (0, z25)), (12, (0, (w32 (l12 + z20)))), (17, (0, z20)), (16, (0, z19)), (0, (17, 0)), (1, (1, l1)), (3, (0, 4)), (4, (1, l4)), (6, (1, l6)), (8, (1, l8)), (10, (0, l10)), (13, (27, 0)), (14, (28, 0))]) rfl dL_areKept_366 ?_
                          refine g_goto F (tgt := 134) rfl dL_areKept_369 ?_
                          refine g_loc [(8, 17), (9, 1), (10, 0), (11, 1), (12, 1), (13, 1), (14, 0), (1, 0), (5, 0), (15, 27), (16, 28), (0, 0)] rfl ?_
                          exact ih v49 0 (w32 (l12 + z20)) (w32 (l15 + 1)) (cells + 20) (slots + 120) (by omega) (by omega)
                      · refine g_aload_n F rfl 6 rfl dL_areKept_306 ?_
                        refine g_iload F 2 rfl rfl dL_areKept_307 ?_
                        refine g_iconst F 0 rfl dL_areKept_309 ?_
                        refine g_callV F (by decide) (K := 7) (b := 0) [(0, z25), (0, 5)] [0, 0] ml_RL_33 wi_X7_ofLoan ws_X7_ofLoan (c_X7_ofLoan 0 z25 5 (by decide)) mi_X7_ofLoan (by decide) ⟨_, rfl, rfl⟩ (by decide) rfl rfl rfl (Nat.le_of_ble_eq_true rfl) (Nat.le_of_ble_eq_true rfl) (show (cells + 18) + 2 ≤ 1862 by omega) (show (slots + 108) + 12 ≤ 11184 by omega) (Nat.le_of_ble_eq_true rfl) dL_areKept_310 (fun z53 v53 hz53 => ?_)
                        refine g_if_ne F rfl (tgt := 363) rfl dL_areKept_313 (fun n54 => ?_) (fun n54 => ?_)
                        · refine g_iconst F 2 rfl dL_areKept_363 ?_
                          refine g_istore F rfl (Nat.le_of_ble_eq_true rfl) (ls' := [(11, (2, 0)), (20, (0, z27)), (19, (0, z26)), (18, (0, z25)), (12, (0, (w32 (l12 + z20)))), (17, (0, z20)), (16, (0, z19)), (0, (17, 0)), (1, (1, l1)), (3, (0, 4)), (4, (1, l4)), (6, (1, l6)), (8, (1, l8)), (10, (0, l10)), (13, (27, 0)), (14, (28, 0)), (15, (0, l15))]) rfl dL_areKept_364 ?_
                          refine g_iinc F 16 rfl rfl (Nat.le_of_ble_eq_true rfl) (ls' := [(15, (0, (w32 (l15 + 1)))), (11, (2, 0)), (20, (0, z27)), (19, (0, z26)), (18, (0, z25)), (12, (0, (w32 (l12 + z20)))), (17, (0, z20)), (16, (0, z19)), (0, (17, 0)), (1, (1, l1)), (3, (0, 4)), (4, (1, l4)), (6, (1, l6)), (8, (1, l8)), (10, (0, l10)), (13, (27, 0)), (14, (28, 0))]) rfl dL_areKept_366 ?_
                          refine g_goto F (tgt := 134) rfl dL_areKept_369 ?_
                          refine g_loc [(8, 17), (9, 1), (10, 0), (11, 1), (12, 1), (13, 1), (14, 0), (1, 0), (5, 0), (15, 27), (16, 28), (0, 0)] rfl ?_
                          exact ih v53 0 (w32 (l12 + z20)) (w32 (l15 + 1)) (cells + 20) (slots + 120) (by omega) (by omega)
                        · refine g_aload_n F rfl 6 rfl dL_areKept_316 ?_
                          refine g_iload F 16 rfl rfl dL_areKept_317 ?_
                          refine g_iconst F 0 rfl dL_areKept_319 ?_
                          refine g_callV F (by decide) (K := 7) (b := 0) [(0, l15), (0, 4)] [0, 0] ml_RL_30 wi_X7_ofLot ws_X7_ofLot (c_X7_ofLot 0 l15 4 (by decide)) mi_X7_ofLot (by decide) ⟨_, rfl, rfl⟩ (by decide) rfl rfl rfl (Nat.le_of_ble_eq_true rfl) (Nat.le_of_ble_eq_true rfl) (show (cells + 20) + 2 ≤ 1862 by omega) (show (slots + 120) + 12 ≤ 11184 by omega) (Nat.le_of_ble_eq_true rfl) dL_areKept_320 (fun z55 v55 hz55 => ?_)
                          refine g_if_lt F rfl (tgt := 348) rfl dL_areKept_323 (fun n56 => ?_) (fun n56 => ?_)
                          · refine g_aload_n F rfl 6 rfl dL_areKept_348 ?_
                            refine g_iload F 16 rfl rfl dL_areKept_349 ?_
                            refine g_bipush F rfl (by decide) dL_areKept_351 ?_
                            refine g_callV F (by decide) (K := 7) (b := 0) [(0, l15), (0, 7)] [0, 0] ml_RL_30 wi_X7_ofLot ws_X7_ofLot (c_X7_ofLot 0 l15 7 (by decide)) mi_X7_ofLot (by decide) ⟨_, rfl, rfl⟩ (by decide) rfl rfl rfl (Nat.le_of_ble_eq_true rfl) (Nat.le_of_ble_eq_true rfl) (show (cells + 22) + 2 ≤ 1862 by omega) (show (slots + 132) + 12 ≤ 11184 by omega) (Nat.le_of_ble_eq_true rfl) dL_areKept_353 (fun z57 v57 hz57 => ?_)
                            refine g_if_lt F rfl (tgt := 363) rfl dL_areKept_356 (fun n58 => ?_) (fun n58 => ?_)
                            · refine g_iconst F 2 rfl dL_areKept_363 ?_
                              refine g_istore F rfl (Nat.le_of_ble_eq_true rfl) (ls' := [(11, (2, 0)), (20, (0, z27)), (19, (0, z26)), (18, (0, z25)), (12, (0, (w32 (l12 + z20)))), (17, (0, z20)), (16, (0, z19)), (0, (17, 0)), (1, (1, l1)), (3, (0, 4)), (4, (1, l4)), (6, (1, l6)), (8, (1, l8)), (10, (0, l10)), (13, (27, 0)), (14, (28, 0)), (15, (0, l15))]) rfl dL_areKept_364 ?_
                              refine g_iinc F 16 rfl rfl (Nat.le_of_ble_eq_true rfl) (ls' := [(15, (0, (w32 (l15 + 1)))), (11, (2, 0)), (20, (0, z27)), (19, (0, z26)), (18, (0, z25)), (12, (0, (w32 (l12 + z20)))), (17, (0, z20)), (16, (0, z19)), (0, (17, 0)), (1, (1, l1)), (3, (0, 4)), (4, (1, l4)), (6, (1, l6)), (8, (1, l8)), (10, (0, l10)), (13, (27, 0)), (14, (28, 0))]) rfl dL_areKept_366 ?_
                              refine g_goto F (tgt := 134) rfl dL_areKept_369 ?_
                              refine g_loc [(8, 17), (9, 1), (10, 0), (11, 1), (12, 1), (13, 1), (14, 0), (1, 0), (5, 0), (15, 27), (16, 28), (0, 0)] rfl ?_
                              exact ih v57 0 (w32 (l12 + z20)) (w32 (l15 + 1)) (cells + 24) (slots + 144) (by omega) (by omega)
                            · refine g_iconst F 2 rfl dL_areKept_359 ?_
                              refine g_goto F (tgt := 364) rfl dL_areKept_360 ?_
                              refine g_istore F rfl (Nat.le_of_ble_eq_true rfl) (ls' := [(11, (2, 1)), (20, (0, z27)), (19, (0, z26)), (18, (0, z25)), (12, (0, (w32 (l12 + z20)))), (17, (0, z20)), (16, (0, z19)), (0, (17, 0)), (1, (1, l1)), (3, (0, 4)), (4, (1, l4)), (6, (1, l6)), (8, (1, l8)), (10, (0, l10)), (13, (27, 0)), (14, (28, 0)), (15, (0, l15))]) rfl dL_areKept_364 ?_
                              refine g_iinc F 16 rfl rfl (Nat.le_of_ble_eq_true rfl) (ls' := [(15, (0, (w32 (l15 + 1)))), (11, (2, 1)), (20, (0, z27)), (19, (0, z26)), (18, (0, z25)), (12, (0, (w32 (l12 + z20)))), (17, (0, z20)), (16, (0, z19)), (0, (17, 0)), (1, (1, l1)), (3, (0, 4)), (4, (1, l4)), (6, (1, l6)), (8, (1, l8)), (10, (0, l10)), (13, (27, 0)), (14, (28, 0))]) rfl dL_areKept_366 ?_
                              refine g_goto F (tgt := 134) rfl dL_areKept_369 ?_
                              refine g_loc [(8, 17), (9, 1), (10, 0), (11, 1), (12, 1), (13, 1), (14, 0), (1, 0), (5, 0), (15, 27), (16, 28), (0, 0)] rfl ?_
                              exact ih v57 1 (w32 (l12 + z20)) (w32 (l15 + 1)) (cells + 24) (slots + 144) (by omega) (by omega)
                          · refine g_iload F 4 rfl rfl dL_areKept_326 ?_
                            refine g_if_le_t F rfl (Int.not_lt.mp (Int.not_lt.mpr n23)) (tgt := 363) rfl dL_areKept_328 ?_
                            refine g_iconst F 2 rfl dL_areKept_363 ?_
                            refine g_istore F rfl (Nat.le_of_ble_eq_true rfl) (ls' := [(11, (2, 0)), (20, (0, z27)), (19, (0, z26)), (18, (0, z25)), (12, (0, (w32 (l12 + z20)))), (17, (0, z20)), (16, (0, z19)), (0, (17, 0)), (1, (1, l1)), (3, (0, 4)), (4, (1, l4)), (6, (1, l6)), (8, (1, l8)), (10, (0, l10)), (13, (27, 0)), (14, (28, 0)), (15, (0, l15))]) rfl dL_areKept_364 ?_
                            refine g_iinc F 16 rfl rfl (Nat.le_of_ble_eq_true rfl) (ls' := [(15, (0, (w32 (l15 + 1)))), (11, (2, 0)), (20, (0, z27)), (19, (0, z26)), (18, (0, z25)), (12, (0, (w32 (l12 + z20)))), (17, (0, z20)), (16, (0, z19)), (0, (17, 0)), (1, (1, l1)), (3, (0, 4)), (4, (1, l4)), (6, (1, l6)), (8, (1, l8)), (10, (0, l10)), (13, (27, 0)), (14, (28, 0))]) rfl dL_areKept_366 ?_
                            refine g_goto F (tgt := 134) rfl dL_areKept_369 ?_
                            refine g_loc [(8, 17), (9, 1), (10, 0), (11, 1), (12, 1), (13, 1), (14, 0), (1, 0), (5, 0), (15, 27), (16, 28), (0, 0)] rfl ?_
                            exact ih v55 0 (w32 (l12 + z20)) (w32 (l15 + 1)) (cells + 22) (slots + 132) (by omega) (by omega)
                · refine g_iconst F 2 rfl dL_areKept_267 ?_
                  refine g_goto F (tgt := 272) rfl dL_areKept_268 ?_
                  refine g_icmp_ne_t F rfl rfl (by decide) (tgt := 363) rfl dL_areKept_272 ?_
                  refine g_iconst F 2 rfl dL_areKept_363 ?_
                  refine g_istore F rfl (Nat.le_of_ble_eq_true rfl) (ls' := [(11, (2, 0)), (20, (0, z27)), (19, (0, z26)), (18, (0, z25)), (12, (0, (w32 (l12 + z20)))), (17, (0, z20)), (16, (0, z19)), (0, (17, 0)), (1, (1, l1)), (3, (0, 4)), (4, (1, l4)), (6, (1, l6)), (8, (1, l8)), (10, (0, l10)), (13, (27, 0)), (14, (28, 0)), (15, (0, l15))]) rfl dL_areKept_364 ?_
                  refine g_iinc F 16 rfl rfl (Nat.le_of_ble_eq_true rfl) (ls' := [(15, (0, (w32 (l15 + 1)))), (11, (2, 0)), (20, (0, z27)), (19, (0, z26)), (18, (0, z25)), (12, (0, (w32 (l12 + z20)))), (17, (0, z20)), (16, (0, z19)), (0, (17, 0)), (1, (1, l1)), (3, (0, 4)), (4, (1, l4)), (6, (1, l6)), (8, (1, l8)), (10, (0, l10)), (13, (27, 0)), (14, (28, 0))]) rfl dL_areKept_366 ?_
                  refine g_goto F (tgt := 134) rfl dL_areKept_369 ?_
                  refine g_loc [(8, 17), (9, 1), (10, 0), (11, 1), (12, 1), (13, 1), (14, 0), (1, 0), (5, 0), (15, 27), (16, 28), (0, 0)] rfl ?_
                  exact ih v29 0 (w32 (l12 + z20)) (w32 (l15 + 1)) (cells + 14) (slots + 84) (by omega) (by omega)
              · refine g_iconst F 2 rfl dL_areKept_257 ?_
                refine g_goto F (tgt := 262) rfl dL_areKept_258 ?_
                refine g_iload F 0 rfl rfl dL_areKept_262 ?_
                refine g_if_le F rfl (tgt := 271) rfl dL_areKept_264 (fun n59 => ?_) (fun n59 => ?_)
                · refine g_iconst F 2 rfl dL_areKept_271 ?_
                  refine g_icmp_ne_t F rfl rfl (by decide) (tgt := 363) rfl dL_areKept_272 ?_
                  refine g_iconst F 2 rfl dL_areKept_363 ?_
                  refine g_istore F rfl (Nat.le_of_ble_eq_true rfl) (ls' := [(11, (2, 0)), (20, (0, z27)), (19, (0, z26)), (18, (0, z25)), (12, (0, (w32 (l12 + z20)))), (17, (0, z20)), (16, (0, z19)), (0, (17, 0)), (1, (1, l1)), (3, (0, 4)), (4, (1, l4)), (6, (1, l6)), (8, (1, l8)), (10, (0, l10)), (13, (27, 0)), (14, (28, 0)), (15, (0, l15))]) rfl dL_areKept_364 ?_
                  refine g_iinc F 16 rfl rfl (Nat.le_of_ble_eq_true rfl) (ls' := [(15, (0, (w32 (l15 + 1)))), (11, (2, 0)), (20, (0, z27)), (19, (0, z26)), (18, (0, z25)), (12, (0, (w32 (l12 + z20)))), (17, (0, z20)), (16, (0, z19)), (0, (17, 0)), (1, (1, l1)), (3, (0, 4)), (4, (1, l4)), (6, (1, l6)), (8, (1, l8)), (10, (0, l10)), (13, (27, 0)), (14, (28, 0))]) rfl dL_areKept_366 ?_
                  refine g_goto F (tgt := 134) rfl dL_areKept_369 ?_
                  refine g_loc [(8, 17), (9, 1), (10, 0), (11, 1), (12, 1), (13, 1), (14, 0), (1, 0), (5, 0), (15, 27), (16, 28), (0, 0)] rfl ?_
                  exact ih v29 0 (w32 (l12 + z20)) (w32 (l15 + 1)) (cells + 14) (slots + 84) (by omega) (by omega)
                · refine g_iconst F 2 rfl dL_areKept_267 ?_
                  refine g_goto F (tgt := 272) rfl dL_areKept_268 ?_
                  refine g_icmp_ne_f F rfl rfl (by decide) (tgt := 363) rfl dL_areKept_272 ?_
                  refine g_iload F 0 rfl rfl dL_areKept_275 ?_
                  refine g_iconst F 0 rfl dL_areKept_277 ?_
                  refine g_icmp_lt F rfl rfl (tgt := 301) rfl dL_areKept_278 (fun n60 => ?_) (fun n60 => ?_)
                  · refine g_iload F 2 rfl rfl dL_areKept_301 ?_
                    refine g_if_lt F rfl (tgt := 316) rfl dL_areKept_303 (fun n61 => ?_) (fun n61 => ?_)
                    · refine g_aload_n F rfl 6 rfl dL_areKept_316 ?_
                      refine g_iload F 16 rfl rfl dL_areKept_317 ?_
                      refine g_iconst F 0 rfl dL_areKept_319 ?_
                      refine g_callV F (by decide) (K := 7) (b := 0) [(0, l15), (0, 4)] [0, 0] ml_RL_30 wi_X7_ofLot ws_X7_ofLot (c_X7_ofLot 0 l15 4 (by decide)) mi_X7_ofLot (by decide) ⟨_, rfl, rfl⟩ (by decide) rfl rfl rfl (Nat.le_of_ble_eq_true rfl) (Nat.le_of_ble_eq_true rfl) (show (cells + 14) + 2 ≤ 1862 by omega) (show (slots + 84) + 12 ≤ 11184 by omega) (Nat.le_of_ble_eq_true rfl) dL_areKept_320 (fun z62 v62 hz62 => ?_)
                      refine g_if_lt F rfl (tgt := 348) rfl dL_areKept_323 (fun n63 => ?_) (fun n63 => ?_)
                      · refine g_aload_n F rfl 6 rfl dL_areKept_348 ?_
                        refine g_iload F 16 rfl rfl dL_areKept_349 ?_
                        refine g_bipush F rfl (by decide) dL_areKept_351 ?_
                        refine g_callV F (by decide) (K := 7) (b := 0) [(0, l15), (0, 7)] [0, 0] ml_RL_30 wi_X7_ofLot ws_X7_ofLot (c_X7_ofLot 0 l15 7 (by decide)) mi_X7_ofLot (by decide) ⟨_, rfl, rfl⟩ (by decide) rfl rfl rfl (Nat.le_of_ble_eq_true rfl) (Nat.le_of_ble_eq_true rfl) (show (cells + 16) + 2 ≤ 1862 by omega) (show (slots + 96) + 12 ≤ 11184 by omega) (Nat.le_of_ble_eq_true rfl) dL_areKept_353 (fun z64 v64 hz64 => ?_)
                        refine g_if_lt F rfl (tgt := 363) rfl dL_areKept_356 (fun n65 => ?_) (fun n65 => ?_)
                        · refine g_iconst F 2 rfl dL_areKept_363 ?_
                          refine g_istore F rfl (Nat.le_of_ble_eq_true rfl) (ls' := [(11, (2, 0)), (20, (0, z27)), (19, (0, z26)), (18, (0, z25)), (12, (0, (w32 (l12 + z20)))), (17, (0, z20)), (16, (0, z19)), (0, (17, 0)), (1, (1, l1)), (3, (0, 4)), (4, (1, l4)), (6, (1, l6)), (8, (1, l8)), (10, (0, l10)), (13, (27, 0)), (14, (28, 0)), (15, (0, l15))]) rfl dL_areKept_364 ?_
                          refine g_iinc F 16 rfl rfl (Nat.le_of_ble_eq_true rfl) (ls' := [(15, (0, (w32 (l15 + 1)))), (11, (2, 0)), (20, (0, z27)), (19, (0, z26)), (18, (0, z25)), (12, (0, (w32 (l12 + z20)))), (17, (0, z20)), (16, (0, z19)), (0, (17, 0)), (1, (1, l1)), (3, (0, 4)), (4, (1, l4)), (6, (1, l6)), (8, (1, l8)), (10, (0, l10)), (13, (27, 0)), (14, (28, 0))]) rfl dL_areKept_366 ?_
                          refine g_goto F (tgt := 134) rfl dL_areKept_369 ?_
                          refine g_loc [(8, 17), (9, 1), (10, 0), (11, 1), (12, 1), (13, 1), (14, 0), (1, 0), (5, 0), (15, 27), (16, 28), (0, 0)] rfl ?_
                          exact ih v64 0 (w32 (l12 + z20)) (w32 (l15 + 1)) (cells + 18) (slots + 108) (by omega) (by omega)
                        · refine g_iconst F 2 rfl dL_areKept_359 ?_
                          refine g_goto F (tgt := 364) rfl dL_areKept_360 ?_
                          refine g_istore F rfl (Nat.le_of_ble_eq_true rfl) (ls' := [(11, (2, 1)), (20, (0, z27)), (19, (0, z26)), (18, (0, z25)), (12, (0, (w32 (l12 + z20)))), (17, (0, z20)), (16, (0, z19)), (0, (17, 0)), (1, (1, l1)), (3, (0, 4)), (4, (1, l4)), (6, (1, l6)), (8, (1, l8)), (10, (0, l10)), (13, (27, 0)), (14, (28, 0)), (15, (0, l15))]) rfl dL_areKept_364 ?_
                          refine g_iinc F 16 rfl rfl (Nat.le_of_ble_eq_true rfl) (ls' := [(15, (0, (w32 (l15 + 1)))), (11, (2, 1)), (20, (0, z27)), (19, (0, z26)), (18, (0, z25)), (12, (0, (w32 (l12 + z20)))), (17, (0, z20)), (16, (0, z19)), (0, (17, 0)), (1, (1, l1)), (3, (0, 4)), (4, (1, l4)), (6, (1, l6)), (8, (1, l8)), (10, (0, l10)), (13, (27, 0)), (14, (28, 0))]) rfl dL_areKept_366 ?_
                          refine g_goto F (tgt := 134) rfl dL_areKept_369 ?_
                          refine g_loc [(8, 17), (9, 1), (10, 0), (11, 1), (12, 1), (13, 1), (14, 0), (1, 0), (5, 0), (15, 27), (16, 28), (0, 0)] rfl ?_
                          exact ih v64 1 (w32 (l12 + z20)) (w32 (l15 + 1)) (cells + 18) (slots + 108) (by omega) (by omega)
                      · refine g_iload F 4 rfl rfl dL_areKept_326 ?_
                        refine g_if_le_t F rfl (Int.not_lt.mp (Int.not_lt.mpr n23)) (tgt := 363) rfl dL_areKept_328 ?_
                        refine g_iconst F 2 rfl dL_areKept_363 ?_
                        refine g_istore F rfl (Nat.le_of_ble_eq_true rfl) (ls' := [(11, (2, 0)), (20, (0, z27)), (19, (0, z26)), (18, (0, z25)), (12, (0, (w32 (l12 + z20)))), (17, (0, z20)), (16, (0, z19)), (0, (17, 0)), (1, (1, l1)), (3, (0, 4)), (4, (1, l4)), (6, (1, l6)), (8, (1, l8)), (10, (0, l10)), (13, (27, 0)), (14, (28, 0)), (15, (0, l15))]) rfl dL_areKept_364 ?_
                        refine g_iinc F 16 rfl rfl (Nat.le_of_ble_eq_true rfl) (ls' := [(15, (0, (w32 (l15 + 1)))), (11, (2, 0)), (20, (0, z27)), (19, (0, z26)), (18, (0, z25)), (12, (0, (w32 (l12 + z20)))), (17, (0, z20)), (16, (0, z19)), (0, (17, 0)), (1, (1, l1)), (3, (0, 4)), (4, (1, l4)), (6, (1, l6)), (8, (1, l8)), (10, (0, l10)), (13, (27, 0)), (14, (28, 0))]) rfl dL_areKept_366 ?_
                        refine g_goto F (tgt := 134) rfl dL_areKept_369 ?_
                        refine g_loc [(8, 17), (9, 1), (10, 0), (11, 1), (12, 1), (13, 1), (14, 0), (1, 0), (5, 0), (15, 27), (16, 28), (0, 0)] rfl ?_
                        exact ih v62 0 (w32 (l12 + z20)) (w32 (l15 + 1)) (cells + 16) (slots + 96) (by omega) (by omega)
                    · refine g_aload_n F rfl 6 rfl dL_areKept_306 ?_
                      refine g_iload F 2 rfl rfl dL_areKept_307 ?_
                      refine g_iconst F 0 rfl dL_areKept_309 ?_
                      refine g_callV F (by decide) (K := 7) (b := 0) [(0, z25), (0, 5)] [0, 0] ml_RL_33 wi_X7_ofLoan ws_X7_ofLoan (c_X7_ofLoan 0 z25 5 (by decide)) mi_X7_ofLoan (by decide) ⟨_, rfl, rfl⟩ (by decide) rfl rfl rfl (Nat.le_of_ble_eq_true rfl) (Nat.le_of_ble_eq_true rfl) (show (cells + 14) + 2 ≤ 1862 by omega) (show (slots + 84) + 12 ≤ 11184 by omega) (Nat.le_of_ble_eq_true rfl) dL_areKept_310 (fun z66 v66 hz66 => ?_)
                      refine g_if_ne F rfl (tgt := 363) rfl dL_areKept_313 (fun n67 => ?_) (fun n67 => ?_)
                      · refine g_iconst F 2 rfl dL_areKept_363 ?_
                        refine g_istore F rfl (Nat.le_of_ble_eq_true rfl) (ls' := [(11, (2, 0)), (20, (0, z27)), (19, (0, z26)), (18, (0, z25)), (12, (0, (w32 (l12 + z20)))), (17, (0, z20)), (16, (0, z19)), (0, (17, 0)), (1, (1, l1)), (3, (0, 4)), (4, (1, l4)), (6, (1, l6)), (8, (1, l8)), (10, (0, l10)), (13, (27, 0)), (14, (28, 0)), (15, (0, l15))]) rfl dL_areKept_364 ?_
                        refine g_iinc F 16 rfl rfl (Nat.le_of_ble_eq_true rfl) (ls' := [(15, (0, (w32 (l15 + 1)))), (11, (2, 0)), (20, (0, z27)), (19, (0, z26)), (18, (0, z25)), (12, (0, (w32 (l12 + z20)))), (17, (0, z20)), (16, (0, z19)), (0, (17, 0)), (1, (1, l1)), (3, (0, 4)), (4, (1, l4)), (6, (1, l6)), (8, (1, l8)), (10, (0, l10)), (13, (27, 0)), (14, (28, 0))]) rfl dL_areKept_366 ?_
                        refine g_goto F (tgt := 134) rfl dL_areKept_369 ?_
                        refine g_loc [(8, 17), (9, 1), (10, 0), (11, 1), (12, 1), (13, 1), (14, 0), (1, 0), (5, 0), (15, 27), (16, 28), (0, 0)] rfl ?_
                        exact ih v66 0 (w32 (l12 + z20)) (w32 (l15 + 1)) (cells + 16) (slots + 96) (by omega) (by omega)
                      · refine g_aload_n F rfl 6 rfl dL_areKept_316 ?_
                        refine g_iload F 16 rfl rfl dL_areKept_317 ?_
                        refine g_iconst F 0 rfl dL_areKept_319 ?_
                        refine g_callV F (by decide) (K := 7) (b := 0) [(0, l15), (0, 4)] [0, 0] ml_RL_30 wi_X7_ofLot ws_X7_ofLot (c_X7_ofLot 0 l15 4 (by decide)) mi_X7_ofLot (by decide) ⟨_, rfl, rfl⟩ (by decide) rfl rfl rfl (Nat.le_of_ble_eq_true rfl) (Nat.le_of_ble_eq_true rfl) (show (cells + 16) + 2 ≤ 1862 by omega) (show (slots + 96) + 12 ≤ 11184 by omega) (Nat.le_of_ble_eq_true rfl) dL_areKept_320 (fun z68 v68 hz68 => ?_)
                        refine g_if_lt F rfl (tgt := 348) rfl dL_areKept_323 (fun n69 => ?_) (fun n69 => ?_)
                        · refine g_aload_n F rfl 6 rfl dL_areKept_348 ?_
                          refine g_iload F 16 rfl rfl dL_areKept_349 ?_
                          refine g_bipush F rfl (by decide) dL_areKept_351 ?_
                          refine g_callV F (by decide) (K := 7) (b := 0) [(0, l15), (0, 7)] [0, 0] ml_RL_30 wi_X7_ofLot ws_X7_ofLot (c_X7_ofLot 0 l15 7 (by decide)) mi_X7_ofLot (by decide) ⟨_, rfl, rfl⟩ (by decide) rfl rfl rfl (Nat.le_of_ble_eq_true rfl) (Nat.le_of_ble_eq_true rfl) (show (cells + 18) + 2 ≤ 1862 by omega) (show (slots + 108) + 12 ≤ 11184 by omega) (Nat.le_of_ble_eq_true rfl) dL_areKept_353 (fun z70 v70 hz70 => ?_)
                          refine g_if_lt F rfl (tgt := 363) rfl dL_areKept_356 (fun n71 => ?_) (fun n71 => ?_)
                          · refine g_iconst F 2 rfl dL_areKept_363 ?_
                            refine g_istore F rfl (Nat.le_of_ble_eq_true rfl) (ls' := [(11, (2, 0)), (20, (0, z27)), (19, (0, z26)), (18, (0, z25)), (12, (0, (w32 (l12 + z20)))), (17, (0, z20)), (16, (0, z19)), (0, (17, 0)), (1, (1, l1)), (3, (0, 4)), (4, (1, l4)), (6, (1, l6)), (8, (1, l8)), (10, (0, l10)), (13, (27, 0)), (14, (28, 0)), (15, (0, l15))]) rfl dL_areKept_364 ?_
                            refine g_iinc F 16 rfl rfl (Nat.le_of_ble_eq_true rfl) (ls' := [(15, (0, (w32 (l15 + 1)))), (11, (2, 0)), (20, (0, z27)), (19, (0, z26)), (18, (0, z25)), (12, (0, (w32 (l12 + z20)))), (17, (0, z20)), (16, (0, z19)), (0, (17, 0)), (1, (1, l1)), (3, (0, 4)), (4, (1, l4)), (6, (1, l6)), (8, (1, l8)), (10, (0, l10)), (13, (27, 0)), (14, (28, 0))]) rfl dL_areKept_366 ?_
                            refine g_goto F (tgt := 134) rfl dL_areKept_369 ?_
                            refine g_loc [(8, 17), (9, 1), (10, 0), (11, 1), (12, 1), (13, 1), (14, 0), (1, 0), (5, 0), (15, 27), (16, 28), (0, 0)] rfl ?_
                            exact ih v70 0 (w32 (l12 + z20)) (w32 (l15 + 1)) (cells + 20) (slots + 120) (by omega) (by omega)
                          · refine g_iconst F 2 rfl dL_areKept_359 ?_
                            refine g_goto F (tgt := 364) rfl dL_areKept_360 ?_
                            refine g_istore F rfl (Nat.le_of_ble_eq_true rfl) (ls' := [(11, (2, 1)), (20, (0, z27)), (19, (0, z26)), (18, (0, z25)), (12, (0, (w32 (l12 + z20)))), (17, (0, z20)), (16, (0, z19)), (0, (17, 0)), (1, (1, l1)), (3, (0, 4)), (4, (1, l4)), (6, (1, l6)), (8, (1, l8)), (10, (0, l10)), (13, (27, 0)), (14, (28, 0)), (15, (0, l15))]) rfl dL_areKept_364 ?_
                            refine g_iinc F 16 rfl rfl (Nat.le_of_ble_eq_true rfl) (ls' := [(15, (0, (w32 (l15 + 1)))), (11, (2, 1)), (20, (0, z27)), (19, (0, z26)), (18, (0, z25)), (12, (0, (w32 (l12 + z20)))), (17, (0, z20)), (16, (0, z19)), (0, (17, 0)), (1, (1, l1)), (3, (0, 4)), (4, (1, l4)), (6, (1, l6)), (8, (1, l8)), (10, (0, l10)), (13, (27, 0)), (14, (28, 0))]) rfl dL_areKept_366 ?_
                            refine g_goto F (tgt := 134) rfl dL_areKept_369 ?_
                            refine g_loc [(8, 17), (9, 1), (10, 0), (11, 1), (12, 1), (13, 1), (14, 0), (1, 0), (5, 0), (15, 27), (16, 28), (0, 0)] rfl ?_
                            exact ih v70 1 (w32 (l12 + z20)) (w32 (l15 + 1)) (cells + 20) (slots + 120) (by omega) (by omega)
                        · refine g_iload F 4 rfl rfl dL_areKept_326 ?_
                          refine g_if_le_t F rfl (Int.not_lt.mp (Int.not_lt.mpr n23)) (tgt := 363) rfl dL_areKept_328 ?_
                          refine g_iconst F 2 rfl dL_areKept_363 ?_
                          refine g_istore F rfl (Nat.le_of_ble_eq_true rfl) (ls' := [(11, (2, 0)), (20, (0, z27)), (19, (0, z26)), (18, (0, z25)), (12, (0, (w32 (l12 + z20)))), (17, (0, z20)), (16, (0, z19)), (0, (17, 0)), (1, (1, l1)), (3, (0, 4)), (4, (1, l4)), (6, (1, l6)), (8, (1, l8)), (10, (0, l10)), (13, (27, 0)), (14, (28, 0)), (15, (0, l15))]) rfl dL_areKept_364 ?_
                          refine g_iinc F 16 rfl rfl (Nat.le_of_ble_eq_true rfl) (ls' := [(15, (0, (w32 (l15 + 1)))), (11, (2, 0)), (20, (0, z27)), (19, (0, z26)), (18, (0, z25)), (12, (0, (w32 (l12 + z20)))), (17, (0, z20)), (16, (0, z19)), (0, (17, 0)), (1, (1, l1)), (3, (0, 4)), (4, (1, l4)), (6, (1, l6)), (8, (1, l8)), (10, (0, l10)), (13, (27, 0)), (14, (28, 0))]) rfl dL_areKept_366 ?_
                          refine g_goto F (tgt := 134) rfl dL_areKept_369 ?_
                          refine g_loc [(8, 17), (9, 1), (10, 0), (11, 1), (12, 1), (13, 1), (14, 0), (1, 0), (5, 0), (15, 27), (16, 28), (0, 0)] rfl ?_
                          exact ih v68 0 (w32 (l12 + z20)) (w32 (l15 + 1)) (cells + 18) (slots + 108) (by omega) (by omega)
                  · refine g_aload_n F rfl 6 rfl dL_areKept_281 ?_
                    refine g_aload_n F rfl 6 rfl dL_areKept_282 ?_
                    refine g_iload F 16 rfl rfl dL_areKept_283 ?_
                    refine g_iconst F 0 rfl dL_areKept_285 ?_
                    refine g_callV F (by decide) (K := 7) (b := 0) [(0, l15), (0, 5)] [0, 0] ml_RL_30 wi_X7_ofLot ws_X7_ofLot (c_X7_ofLot 0 l15 5 (by decide)) mi_X7_ofLot (by decide) ⟨_, rfl, rfl⟩ (by decide) rfl rfl rfl (Nat.le_of_ble_eq_true rfl) (Nat.le_of_ble_eq_true rfl) (show (cells + 14) + 2 ≤ 1862 by omega) (show (slots + 84) + 12 ≤ 11184 by omega) (Nat.le_of_ble_eq_true rfl) dL_areKept_286 (fun z72 v72 hz72 => ?_)
                    refine g_bipush F rfl (by decide) dL_areKept_289 ?_
                    refine g_callV F (by decide) (K := 7) (b := 0) [(0, z72), (0, 8)] [0, 0] ml_RL_30 wi_X7_ofLot ws_X7_ofLot (c_X7_ofLot 0 z72 8 (by decide)) mi_X7_ofLot (by decide) ⟨_, rfl, rfl⟩ (by decide) rfl rfl rfl (Nat.le_of_ble_eq_true rfl) (Nat.le_of_ble_eq_true rfl) (show (cells + 16) + 2 ≤ 1862 by omega) (show (slots + 96) + 12 ≤ 11184 by omega) (Nat.le_of_ble_eq_true rfl) dL_areKept_291 (fun z73 v73 hz73 => ?_)
                    refine g_iload F 0 rfl rfl dL_areKept_294 ?_
                    refine g_iconst F 2 rfl dL_areKept_296 ?_
                    refine g_isub F rfl rfl dL_areKept_297 ?_
                    refine g_icmp_ne F rfl rfl (tgt := 363) rfl dL_areKept_298 (fun n74 => ?_) (fun n74 => ?_)
                    · refine g_iconst F 2 rfl dL_areKept_363 ?_
                      refine g_istore F rfl (Nat.le_of_ble_eq_true rfl) (ls' := [(11, (2, 0)), (20, (0, z27)), (19, (0, z26)), (18, (0, z25)), (12, (0, (w32 (l12 + z20)))), (17, (0, z20)), (16, (0, z19)), (0, (17, 0)), (1, (1, l1)), (3, (0, 4)), (4, (1, l4)), (6, (1, l6)), (8, (1, l8)), (10, (0, l10)), (13, (27, 0)), (14, (28, 0)), (15, (0, l15))]) rfl dL_areKept_364 ?_
                      refine g_iinc F 16 rfl rfl (Nat.le_of_ble_eq_true rfl) (ls' := [(15, (0, (w32 (l15 + 1)))), (11, (2, 0)), (20, (0, z27)), (19, (0, z26)), (18, (0, z25)), (12, (0, (w32 (l12 + z20)))), (17, (0, z20)), (16, (0, z19)), (0, (17, 0)), (1, (1, l1)), (3, (0, 4)), (4, (1, l4)), (6, (1, l6)), (8, (1, l8)), (10, (0, l10)), (13, (27, 0)), (14, (28, 0))]) rfl dL_areKept_366 ?_
                      refine g_goto F (tgt := 134) rfl dL_areKept_369 ?_
                      refine g_loc [(8, 17), (9, 1), (10, 0), (11, 1), (12, 1), (13, 1), (14, 0), (1, 0), (5, 0), (15, 27), (16, 28), (0, 0)] rfl ?_
                      exact ih v73 0 (w32 (l12 + z20)) (w32 (l15 + 1)) (cells + 18) (slots + 108) (by omega) (by omega)
                    · refine g_iload F 2 rfl rfl dL_areKept_301 ?_
                      refine g_if_lt F rfl (tgt := 316) rfl dL_areKept_303 (fun n75 => ?_) (fun n75 => ?_)
                      · refine g_aload_n F rfl 6 rfl dL_areKept_316 ?_
                        refine g_iload F 16 rfl rfl dL_areKept_317 ?_
                        refine g_iconst F 0 rfl dL_areKept_319 ?_
                        refine g_callV F (by decide) (K := 7) (b := 0) [(0, l15), (0, 4)] [0, 0] ml_RL_30 wi_X7_ofLot ws_X7_ofLot (c_X7_ofLot 0 l15 4 (by decide)) mi_X7_ofLot (by decide) ⟨_, rfl, rfl⟩ (by decide) rfl rfl rfl (Nat.le_of_ble_eq_true rfl) (Nat.le_of_ble_eq_true rfl) (show (cells + 18) + 2 ≤ 1862 by omega) (show (slots + 108) + 12 ≤ 11184 by omega) (Nat.le_of_ble_eq_true rfl) dL_areKept_320 (fun z76 v76 hz76 => ?_)
                        refine g_if_lt F rfl (tgt := 348) rfl dL_areKept_323 (fun n77 => ?_) (fun n77 => ?_)
                        · refine g_aload_n F rfl 6 rfl dL_areKept_348 ?_
                          refine g_iload F 16 rfl rfl dL_areKept_349 ?_
                          refine g_bipush F rfl (by decide) dL_areKept_351 ?_
                          refine g_callV F (by decide) (K := 7) (b := 0) [(0, l15), (0, 7)] [0, 0] ml_RL_30 wi_X7_ofLot ws_X7_ofLot (c_X7_ofLot 0 l15 7 (by decide)) mi_X7_ofLot (by decide) ⟨_, rfl, rfl⟩ (by decide) rfl rfl rfl (Nat.le_of_ble_eq_true rfl) (Nat.le_of_ble_eq_true rfl) (show (cells + 20) + 2 ≤ 1862 by omega) (show (slots + 120) + 12 ≤ 11184 by omega) (Nat.le_of_ble_eq_true rfl) dL_areKept_353 (fun z78 v78 hz78 => ?_)
                          refine g_if_lt F rfl (tgt := 363) rfl dL_areKept_356 (fun n79 => ?_) (fun n79 => ?_)
                          · refine g_iconst F 2 rfl dL_areKept_363 ?_
                            refine g_istore F rfl (Nat.le_of_ble_eq_true rfl) (ls' := [(11, (2, 0)), (20, (0, z27)), (19, (0, z26)), (18, (0, z25)), (12, (0, (w32 (l12 + z20)))), (17, (0, z20)), (16, (0, z19)), (0, (17, 0)), (1, (1, l1)), (3, (0, 4)), (4, (1, l4)), (6, (1, l6)), (8, (1, l8)), (10, (0, l10)), (13, (27, 0)), (14, (28, 0)), (15, (0, l15))]) rfl dL_areKept_364 ?_
                            refine g_iinc F 16 rfl rfl (Nat.le_of_ble_eq_true rfl) (ls' := [(15, (0, (w32 (l15 + 1)))), (11, (2, 0)), (20, (0, z27)), (19, (0, z26)), (18, (0, z25)), (12, (0, (w32 (l12 + z20)))), (17, (0, z20)), (16, (0, z19)), (0, (17, 0)), (1, (1, l1)), (3, (0, 4)), (4, (1, l4)), (6, (1, l6)), (8, (1, l8)), (10, (0, l10)), (13, (27, 0)), (14, (28, 0))]) rfl dL_areKept_366 ?_
                            refine g_goto F (tgt := 134) rfl dL_areKept_369 ?_
                            refine g_loc [(8, 17), (9, 1), (10, 0), (11, 1), (12, 1), (13, 1), (14, 0), (1, 0), (5, 0), (15, 27), (16, 28), (0, 0)] rfl ?_
                            exact ih v78 0 (w32 (l12 + z20)) (w32 (l15 + 1)) (cells + 22) (slots + 132) (by omega) (by omega)
                          · refine g_iconst F 2 rfl dL_areKept_359 ?_
                            refine g_goto F (tgt := 364) rfl dL_areKept_360 ?_
                            refine g_istore F rfl (Nat.le_of_ble_eq_true rfl) (ls' := [(11, (2, 1)), (20, (0, z27)), (19, (0, z26)), (18, (0, z25)), (12, (0, (w32 (l12 + z20)))), (17, (0, z20)), (16, (0, z19)), (0, (17, 0)), (1, (1, l1)), (3, (0, 4)), (4, (1, l4)), (6, (1, l6)), (8, (1, l8)), (10, (0, l10)), (13, (27, 0)), (14, (28, 0)), (15, (0, l15))]) rfl dL_areKept_364 ?_
                            refine g_iinc F 16 rfl rfl (Nat.le_of_ble_eq_true rfl) (ls' := [(15, (0, (w32 (l15 + 1)))), (11, (2, 1)), (20, (0, z27)), (19, (0, z26)), (18, (0, z25)), (12, (0, (w32 (l12 + z20)))), (17, (0, z20)), (16, (0, z19)), (0, (17, 0)), (1, (1, l1)), (3, (0, 4)), (4, (1, l4)), (6, (1, l6)), (8, (1, l8)), (10, (0, l10)), (13, (27, 0)), (14, (28, 0))]) rfl dL_areKept_366 ?_
                            refine g_goto F (tgt := 134) rfl dL_areKept_369 ?_
                            refine g_loc [(8, 17), (9, 1), (10, 0), (11, 1), (12, 1), (13, 1), (14, 0), (1, 0), (5, 0), (15, 27), (16, 28), (0, 0)] rfl ?_
                            exact ih v78 1 (w32 (l12 + z20)) (w32 (l15 + 1)) (cells + 22) (slots + 132) (by omega) (by omega)
                        · refine g_iload F 4 rfl rfl dL_areKept_326 ?_
                          refine g_if_le_t F rfl (Int.not_lt.mp (Int.not_lt.mpr n23)) (tgt := 363) rfl dL_areKept_328 ?_
                          refine g_iconst F 2 rfl dL_areKept_363 ?_
                          refine g_istore F rfl (Nat.le_of_ble_eq_true rfl) (ls' := [(11, (2, 0)), (20, (0, z27)), (19, (0, z26)), (18, (0, z25)), (12, (0, (w32 (l12 + z20)))), (17, (0, z20)), (16, (0, z19)), (0, (17, 0)), (1, (1, l1)), (3, (0, 4)), (4, (1, l4)), (6, (1, l6)), (8, (1, l8)), (10, (0, l10)), (13, (27, 0)), (14, (28, 0)), (15, (0, l15))]) rfl dL_areKept_364 ?_
                          refine g_iinc F 16 rfl rfl (Nat.le_of_ble_eq_true rfl) (ls' := [(15, (0, (w32 (l15 + 1)))), (11, (2, 0)), (20, (0, z27)), (19, (0, z26)), (18, (0, z25)), (12, (0, (w32 (l12 + z20)))), (17, (0, z20)), (16, (0, z19)), (0, (17, 0)), (1, (1, l1)), (3, (0, 4)), (4, (1, l4)), (6, (1, l6)), (8, (1, l8)), (10, (0, l10)), (13, (27, 0)), (14, (28, 0))]) rfl dL_areKept_366 ?_
                          refine g_goto F (tgt := 134) rfl dL_areKept_369 ?_
                          refine g_loc [(8, 17), (9, 1), (10, 0), (11, 1), (12, 1), (13, 1), (14, 0), (1, 0), (5, 0), (15, 27), (16, 28), (0, 0)] rfl ?_
                          exact ih v76 0 (w32 (l12 + z20)) (w32 (l15 + 1)) (cells + 20) (slots + 120) (by omega) (by omega)
                      · refine g_aload_n F rfl 6 rfl dL_areKept_306 ?_
                        refine g_iload F 2 rfl rfl dL_areKept_307 ?_
                        refine g_iconst F 0 rfl dL_areKept_309 ?_
                        refine g_callV F (by decide) (K := 7) (b := 0) [(0, z25), (0, 5)] [0, 0] ml_RL_33 wi_X7_ofLoan ws_X7_ofLoan (c_X7_ofLoan 0 z25 5 (by decide)) mi_X7_ofLoan (by decide) ⟨_, rfl, rfl⟩ (by decide) rfl rfl rfl (Nat.le_of_ble_eq_true rfl) (Nat.le_of_ble_eq_true rfl) (show (cells + 18) + 2 ≤ 1862 by omega) (show (slots + 108) + 12 ≤ 11184 by omega) (Nat.le_of_ble_eq_true rfl) dL_areKept_310 (fun z80 v80 hz80 => ?_)
                        refine g_if_ne F rfl (tgt := 363) rfl dL_areKept_313 (fun n81 => ?_) (fun n81 => ?_)
                        · refine g_iconst F 2 rfl dL_areKept_363 ?_
                          refine g_istore F rfl (Nat.le_of_ble_eq_true rfl) (ls' := [(11, (2, 0)), (20, (0, z27)), (19, (0, z26)), (18, (0, z25)), (12, (0, (w32 (l12 + z20)))), (17, (0, z20)), (16, (0, z19)), (0, (17, 0)), (1, (1, l1)), (3, (0, 4)), (4, (1, l4)), (6, (1, l6)), (8, (1, l8)), (10, (0, l10)), (13, (27, 0)), (14, (28, 0)), (15, (0, l15))]) rfl dL_areKept_364 ?_
                          refine g_iinc F 16 rfl rfl (Nat.le_of_ble_eq_true rfl) (ls' := [(15, (0, (w32 (l15 + 1)))), (11, (2, 0)), (20, (0, z27)), (19, (0, z26)), (18, (0, z25)), (12, (0, (w32 (l12 + z20)))), (17, (0, z20)), (16, (0, z19)), (0, (17, 0)), (1, (1, l1)), (3, (0, 4)), (4, (1, l4)), (6, (1, l6)), (8, (1, l8)), (10, (0, l10)), (13, (27, 0)), (14, (28, 0))]) rfl dL_areKept_366 ?_
                          refine g_goto F (tgt := 134) rfl dL_areKept_369 ?_
                          refine g_loc [(8, 17), (9, 1), (10, 0), (11, 1), (12, 1), (13, 1), (14, 0), (1, 0), (5, 0), (15, 27), (16, 28), (0, 0)] rfl ?_
                          exact ih v80 0 (w32 (l12 + z20)) (w32 (l15 + 1)) (cells + 20) (slots + 120) (by omega) (by omega)
                        · refine g_aload_n F rfl 6 rfl dL_areKept_316 ?_
                          refine g_iload F 16 rfl rfl dL_areKept_317 ?_
                          refine g_iconst F 0 rfl dL_areKept_319 ?_
                          refine g_callV F (by decide) (K := 7) (b := 0) [(0, l15), (0, 4)] [0, 0] ml_RL_30 wi_X7_ofLot ws_X7_ofLot (c_X7_ofLot 0 l15 4 (by decide)) mi_X7_ofLot (by decide) ⟨_, rfl, rfl⟩ (by decide) rfl rfl rfl (Nat.le_of_ble_eq_true rfl) (Nat.le_of_ble_eq_true rfl) (show (cells + 20) + 2 ≤ 1862 by omega) (show (slots + 120) + 12 ≤ 11184 by omega) (Nat.le_of_ble_eq_true rfl) dL_areKept_320 (fun z82 v82 hz82 => ?_)
                          refine g_if_lt F rfl (tgt := 348) rfl dL_areKept_323 (fun n83 => ?_) (fun n83 => ?_)
                          · refine g_aload_n F rfl 6 rfl dL_areKept_348 ?_
                            refine g_iload F 16 rfl rfl dL_areKept_349 ?_
                            refine g_bipush F rfl (by decide) dL_areKept_351 ?_
                            refine g_callV F (by decide) (K := 7) (b := 0) [(0, l15), (0, 7)] [0, 0] ml_RL_30 wi_X7_ofLot ws_X7_ofLot (c_X7_ofLot 0 l15 7 (by decide)) mi_X7_ofLot (by decide) ⟨_, rfl, rfl⟩ (by decide) rfl rfl rfl (Nat.le_of_ble_eq_true rfl) (Nat.le_of_ble_eq_true rfl) (show (cells + 22) + 2 ≤ 1862 by omega) (show (slots + 132) + 12 ≤ 11184 by omega) (Nat.le_of_ble_eq_true rfl) dL_areKept_353 (fun z84 v84 hz84 => ?_)
                            refine g_if_lt F rfl (tgt := 363) rfl dL_areKept_356 (fun n85 => ?_) (fun n85 => ?_)
                            · refine g_iconst F 2 rfl dL_areKept_363 ?_
                              refine g_istore F rfl (Nat.le_of_ble_eq_true rfl) (ls' := [(11, (2, 0)), (20, (0, z27)), (19, (0, z26)), (18, (0, z25)), (12, (0, (w32 (l12 + z20)))), (17, (0, z20)), (16, (0, z19)), (0, (17, 0)), (1, (1, l1)), (3, (0, 4)), (4, (1, l4)), (6, (1, l6)), (8, (1, l8)), (10, (0, l10)), (13, (27, 0)), (14, (28, 0)), (15, (0, l15))]) rfl dL_areKept_364 ?_
                              refine g_iinc F 16 rfl rfl (Nat.le_of_ble_eq_true rfl) (ls' := [(15, (0, (w32 (l15 + 1)))), (11, (2, 0)), (20, (0, z27)), (19, (0, z26)), (18, (0, z25)), (12, (0, (w32 (l12 + z20)))), (17, (0, z20)), (16, (0, z19)), (0, (17, 0)), (1, (1, l1)), (3, (0, 4)), (4, (1, l4)), (6, (1, l6)), (8, (1, l8)), (10, (0, l10)), (13, (27, 0)), (14, (28, 0))]) rfl dL_areKept_366 ?_
                              refine g_goto F (tgt := 134) rfl dL_areKept_369 ?_
                              refine g_loc [(8, 17), (9, 1), (10, 0), (11, 1), (12, 1), (13, 1), (14, 0), (1, 0), (5, 0), (15, 27), (16, 28), (0, 0)] rfl ?_
                              exact ih v84 0 (w32 (l12 + z20)) (w32 (l15 + 1)) (cells + 24) (slots + 144) (by omega) (by omega)
                            · refine g_iconst F 2 rfl dL_areKept_359 ?_
                              refine g_goto F (tgt := 364) rfl dL_areKept_360 ?_
                              refine g_istore F rfl (Nat.le_of_ble_eq_true rfl) (ls' := [(11, (2, 1)), (20, (0, z27)), (19, (0, z26)), (18, (0, z25)), (12, (0, (w32 (l12 + z20)))), (17, (0, z20)), (16, (0, z19)), (0, (17, 0)), (1, (1, l1)), (3, (0, 4)), (4, (1, l4)), (6, (1, l6)), (8, (1, l8)), (10, (0, l10)), (13, (27, 0)), (14, (28, 0)), (15, (0, l15))]) rfl dL_areKept_364 ?_
                              refine g_iinc F 16 rfl rfl (Nat.le_of_ble_eq_true rfl) (ls' := [(15, (0, (w32 (l15 + 1)))), (11, (2, 1)), (20, (0, z27)), (19, (0, z26)), (18, (0, z25)), (12, (0, (w32 (l12 + z20)))), (17, (0, z20)), (16, (0, z19)), (0, (17, 0)), (1, (1, l1)), (3, (0, 4)), (4, (1, l4)), (6, (1, l6)), (8, (1, l8)), (10, (0, l10)), (13, (27, 0)), (14, (28, 0))]) rfl dL_areKept_366 ?_
                              refine g_goto F (tgt := 134) rfl dL_areKept_369 ?_
                              refine g_loc [(8, 17), (9, 1), (10, 0), (11, 1), (12, 1), (13, 1), (14, 0), (1, 0), (5, 0), (15, 27), (16, 28), (0, 0)] rfl ?_
                              exact ih v84 1 (w32 (l12 + z20)) (w32 (l15 + 1)) (cells + 24) (slots + 144) (by omega) (by omega)
                          · refine g_iload F 4 rfl rfl dL_areKept_326 ?_
                            refine g_if_le_t F rfl (Int.not_lt.mp (Int.not_lt.mpr n23)) (tgt := 363) rfl dL_areKept_328 ?_
                            refine g_iconst F 2 rfl dL_areKept_363 ?_
                            refine g_istore F rfl (Nat.le_of_ble_eq_true rfl) (ls' := [(11, (2, 0)), (20, (0, z27)), (19, (0, z26)), (18, (0, z25)), (12, (0, (w32 (l12 + z20)))), (17, (0, z20)), (16, (0, z19)), (0, (17, 0)), (1, (1, l1)), (3, (0, 4)), (4, (1, l4)), (6, (1, l6)), (8, (1, l8)), (10, (0, l10)), (13, (27, 0)), (14, (28, 0)), (15, (0, l15))]) rfl dL_areKept_364 ?_
                            refine g_iinc F 16 rfl rfl (Nat.le_of_ble_eq_true rfl) (ls' := [(15, (0, (w32 (l15 + 1)))), (11, (2, 0)), (20, (0, z27)), (19, (0, z26)), (18, (0, z25)), (12, (0, (w32 (l12 + z20)))), (17, (0, z20)), (16, (0, z19)), (0, (17, 0)), (1, (1, l1)), (3, (0, 4)), (4, (1, l4)), (6, (1, l6)), (8, (1, l8)), (10, (0, l10)), (13, (27, 0)), (14, (28, 0))]) rfl dL_areKept_366 ?_
                            refine g_goto F (tgt := 134) rfl dL_areKept_369 ?_
                            refine g_loc [(8, 17), (9, 1), (10, 0), (11, 1), (12, 1), (13, 1), (14, 0), (1, 0), (5, 0), (15, 27), (16, 28), (0, 0)] rfl ?_
                            exact ih v82 0 (w32 (l12 + z20)) (w32 (l15 + 1)) (cells + 22) (slots + 132) (by omega) (by omega)
        · refine g_iconst F 2 rfl dL_areKept_192 ?_
          refine g_goto F (tgt := 197) rfl dL_areKept_193 ?_
          refine g_iadd F rfl rfl dL_areKept_197 ?_
          refine h_iast F (n := 12) ak_18 rfl (by decide) n21 rfl dL_areKept_198 (fun v86 => ?_)
          refine g_iload F 10 rfl rfl dL_areKept_199 ?_
          refine g_iload F 0 rfl rfl dL_areKept_201 ?_
          refine g_iadd F rfl rfl dL_areKept_203 ?_
          refine g_istore F rfl (Nat.le_of_ble_eq_true rfl) (ls' := [(12, (0, (w32 (l12 + z20)))), (17, (0, z20)), (16, (0, z19)), (0, (17, 0)), (1, (1, l1)), (3, (0, 4)), (4, (1, l4)), (6, (1, l6)), (8, (1, l8)), (10, (0, l10)), (11, (0, l11)), (13, (27, 0)), (14, (28, 0)), (15, (0, l15))]) rfl dL_areKept_204 ?_
          refine g_aload_n F rfl 3 rfl dL_areKept_206 ?_
          refine g_iload F 13 rfl rfl dL_areKept_207 ?_
          refine g_iconst F 0 rfl dL_areKept_209 ?_
          refine g_callV F (by decide) (K := 7) (b := 0) [(0, l15), (0, 3)] [0, 0] ml_RL_30 wi_X7_ofLot ws_X7_ofLot (c_X7_ofLot 0 l15 3 (by decide)) mi_X7_ofLot (by decide) ⟨_, rfl, rfl⟩ (by decide) rfl rfl rfl (Nat.le_of_ble_eq_true rfl) (Nat.le_of_ble_eq_true rfl) (show (cells + 6) + 2 ≤ 1862 by omega) (show (slots + 36) + 12 ≤ 11184 by omega) (Nat.le_of_ble_eq_true rfl) dL_areKept_210 (fun z87 v87 hz87 => ?_)
          refine g_istore F rfl (Nat.le_of_ble_eq_true rfl) (ls' := [(18, (0, z87)), (12, (0, (w32 (l12 + z20)))), (17, (0, z20)), (16, (0, z19)), (0, (17, 0)), (1, (1, l1)), (3, (0, 4)), (4, (1, l4)), (6, (1, l6)), (8, (1, l8)), (10, (0, l10)), (11, (0, l11)), (13, (27, 0)), (14, (28, 0)), (15, (0, l15))]) rfl dL_areKept_213 ?_
          refine g_aload_n F rfl 4 rfl dL_areKept_215 ?_
          refine g_iload F 14 rfl rfl dL_areKept_216 ?_
          refine g_bipush F rfl (by decide) dL_areKept_218 ?_
          refine g_callV F (by decide) (K := 7) (b := 0) [(0, l15), (0, 6)] [0, 0] ml_RL_30 wi_X7_ofLot ws_X7_ofLot (c_X7_ofLot 0 l15 6 (by decide)) mi_X7_ofLot (by decide) ⟨_, rfl, rfl⟩ (by decide) rfl rfl rfl (Nat.le_of_ble_eq_true rfl) (Nat.le_of_ble_eq_true rfl) (show (cells + 8) + 2 ≤ 1862 by omega) (show (slots + 48) + 12 ≤ 11184 by omega) (Nat.le_of_ble_eq_true rfl) dL_areKept_220 (fun z88 v88 hz88 => ?_)
          refine g_istore F rfl (Nat.le_of_ble_eq_true rfl) (ls' := [(19, (0, z88)), (18, (0, z87)), (12, (0, (w32 (l12 + z20)))), (17, (0, z20)), (16, (0, z19)), (0, (17, 0)), (1, (1, l1)), (3, (0, 4)), (4, (1, l4)), (6, (1, l6)), (8, (1, l8)), (10, (0, l10)), (11, (0, l11)), (13, (27, 0)), (14, (28, 0)), (15, (0, l15))]) rfl dL_areKept_223 ?_
          refine g_aload_n F rfl 5 rfl dL_areKept_225 ?_
          refine g_iload F 15 rfl rfl dL_areKept_226 ?_
          refine g_bipush F rfl (by decide) dL_areKept_228 ?_
          refine g_callV F (by decide) (K := 7) (b := 0) [(0, l15), (0, 8)] [0, 0] ml_RL_30 wi_X7_ofLot ws_X7_ofLot (c_X7_ofLot 0 l15 8 (by decide)) mi_X7_ofLot (by decide) ⟨_, rfl, rfl⟩ (by decide) rfl rfl rfl (Nat.le_of_ble_eq_true rfl) (Nat.le_of_ble_eq_true rfl) (show (cells + 10) + 2 ≤ 1862 by omega) (show (slots + 60) + 12 ≤ 11184 by omega) (Nat.le_of_ble_eq_true rfl) dL_areKept_230 (fun z89 v89 hz89 => ?_)
          refine g_istore F rfl (Nat.le_of_ble_eq_true rfl) (ls' := [(20, (0, z89)), (19, (0, z88)), (18, (0, z87)), (12, (0, (w32 (l12 + z20)))), (17, (0, z20)), (16, (0, z19)), (0, (17, 0)), (1, (1, l1)), (3, (0, 4)), (4, (1, l4)), (6, (1, l6)), (8, (1, l8)), (10, (0, l10)), (11, (0, l11)), (13, (27, 0)), (14, (28, 0)), (15, (0, l15))]) rfl dL_areKept_233 ?_
          refine g_iload F 4 rfl rfl dL_areKept_235 ?_
          refine g_if_lt F rfl (tgt := 363) rfl dL_areKept_237 (fun n90 => ?_) (fun n90 => ?_)
          · refine g_iconst F 2 rfl dL_areKept_363 ?_
            refine g_istore F rfl (Nat.le_of_ble_eq_true rfl) (ls' := [(11, (2, 0)), (20, (0, z89)), (19, (0, z88)), (18, (0, z87)), (12, (0, (w32 (l12 + z20)))), (17, (0, z20)), (16, (0, z19)), (0, (17, 0)), (1, (1, l1)), (3, (0, 4)), (4, (1, l4)), (6, (1, l6)), (8, (1, l8)), (10, (0, l10)), (13, (27, 0)), (14, (28, 0)), (15, (0, l15))]) rfl dL_areKept_364 ?_
            refine g_iinc F 16 rfl rfl (Nat.le_of_ble_eq_true rfl) (ls' := [(15, (0, (w32 (l15 + 1)))), (11, (2, 0)), (20, (0, z89)), (19, (0, z88)), (18, (0, z87)), (12, (0, (w32 (l12 + z20)))), (17, (0, z20)), (16, (0, z19)), (0, (17, 0)), (1, (1, l1)), (3, (0, 4)), (4, (1, l4)), (6, (1, l6)), (8, (1, l8)), (10, (0, l10)), (13, (27, 0)), (14, (28, 0))]) rfl dL_areKept_366 ?_
            refine g_goto F (tgt := 134) rfl dL_areKept_369 ?_
            refine g_loc [(8, 17), (9, 1), (10, 0), (11, 1), (12, 1), (13, 1), (14, 0), (1, 0), (5, 0), (15, 27), (16, 28), (0, 0)] rfl ?_
            exact ih v89 0 (w32 (l12 + z20)) (w32 (l15 + 1)) (cells + 12) (slots + 72) (by omega) (by omega)
          · refine g_aload_n F rfl 6 rfl dL_areKept_240 ?_
            refine g_iload F 16 rfl rfl dL_areKept_241 ?_
            refine g_iconst F 0 rfl dL_areKept_243 ?_
            refine g_callV F (by decide) (K := 7) (b := 0) [(0, l15), (0, 5)] [0, 0] ml_RL_30 wi_X7_ofLot ws_X7_ofLot (c_X7_ofLot 0 l15 5 (by decide)) mi_X7_ofLot (by decide) ⟨_, rfl, rfl⟩ (by decide) rfl rfl rfl (Nat.le_of_ble_eq_true rfl) (Nat.le_of_ble_eq_true rfl) (show (cells + 12) + 2 ≤ 1862 by omega) (show (slots + 72) + 12 ≤ 11184 by omega) (Nat.le_of_ble_eq_true rfl) dL_areKept_244 (fun z91 v91 hz91 => ?_)
            refine g_iload F 16 rfl rfl dL_areKept_247 ?_
            refine g_icmp_ge F rfl rfl (tgt := 363) rfl dL_areKept_249 (fun n92 => ?_) (fun n92 => ?_)
            · refine g_iconst F 2 rfl dL_areKept_363 ?_
              refine g_istore F rfl (Nat.le_of_ble_eq_true rfl) (ls' := [(11, (2, 0)), (20, (0, z89)), (19, (0, z88)), (18, (0, z87)), (12, (0, (w32 (l12 + z20)))), (17, (0, z20)), (16, (0, z19)), (0, (17, 0)), (1, (1, l1)), (3, (0, 4)), (4, (1, l4)), (6, (1, l6)), (8, (1, l8)), (10, (0, l10)), (13, (27, 0)), (14, (28, 0)), (15, (0, l15))]) rfl dL_areKept_364 ?_
              refine g_iinc F 16 rfl rfl (Nat.le_of_ble_eq_true rfl) (ls' := [(15, (0, (w32 (l15 + 1)))), (11, (2, 0)), (20, (0, z89)), (19, (0, z88)), (18, (0, z87)), (12, (0, (w32 (l12 + z20)))), (17, (0, z20)), (16, (0, z19)), (0, (17, 0)), (1, (1, l1)), (3, (0, 4)), (4, (1, l4)), (6, (1, l6)), (8, (1, l8)), (10, (0, l10)), (13, (27, 0)), (14, (28, 0))]) rfl dL_areKept_366 ?_
              refine g_goto F (tgt := 134) rfl dL_areKept_369 ?_
              refine g_loc [(8, 17), (9, 1), (10, 0), (11, 1), (12, 1), (13, 1), (14, 0), (1, 0), (5, 0), (15, 27), (16, 28), (0, 0)] rfl ?_
              exact ih v91 0 (w32 (l12 + z20)) (w32 (l15 + 1)) (cells + 14) (slots + 84) (by omega) (by omega)
            · refine g_iload F 1 rfl rfl dL_areKept_252 ?_
              refine g_if_lt F rfl (tgt := 261) rfl dL_areKept_254 (fun n93 => ?_) (fun n93 => ?_)
              · refine g_iconst F 2 rfl dL_areKept_261 ?_
                refine g_iload F 0 rfl rfl dL_areKept_262 ?_
                refine g_if_le F rfl (tgt := 271) rfl dL_areKept_264 (fun n94 => ?_) (fun n94 => ?_)
                · refine g_iconst F 2 rfl dL_areKept_271 ?_
                  refine g_icmp_ne_f F rfl rfl (by decide) (tgt := 363) rfl dL_areKept_272 ?_
                  refine g_iload F 0 rfl rfl dL_areKept_275 ?_
                  refine g_iconst F 0 rfl dL_areKept_277 ?_
                  refine g_icmp_lt F rfl rfl (tgt := 301) rfl dL_areKept_278 (fun n95 => ?_) (fun n95 => ?_)
                  · refine g_iload F 2 rfl rfl dL_areKept_301 ?_
                    refine g_if_lt F rfl (tgt := 316) rfl dL_areKept_303 (fun n96 => ?_) (fun n96 => ?_)
                    · refine g_aload_n F rfl 6 rfl dL_areKept_316 ?_
                      refine g_iload F 16 rfl rfl dL_areKept_317 ?_
                      refine g_iconst F 0 rfl dL_areKept_319 ?_
                      refine g_callV F (by decide) (K := 7) (b := 0) [(0, l15), (0, 4)] [0, 0] ml_RL_30 wi_X7_ofLot ws_X7_ofLot (c_X7_ofLot 0 l15 4 (by decide)) mi_X7_ofLot (by decide) ⟨_, rfl, rfl⟩ (by decide) rfl rfl rfl (Nat.le_of_ble_eq_true rfl) (Nat.le_of_ble_eq_true rfl) (show (cells + 14) + 2 ≤ 1862 by omega) (show (slots + 84) + 12 ≤ 11184 by omega) (Nat.le_of_ble_eq_true rfl) dL_areKept_320 (fun z97 v97 hz97 => ?_)
                      refine g_if_lt F rfl (tgt := 348) rfl dL_areKept_323 (fun n98 => ?_) (fun n98 => ?_)
                      · refine g_aload_n F rfl 6 rfl dL_areKept_348 ?_
                        refine g_iload F 16 rfl rfl dL_areKept_349 ?_
                        refine g_bipush F rfl (by decide) dL_areKept_351 ?_
                        refine g_callV F (by decide) (K := 7) (b := 0) [(0, l15), (0, 7)] [0, 0] ml_RL_30 wi_X7_ofLot ws_X7_ofLot (c_X7_ofLot 0 l15 7 (by decide)) mi_X7_ofLot (by decide) ⟨_, rfl, rfl⟩ (by decide) rfl rfl rfl (Nat.le_of_ble_eq_true rfl) (Nat.le_of_ble_eq_true rfl) (show (cells + 16) + 2 ≤ 1862 by omega) (show (slots + 96) + 12 ≤ 11184 by omega) (Nat.le_of_ble_eq_true rfl) dL_areKept_353 (fun z99 v99 hz99 => ?_)
                        refine g_if_lt F rfl (tgt := 363) rfl dL_areKept_356 (fun n100 => ?_) (fun n100 => ?_)
                        · refine g_iconst F 2 rfl dL_areKept_363 ?_
                          refine g_istore F rfl (Nat.le_of_ble_eq_true rfl) (ls' := [(11, (2, 0)), (20, (0, z89)), (19, (0, z88)), (18, (0, z87)), (12, (0, (w32 (l12 + z20)))), (17, (0, z20)), (16, (0, z19)), (0, (17, 0)), (1, (1, l1)), (3, (0, 4)), (4, (1, l4)), (6, (1, l6)), (8, (1, l8)), (10, (0, l10)), (13, (27, 0)), (14, (28, 0)), (15, (0, l15))]) rfl dL_areKept_364 ?_
                          refine g_iinc F 16 rfl rfl (Nat.le_of_ble_eq_true rfl) (ls' := [(15, (0, (w32 (l15 + 1)))), (11, (2, 0)), (20, (0, z89)), (19, (0, z88)), (18, (0, z87)), (12, (0, (w32 (l12 + z20)))), (17, (0, z20)), (16, (0, z19)), (0, (17, 0)), (1, (1, l1)), (3, (0, 4)), (4, (1, l4)), (6, (1, l6)), (8, (1, l8)), (10, (0, l10)), (13, (27, 0)), (14, (28, 0))]) rfl dL_areKept_366 ?_
                          refine g_goto F (tgt := 134) rfl dL_areKept_369 ?_
                          refine g_loc [(8, 17), (9, 1), (10, 0), (11, 1), (12, 1), (13, 1), (14, 0), (1, 0), (5, 0), (15, 27), (16, 28), (0, 0)] rfl ?_
                          exact ih v99 0 (w32 (l12 + z20)) (w32 (l15 + 1)) (cells + 18) (slots + 108) (by omega) (by omega)
                        · refine g_iconst F 2 rfl dL_areKept_359 ?_
                          refine g_goto F (tgt := 364) rfl dL_areKept_360 ?_
                          refine g_istore F rfl (Nat.le_of_ble_eq_true rfl) (ls' := [(11, (2, 1)), (20, (0, z89)), (19, (0, z88)), (18, (0, z87)), (12, (0, (w32 (l12 + z20)))), (17, (0, z20)), (16, (0, z19)), (0, (17, 0)), (1, (1, l1)), (3, (0, 4)), (4, (1, l4)), (6, (1, l6)), (8, (1, l8)), (10, (0, l10)), (13, (27, 0)), (14, (28, 0)), (15, (0, l15))]) rfl dL_areKept_364 ?_
                          refine g_iinc F 16 rfl rfl (Nat.le_of_ble_eq_true rfl) (ls' := [(15, (0, (w32 (l15 + 1)))), (11, (2, 1)), (20, (0, z89)), (19, (0, z88)), (18, (0, z87)), (12, (0, (w32 (l12 + z20)))), (17, (0, z20)), (16, (0, z19)), (0, (17, 0)), (1, (1, l1)), (3, (0, 4)), (4, (1, l4)), (6, (1, l6)), (8, (1, l8)), (10, (0, l10)), (13, (27, 0)), (14, (28, 0))]) rfl dL_areKept_366 ?_
                          refine g_goto F (tgt := 134) rfl dL_areKept_369 ?_
                          refine g_loc [(8, 17), (9, 1), (10, 0), (11, 1), (12, 1), (13, 1), (14, 0), (1, 0), (5, 0), (15, 27), (16, 28), (0, 0)] rfl ?_
                          exact ih v99 1 (w32 (l12 + z20)) (w32 (l15 + 1)) (cells + 18) (slots + 108) (by omega) (by omega)
                      · refine g_iload F 4 rfl rfl dL_areKept_326 ?_
                        refine g_if_le_f F rfl (Int.not_le.mpr (Int.not_le.mp n23)) (tgt := 363) rfl dL_areKept_328 ?_
                        refine g_aload_n F rfl 6 rfl dL_areKept_331 ?_
                        refine g_iload F 16 rfl rfl dL_areKept_332 ?_
                        refine g_iconst F 0 rfl dL_areKept_334 ?_
                        refine g_callV F (by decide) (K := 7) (b := 0) [(0, l15), (0, 4)] [0, 0] ml_RL_30 wi_X7_ofLot ws_X7_ofLot (c_X7_ofLot 0 l15 4 (by decide)) mi_X7_ofLot (by decide) ⟨_, rfl, rfl⟩ (by decide) rfl rfl rfl (Nat.le_of_ble_eq_true rfl) (Nat.le_of_ble_eq_true rfl) (show (cells + 16) + 2 ≤ 1862 by omega) (show (slots + 96) + 12 ≤ 11184 by omega) (Nat.le_of_ble_eq_true rfl) dL_areKept_335 (fun z101 v101 hz101 => ?_)
                        refine g_aload_n F rfl 6 rfl dL_areKept_338 ?_
                        refine g_iload F 16 rfl rfl dL_areKept_339 ?_
                        refine g_iconst F 2 rfl dL_areKept_341 ?_
                        refine g_callV F (by decide) (K := 7) (b := 0) [(0, l15), (2, 1)] [0, 0] ml_RL_30 wi_X7_ofLot ws_X7_ofLot (c_X7_ofLot 0 l15 1 (by decide)) mi_X7_ofLot (by decide) ⟨_, rfl, rfl⟩ (by decide) rfl rfl rfl (Nat.le_of_ble_eq_true rfl) (Nat.le_of_ble_eq_true rfl) (show (cells + 18) + 2 ≤ 1862 by omega) (show (slots + 108) + 12 ≤ 11184 by omega) (Nat.le_of_ble_eq_true rfl) dL_areKept_342 (fun z102 v102 hz102 => ?_)
                        refine g_icmp_eq F rfl rfl (tgt := 363) rfl dL_areKept_345 (fun n103 => ?_) (fun n103 => ?_)
                        · refine g_iconst F 2 rfl dL_areKept_363 ?_
                          refine g_istore F rfl (Nat.le_of_ble_eq_true rfl) (ls' := [(11, (2, 0)), (20, (0, z89)), (19, (0, z88)), (18, (0, z87)), (12, (0, (w32 (l12 + z20)))), (17, (0, z20)), (16, (0, z19)), (0, (17, 0)), (1, (1, l1)), (3, (0, 4)), (4, (1, l4)), (6, (1, l6)), (8, (1, l8)), (10, (0, l10)), (13, (27, 0)), (14, (28, 0)), (15, (0, l15))]) rfl dL_areKept_364 ?_
                          refine g_iinc F 16 rfl rfl (Nat.le_of_ble_eq_true rfl) (ls' := [(15, (0, (w32 (l15 + 1)))), (11, (2, 0)), (20, (0, z89)), (19, (0, z88)), (18, (0, z87)), (12, (0, (w32 (l12 + z20)))), (17, (0, z20)), (16, (0, z19)), (0, (17, 0)), (1, (1, l1)), (3, (0, 4)), (4, (1, l4)), (6, (1, l6)), (8, (1, l8)), (10, (0, l10)), (13, (27, 0)), (14, (28, 0))]) rfl dL_areKept_366 ?_
                          refine g_goto F (tgt := 134) rfl dL_areKept_369 ?_
                          refine g_loc [(8, 17), (9, 1), (10, 0), (11, 1), (12, 1), (13, 1), (14, 0), (1, 0), (5, 0), (15, 27), (16, 28), (0, 0)] rfl ?_
                          exact ih v102 0 (w32 (l12 + z20)) (w32 (l15 + 1)) (cells + 20) (slots + 120) (by omega) (by omega)
                        · refine g_aload_n F rfl 6 rfl dL_areKept_348 ?_
                          refine g_iload F 16 rfl rfl dL_areKept_349 ?_
                          refine g_bipush F rfl (by decide) dL_areKept_351 ?_
                          refine g_callV F (by decide) (K := 7) (b := 0) [(0, l15), (0, 7)] [0, 0] ml_RL_30 wi_X7_ofLot ws_X7_ofLot (c_X7_ofLot 0 l15 7 (by decide)) mi_X7_ofLot (by decide) ⟨_, rfl, rfl⟩ (by decide) rfl rfl rfl (Nat.le_of_ble_eq_true rfl) (Nat.le_of_ble_eq_true rfl) (show (cells + 20) + 2 ≤ 1862 by omega) (show (slots + 120) + 12 ≤ 11184 by omega) (Nat.le_of_ble_eq_true rfl) dL_areKept_353 (fun z104 v104 hz104 => ?_)
                          refine g_if_lt F rfl (tgt := 363) rfl dL_areKept_356 (fun n105 => ?_) (fun n105 => ?_)
                          · refine g_iconst F 2 rfl dL_areKept_363 ?_
                            refine g_istore F rfl (Nat.le_of_ble_eq_true rfl) (ls' := [(11, (2, 0)), (20, (0, z89)), (19, (0, z88)), (18, (0, z87)), (12, (0, (w32 (l12 + z20)))), (17, (0, z20)), (16, (0, z19)), (0, (17, 0)), (1, (1, l1)), (3, (0, 4)), (4, (1, l4)), (6, (1, l6)), (8, (1, l8)), (10, (0, l10)), (13, (27, 0)), (14, (28, 0)), (15, (0, l15))]) rfl dL_areKept_364 ?_
                            refine g_iinc F 16 rfl rfl (Nat.le_of_ble_eq_true rfl) (ls' := [(15, (0, (w32 (l15 + 1)))), (11, (2, 0)), (20, (0, z89)), (19, (0, z88)), (18, (0, z87)), (12, (0, (w32 (l12 + z20)))), (17, (0, z20)), (16, (0, z19)), (0, (17, 0)), (1, (1, l1)), (3, (0, 4)), (4, (1, l4)), (6, (1, l6)), (8, (1, l8)), (10, (0, l10)), (13, (27, 0)), (14, (28, 0))]) rfl dL_areKept_366 ?_
                            refine g_goto F (tgt := 134) rfl dL_areKept_369 ?_
                            refine g_loc [(8, 17), (9, 1), (10, 0), (11, 1), (12, 1), (13, 1), (14, 0), (1, 0), (5, 0), (15, 27), (16, 28), (0, 0)] rfl ?_
                            exact ih v104 0 (w32 (l12 + z20)) (w32 (l15 + 1)) (cells + 22) (slots + 132) (by omega) (by omega)
                          · refine g_iconst F 2 rfl dL_areKept_359 ?_
                            refine g_goto F (tgt := 364) rfl dL_areKept_360 ?_
                            refine g_istore F rfl (Nat.le_of_ble_eq_true rfl) (ls' := [(11, (2, 1)), (20, (0, z89)), (19, (0, z88)), (18, (0, z87)), (12, (0, (w32 (l12 + z20)))), (17, (0, z20)), (16, (0, z19)), (0, (17, 0)), (1, (1, l1)), (3, (0, 4)), (4, (1, l4)), (6, (1, l6)), (8, (1, l8)), (10, (0, l10)), (13, (27, 0)), (14, (28, 0)), (15, (0, l15))]) rfl dL_areKept_364 ?_
                            refine g_iinc F 16 rfl rfl (Nat.le_of_ble_eq_true rfl) (ls' := [(15, (0, (w32 (l15 + 1)))), (11, (2, 1)), (20, (0, z89)), (19, (0, z88)), (18, (0, z87)), (12, (0, (w32 (l12 + z20)))), (17, (0, z20)), (16, (0, z19)), (0, (17, 0)), (1, (1, l1)), (3, (0, 4)), (4, (1, l4)), (6, (1, l6)), (8, (1, l8)), (10, (0, l10)), (13, (27, 0)), (14, (28, 0))]) rfl dL_areKept_366 ?_
                            refine g_goto F (tgt := 134) rfl dL_areKept_369 ?_
                            refine g_loc [(8, 17), (9, 1), (10, 0), (11, 1), (12, 1), (13, 1), (14, 0), (1, 0), (5, 0), (15, 27), (16, 28), (0, 0)] rfl ?_
                            exact ih v104 1 (w32 (l12 + z20)) (w32 (l15 + 1)) (cells + 22) (slots + 132) (by omega) (by omega)
                    · refine g_aload_n F rfl 6 rfl dL_areKept_306 ?_
                      refine g_iload F 2 rfl rfl dL_areKept_307 ?_
                      refine g_iconst F 0 rfl dL_areKept_309 ?_
                      refine g_callV F (by decide) (K := 7) (b := 0) [(0, z87), (0, 5)] [0, 0] ml_RL_33 wi_X7_ofLoan ws_X7_ofLoan (c_X7_ofLoan 0 z87 5 (by decide)) mi_X7_ofLoan (by decide) ⟨_, rfl, rfl⟩ (by decide) rfl rfl rfl (Nat.le_of_ble_eq_true rfl) (Nat.le_of_ble_eq_true rfl) (show (cells + 14) + 2 ≤ 1862 by omega) (show (slots + 84) + 12 ≤ 11184 by omega) (Nat.le_of_ble_eq_true rfl) dL_areKept_310 (fun z106 v106 hz106 => ?_)
                      refine g_if_ne F rfl (tgt := 363) rfl dL_areKept_313 (fun n107 => ?_) (fun n107 => ?_)
                      · refine g_iconst F 2 rfl dL_areKept_363 ?_
                        refine g_istore F rfl (Nat.le_of_ble_eq_true rfl) (ls' := [(11, (2, 0)), (20, (0, z89)), (19, (0, z88)), (18, (0, z87)), (12, (0, (w32 (l12 + z20)))), (17, (0, z20)), (16, (0, z19)), (0, (17, 0)), (1, (1, l1)), (3, (0, 4)), (4, (1, l4)), (6, (1, l6)), (8, (1, l8)), (10, (0, l10)), (13, (27, 0)), (14, (28, 0)), (15, (0, l15))]) rfl dL_areKept_364 ?_
                        refine g_iinc F 16 rfl rfl (Nat.le_of_ble_eq_true rfl) (ls' := [(15, (0, (w32 (l15 + 1)))), (11, (2, 0)), (20, (0, z89)), (19, (0, z88)), (18, (0, z87)), (12, (0, (w32 (l12 + z20)))), (17, (0, z20)), (16, (0, z19)), (0, (17, 0)), (1, (1, l1)), (3, (0, 4)), (4, (1, l4)), (6, (1, l6)), (8, (1, l8)), (10, (0, l10)), (13, (27, 0)), (14, (28, 0))]) rfl dL_areKept_366 ?_
                        refine g_goto F (tgt := 134) rfl dL_areKept_369 ?_
                        refine g_loc [(8, 17), (9, 1), (10, 0), (11, 1), (12, 1), (13, 1), (14, 0), (1, 0), (5, 0), (15, 27), (16, 28), (0, 0)] rfl ?_
                        exact ih v106 0 (w32 (l12 + z20)) (w32 (l15 + 1)) (cells + 16) (slots + 96) (by omega) (by omega)
                      · refine g_aload_n F rfl 6 rfl dL_areKept_316 ?_
                        refine g_iload F 16 rfl rfl dL_areKept_317 ?_
                        refine g_iconst F 0 rfl dL_areKept_319 ?_
                        refine g_callV F (by decide) (K := 7) (b := 0) [(0, l15), (0, 4)] [0, 0] ml_RL_30 wi_X7_ofLot ws_X7_ofLot (c_X7_ofLot 0 l15 4 (by decide)) mi_X7_ofLot (by decide) ⟨_, rfl, rfl⟩ (by decide) rfl rfl rfl (Nat.le_of_ble_eq_true rfl) (Nat.le_of_ble_eq_true rfl) (show (cells + 16) + 2 ≤ 1862 by omega) (show (slots + 96) + 12 ≤ 11184 by omega) (Nat.le_of_ble_eq_true rfl) dL_areKept_320 (fun z108 v108 hz108 => ?_)
                        refine g_if_lt F rfl (tgt := 348) rfl dL_areKept_323 (fun n109 => ?_) (fun n109 => ?_)
                        · refine g_aload_n F rfl 6 rfl dL_areKept_348 ?_
                          refine g_iload F 16 rfl rfl dL_areKept_349 ?_
                          refine g_bipush F rfl (by decide) dL_areKept_351 ?_
                          refine g_callV F (by decide) (K := 7) (b := 0) [(0, l15), (0, 7)] [0, 0] ml_RL_30 wi_X7_ofLot ws_X7_ofLot (c_X7_ofLot 0 l15 7 (by decide)) mi_X7_ofLot (by decide) ⟨_, rfl, rfl⟩ (by decide) rfl rfl rfl (Nat.le_of_ble_eq_true rfl) (Nat.le_of_ble_eq_true rfl) (show (cells + 18) + 2 ≤ 1862 by omega) (show (slots + 108) + 12 ≤ 11184 by omega) (Nat.le_of_ble_eq_true rfl) dL_areKept_353 (fun z110 v110 hz110 => ?_)
                          refine g_if_lt F rfl (tgt := 363) rfl dL_areKept_356 (fun n111 => ?_) (fun n111 => ?_)
                          · refine g_iconst F 2 rfl dL_areKept_363 ?_
                            refine g_istore F rfl (Nat.le_of_ble_eq_true rfl) (ls' := [(11, (2, 0)), (20, (0, z89)), (19, (0, z88)), (18, (0, z87)), (12, (0, (w32 (l12 + z20)))), (17, (0, z20)), (16, (0, z19)), (0, (17, 0)), (1, (1, l1)), (3, (0, 4)), (4, (1, l4)), (6, (1, l6)), (8, (1, l8)), (10, (0, l10)), (13, (27, 0)), (14, (28, 0)), (15, (0, l15))]) rfl dL_areKept_364 ?_
                            refine g_iinc F 16 rfl rfl (Nat.le_of_ble_eq_true rfl) (ls' := [(15, (0, (w32 (l15 + 1)))), (11, (2, 0)), (20, (0, z89)), (19, (0, z88)), (18, (0, z87)), (12, (0, (w32 (l12 + z20)))), (17, (0, z20)), (16, (0, z19)), (0, (17, 0)), (1, (1, l1)), (3, (0, 4)), (4, (1, l4)), (6, (1, l6)), (8, (1, l8)), (10, (0, l10)), (13, (27, 0)), (14, (28, 0))]) rfl dL_areKept_366 ?_
                            refine g_goto F (tgt := 134) rfl dL_areKept_369 ?_
                            refine g_loc [(8, 17), (9, 1), (10, 0), (11, 1), (12, 1), (13, 1), (14, 0), (1, 0), (5, 0), (15, 27), (16, 28), (0, 0)] rfl ?_
                            exact ih v110 0 (w32 (l12 + z20)) (w32 (l15 + 1)) (cells + 20) (slots + 120) (by omega) (by omega)
                          · refine g_iconst F 2 rfl dL_areKept_359 ?_
                            refine g_goto F (tgt := 364) rfl dL_areKept_360 ?_
                            refine g_istore F rfl (Nat.le_of_ble_eq_true rfl) (ls' := [(11, (2, 1)), (20, (0, z89)), (19, (0, z88)), (18, (0, z87)), (12, (0, (w32 (l12 + z20)))), (17, (0, z20)), (16, (0, z19)), (0, (17, 0)), (1, (1, l1)), (3, (0, 4)), (4, (1, l4)), (6, (1, l6)), (8, (1, l8)), (10, (0, l10)), (13, (27, 0)), (14, (28, 0)), (15, (0, l15))]) rfl dL_areKept_364 ?_
                            refine g_iinc F 16 rfl rfl (Nat.le_of_ble_eq_true rfl) (ls' := [(15, (0, (w32 (l15 + 1)))), (11, (2, 1)), (20, (0, z89)), (19, (0, z88)), (18, (0, z87)), (12, (0, (w32 (l12 + z20)))), (17, (0, z20)), (16, (0, z19)), (0, (17, 0)), (1, (1, l1)), (3, (0, 4)), (4, (1, l4)), (6, (1, l6)), (8, (1, l8)), (10, (0, l10)), (13, (27, 0)), (14, (28, 0))]) rfl dL_areKept_366 ?_
                            refine g_goto F (tgt := 134) rfl dL_areKept_369 ?_
                            refine g_loc [(8, 17), (9, 1), (10, 0), (11, 1), (12, 1), (13, 1), (14, 0), (1, 0), (5, 0), (15, 27), (16, 28), (0, 0)] rfl ?_
                            exact ih v110 1 (w32 (l12 + z20)) (w32 (l15 + 1)) (cells + 20) (slots + 120) (by omega) (by omega)
                        · refine g_iload F 4 rfl rfl dL_areKept_326 ?_
                          refine g_if_le_f F rfl (Int.not_le.mpr (Int.not_le.mp n23)) (tgt := 363) rfl dL_areKept_328 ?_
                          refine g_aload_n F rfl 6 rfl dL_areKept_331 ?_
                          refine g_iload F 16 rfl rfl dL_areKept_332 ?_
                          refine g_iconst F 0 rfl dL_areKept_334 ?_
                          refine g_callV F (by decide) (K := 7) (b := 0) [(0, l15), (0, 4)] [0, 0] ml_RL_30 wi_X7_ofLot ws_X7_ofLot (c_X7_ofLot 0 l15 4 (by decide)) mi_X7_ofLot (by decide) ⟨_, rfl, rfl⟩ (by decide) rfl rfl rfl (Nat.le_of_ble_eq_true rfl) (Nat.le_of_ble_eq_true rfl) (show (cells + 18) + 2 ≤ 1862 by omega) (show (slots + 108) + 12 ≤ 11184 by omega) (Nat.le_of_ble_eq_true rfl) dL_areKept_335 (fun z112 v112 hz112 => ?_)
                          refine g_aload_n F rfl 6 rfl dL_areKept_338 ?_
                          refine g_iload F 16 rfl rfl dL_areKept_339 ?_
                          refine g_iconst F 2 rfl dL_areKept_341 ?_
                          refine g_callV F (by decide) (K := 7) (b := 0) [(0, l15), (2, 1)] [0, 0] ml_RL_30 wi_X7_ofLot ws_X7_ofLot (c_X7_ofLot 0 l15 1 (by decide)) mi_X7_ofLot (by decide) ⟨_, rfl, rfl⟩ (by decide) rfl rfl rfl (Nat.le_of_ble_eq_true rfl) (Nat.le_of_ble_eq_true rfl) (show (cells + 20) + 2 ≤ 1862 by omega) (show (slots + 120) + 12 ≤ 11184 by omega) (Nat.le_of_ble_eq_true rfl) dL_areKept_342 (fun z113 v113 hz113 => ?_)
                          refine g_icmp_eq F rfl rfl (tgt := 363) rfl dL_areKept_345 (fun n114 => ?_) (fun n114 => ?_)
                          · refine g_iconst F 2 rfl dL_areKept_363 ?_
                            refine g_istore F rfl (Nat.le_of_ble_eq_true rfl) (ls' := [(11, (2, 0)), (20, (0, z89)), (19, (0, z88)), (18, (0, z87)), (12, (0, (w32 (l12 + z20)))), (17, (0, z20)), (16, (0, z19)), (0, (17, 0)), (1, (1, l1)), (3, (0, 4)), (4, (1, l4)), (6, (1, l6)), (8, (1, l8)), (10, (0, l10)), (13, (27, 0)), (14, (28, 0)), (15, (0, l15))]) rfl dL_areKept_364 ?_
                            refine g_iinc F 16 rfl rfl (Nat.le_of_ble_eq_true rfl) (ls' := [(15, (0, (w32 (l15 + 1)))), (11, (2, 0)), (20, (0, z89)), (19, (0, z88)), (18, (0, z87)), (12, (0, (w32 (l12 + z20)))), (17, (0, z20)), (16, (0, z19)), (0, (17, 0)), (1, (1, l1)), (3, (0, 4)), (4, (1, l4)), (6, (1, l6)), (8, (1, l8)), (10, (0, l10)), (13, (27, 0)), (14, (28, 0))]) rfl dL_areKept_366 ?_
                            refine g_goto F (tgt := 134) rfl dL_areKept_369 ?_
                            refine g_loc [(8, 17), (9, 1), (10, 0), (11, 1), (12, 1), (13, 1), (14, 0), (1, 0), (5, 0), (15, 27), (16, 28), (0, 0)] rfl ?_
                            exact ih v113 0 (w32 (l12 + z20)) (w32 (l15 + 1)) (cells + 22) (slots + 132) (by omega) (by omega)
                          · refine g_aload_n F rfl 6 rfl dL_areKept_348 ?_
                            refine g_iload F 16 rfl rfl dL_areKept_349 ?_
                            refine g_bipush F rfl (by decide) dL_areKept_351 ?_
                            refine g_callV F (by decide) (K := 7) (b := 0) [(0, l15), (0, 7)] [0, 0] ml_RL_30 wi_X7_ofLot ws_X7_ofLot (c_X7_ofLot 0 l15 7 (by decide)) mi_X7_ofLot (by decide) ⟨_, rfl, rfl⟩ (by decide) rfl rfl rfl (Nat.le_of_ble_eq_true rfl) (Nat.le_of_ble_eq_true rfl) (show (cells + 22) + 2 ≤ 1862 by omega) (show (slots + 132) + 12 ≤ 11184 by omega) (Nat.le_of_ble_eq_true rfl) dL_areKept_353 (fun z115 v115 hz115 => ?_)
                            refine g_if_lt F rfl (tgt := 363) rfl dL_areKept_356 (fun n116 => ?_) (fun n116 => ?_)
                            · refine g_iconst F 2 rfl dL_areKept_363 ?_
                              refine g_istore F rfl (Nat.le_of_ble_eq_true rfl) (ls' := [(11, (2, 0)), (20, (0, z89)), (19, (0, z88)), (18, (0, z87)), (12, (0, (w32 (l12 + z20)))), (17, (0, z20)), (16, (0, z19)), (0, (17, 0)), (1, (1, l1)), (3, (0, 4)), (4, (1, l4)), (6, (1, l6)), (8, (1, l8)), (10, (0, l10)), (13, (27, 0)), (14, (28, 0)), (15, (0, l15))]) rfl dL_areKept_364 ?_
                              refine g_iinc F 16 rfl rfl (Nat.le_of_ble_eq_true rfl) (ls' := [(15, (0, (w32 (l15 + 1)))), (11, (2, 0)), (20, (0, z89)), (19, (0, z88)), (18, (0, z87)), (12, (0, (w32 (l12 + z20)))), (17, (0, z20)), (16, (0, z19)), (0, (17, 0)), (1, (1, l1)), (3, (0, 4)), (4, (1, l4)), (6, (1, l6)), (8, (1, l8)), (10, (0, l10)), (13, (27, 0)), (14, (28, 0))]) rfl dL_areKept_366 ?_
                              refine g_goto F (tgt := 134) rfl dL_areKept_369 ?_
                              refine g_loc [(8, 17), (9, 1), (10, 0), (11, 1), (12, 1), (13, 1), (14, 0), (1, 0), (5, 0), (15, 27), (16, 28), (0, 0)] rfl ?_
                              exact ih v115 0 (w32 (l12 + z20)) (w32 (l15 + 1)) (cells + 24) (slots + 144) (by omega) (by omega)
                            · refine g_iconst F 2 rfl dL_areKept_359 ?_
                              refine g_goto F (tgt := 364) rfl dL_areKept_360 ?_
                              refine g_istore F rfl (Nat.le_of_ble_eq_true rfl) (ls' := [(11, (2, 1)), (20, (0, z89)), (19, (0, z88)), (18, (0, z87)), (12, (0, (w32 (l12 + z20)))), (17, (0, z20)), (16, (0, z19)), (0, (17, 0)), (1, (1, l1)), (3, (0, 4)), (4, (1, l4)), (6, (1, l6)), (8, (1, l8)), (10, (0, l10)), (13, (27, 0)), (14, (28, 0)), (15, (0, l15))]) rfl dL_areKept_364 ?_
                              refine g_iinc F 16 rfl rfl (Nat.le_of_ble_eq_true rfl) (ls' := [(15, (0, (w32 (l15 + 1)))), (11, (2, 1)), (20, (0, z89)), (19, (0, z88)), (18, (0, z87)), (12, (0, (w32 (l12 + z20)))), (17, (0, z20)), (16, (0, z19)), (0, (17, 0)), (1, (1, l1)), (3, (0, 4)), (4, (1, l4)), (6, (1, l6)), (8, (1, l8)), (10, (0, l10)), (13, (27, 0)), (14, (28, 0))]) rfl dL_areKept_366 ?_
                              refine g_goto F (tgt := 134) rfl dL_areKept_369 ?_
                              refine g_loc [(8, 17), (9, 1), (10, 0), (11, 1), (12, 1), (13, 1), (14, 0), (1, 0), (5, 0), (15, 27), (16, 28), (0, 0)] rfl ?_
                              exact ih v115 1 (w32 (l12 + z20)) (w32 (l15 + 1)) (cells + 24) (slots + 144) (by omega) (by omega)
                  · refine g_aload_n F rfl 6 rfl dL_areKept_281 ?_
                    refine g_aload_n F rfl 6 rfl dL_areKept_282 ?_
                    refine g_iload F 16 rfl rfl dL_areKept_283 ?_
                    refine g_iconst F 0 rfl dL_areKept_285 ?_
                    refine g_callV F (by decide) (K := 7) (b := 0) [(0, l15), (0, 5)] [0, 0] ml_RL_30 wi_X7_ofLot ws_X7_ofLot (c_X7_ofLot 0 l15 5 (by decide)) mi_X7_ofLot (by decide) ⟨_, rfl, rfl⟩ (by decide) rfl rfl rfl (Nat.le_of_ble_eq_true rfl) (Nat.le_of_ble_eq_true rfl) (show (cells + 14) + 2 ≤ 1862 by omega) (show (slots + 84) + 12 ≤ 11184 by omega) (Nat.le_of_ble_eq_true rfl) dL_areKept_286 (fun z117 v117 hz117 => ?_)
                    refine g_bipush F rfl (by decide) dL_areKept_289 ?_
                    refine g_callV F (by decide) (K := 7) (b := 0) [(0, z117), (0, 8)] [0, 0] ml_RL_30 wi_X7_ofLot ws_X7_ofLot (c_X7_ofLot 0 z117 8 (by decide)) mi_X7_ofLot (by decide) ⟨_, rfl, rfl⟩ (by decide) rfl rfl rfl (Nat.le_of_ble_eq_true rfl) (Nat.le_of_ble_eq_true rfl) (show (cells + 16) + 2 ≤ 1862 by omega) (show (slots + 96) + 12 ≤ 11184 by omega) (Nat.le_of_ble_eq_true rfl) dL_areKept_291 (fun z118 v118 hz118 => ?_)
                    refine g_iload F 0 rfl rfl dL_areKept_294 ?_
                    refine g_iconst F 2 rfl dL_areKept_296 ?_
                    refine g_isub F rfl rfl dL_areKept_297 ?_
                    refine g_icmp_ne F rfl rfl (tgt := 363) rfl dL_areKept_298 (fun n119 => ?_) (fun n119 => ?_)
                    · refine g_iconst F 2 rfl dL_areKept_363 ?_
                      refine g_istore F rfl (Nat.le_of_ble_eq_true rfl) (ls' := [(11, (2, 0)), (20, (0, z89)), (19, (0, z88)), (18, (0, z87)), (12, (0, (w32 (l12 + z20)))), (17, (0, z20)), (16, (0, z19)), (0, (17, 0)), (1, (1, l1)), (3, (0, 4)), (4, (1, l4)), (6, (1, l6)), (8, (1, l8)), (10, (0, l10)), (13, (27, 0)), (14, (28, 0)), (15, (0, l15))]) rfl dL_areKept_364 ?_
                      refine g_iinc F 16 rfl rfl (Nat.le_of_ble_eq_true rfl) (ls' := [(15, (0, (w32 (l15 + 1)))), (11, (2, 0)), (20, (0, z89)), (19, (0, z88)), (18, (0, z87)), (12, (0, (w32 (l12 + z20)))), (17, (0, z20)), (16, (0, z19)), (0, (17, 0)), (1, (1, l1)), (3, (0, 4)), (4, (1, l4)), (6, (1, l6)), (8, (1, l8)), (10, (0, l10)), (13, (27, 0)), (14, (28, 0))]) rfl dL_areKept_366 ?_
                      refine g_goto F (tgt := 134) rfl dL_areKept_369 ?_
                      refine g_loc [(8, 17), (9, 1), (10, 0), (11, 1), (12, 1), (13, 1), (14, 0), (1, 0), (5, 0), (15, 27), (16, 28), (0, 0)] rfl ?_
                      exact ih v118 0 (w32 (l12 + z20)) (w32 (l15 + 1)) (cells + 18) (slots + 108) (by omega) (by omega)
                    · refine g_iload F 2 rfl rfl dL_areKept_301 ?_
                      refine g_if_lt F rfl (tgt := 316) rfl dL_areKept_303 (fun n120 => ?_) (fun n120 => ?_)
                      · refine g_aload_n F rfl 6 rfl dL_areKept_316 ?_
                        refine g_iload F 16 rfl rfl dL_areKept_317 ?_
                        refine g_iconst F 0 rfl dL_areKept_319 ?_
                        refine g_callV F (by decide) (K := 7) (b := 0) [(0, l15), (0, 4)] [0, 0] ml_RL_30 wi_X7_ofLot ws_X7_ofLot (c_X7_ofLot 0 l15 4 (by decide)) mi_X7_ofLot (by decide) ⟨_, rfl, rfl⟩ (by decide) rfl rfl rfl (Nat.le_of_ble_eq_true rfl) (Nat.le_of_ble_eq_true rfl) (show (cells + 18) + 2 ≤ 1862 by omega) (show (slots + 108) + 12 ≤ 11184 by omega) (Nat.le_of_ble_eq_true rfl) dL_areKept_320 (fun z121 v121 hz121 => ?_)
                        refine g_if_lt F rfl (tgt := 348) rfl dL_areKept_323 (fun n122 => ?_) (fun n122 => ?_)
                        · refine g_aload_n F rfl 6 rfl dL_areKept_348 ?_
                          refine g_iload F 16 rfl rfl dL_areKept_349 ?_
                          refine g_bipush F rfl (by decide) dL_areKept_351 ?_
                          refine g_callV F (by decide) (K := 7) (b := 0) [(0, l15), (0, 7)] [0, 0] ml_RL_30 wi_X7_ofLot ws_X7_ofLot (c_X7_ofLot 0 l15 7 (by decide)) mi_X7_ofLot (by decide) ⟨_, rfl, rfl⟩ (by decide) rfl rfl rfl (Nat.le_of_ble_eq_true rfl) (Nat.le_of_ble_eq_true rfl) (show (cells + 20) + 2 ≤ 1862 by omega) (show (slots + 120) + 12 ≤ 11184 by omega) (Nat.le_of_ble_eq_true rfl) dL_areKept_353 (fun z123 v123 hz123 => ?_)
                          refine g_if_lt F rfl (tgt := 363) rfl dL_areKept_356 (fun n124 => ?_) (fun n124 => ?_)
                          · refine g_iconst F 2 rfl dL_areKept_363 ?_
                            refine g_istore F rfl (Nat.le_of_ble_eq_true rfl) (ls' := [(11, (2, 0)), (20, (0, z89)), (19, (0, z88)), (18, (0, z87)), (12, (0, (w32 (l12 + z20)))), (17, (0, z20)), (16, (0, z19)), (0, (17, 0)), (1, (1, l1)), (3, (0, 4)), (4, (1, l4)), (6, (1, l6)), (8, (1, l8)), (10, (0, l10)), (13, (27, 0)), (14, (28, 0)), (15, (0, l15))]) rfl dL_areKept_364 ?_
                            refine g_iinc F 16 rfl rfl (Nat.le_of_ble_eq_true rfl) (ls' := [(15, (0, (w32 (l15 + 1)))), (11, (2, 0)), (20, (0, z89)), (19, (0, z88)), (18, (0, z87)), (12, (0, (w32 (l12 + z20)))), (17, (0, z20)), (16, (0, z19)), (0, (17, 0)), (1, (1, l1)), (3, (0, 4)), (4, (1, l4)), (6, (1, l6)), (8, (1, l8)), (10, (0, l10)), (13, (27, 0)), (14, (28, 0))]) rfl dL_areKept_366 ?_
                            refine g_goto F (tgt := 134) rfl dL_areKept_369 ?_
                            refine g_loc [(8, 17), (9, 1), (10, 0), (11, 1), (12, 1), (13, 1), (14, 0), (1, 0), (5, 0), (15, 27), (16, 28), (0, 0)] rfl ?_
                            exact ih v123 0 (w32 (l12 + z20)) (w32 (l15 + 1)) (cells + 22) (slots + 132) (by omega) (by omega)
                          · refine g_iconst F 2 rfl dL_areKept_359 ?_
                            refine g_goto F (tgt := 364) rfl dL_areKept_360 ?_
                            refine g_istore F rfl (Nat.le_of_ble_eq_true rfl) (ls' := [(11, (2, 1)), (20, (0, z89)), (19, (0, z88)), (18, (0, z87)), (12, (0, (w32 (l12 + z20)))), (17, (0, z20)), (16, (0, z19)), (0, (17, 0)), (1, (1, l1)), (3, (0, 4)), (4, (1, l4)), (6, (1, l6)), (8, (1, l8)), (10, (0, l10)), (13, (27, 0)), (14, (28, 0)), (15, (0, l15))]) rfl dL_areKept_364 ?_
                            refine g_iinc F 16 rfl rfl (Nat.le_of_ble_eq_true rfl) (ls' := [(15, (0, (w32 (l15 + 1)))), (11, (2, 1)), (20, (0, z89)), (19, (0, z88)), (18, (0, z87)), (12, (0, (w32 (l12 + z20)))), (17, (0, z20)), (16, (0, z19)), (0, (17, 0)), (1, (1, l1)), (3, (0, 4)), (4, (1, l4)), (6, (1, l6)), (8, (1, l8)), (10, (0, l10)), (13, (27, 0)), (14, (28, 0))]) rfl dL_areKept_366 ?_
                            refine g_goto F (tgt := 134) rfl dL_areKept_369 ?_
                            refine g_loc [(8, 17), (9, 1), (10, 0), (11, 1), (12, 1), (13, 1), (14, 0), (1, 0), (5, 0), (15, 27), (16, 28), (0, 0)] rfl ?_
                            exact ih v123 1 (w32 (l12 + z20)) (w32 (l15 + 1)) (cells + 22) (slots + 132) (by omega) (by omega)
                        · refine g_iload F 4 rfl rfl dL_areKept_326 ?_
                          refine g_if_le_f F rfl (Int.not_le.mpr (Int.not_le.mp n23)) (tgt := 363) rfl dL_areKept_328 ?_
                          refine g_aload_n F rfl 6 rfl dL_areKept_331 ?_
                          refine g_iload F 16 rfl rfl dL_areKept_332 ?_
                          refine g_iconst F 0 rfl dL_areKept_334 ?_
                          refine g_callV F (by decide) (K := 7) (b := 0) [(0, l15), (0, 4)] [0, 0] ml_RL_30 wi_X7_ofLot ws_X7_ofLot (c_X7_ofLot 0 l15 4 (by decide)) mi_X7_ofLot (by decide) ⟨_, rfl, rfl⟩ (by decide) rfl rfl rfl (Nat.le_of_ble_eq_true rfl) (Nat.le_of_ble_eq_true rfl) (show (cells + 20) + 2 ≤ 1862 by omega) (show (slots + 120) + 12 ≤ 11184 by omega) (Nat.le_of_ble_eq_true rfl) dL_areKept_335 (fun z125 v125 hz125 => ?_)
                          refine g_aload_n F rfl 6 rfl dL_areKept_338 ?_
                          refine g_iload F 16 rfl rfl dL_areKept_339 ?_
                          refine g_iconst F 2 rfl dL_areKept_341 ?_
                          refine g_callV F (by decide) (K := 7) (b := 0) [(0, l15), (2, 1)] [0, 0] ml_RL_30 wi_X7_ofLot ws_X7_ofLot (c_X7_ofLot 0 l15 1 (by decide)) mi_X7_ofLot (by decide) ⟨_, rfl, rfl⟩ (by decide) rfl rfl rfl (Nat.le_of_ble_eq_true rfl) (Nat.le_of_ble_eq_true rfl) (show (cells + 22) + 2 ≤ 1862 by omega) (show (slots + 132) + 12 ≤ 11184 by omega) (Nat.le_of_ble_eq_true rfl) dL_areKept_342 (fun z126 v126 hz126 => ?_)
                          refine g_icmp_eq F rfl rfl (tgt := 363) rfl dL_areKept_345 (fun n127 => ?_) (fun n127 => ?_)
                          · refine g_iconst F 2 rfl dL_areKept_363 ?_
                            refine g_istore F rfl (Nat.le_of_ble_eq_true rfl) (ls' := [(11, (2, 0)), (20, (0, z89)), (19, (0, z88)), (18, (0, z87)), (12, (0, (w32 (l12 + z20)))), (17, (0, z20)), (16, (0, z19)), (0, (17, 0)), (1, (1, l1)), (3, (0, 4)), (4, (1, l4)), (6, (1, l6)), (8, (1, l8)), (10, (0, l10)), (13, (27, 0)), (14, (28, 0)), (15, (0, l15))]) rfl dL_areKept_364 ?_
                            refine g_iinc F 16 rfl rfl (Nat.le_of_ble_eq_true rfl) (ls' := [(15, (0, (w32 (l15 + 1)))), (11, (2, 0)), (20, (0, z89)), (19, (0, z88)), (18, (0, z87)), (12, (0, (w32 (l12 + z20)))), (17, (0, z20)), (16, (0, z19)), (0, (17, 0)), (1, (1, l1)), (3, (0, 4)), (4, (1, l4)), (6, (1, l6)), (8, (1, l8)), (10, (0, l10)), (13, (27, 0)), (14, (28, 0))]) rfl dL_areKept_366 ?_
                            refine g_goto F (tgt := 134) rfl dL_areKept_369 ?_
                            refine g_loc [(8, 17), (9, 1), (10, 0), (11, 1), (12, 1), (13, 1), (14, 0), (1, 0), (5, 0), (15, 27), (16, 28), (0, 0)] rfl ?_
                            exact ih v126 0 (w32 (l12 + z20)) (w32 (l15 + 1)) (cells + 24) (slots + 144) (by omega) (by omega)
                          · refine g_aload_n F rfl 6 rfl dL_areKept_348 ?_
                            refine g_iload F 16 rfl rfl dL_areKept_349 ?_
                            refine g_bipush F rfl (by decide) dL_areKept_351 ?_
                            refine g_callV F (by decide) (K := 7) (b := 0) [(0, l15), (0, 7)] [0, 0] ml_RL_30 wi_X7_ofLot ws_X7_ofLot (c_X7_ofLot 0 l15 7 (by decide)) mi_X7_ofLot (by decide) ⟨_, rfl, rfl⟩ (by decide) rfl rfl rfl (Nat.le_of_ble_eq_true rfl) (Nat.le_of_ble_eq_true rfl) (show (cells + 24) + 2 ≤ 1862 by omega) (show (slots + 144) + 12 ≤ 11184 by omega) (Nat.le_of_ble_eq_true rfl) dL_areKept_353 (fun z128 v128 hz128 => ?_)
                            refine g_if_lt F rfl (tgt := 363) rfl dL_areKept_356 (fun n129 => ?_) (fun n129 => ?_)
                            · refine g_iconst F 2 rfl dL_areKept_363 ?_
                              refine g_istore F rfl (Nat.le_of_ble_eq_true rfl) (ls' := [(11, (2, 0)), (20, (0, z89)), (19, (0, z88)), (18, (0, z87)), (12, (0, (w32 (l12 + z20)))), (17, (0, z20)), (16, (0, z19)), (0, (17, 0)), (1, (1, l1)), (3, (0, 4)), (4, (1, l4)), (6, (1, l6)), (8, (1, l8)), (10, (0, l10)), (13, (27, 0)), (14, (28, 0)), (15, (0, l15))]) rfl dL_areKept_364 ?_
                              refine g_iinc F 16 rfl rfl (Nat.le_of_ble_eq_true rfl) (ls' := [(15, (0, (w32 (l15 + 1)))), (11, (2, 0)), (20, (0, z89)), (19, (0, z88)), (18, (0, z87)), (12, (0, (w32 (l12 + z20)))), (17, (0, z20)), (16, (0, z19)), (0, (17, 0)), (1, (1, l1)), (3, (0, 4)), (4, (1, l4)), (6, (1, l6)), (8, (1, l8)), (10, (0, l10)), (13, (27, 0)), (14, (28, 0))]) rfl dL_areKept_366 ?_
                              refine g_goto F (tgt := 134) rfl dL_areKept_369 ?_
                              refine g_loc [(8, 17), (9, 1), (10, 0), (11, 1), (12, 1), (13, 1), (14, 0), (1, 0), (5, 0), (15, 27), (16, 28), (0, 0)] rfl ?_
                              exact ih v128 0 (w32 (l12 + z20)) (w32 (l15 + 1)) (cells + 26) (slots + 156) (by omega) (by omega)
                            · refine g_iconst F 2 rfl dL_areKept_359 ?_
                              refine g_goto F (tgt := 364) rfl dL_areKept_360 ?_
                              refine g_istore F rfl (Nat.le_of_ble_eq_true rfl) (ls' := [(11, (2, 1)), (20, (0, z89)), (19, (0, z88)), (18, (0, z87)), (12, (0, (w32 (l12 + z20)))), (17, (0, z20)), (16, (0, z19)), (0, (17, 0)), (1, (1, l1)), (3, (0, 4)), (4, (1, l4)), (6, (1, l6)), (8, (1, l8)), (10, (0, l10)), (13, (27, 0)), (14, (28, 0)), (15, (0, l15))]) rfl dL_areKept_364 ?_
                              refine g_iinc F 16 rfl rfl (Nat.le_of_ble_eq_true rfl) (ls' := [(15, (0, (w32 (l15 + 1)))), (11, (2, 1)), (20, (0, z89)), (19, (0, z88)), (18, (0, z87)), (12, (0, (w32 (l12 + z20)))), (17, (0, z20)), (16, (0, z19)), (0, (17, 0)), (1, (1, l1)), (3, (0, 4)), (4, (1, l4)), (6, (1, l6)), (8, (1, l8)), (10, (0, l10)), (13, (27, 0)), (14, (28, 0))]) rfl dL_areKept_366 ?_
                              refine g_goto F (tgt := 134) rfl dL_areKept_369 ?_
                              refine g_loc [(8, 17), (9, 1), (10, 0), (11, 1), (12, 1), (13, 1), (14, 0), (1, 0), (5, 0), (15, 27), (16, 28), (0, 0)] rfl ?_
                              exact ih v128 1 (w32 (l12 + z20)) (w32 (l15 + 1)) (cells + 26) (slots + 156) (by omega) (by omega)
                      · refine g_aload_n F rfl 6 rfl dL_areKept_306 ?_
                        refine g_iload F 2 rfl rfl dL_areKept_307 ?_
                        refine g_iconst F 0 rfl dL_areKept_309 ?_
                        refine g_callV F (by decide) (K := 7) (b := 0) [(0, z87), (0, 5)] [0, 0] ml_RL_33 wi_X7_ofLoan ws_X7_ofLoan (c_X7_ofLoan 0 z87 5 (by decide)) mi_X7_ofLoan (by decide) ⟨_, rfl, rfl⟩ (by decide) rfl rfl rfl (Nat.le_of_ble_eq_true rfl) (Nat.le_of_ble_eq_true rfl) (show (cells + 18) + 2 ≤ 1862 by omega) (show (slots + 108) + 12 ≤ 11184 by omega) (Nat.le_of_ble_eq_true rfl) dL_areKept_310 (fun z130 v130 hz130 => ?_)
                        refine g_if_ne F rfl (tgt := 363) rfl dL_areKept_313 (fun n131 => ?_) (fun n131 => ?_)
                        · refine g_iconst F 2 rfl dL_areKept_363 ?_
                          refine g_istore F rfl (Nat.le_of_ble_eq_true rfl) (ls' := [(11, (2, 0)), (20, (0, z89)), (19, (0, z88)), (18, (0, z87)), (12, (0, (w32 (l12 + z20)))), (17, (0, z20)), (16, (0, z19)), (0, (17, 0)), (1, (1, l1)), (3, (0, 4)), (4, (1, l4)), (6, (1, l6)), (8, (1, l8)), (10, (0, l10)), (13, (27, 0)), (14, (28, 0)), (15, (0, l15))]) rfl dL_areKept_364 ?_
                          refine g_iinc F 16 rfl rfl (Nat.le_of_ble_eq_true rfl) (ls' := [(15, (0, (w32 (l15 + 1)))), (11, (2, 0)), (20, (0, z89)), (19, (0, z88)), (18, (0, z87)), (12, (0, (w32 (l12 + z20)))), (17, (0, z20)), (16, (0, z19)), (0, (17, 0)), (1, (1, l1)), (3, (0, 4)), (4, (1, l4)), (6, (1, l6)), (8, (1, l8)), (10, (0, l10)), (13, (27, 0)), (14, (28, 0))]) rfl dL_areKept_366 ?_
                          refine g_goto F (tgt := 134) rfl dL_areKept_369 ?_
                          refine g_loc [(8, 17), (9, 1), (10, 0), (11, 1), (12, 1), (13, 1), (14, 0), (1, 0), (5, 0), (15, 27), (16, 28), (0, 0)] rfl ?_
                          exact ih v130 0 (w32 (l12 + z20)) (w32 (l15 + 1)) (cells + 20) (slots + 120) (by omega) (by omega)
                        · refine g_aload_n F rfl 6 rfl dL_areKept_316 ?_
                          refine g_iload F 16 rfl rfl dL_areKept_317 ?_
                          refine g_iconst F 0 rfl dL_areKept_319 ?_
                          refine g_callV F (by decide) (K := 7) (b := 0) [(0, l15), (0, 4)] [0, 0] ml_RL_30 wi_X7_ofLot ws_X7_ofLot (c_X7_ofLot 0 l15 4 (by decide)) mi_X7_ofLot (by decide) ⟨_, rfl, rfl⟩ (by decide) rfl rfl rfl (Nat.le_of_ble_eq_true rfl) (Nat.le_of_ble_eq_true rfl) (show (cells + 20) + 2 ≤ 1862 by omega) (show (slots + 120) + 12 ≤ 11184 by omega) (Nat.le_of_ble_eq_true rfl) dL_areKept_320 (fun z132 v132 hz132 => ?_)
                          refine g_if_lt F rfl (tgt := 348) rfl dL_areKept_323 (fun n133 => ?_) (fun n133 => ?_)
                          · refine g_aload_n F rfl 6 rfl dL_areKept_348 ?_
                            refine g_iload F 16 rfl rfl dL_areKept_349 ?_
                            refine g_bipush F rfl (by decide) dL_areKept_351 ?_
                            refine g_callV F (by decide) (K := 7) (b := 0) [(0, l15), (0, 7)] [0, 0] ml_RL_30 wi_X7_ofLot ws_X7_ofLot (c_X7_ofLot 0 l15 7 (by decide)) mi_X7_ofLot (by decide) ⟨_, rfl, rfl⟩ (by decide) rfl rfl rfl (Nat.le_of_ble_eq_true rfl) (Nat.le_of_ble_eq_true rfl) (show (cells + 22) + 2 ≤ 1862 by omega) (show (slots + 132) + 12 ≤ 11184 by omega) (Nat.le_of_ble_eq_true rfl) dL_areKept_353 (fun z134 v134 hz134 => ?_)
                            refine g_if_lt F rfl (tgt := 363) rfl dL_areKept_356 (fun n135 => ?_) (fun n135 => ?_)
                            · refine g_iconst F 2 rfl dL_areKept_363 ?_
                              refine g_istore F rfl (Nat.le_of_ble_eq_true rfl) (ls' := [(11, (2, 0)), (20, (0, z89)), (19, (0, z88)), (18, (0, z87)), (12, (0, (w32 (l12 + z20)))), (17, (0, z20)), (16, (0, z19)), (0, (17, 0)), (1, (1, l1)), (3, (0, 4)), (4, (1, l4)), (6, (1, l6)), (8, (1, l8)), (10, (0, l10)), (13, (27, 0)), (14, (28, 0)), (15, (0, l15))]) rfl dL_areKept_364 ?_
                              refine g_iinc F 16 rfl rfl (Nat.le_of_ble_eq_true rfl) (ls' := [(15, (0, (w32 (l15 + 1)))), (11, (2, 0)), (20, (0, z89)), (19, (0, z88)), (18, (0, z87)), (12, (0, (w32 (l12 + z20)))), (17, (0, z20)), (16, (0, z19)), (0, (17, 0)), (1, (1, l1)), (3, (0, 4)), (4, (1, l4)), (6, (1, l6)), (8, (1, l8)), (10, (0, l10)), (13, (27, 0)), (14, (28, 0))]) rfl dL_areKept_366 ?_
                              refine g_goto F (tgt := 134) rfl dL_areKept_369 ?_
                              refine g_loc [(8, 17), (9, 1), (10, 0), (11, 1), (12, 1), (13, 1), (14, 0), (1, 0), (5, 0), (15, 27), (16, 28), (0, 0)] rfl ?_
                              exact ih v134 0 (w32 (l12 + z20)) (w32 (l15 + 1)) (cells + 24) (slots + 144) (by omega) (by omega)
                            · refine g_iconst F 2 rfl dL_areKept_359 ?_
                              refine g_goto F (tgt := 364) rfl dL_areKept_360 ?_
                              refine g_istore F rfl (Nat.le_of_ble_eq_true rfl) (ls' := [(11, (2, 1)), (20, (0, z89)), (19, (0, z88)), (18, (0, z87)), (12, (0, (w32 (l12 + z20)))), (17, (0, z20)), (16, (0, z19)), (0, (17, 0)), (1, (1, l1)), (3, (0, 4)), (4, (1, l4)), (6, (1, l6)), (8, (1, l8)), (10, (0, l10)), (13, (27, 0)), (14, (28, 0)), (15, (0, l15))]) rfl dL_areKept_364 ?_
                              refine g_iinc F 16 rfl rfl (Nat.le_of_ble_eq_true rfl) (ls' := [(15, (0, (w32 (l15 + 1)))), (11, (2, 1)), (20, (0, z89)), (19, (0, z88)), (18, (0, z87)), (12, (0, (w32 (l12 + z20)))), (17, (0, z20)), (16, (0, z19)), (0, (17, 0)), (1, (1, l1)), (3, (0, 4)), (4, (1, l4)), (6, (1, l6)), (8, (1, l8)), (10, (0, l10)), (13, (27, 0)), (14, (28, 0))]) rfl dL_areKept_366 ?_
                              refine g_goto F (tgt := 134) rfl dL_areKept_369 ?_
                              refine g_loc [(8, 17), (9, 1), (10, 0), (11, 1), (12, 1), (13, 1), (14, 0), (1, 0), (5, 0), (15, 27), (16, 28), (0, 0)] rfl ?_
                              exact ih v134 1 (w32 (l12 + z20)) (w32 (l15 + 1)) (cells + 24) (slots + 144) (by omega) (by omega)
                          · refine g_iload F 4 rfl rfl dL_areKept_326 ?_
                            refine g_if_le_f F rfl (Int.not_le.mpr (Int.not_le.mp n23)) (tgt := 363) rfl dL_areKept_328 ?_
                            refine g_aload_n F rfl 6 rfl dL_areKept_331 ?_
                            refine g_iload F 16 rfl rfl dL_areKept_332 ?_
                            refine g_iconst F 0 rfl dL_areKept_334 ?_
                            refine g_callV F (by decide) (K := 7) (b := 0) [(0, l15), (0, 4)] [0, 0] ml_RL_30 wi_X7_ofLot ws_X7_ofLot (c_X7_ofLot 0 l15 4 (by decide)) mi_X7_ofLot (by decide) ⟨_, rfl, rfl⟩ (by decide) rfl rfl rfl (Nat.le_of_ble_eq_true rfl) (Nat.le_of_ble_eq_true rfl) (show (cells + 22) + 2 ≤ 1862 by omega) (show (slots + 132) + 12 ≤ 11184 by omega) (Nat.le_of_ble_eq_true rfl) dL_areKept_335 (fun z136 v136 hz136 => ?_)
                            refine g_aload_n F rfl 6 rfl dL_areKept_338 ?_
                            refine g_iload F 16 rfl rfl dL_areKept_339 ?_
                            refine g_iconst F 2 rfl dL_areKept_341 ?_
                            refine g_callV F (by decide) (K := 7) (b := 0) [(0, l15), (2, 1)] [0, 0] ml_RL_30 wi_X7_ofLot ws_X7_ofLot (c_X7_ofLot 0 l15 1 (by decide)) mi_X7_ofLot (by decide) ⟨_, rfl, rfl⟩ (by decide) rfl rfl rfl (Nat.le_of_ble_eq_true rfl) (Nat.le_of_ble_eq_true rfl) (show (cells + 24) + 2 ≤ 1862 by omega) (show (slots + 144) + 12 ≤ 11184 by omega) (Nat.le_of_ble_eq_true rfl) dL_areKept_342 (fun z137 v137 hz137 => ?_)
                            refine g_icmp_eq F rfl rfl (tgt := 363) rfl dL_areKept_345 (fun n138 => ?_) (fun n138 => ?_)
                            · refine g_iconst F 2 rfl dL_areKept_363 ?_
                              refine g_istore F rfl (Nat.le_of_ble_eq_true rfl) (ls' := [(11, (2, 0)), (20, (0, z89)), (19, (0, z88)), (18, (0, z87)), (12, (0, (w32 (l12 + z20)))), (17, (0, z20)), (16, (0, z19)), (0, (17, 0)), (1, (1, l1)), (3, (0, 4)), (4, (1, l4)), (6, (1, l6)), (8, (1, l8)), (10, (0, l10)), (13, (27, 0)), (14, (28, 0)), (15, (0, l15))]) rfl dL_areKept_364 ?_
                              refine g_iinc F 16 rfl rfl (Nat.le_of_ble_eq_true rfl) (ls' := [(15, (0, (w32 (l15 + 1)))), (11, (2, 0)), (20, (0, z89)), (19, (0, z88)), (18, (0, z87)), (12, (0, (w32 (l12 + z20)))), (17, (0, z20)), (16, (0, z19)), (0, (17, 0)), (1, (1, l1)), (3, (0, 4)), (4, (1, l4)), (6, (1, l6)), (8, (1, l8)), (10, (0, l10)), (13, (27, 0)), (14, (28, 0))]) rfl dL_areKept_366 ?_
                              refine g_goto F (tgt := 134) rfl dL_areKept_369 ?_
                              refine g_loc [(8, 17), (9, 1), (10, 0), (11, 1), (12, 1), (13, 1), (14, 0), (1, 0), (5, 0), (15, 27), (16, 28), (0, 0)] rfl ?_
                              exact ih v137 0 (w32 (l12 + z20)) (w32 (l15 + 1)) (cells + 26) (slots + 156) (by omega) (by omega)
                            · refine g_aload_n F rfl 6 rfl dL_areKept_348 ?_
                              refine g_iload F 16 rfl rfl dL_areKept_349 ?_
                              refine g_bipush F rfl (by decide) dL_areKept_351 ?_
                              refine g_callV F (by decide) (K := 7) (b := 0) [(0, l15), (0, 7)] [0, 0] ml_RL_30 wi_X7_ofLot ws_X7_ofLot (c_X7_ofLot 0 l15 7 (by decide)) mi_X7_ofLot (by decide) ⟨_, rfl, rfl⟩ (by decide) rfl rfl rfl (Nat.le_of_ble_eq_true rfl) (Nat.le_of_ble_eq_true rfl) (show (cells + 26) + 2 ≤ 1862 by omega) (show (slots + 156) + 12 ≤ 11184 by omega) (Nat.le_of_ble_eq_true rfl) dL_areKept_353 (fun z139 v139 hz139 => ?_)
                              refine g_if_lt F rfl (tgt := 363) rfl dL_areKept_356 (fun n140 => ?_) (fun n140 => ?_)
                              · refine g_iconst F 2 rfl dL_areKept_363 ?_
                                refine g_istore F rfl (Nat.le_of_ble_eq_true rfl) (ls' := [(11, (2, 0)), (20, (0, z89)), (19, (0, z88)), (18, (0, z87)), (12, (0, (w32 (l12 + z20)))), (17, (0, z20)), (16, (0, z19)), (0, (17, 0)), (1, (1, l1)), (3, (0, 4)), (4, (1, l4)), (6, (1, l6)), (8, (1, l8)), (10, (0, l10)), (13, (27, 0)), (14, (28, 0)), (15, (0, l15))]) rfl dL_areKept_364 ?_
                                refine g_iinc F 16 rfl rfl (Nat.le_of_ble_eq_true rfl) (ls' := [(15, (0, (w32 (l15 + 1)))), (11, (2, 0)), (20, (0, z89)), (19, (0, z88)), (18, (0, z87)), (12, (0, (w32 (l12 + z20)))), (17, (0, z20)), (16, (0, z19)), (0, (17, 0)), (1, (1, l1)), (3, (0, 4)), (4, (1, l4)), (6, (1, l6)), (8, (1, l8)), (10, (0, l10)), (13, (27, 0)), (14, (28, 0))]) rfl dL_areKept_366 ?_
                                refine g_goto F (tgt := 134) rfl dL_areKept_369 ?_
                                refine g_loc [(8, 17), (9, 1), (10, 0), (11, 1), (12, 1), (13, 1), (14, 0), (1, 0), (5, 0), (15, 27), (16, 28), (0, 0)] rfl ?_
                                exact ih v139 0 (w32 (l12 + z20)) (w32 (l15 + 1)) (cells + 28) (slots + 168) (by omega) (by omega)
                              · refine g_iconst F 2 rfl dL_areKept_359 ?_
                                refine g_goto F (tgt := 364) rfl dL_areKept_360 ?_
                                refine g_istore F rfl (Nat.le_of_ble_eq_true rfl) (ls' := [(11, (2, 1)), (20, (0, z89)), (19, (0, z88)), (18, (0, z87)), (12, (0, (w32 (l12 + z20)))), (17, (0, z20)), (16, (0, z19)), (0, (17, 0)), (1, (1, l1)), (3, (0, 4)), (4, (1, l4)), (6, (1, l6)), (8, (1, l8)), (10, (0, l10)), (13, (27, 0)), (14, (28, 0)), (15, (0, l15))]) rfl dL_areKept_364 ?_
                                refine g_iinc F 16 rfl rfl (Nat.le_of_ble_eq_true rfl) (ls' := [(15, (0, (w32 (l15 + 1)))), (11, (2, 1)), (20, (0, z89)), (19, (0, z88)), (18, (0, z87)), (12, (0, (w32 (l12 + z20)))), (17, (0, z20)), (16, (0, z19)), (0, (17, 0)), (1, (1, l1)), (3, (0, 4)), (4, (1, l4)), (6, (1, l6)), (8, (1, l8)), (10, (0, l10)), (13, (27, 0)), (14, (28, 0))]) rfl dL_areKept_366 ?_
                                refine g_goto F (tgt := 134) rfl dL_areKept_369 ?_
                                refine g_loc [(8, 17), (9, 1), (10, 0), (11, 1), (12, 1), (13, 1), (14, 0), (1, 0), (5, 0), (15, 27), (16, 28), (0, 0)] rfl ?_
                                exact ih v139 1 (w32 (l12 + z20)) (w32 (l15 + 1)) (cells + 28) (slots + 168) (by omega) (by omega)
                · refine g_iconst F 2 rfl dL_areKept_267 ?_
                  refine g_goto F (tgt := 272) rfl dL_areKept_268 ?_
                  refine g_icmp_ne_t F rfl rfl (by decide) (tgt := 363) rfl dL_areKept_272 ?_
                  refine g_iconst F 2 rfl dL_areKept_363 ?_
                  refine g_istore F rfl (Nat.le_of_ble_eq_true rfl) (ls' := [(11, (2, 0)), (20, (0, z89)), (19, (0, z88)), (18, (0, z87)), (12, (0, (w32 (l12 + z20)))), (17, (0, z20)), (16, (0, z19)), (0, (17, 0)), (1, (1, l1)), (3, (0, 4)), (4, (1, l4)), (6, (1, l6)), (8, (1, l8)), (10, (0, l10)), (13, (27, 0)), (14, (28, 0)), (15, (0, l15))]) rfl dL_areKept_364 ?_
                  refine g_iinc F 16 rfl rfl (Nat.le_of_ble_eq_true rfl) (ls' := [(15, (0, (w32 (l15 + 1)))), (11, (2, 0)), (20, (0, z89)), (19, (0, z88)), (18, (0, z87)), (12, (0, (w32 (l12 + z20)))), (17, (0, z20)), (16, (0, z19)), (0, (17, 0)), (1, (1, l1)), (3, (0, 4)), (4, (1, l4)), (6, (1, l6)), (8, (1, l8)), (10, (0, l10)), (13, (27, 0)), (14, (28, 0))]) rfl dL_areKept_366 ?_
                  refine g_goto F (tgt := 134) rfl dL_areKept_369 ?_
                  refine g_loc [(8, 17), (9, 1), (10, 0), (11, 1), (12, 1), (13, 1), (14, 0), (1, 0), (5, 0), (15, 27), (16, 28), (0, 0)] rfl ?_
                  exact ih v91 0 (w32 (l12 + z20)) (w32 (l15 + 1)) (cells + 14) (slots + 84) (by omega) (by omega)
              · refine g_iconst F 2 rfl dL_areKept_257 ?_
                refine g_goto F (tgt := 262) rfl dL_areKept_258 ?_
                refine g_iload F 0 rfl rfl dL_areKept_262 ?_
                refine g_if_le F rfl (tgt := 271) rfl dL_areKept_264 (fun n141 => ?_) (fun n141 => ?_)
                · refine g_iconst F 2 rfl dL_areKept_271 ?_
                  refine g_icmp_ne_t F rfl rfl (by decide) (tgt := 363) rfl dL_areKept_272 ?_
                  refine g_iconst F 2 rfl dL_areKept_363 ?_
                  refine g_istore F rfl (Nat.le_of_ble_eq_true rfl) (ls' := [(11, (2, 0)), (20, (0, z89)), (19, (0, z88)), (18, (0, z87)), (12, (0, (w32 (l12 + z20)))), (17, (0, z20)), (16, (0, z19)), (0, (17, 0)), (1, (1, l1)), (3, (0, 4)), (4, (1, l4)), (6, (1, l6)), (8, (1, l8)), (10, (0, l10)), (13, (27, 0)), (14, (28, 0)), (15, (0, l15))]) rfl dL_areKept_364 ?_
                  refine g_iinc F 16 rfl rfl (Nat.le_of_ble_eq_true rfl) (ls' := [(15, (0, (w32 (l15 + 1)))), (11, (2, 0)), (20, (0, z89)), (19, (0, z88)), (18, (0, z87)), (12, (0, (w32 (l12 + z20)))), (17, (0, z20)), (16, (0, z19)), (0, (17, 0)), (1, (1, l1)), (3, (0, 4)), (4, (1, l4)), (6, (1, l6)), (8, (1, l8)), (10, (0, l10)), (13, (27, 0)), (14, (28, 0))]) rfl dL_areKept_366 ?_
                  refine g_goto F (tgt := 134) rfl dL_areKept_369 ?_
                  refine g_loc [(8, 17), (9, 1), (10, 0), (11, 1), (12, 1), (13, 1), (14, 0), (1, 0), (5, 0), (15, 27), (16, 28), (0, 0)] rfl ?_
                  exact ih v91 0 (w32 (l12 + z20)) (w32 (l15 + 1)) (cells + 14) (slots + 84) (by omega) (by omega)
                · refine g_iconst F 2 rfl dL_areKept_267 ?_
                  refine g_goto F (tgt := 272) rfl dL_areKept_268 ?_
                  refine g_icmp_ne_f F rfl rfl (by decide) (tgt := 363) rfl dL_areKept_272 ?_
                  refine g_iload F 0 rfl rfl dL_areKept_275 ?_
                  refine g_iconst F 0 rfl dL_areKept_277 ?_
                  refine g_icmp_lt F rfl rfl (tgt := 301) rfl dL_areKept_278 (fun n142 => ?_) (fun n142 => ?_)
                  · refine g_iload F 2 rfl rfl dL_areKept_301 ?_
                    refine g_if_lt F rfl (tgt := 316) rfl dL_areKept_303 (fun n143 => ?_) (fun n143 => ?_)
                    · refine g_aload_n F rfl 6 rfl dL_areKept_316 ?_
                      refine g_iload F 16 rfl rfl dL_areKept_317 ?_
                      refine g_iconst F 0 rfl dL_areKept_319 ?_
                      refine g_callV F (by decide) (K := 7) (b := 0) [(0, l15), (0, 4)] [0, 0] ml_RL_30 wi_X7_ofLot ws_X7_ofLot (c_X7_ofLot 0 l15 4 (by decide)) mi_X7_ofLot (by decide) ⟨_, rfl, rfl⟩ (by decide) rfl rfl rfl (Nat.le_of_ble_eq_true rfl) (Nat.le_of_ble_eq_true rfl) (show (cells + 14) + 2 ≤ 1862 by omega) (show (slots + 84) + 12 ≤ 11184 by omega) (Nat.le_of_ble_eq_true rfl) dL_areKept_320 (fun z144 v144 hz144 => ?_)
                      refine g_if_lt F rfl (tgt := 348) rfl dL_areKept_323 (fun n145 => ?_) (fun n145 => ?_)
                      · refine g_aload_n F rfl 6 rfl dL_areKept_348 ?_
                        refine g_iload F 16 rfl rfl dL_areKept_349 ?_
                        refine g_bipush F rfl (by decide) dL_areKept_351 ?_
                        refine g_callV F (by decide) (K := 7) (b := 0) [(0, l15), (0, 7)] [0, 0] ml_RL_30 wi_X7_ofLot ws_X7_ofLot (c_X7_ofLot 0 l15 7 (by decide)) mi_X7_ofLot (by decide) ⟨_, rfl, rfl⟩ (by decide) rfl rfl rfl (Nat.le_of_ble_eq_true rfl) (Nat.le_of_ble_eq_true rfl) (show (cells + 16) + 2 ≤ 1862 by omega) (show (slots + 96) + 12 ≤ 11184 by omega) (Nat.le_of_ble_eq_true rfl) dL_areKept_353 (fun z146 v146 hz146 => ?_)
                        refine g_if_lt F rfl (tgt := 363) rfl dL_areKept_356 (fun n147 => ?_) (fun n147 => ?_)
                        · refine g_iconst F 2 rfl dL_areKept_363 ?_
                          refine g_istore F rfl (Nat.le_of_ble_eq_true rfl) (ls' := [(11, (2, 0)), (20, (0, z89)), (19, (0, z88)), (18, (0, z87)), (12, (0, (w32 (l12 + z20)))), (17, (0, z20)), (16, (0, z19)), (0, (17, 0)), (1, (1, l1)), (3, (0, 4)), (4, (1, l4)), (6, (1, l6)), (8, (1, l8)), (10, (0, l10)), (13, (27, 0)), (14, (28, 0)), (15, (0, l15))]) rfl dL_areKept_364 ?_
                          refine g_iinc F 16 rfl rfl (Nat.le_of_ble_eq_true rfl) (ls' := [(15, (0, (w32 (l15 + 1)))), (11, (2, 0)), (20, (0, z89)), (19, (0, z88)), (18, (0, z87)), (12, (0, (w32 (l12 + z20)))), (17, (0, z20)), (16, (0, z19)), (0, (17, 0)), (1, (1, l1)), (3, (0, 4)), (4, (1, l4)), (6, (1, l6)), (8, (1, l8)), (10, (0, l10)), (13, (27, 0)), (14, (28, 0))]) rfl dL_areKept_366 ?_
                          refine g_goto F (tgt := 134) rfl dL_areKept_369 ?_
                          refine g_loc [(8, 17), (9, 1), (10, 0), (11, 1), (12, 1), (13, 1), (14, 0), (1, 0), (5, 0), (15, 27), (16, 28), (0, 0)] rfl ?_
                          exact ih v146 0 (w32 (l12 + z20)) (w32 (l15 + 1)) (cells + 18) (slots + 108) (by omega) (by omega)
                        · refine g_iconst F 2 rfl dL_areKept_359 ?_
                          refine g_goto F (tgt := 364) rfl dL_areKept_360 ?_
                          refine g_istore F rfl (Nat.le_of_ble_eq_true rfl) (ls' := [(11, (2, 1)), (20, (0, z89)), (19, (0, z88)), (18, (0, z87)), (12, (0, (w32 (l12 + z20)))), (17, (0, z20)), (16, (0, z19)), (0, (17, 0)), (1, (1, l1)), (3, (0, 4)), (4, (1, l4)), (6, (1, l6)), (8, (1, l8)), (10, (0, l10)), (13, (27, 0)), (14, (28, 0)), (15, (0, l15))]) rfl dL_areKept_364 ?_
                          refine g_iinc F 16 rfl rfl (Nat.le_of_ble_eq_true rfl) (ls' := [(15, (0, (w32 (l15 + 1)))), (11, (2, 1)), (20, (0, z89)), (19, (0, z88)), (18, (0, z87)), (12, (0, (w32 (l12 + z20)))), (17, (0, z20)), (16, (0, z19)), (0, (17, 0)), (1, (1, l1)), (3, (0, 4)), (4, (1, l4)), (6, (1, l6)), (8, (1, l8)), (10, (0, l10)), (13, (27, 0)), (14, (28, 0))]) rfl dL_areKept_366 ?_
                          refine g_goto F (tgt := 134) rfl dL_areKept_369 ?_
                          refine g_loc [(8, 17), (9, 1), (10, 0), (11, 1), (12, 1), (13, 1), (14, 0), (1, 0), (5, 0), (15, 27), (16, 28), (0, 0)] rfl ?_
                          exact ih v146 1 (w32 (l12 + z20)) (w32 (l15 + 1)) (cells + 18) (slots + 108) (by omega) (by omega)
                      · refine g_iload F 4 rfl rfl dL_areKept_326 ?_
                        refine g_if_le_f F rfl (Int.not_le.mpr (Int.not_le.mp n23)) (tgt := 363) rfl dL_areKept_328 ?_
                        refine g_aload_n F rfl 6 rfl dL_areKept_331 ?_
                        refine g_iload F 16 rfl rfl dL_areKept_332 ?_
                        refine g_iconst F 0 rfl dL_areKept_334 ?_
                        refine g_callV F (by decide) (K := 7) (b := 0) [(0, l15), (0, 4)] [0, 0] ml_RL_30 wi_X7_ofLot ws_X7_ofLot (c_X7_ofLot 0 l15 4 (by decide)) mi_X7_ofLot (by decide) ⟨_, rfl, rfl⟩ (by decide) rfl rfl rfl (Nat.le_of_ble_eq_true rfl) (Nat.le_of_ble_eq_true rfl) (show (cells + 16) + 2 ≤ 1862 by omega) (show (slots + 96) + 12 ≤ 11184 by omega) (Nat.le_of_ble_eq_true rfl) dL_areKept_335 (fun z148 v148 hz148 => ?_)
                        refine g_aload_n F rfl 6 rfl dL_areKept_338 ?_
                        refine g_iload F 16 rfl rfl dL_areKept_339 ?_
                        refine g_iconst F 2 rfl dL_areKept_341 ?_
                        refine g_callV F (by decide) (K := 7) (b := 0) [(0, l15), (2, 1)] [0, 0] ml_RL_30 wi_X7_ofLot ws_X7_ofLot (c_X7_ofLot 0 l15 1 (by decide)) mi_X7_ofLot (by decide) ⟨_, rfl, rfl⟩ (by decide) rfl rfl rfl (Nat.le_of_ble_eq_true rfl) (Nat.le_of_ble_eq_true rfl) (show (cells + 18) + 2 ≤ 1862 by omega) (show (slots + 108) + 12 ≤ 11184 by omega) (Nat.le_of_ble_eq_true rfl) dL_areKept_342 (fun z149 v149 hz149 => ?_)
                        refine g_icmp_eq F rfl rfl (tgt := 363) rfl dL_areKept_345 (fun n150 => ?_) (fun n150 => ?_)
                        · refine g_iconst F 2 rfl dL_areKept_363 ?_
                          refine g_istore F rfl (Nat.le_of_ble_eq_true rfl) (ls' := [(11, (2, 0)), (20, (0, z89)), (19, (0, z88)), (18, (0, z87)), (12, (0, (w32 (l12 + z20)))), (17, (0, z20)), (16, (0, z19)), (0, (17, 0)), (1, (1, l1)), (3, (0, 4)), (4, (1, l4)), (6, (1, l6)), (8, (1, l8)), (10, (0, l10)), (13, (27, 0)), (14, (28, 0)), (15, (0, l15))]) rfl dL_areKept_364 ?_
                          refine g_iinc F 16 rfl rfl (Nat.le_of_ble_eq_true rfl) (ls' := [(15, (0, (w32 (l15 + 1)))), (11, (2, 0)), (20, (0, z89)), (19, (0, z88)), (18, (0, z87)), (12, (0, (w32 (l12 + z20)))), (17, (0, z20)), (16, (0, z19)), (0, (17, 0)), (1, (1, l1)), (3, (0, 4)), (4, (1, l4)), (6, (1, l6)), (8, (1, l8)), (10, (0, l10)), (13, (27, 0)), (14, (28, 0))]) rfl dL_areKept_366 ?_
                          refine g_goto F (tgt := 134) rfl dL_areKept_369 ?_
                          refine g_loc [(8, 17), (9, 1), (10, 0), (11, 1), (12, 1), (13, 1), (14, 0), (1, 0), (5, 0), (15, 27), (16, 28), (0, 0)] rfl ?_
                          exact ih v149 0 (w32 (l12 + z20)) (w32 (l15 + 1)) (cells + 20) (slots + 120) (by omega) (by omega)
                        · refine g_aload_n F rfl 6 rfl dL_areKept_348 ?_
                          refine g_iload F 16 rfl rfl dL_areKept_349 ?_
                          refine g_bipush F rfl (by decide) dL_areKept_351 ?_
                          refine g_callV F (by decide) (K := 7) (b := 0) [(0, l15), (0, 7)] [0, 0] ml_RL_30 wi_X7_ofLot ws_X7_ofLot (c_X7_ofLot 0 l15 7 (by decide)) mi_X7_ofLot (by decide) ⟨_, rfl, rfl⟩ (by decide) rfl rfl rfl (Nat.le_of_ble_eq_true rfl) (Nat.le_of_ble_eq_true rfl) (show (cells + 20) + 2 ≤ 1862 by omega) (show (slots + 120) + 12 ≤ 11184 by omega) (Nat.le_of_ble_eq_true rfl) dL_areKept_353 (fun z151 v151 hz151 => ?_)
                          refine g_if_lt F rfl (tgt := 363) rfl dL_areKept_356 (fun n152 => ?_) (fun n152 => ?_)
                          · refine g_iconst F 2 rfl dL_areKept_363 ?_
                            refine g_istore F rfl (Nat.le_of_ble_eq_true rfl) (ls' := [(11, (2, 0)), (20, (0, z89)), (19, (0, z88)), (18, (0, z87)), (12, (0, (w32 (l12 + z20)))), (17, (0, z20)), (16, (0, z19)), (0, (17, 0)), (1, (1, l1)), (3, (0, 4)), (4, (1, l4)), (6, (1, l6)), (8, (1, l8)), (10, (0, l10)), (13, (27, 0)), (14, (28, 0)), (15, (0, l15))]) rfl dL_areKept_364 ?_
                            refine g_iinc F 16 rfl rfl (Nat.le_of_ble_eq_true rfl) (ls' := [(15, (0, (w32 (l15 + 1)))), (11, (2, 0)), (20, (0, z89)), (19, (0, z88)), (18, (0, z87)), (12, (0, (w32 (l12 + z20)))), (17, (0, z20)), (16, (0, z19)), (0, (17, 0)), (1, (1, l1)), (3, (0, 4)), (4, (1, l4)), (6, (1, l6)), (8, (1, l8)), (10, (0, l10)), (13, (27, 0)), (14, (28, 0))]) rfl dL_areKept_366 ?_
                            refine g_goto F (tgt := 134) rfl dL_areKept_369 ?_
                            refine g_loc [(8, 17), (9, 1), (10, 0), (11, 1), (12, 1), (13, 1), (14, 0), (1, 0), (5, 0), (15, 27), (16, 28), (0, 0)] rfl ?_
                            exact ih v151 0 (w32 (l12 + z20)) (w32 (l15 + 1)) (cells + 22) (slots + 132) (by omega) (by omega)
                          · refine g_iconst F 2 rfl dL_areKept_359 ?_
                            refine g_goto F (tgt := 364) rfl dL_areKept_360 ?_
                            refine g_istore F rfl (Nat.le_of_ble_eq_true rfl) (ls' := [(11, (2, 1)), (20, (0, z89)), (19, (0, z88)), (18, (0, z87)), (12, (0, (w32 (l12 + z20)))), (17, (0, z20)), (16, (0, z19)), (0, (17, 0)), (1, (1, l1)), (3, (0, 4)), (4, (1, l4)), (6, (1, l6)), (8, (1, l8)), (10, (0, l10)), (13, (27, 0)), (14, (28, 0)), (15, (0, l15))]) rfl dL_areKept_364 ?_
                            refine g_iinc F 16 rfl rfl (Nat.le_of_ble_eq_true rfl) (ls' := [(15, (0, (w32 (l15 + 1)))), (11, (2, 1)), (20, (0, z89)), (19, (0, z88)), (18, (0, z87)), (12, (0, (w32 (l12 + z20)))), (17, (0, z20)), (16, (0, z19)), (0, (17, 0)), (1, (1, l1)), (3, (0, 4)), (4, (1, l4)), (6, (1, l6)), (8, (1, l8)), (10, (0, l10)), (13, (27, 0)), (14, (28, 0))]) rfl dL_areKept_366 ?_
                            refine g_goto F (tgt := 134) rfl dL_areKept_369 ?_
                            refine g_loc [(8, 17), (9, 1), (10, 0), (11, 1), (12, 1), (13, 1), (14, 0), (1, 0), (5, 0), (15, 27), (16, 28), (0, 0)] rfl ?_
                            exact ih v151 1 (w32 (l12 + z20)) (w32 (l15 + 1)) (cells + 22) (slots + 132) (by omega) (by omega)
                    · refine g_aload_n F rfl 6 rfl dL_areKept_306 ?_
                      refine g_iload F 2 rfl rfl dL_areKept_307 ?_
                      refine g_iconst F 0 rfl dL_areKept_309 ?_
                      refine g_callV F (by decide) (K := 7) (b := 0) [(0, z87), (0, 5)] [0, 0] ml_RL_33 wi_X7_ofLoan ws_X7_ofLoan (c_X7_ofLoan 0 z87 5 (by decide)) mi_X7_ofLoan (by decide) ⟨_, rfl, rfl⟩ (by decide) rfl rfl rfl (Nat.le_of_ble_eq_true rfl) (Nat.le_of_ble_eq_true rfl) (show (cells + 14) + 2 ≤ 1862 by omega) (show (slots + 84) + 12 ≤ 11184 by omega) (Nat.le_of_ble_eq_true rfl) dL_areKept_310 (fun z153 v153 hz153 => ?_)
                      refine g_if_ne F rfl (tgt := 363) rfl dL_areKept_313 (fun n154 => ?_) (fun n154 => ?_)
                      · refine g_iconst F 2 rfl dL_areKept_363 ?_
                        refine g_istore F rfl (Nat.le_of_ble_eq_true rfl) (ls' := [(11, (2, 0)), (20, (0, z89)), (19, (0, z88)), (18, (0, z87)), (12, (0, (w32 (l12 + z20)))), (17, (0, z20)), (16, (0, z19)), (0, (17, 0)), (1, (1, l1)), (3, (0, 4)), (4, (1, l4)), (6, (1, l6)), (8, (1, l8)), (10, (0, l10)), (13, (27, 0)), (14, (28, 0)), (15, (0, l15))]) rfl dL_areKept_364 ?_
                        refine g_iinc F 16 rfl rfl (Nat.le_of_ble_eq_true rfl) (ls' := [(15, (0, (w32 (l15 + 1)))), (11, (2, 0)), (20, (0, z89)), (19, (0, z88)), (18, (0, z87)), (12, (0, (w32 (l12 + z20)))), (17, (0, z20)), (16, (0, z19)), (0, (17, 0)), (1, (1, l1)), (3, (0, 4)), (4, (1, l4)), (6, (1, l6)), (8, (1, l8)), (10, (0, l10)), (13, (27, 0)), (14, (28, 0))]) rfl dL_areKept_366 ?_
                        refine g_goto F (tgt := 134) rfl dL_areKept_369 ?_
                        refine g_loc [(8, 17), (9, 1), (10, 0), (11, 1), (12, 1), (13, 1), (14, 0), (1, 0), (5, 0), (15, 27), (16, 28), (0, 0)] rfl ?_
                        exact ih v153 0 (w32 (l12 + z20)) (w32 (l15 + 1)) (cells + 16) (slots + 96) (by omega) (by omega)
                      · refine g_aload_n F rfl 6 rfl dL_areKept_316 ?_
                        refine g_iload F 16 rfl rfl dL_areKept_317 ?_
                        refine g_iconst F 0 rfl dL_areKept_319 ?_
                        refine g_callV F (by decide) (K := 7) (b := 0) [(0, l15), (0, 4)] [0, 0] ml_RL_30 wi_X7_ofLot ws_X7_ofLot (c_X7_ofLot 0 l15 4 (by decide)) mi_X7_ofLot (by decide) ⟨_, rfl, rfl⟩ (by decide) rfl rfl rfl (Nat.le_of_ble_eq_true rfl) (Nat.le_of_ble_eq_true rfl) (show (cells + 16) + 2 ≤ 1862 by omega) (show (slots + 96) + 12 ≤ 11184 by omega) (Nat.le_of_ble_eq_true rfl) dL_areKept_320 (fun z155 v155 hz155 => ?_)
                        refine g_if_lt F rfl (tgt := 348) rfl dL_areKept_323 (fun n156 => ?_) (fun n156 => ?_)
                        · refine g_aload_n F rfl 6 rfl dL_areKept_348 ?_
                          refine g_iload F 16 rfl rfl dL_areKept_349 ?_
                          refine g_bipush F rfl (by decide) dL_areKept_351 ?_
                          refine g_callV F (by decide) (K := 7) (b := 0) [(0, l15), (0, 7)] [0, 0] ml_RL_30 wi_X7_ofLot ws_X7_ofLot (c_X7_ofLot 0 l15 7 (by decide)) mi_X7_ofLot (by decide) ⟨_, rfl, rfl⟩ (by decide) rfl rfl rfl (Nat.le_of_ble_eq_true rfl) (Nat.le_of_ble_eq_true rfl) (show (cells + 18) + 2 ≤ 1862 by omega) (show (slots + 108) + 12 ≤ 11184 by omega) (Nat.le_of_ble_eq_true rfl) dL_areKept_353 (fun z157 v157 hz157 => ?_)
                          refine g_if_lt F rfl (tgt := 363) rfl dL_areKept_356 (fun n158 => ?_) (fun n158 => ?_)
                          · refine g_iconst F 2 rfl dL_areKept_363 ?_
                            refine g_istore F rfl (Nat.le_of_ble_eq_true rfl) (ls' := [(11, (2, 0)), (20, (0, z89)), (19, (0, z88)), (18, (0, z87)), (12, (0, (w32 (l12 + z20)))), (17, (0, z20)), (16, (0, z19)), (0, (17, 0)), (1, (1, l1)), (3, (0, 4)), (4, (1, l4)), (6, (1, l6)), (8, (1, l8)), (10, (0, l10)), (13, (27, 0)), (14, (28, 0)), (15, (0, l15))]) rfl dL_areKept_364 ?_
                            refine g_iinc F 16 rfl rfl (Nat.le_of_ble_eq_true rfl) (ls' := [(15, (0, (w32 (l15 + 1)))), (11, (2, 0)), (20, (0, z89)), (19, (0, z88)), (18, (0, z87)), (12, (0, (w32 (l12 + z20)))), (17, (0, z20)), (16, (0, z19)), (0, (17, 0)), (1, (1, l1)), (3, (0, 4)), (4, (1, l4)), (6, (1, l6)), (8, (1, l8)), (10, (0, l10)), (13, (27, 0)), (14, (28, 0))]) rfl dL_areKept_366 ?_
                            refine g_goto F (tgt := 134) rfl dL_areKept_369 ?_
                            refine g_loc [(8, 17), (9, 1), (10, 0), (11, 1), (12, 1), (13, 1), (14, 0), (1, 0), (5, 0), (15, 27), (16, 28), (0, 0)] rfl ?_
                            exact ih v157 0 (w32 (l12 + z20)) (w32 (l15 + 1)) (cells + 20) (slots + 120) (by omega) (by omega)
                          · refine g_iconst F 2 rfl dL_areKept_359 ?_
                            refine g_goto F (tgt := 364) rfl dL_areKept_360 ?_
                            refine g_istore F rfl (Nat.le_of_ble_eq_true rfl) (ls' := [(11, (2, 1)), (20, (0, z89)), (19, (0, z88)), (18, (0, z87)), (12, (0, (w32 (l12 + z20)))), (17, (0, z20)), (16, (0, z19)), (0, (17, 0)), (1, (1, l1)), (3, (0, 4)), (4, (1, l4)), (6, (1, l6)), (8, (1, l8)), (10, (0, l10)), (13, (27, 0)), (14, (28, 0)), (15, (0, l15))]) rfl dL_areKept_364 ?_
                            refine g_iinc F 16 rfl rfl (Nat.le_of_ble_eq_true rfl) (ls' := [(15, (0, (w32 (l15 + 1)))), (11, (2, 1)), (20, (0, z89)), (19, (0, z88)), (18, (0, z87)), (12, (0, (w32 (l12 + z20)))), (17, (0, z20)), (16, (0, z19)), (0, (17, 0)), (1, (1, l1)), (3, (0, 4)), (4, (1, l4)), (6, (1, l6)), (8, (1, l8)), (10, (0, l10)), (13, (27, 0)), (14, (28, 0))]) rfl dL_areKept_366 ?_
                            refine g_goto F (tgt := 134) rfl dL_areKept_369 ?_
                            refine g_loc [(8, 17), (9, 1), (10, 0), (11, 1), (12, 1), (13, 1), (14, 0), (1, 0), (5, 0), (15, 27), (16, 28), (0, 0)] rfl ?_
                            exact ih v157 1 (w32 (l12 + z20)) (w32 (l15 + 1)) (cells + 20) (slots + 120) (by omega) (by omega)
                        · refine g_iload F 4 rfl rfl dL_areKept_326 ?_
                          refine g_if_le_f F rfl (Int.not_le.mpr (Int.not_le.mp n23)) (tgt := 363) rfl dL_areKept_328 ?_
                          refine g_aload_n F rfl 6 rfl dL_areKept_331 ?_
                          refine g_iload F 16 rfl rfl dL_areKept_332 ?_
                          refine g_iconst F 0 rfl dL_areKept_334 ?_
                          refine g_callV F (by decide) (K := 7) (b := 0) [(0, l15), (0, 4)] [0, 0] ml_RL_30 wi_X7_ofLot ws_X7_ofLot (c_X7_ofLot 0 l15 4 (by decide)) mi_X7_ofLot (by decide) ⟨_, rfl, rfl⟩ (by decide) rfl rfl rfl (Nat.le_of_ble_eq_true rfl) (Nat.le_of_ble_eq_true rfl) (show (cells + 18) + 2 ≤ 1862 by omega) (show (slots + 108) + 12 ≤ 11184 by omega) (Nat.le_of_ble_eq_true rfl) dL_areKept_335 (fun z159 v159 hz159 => ?_)
                          refine g_aload_n F rfl 6 rfl dL_areKept_338 ?_
                          refine g_iload F 16 rfl rfl dL_areKept_339 ?_
                          refine g_iconst F 2 rfl dL_areKept_341 ?_
                          refine g_callV F (by decide) (K := 7) (b := 0) [(0, l15), (2, 1)] [0, 0] ml_RL_30 wi_X7_ofLot ws_X7_ofLot (c_X7_ofLot 0 l15 1 (by decide)) mi_X7_ofLot (by decide) ⟨_, rfl, rfl⟩ (by decide) rfl rfl rfl (Nat.le_of_ble_eq_true rfl) (Nat.le_of_ble_eq_true rfl) (show (cells + 20) + 2 ≤ 1862 by omega) (show (slots + 120) + 12 ≤ 11184 by omega) (Nat.le_of_ble_eq_true rfl) dL_areKept_342 (fun z160 v160 hz160 => ?_)
                          refine g_icmp_eq F rfl rfl (tgt := 363) rfl dL_areKept_345 (fun n161 => ?_) (fun n161 => ?_)
                          · refine g_iconst F 2 rfl dL_areKept_363 ?_
                            refine g_istore F rfl (Nat.le_of_ble_eq_true rfl) (ls' := [(11, (2, 0)), (20, (0, z89)), (19, (0, z88)), (18, (0, z87)), (12, (0, (w32 (l12 + z20)))), (17, (0, z20)), (16, (0, z19)), (0, (17, 0)), (1, (1, l1)), (3, (0, 4)), (4, (1, l4)), (6, (1, l6)), (8, (1, l8)), (10, (0, l10)), (13, (27, 0)), (14, (28, 0)), (15, (0, l15))]) rfl dL_areKept_364 ?_
                            refine g_iinc F 16 rfl rfl (Nat.le_of_ble_eq_true rfl) (ls' := [(15, (0, (w32 (l15 + 1)))), (11, (2, 0)), (20, (0, z89)), (19, (0, z88)), (18, (0, z87)), (12, (0, (w32 (l12 + z20)))), (17, (0, z20)), (16, (0, z19)), (0, (17, 0)), (1, (1, l1)), (3, (0, 4)), (4, (1, l4)), (6, (1, l6)), (8, (1, l8)), (10, (0, l10)), (13, (27, 0)), (14, (28, 0))]) rfl dL_areKept_366 ?_
                            refine g_goto F (tgt := 134) rfl dL_areKept_369 ?_
                            refine g_loc [(8, 17), (9, 1), (10, 0), (11, 1), (12, 1), (13, 1), (14, 0), (1, 0), (5, 0), (15, 27), (16, 28), (0, 0)] rfl ?_
                            exact ih v160 0 (w32 (l12 + z20)) (w32 (l15 + 1)) (cells + 22) (slots + 132) (by omega) (by omega)
                          · refine g_aload_n F rfl 6 rfl dL_areKept_348 ?_
                            refine g_iload F 16 rfl rfl dL_areKept_349 ?_
                            refine g_bipush F rfl (by decide) dL_areKept_351 ?_
                            refine g_callV F (by decide) (K := 7) (b := 0) [(0, l15), (0, 7)] [0, 0] ml_RL_30 wi_X7_ofLot ws_X7_ofLot (c_X7_ofLot 0 l15 7 (by decide)) mi_X7_ofLot (by decide) ⟨_, rfl, rfl⟩ (by decide) rfl rfl rfl (Nat.le_of_ble_eq_true rfl) (Nat.le_of_ble_eq_true rfl) (show (cells + 22) + 2 ≤ 1862 by omega) (show (slots + 132) + 12 ≤ 11184 by omega) (Nat.le_of_ble_eq_true rfl) dL_areKept_353 (fun z162 v162 hz162 => ?_)
                            refine g_if_lt F rfl (tgt := 363) rfl dL_areKept_356 (fun n163 => ?_) (fun n163 => ?_)
                            · refine g_iconst F 2 rfl dL_areKept_363 ?_
                              refine g_istore F rfl (Nat.le_of_ble_eq_true rfl) (ls' := [(11, (2, 0)), (20, (0, z89)), (19, (0, z88)), (18, (0, z87)), (12, (0, (w32 (l12 + z20)))), (17, (0, z20)), (16, (0, z19)), (0, (17, 0)), (1, (1, l1)), (3, (0, 4)), (4, (1, l4)), (6, (1, l6)), (8, (1, l8)), (10, (0, l10)), (13, (27, 0)), (14, (28, 0)), (15, (0, l15))]) rfl dL_areKept_364 ?_
                              refine g_iinc F 16 rfl rfl (Nat.le_of_ble_eq_true rfl) (ls' := [(15, (0, (w32 (l15 + 1)))), (11, (2, 0)), (20, (0, z89)), (19, (0, z88)), (18, (0, z87)), (12, (0, (w32 (l12 + z20)))), (17, (0, z20)), (16, (0, z19)), (0, (17, 0)), (1, (1, l1)), (3, (0, 4)), (4, (1, l4)), (6, (1, l6)), (8, (1, l8)), (10, (0, l10)), (13, (27, 0)), (14, (28, 0))]) rfl dL_areKept_366 ?_
                              refine g_goto F (tgt := 134) rfl dL_areKept_369 ?_
                              refine g_loc [(8, 17), (9, 1), (10, 0), (11, 1), (12, 1), (13, 1), (14, 0), (1, 0), (5, 0), (15, 27), (16, 28), (0, 0)] rfl ?_
                              exact ih v162 0 (w32 (l12 + z20)) (w32 (l15 + 1)) (cells + 24) (slots + 144) (by omega) (by omega)
                            · refine g_iconst F 2 rfl dL_areKept_359 ?_
                              refine g_goto F (tgt := 364) rfl dL_areKept_360 ?_
                              refine g_istore F rfl (Nat.le_of_ble_eq_true rfl) (ls' := [(11, (2, 1)), (20, (0, z89)), (19, (0, z88)), (18, (0, z87)), (12, (0, (w32 (l12 + z20)))), (17, (0, z20)), (16, (0, z19)), (0, (17, 0)), (1, (1, l1)), (3, (0, 4)), (4, (1, l4)), (6, (1, l6)), (8, (1, l8)), (10, (0, l10)), (13, (27, 0)), (14, (28, 0)), (15, (0, l15))]) rfl dL_areKept_364 ?_
                              refine g_iinc F 16 rfl rfl (Nat.le_of_ble_eq_true rfl) (ls' := [(15, (0, (w32 (l15 + 1)))), (11, (2, 1)), (20, (0, z89)), (19, (0, z88)), (18, (0, z87)), (12, (0, (w32 (l12 + z20)))), (17, (0, z20)), (16, (0, z19)), (0, (17, 0)), (1, (1, l1)), (3, (0, 4)), (4, (1, l4)), (6, (1, l6)), (8, (1, l8)), (10, (0, l10)), (13, (27, 0)), (14, (28, 0))]) rfl dL_areKept_366 ?_
                              refine g_goto F (tgt := 134) rfl dL_areKept_369 ?_
                              refine g_loc [(8, 17), (9, 1), (10, 0), (11, 1), (12, 1), (13, 1), (14, 0), (1, 0), (5, 0), (15, 27), (16, 28), (0, 0)] rfl ?_
                              exact ih v162 1 (w32 (l12 + z20)) (w32 (l15 + 1)) (cells + 24) (slots + 144) (by omega) (by omega)
                  · refine g_aload_n F rfl 6 rfl dL_areKept_281 ?_
                    refine g_aload_n F rfl 6 rfl dL_areKept_282 ?_
                    refine g_iload F 16 rfl rfl dL_areKept_283 ?_
                    refine g_iconst F 0 rfl dL_areKept_285 ?_
                    refine g_callV F (by decide) (K := 7) (b := 0) [(0, l15), (0, 5)] [0, 0] ml_RL_30 wi_X7_ofLot ws_X7_ofLot (c_X7_ofLot 0 l15 5 (by decide)) mi_X7_ofLot (by decide) ⟨_, rfl, rfl⟩ (by decide) rfl rfl rfl (Nat.le_of_ble_eq_true rfl) (Nat.le_of_ble_eq_true rfl) (show (cells + 14) + 2 ≤ 1862 by omega) (show (slots + 84) + 12 ≤ 11184 by omega) (Nat.le_of_ble_eq_true rfl) dL_areKept_286 (fun z164 v164 hz164 => ?_)
                    refine g_bipush F rfl (by decide) dL_areKept_289 ?_
                    refine g_callV F (by decide) (K := 7) (b := 0) [(0, z164), (0, 8)] [0, 0] ml_RL_30 wi_X7_ofLot ws_X7_ofLot (c_X7_ofLot 0 z164 8 (by decide)) mi_X7_ofLot (by decide) ⟨_, rfl, rfl⟩ (by decide) rfl rfl rfl (Nat.le_of_ble_eq_true rfl) (Nat.le_of_ble_eq_true rfl) (show (cells + 16) + 2 ≤ 1862 by omega) (show (slots + 96) + 12 ≤ 11184 by omega) (Nat.le_of_ble_eq_true rfl) dL_areKept_291 (fun z165 v165 hz165 => ?_)
                    refine g_iload F 0 rfl rfl dL_areKept_294 ?_
                    refine g_iconst F 2 rfl dL_areKept_296 ?_
                    refine g_isub F rfl rfl dL_areKept_297 ?_
                    refine g_icmp_ne F rfl rfl (tgt := 363) rfl dL_areKept_298 (fun n166 => ?_) (fun n166 => ?_)
                    · refine g_iconst F 2 rfl dL_areKept_363 ?_
                      refine g_istore F rfl (Nat.le_of_ble_eq_true rfl) (ls' := [(11, (2, 0)), (20, (0, z89)), (19, (0, z88)), (18, (0, z87)), (12, (0, (w32 (l12 + z20)))), (17, (0, z20)), (16, (0, z19)), (0, (17, 0)), (1, (1, l1)), (3, (0, 4)), (4, (1, l4)), (6, (1, l6)), (8, (1, l8)), (10, (0, l10)), (13, (27, 0)), (14, (28, 0)), (15, (0, l15))]) rfl dL_areKept_364 ?_
                      refine g_iinc F 16 rfl rfl (Nat.le_of_ble_eq_true rfl) (ls' := [(15, (0, (w32 (l15 + 1)))), (11, (2, 0)), (20, (0, z89)), (19, (0, z88)), (18, (0, z87)), (12, (0, (w32 (l12 + z20)))), (17, (0, z20)), (16, (0, z19)), (0, (17, 0)), (1, (1, l1)), (3, (0, 4)), (4, (1, l4)), (6, (1, l6)), (8, (1, l8)), (10, (0, l10)), (13, (27, 0)), (14, (28, 0))]) rfl dL_areKept_366 ?_
                      refine g_goto F (tgt := 134) rfl dL_areKept_369 ?_
                      refine g_loc [(8, 17), (9, 1), (10, 0), (11, 1), (12, 1), (13, 1), (14, 0), (1, 0), (5, 0), (15, 27), (16, 28), (0, 0)] rfl ?_
                      exact ih v165 0 (w32 (l12 + z20)) (w32 (l15 + 1)) (cells + 18) (slots + 108) (by omega) (by omega)
                    · refine g_iload F 2 rfl rfl dL_areKept_301 ?_
                      refine g_if_lt F rfl (tgt := 316) rfl dL_areKept_303 (fun n167 => ?_) (fun n167 => ?_)
                      · refine g_aload_n F rfl 6 rfl dL_areKept_316 ?_
                        refine g_iload F 16 rfl rfl dL_areKept_317 ?_
                        refine g_iconst F 0 rfl dL_areKept_319 ?_
                        refine g_callV F (by decide) (K := 7) (b := 0) [(0, l15), (0, 4)] [0, 0] ml_RL_30 wi_X7_ofLot ws_X7_ofLot (c_X7_ofLot 0 l15 4 (by decide)) mi_X7_ofLot (by decide) ⟨_, rfl, rfl⟩ (by decide) rfl rfl rfl (Nat.le_of_ble_eq_true rfl) (Nat.le_of_ble_eq_true rfl) (show (cells + 18) + 2 ≤ 1862 by omega) (show (slots + 108) + 12 ≤ 11184 by omega) (Nat.le_of_ble_eq_true rfl) dL_areKept_320 (fun z168 v168 hz168 => ?_)
                        refine g_if_lt F rfl (tgt := 348) rfl dL_areKept_323 (fun n169 => ?_) (fun n169 => ?_)
                        · refine g_aload_n F rfl 6 rfl dL_areKept_348 ?_
                          refine g_iload F 16 rfl rfl dL_areKept_349 ?_
                          refine g_bipush F rfl (by decide) dL_areKept_351 ?_
                          refine g_callV F (by decide) (K := 7) (b := 0) [(0, l15), (0, 7)] [0, 0] ml_RL_30 wi_X7_ofLot ws_X7_ofLot (c_X7_ofLot 0 l15 7 (by decide)) mi_X7_ofLot (by decide) ⟨_, rfl, rfl⟩ (by decide) rfl rfl rfl (Nat.le_of_ble_eq_true rfl) (Nat.le_of_ble_eq_true rfl) (show (cells + 20) + 2 ≤ 1862 by omega) (show (slots + 120) + 12 ≤ 11184 by omega) (Nat.le_of_ble_eq_true rfl) dL_areKept_353 (fun z170 v170 hz170 => ?_)
                          refine g_if_lt F rfl (tgt := 363) rfl dL_areKept_356 (fun n171 => ?_) (fun n171 => ?_)
                          · refine g_iconst F 2 rfl dL_areKept_363 ?_
                            refine g_istore F rfl (Nat.le_of_ble_eq_true rfl) (ls' := [(11, (2, 0)), (20, (0, z89)), (19, (0, z88)), (18, (0, z87)), (12, (0, (w32 (l12 + z20)))), (17, (0, z20)), (16, (0, z19)), (0, (17, 0)), (1, (1, l1)), (3, (0, 4)), (4, (1, l4)), (6, (1, l6)), (8, (1, l8)), (10, (0, l10)), (13, (27, 0)), (14, (28, 0)), (15, (0, l15))]) rfl dL_areKept_364 ?_
                            refine g_iinc F 16 rfl rfl (Nat.le_of_ble_eq_true rfl) (ls' := [(15, (0, (w32 (l15 + 1)))), (11, (2, 0)), (20, (0, z89)), (19, (0, z88)), (18, (0, z87)), (12, (0, (w32 (l12 + z20)))), (17, (0, z20)), (16, (0, z19)), (0, (17, 0)), (1, (1, l1)), (3, (0, 4)), (4, (1, l4)), (6, (1, l6)), (8, (1, l8)), (10, (0, l10)), (13, (27, 0)), (14, (28, 0))]) rfl dL_areKept_366 ?_
                            refine g_goto F (tgt := 134) rfl dL_areKept_369 ?_
                            refine g_loc [(8, 17), (9, 1), (10, 0), (11, 1), (12, 1), (13, 1), (14, 0), (1, 0), (5, 0), (15, 27), (16, 28), (0, 0)] rfl ?_
                            exact ih v170 0 (w32 (l12 + z20)) (w32 (l15 + 1)) (cells + 22) (slots + 132) (by omega) (by omega)
                          · refine g_iconst F 2 rfl dL_areKept_359 ?_
                            refine g_goto F (tgt := 364) rfl dL_areKept_360 ?_
                            refine g_istore F rfl (Nat.le_of_ble_eq_true rfl) (ls' := [(11, (2, 1)), (20, (0, z89)), (19, (0, z88)), (18, (0, z87)), (12, (0, (w32 (l12 + z20)))), (17, (0, z20)), (16, (0, z19)), (0, (17, 0)), (1, (1, l1)), (3, (0, 4)), (4, (1, l4)), (6, (1, l6)), (8, (1, l8)), (10, (0, l10)), (13, (27, 0)), (14, (28, 0)), (15, (0, l15))]) rfl dL_areKept_364 ?_
                            refine g_iinc F 16 rfl rfl (Nat.le_of_ble_eq_true rfl) (ls' := [(15, (0, (w32 (l15 + 1)))), (11, (2, 1)), (20, (0, z89)), (19, (0, z88)), (18, (0, z87)), (12, (0, (w32 (l12 + z20)))), (17, (0, z20)), (16, (0, z19)), (0, (17, 0)), (1, (1, l1)), (3, (0, 4)), (4, (1, l4)), (6, (1, l6)), (8, (1, l8)), (10, (0, l10)), (13, (27, 0)), (14, (28, 0))]) rfl dL_areKept_366 ?_
                            refine g_goto F (tgt := 134) rfl dL_areKept_369 ?_
                            refine g_loc [(8, 17), (9, 1), (10, 0), (11, 1), (12, 1), (13, 1), (14, 0), (1, 0), (5, 0), (15, 27), (16, 28), (0, 0)] rfl ?_
                            exact ih v170 1 (w32 (l12 + z20)) (w32 (l15 + 1)) (cells + 22) (slots + 132) (by omega) (by omega)
                        · refine g_iload F 4 rfl rfl dL_areKept_326 ?_
                          refine g_if_le_f F rfl (Int.not_le.mpr (Int.not_le.mp n23)) (tgt := 363) rfl dL_areKept_328 ?_
                          refine g_aload_n F rfl 6 rfl dL_areKept_331 ?_
                          refine g_iload F 16 rfl rfl dL_areKept_332 ?_
                          refine g_iconst F 0 rfl dL_areKept_334 ?_
                          refine g_callV F (by decide) (K := 7) (b := 0) [(0, l15), (0, 4)] [0, 0] ml_RL_30 wi_X7_ofLot ws_X7_ofLot (c_X7_ofLot 0 l15 4 (by decide)) mi_X7_ofLot (by decide) ⟨_, rfl, rfl⟩ (by decide) rfl rfl rfl (Nat.le_of_ble_eq_true rfl) (Nat.le_of_ble_eq_true rfl) (show (cells + 20) + 2 ≤ 1862 by omega) (show (slots + 120) + 12 ≤ 11184 by omega) (Nat.le_of_ble_eq_true rfl) dL_areKept_335 (fun z172 v172 hz172 => ?_)
                          refine g_aload_n F rfl 6 rfl dL_areKept_338 ?_
                          refine g_iload F 16 rfl rfl dL_areKept_339 ?_
                          refine g_iconst F 2 rfl dL_areKept_341 ?_
                          refine g_callV F (by decide) (K := 7) (b := 0) [(0, l15), (2, 1)] [0, 0] ml_RL_30 wi_X7_ofLot ws_X7_ofLot (c_X7_ofLot 0 l15 1 (by decide)) mi_X7_ofLot (by decide) ⟨_, rfl, rfl⟩ (by decide) rfl rfl rfl (Nat.le_of_ble_eq_true rfl) (Nat.le_of_ble_eq_true rfl) (show (cells + 22) + 2 ≤ 1862 by omega) (show (slots + 132) + 12 ≤ 11184 by omega) (Nat.le_of_ble_eq_true rfl) dL_areKept_342 (fun z173 v173 hz173 => ?_)
                          refine g_icmp_eq F rfl rfl (tgt := 363) rfl dL_areKept_345 (fun n174 => ?_) (fun n174 => ?_)
                          · refine g_iconst F 2 rfl dL_areKept_363 ?_
                            refine g_istore F rfl (Nat.le_of_ble_eq_true rfl) (ls' := [(11, (2, 0)), (20, (0, z89)), (19, (0, z88)), (18, (0, z87)), (12, (0, (w32 (l12 + z20)))), (17, (0, z20)), (16, (0, z19)), (0, (17, 0)), (1, (1, l1)), (3, (0, 4)), (4, (1, l4)), (6, (1, l6)), (8, (1, l8)), (10, (0, l10)), (13, (27, 0)), (14, (28, 0)), (15, (0, l15))]) rfl dL_areKept_364 ?_
                            refine g_iinc F 16 rfl rfl (Nat.le_of_ble_eq_true rfl) (ls' := [(15, (0, (w32 (l15 + 1)))), (11, (2, 0)), (20, (0, z89)), (19, (0, z88)), (18, (0, z87)), (12, (0, (w32 (l12 + z20)))), (17, (0, z20)), (16, (0, z19)), (0, (17, 0)), (1, (1, l1)), (3, (0, 4)), (4, (1, l4)), (6, (1, l6)), (8, (1, l8)), (10, (0, l10)), (13, (27, 0)), (14, (28, 0))]) rfl dL_areKept_366 ?_
                            refine g_goto F (tgt := 134) rfl dL_areKept_369 ?_
                            refine g_loc [(8, 17), (9, 1), (10, 0), (11, 1), (12, 1), (13, 1), (14, 0), (1, 0), (5, 0), (15, 27), (16, 28), (0, 0)] rfl ?_
                            exact ih v173 0 (w32 (l12 + z20)) (w32 (l15 + 1)) (cells + 24) (slots + 144) (by omega) (by omega)
                          · refine g_aload_n F rfl 6 rfl dL_areKept_348 ?_
                            refine g_iload F 16 rfl rfl dL_areKept_349 ?_
                            refine g_bipush F rfl (by decide) dL_areKept_351 ?_
                            refine g_callV F (by decide) (K := 7) (b := 0) [(0, l15), (0, 7)] [0, 0] ml_RL_30 wi_X7_ofLot ws_X7_ofLot (c_X7_ofLot 0 l15 7 (by decide)) mi_X7_ofLot (by decide) ⟨_, rfl, rfl⟩ (by decide) rfl rfl rfl (Nat.le_of_ble_eq_true rfl) (Nat.le_of_ble_eq_true rfl) (show (cells + 24) + 2 ≤ 1862 by omega) (show (slots + 144) + 12 ≤ 11184 by omega) (Nat.le_of_ble_eq_true rfl) dL_areKept_353 (fun z175 v175 hz175 => ?_)
                            refine g_if_lt F rfl (tgt := 363) rfl dL_areKept_356 (fun n176 => ?_) (fun n176 => ?_)
                            · refine g_iconst F 2 rfl dL_areKept_363 ?_
                              refine g_istore F rfl (Nat.le_of_ble_eq_true rfl) (ls' := [(11, (2, 0)), (20, (0, z89)), (19, (0, z88)), (18, (0, z87)), (12, (0, (w32 (l12 + z20)))), (17, (0, z20)), (16, (0, z19)), (0, (17, 0)), (1, (1, l1)), (3, (0, 4)), (4, (1, l4)), (6, (1, l6)), (8, (1, l8)), (10, (0, l10)), (13, (27, 0)), (14, (28, 0)), (15, (0, l15))]) rfl dL_areKept_364 ?_
                              refine g_iinc F 16 rfl rfl (Nat.le_of_ble_eq_true rfl) (ls' := [(15, (0, (w32 (l15 + 1)))), (11, (2, 0)), (20, (0, z89)), (19, (0, z88)), (18, (0, z87)), (12, (0, (w32 (l12 + z20)))), (17, (0, z20)), (16, (0, z19)), (0, (17, 0)), (1, (1, l1)), (3, (0, 4)), (4, (1, l4)), (6, (1, l6)), (8, (1, l8)), (10, (0, l10)), (13, (27, 0)), (14, (28, 0))]) rfl dL_areKept_366 ?_
                              refine g_goto F (tgt := 134) rfl dL_areKept_369 ?_
                              refine g_loc [(8, 17), (9, 1), (10, 0), (11, 1), (12, 1), (13, 1), (14, 0), (1, 0), (5, 0), (15, 27), (16, 28), (0, 0)] rfl ?_
                              exact ih v175 0 (w32 (l12 + z20)) (w32 (l15 + 1)) (cells + 26) (slots + 156) (by omega) (by omega)
                            · refine g_iconst F 2 rfl dL_areKept_359 ?_
                              refine g_goto F (tgt := 364) rfl dL_areKept_360 ?_
                              refine g_istore F rfl (Nat.le_of_ble_eq_true rfl) (ls' := [(11, (2, 1)), (20, (0, z89)), (19, (0, z88)), (18, (0, z87)), (12, (0, (w32 (l12 + z20)))), (17, (0, z20)), (16, (0, z19)), (0, (17, 0)), (1, (1, l1)), (3, (0, 4)), (4, (1, l4)), (6, (1, l6)), (8, (1, l8)), (10, (0, l10)), (13, (27, 0)), (14, (28, 0)), (15, (0, l15))]) rfl dL_areKept_364 ?_
                              refine g_iinc F 16 rfl rfl (Nat.le_of_ble_eq_true rfl) (ls' := [(15, (0, (w32 (l15 + 1)))), (11, (2, 1)), (20, (0, z89)), (19, (0, z88)), (18, (0, z87)), (12, (0, (w32 (l12 + z20)))), (17, (0, z20)), (16, (0, z19)), (0, (17, 0)), (1, (1, l1)), (3, (0, 4)), (4, (1, l4)), (6, (1, l6)), (8, (1, l8)), (10, (0, l10)), (13, (27, 0)), (14, (28, 0))]) rfl dL_areKept_366 ?_
                              refine g_goto F (tgt := 134) rfl dL_areKept_369 ?_
                              refine g_loc [(8, 17), (9, 1), (10, 0), (11, 1), (12, 1), (13, 1), (14, 0), (1, 0), (5, 0), (15, 27), (16, 28), (0, 0)] rfl ?_
                              exact ih v175 1 (w32 (l12 + z20)) (w32 (l15 + 1)) (cells + 26) (slots + 156) (by omega) (by omega)
                      · refine g_aload_n F rfl 6 rfl dL_areKept_306 ?_
                        refine g_iload F 2 rfl rfl dL_areKept_307 ?_
                        refine g_iconst F 0 rfl dL_areKept_309 ?_
                        refine g_callV F (by decide) (K := 7) (b := 0) [(0, z87), (0, 5)] [0, 0] ml_RL_33 wi_X7_ofLoan ws_X7_ofLoan (c_X7_ofLoan 0 z87 5 (by decide)) mi_X7_ofLoan (by decide) ⟨_, rfl, rfl⟩ (by decide) rfl rfl rfl (Nat.le_of_ble_eq_true rfl) (Nat.le_of_ble_eq_true rfl) (show (cells + 18) + 2 ≤ 1862 by omega) (show (slots + 108) + 12 ≤ 11184 by omega) (Nat.le_of_ble_eq_true rfl) dL_areKept_310 (fun z177 v177 hz177 => ?_)
                        refine g_if_ne F rfl (tgt := 363) rfl dL_areKept_313 (fun n178 => ?_) (fun n178 => ?_)
                        · refine g_iconst F 2 rfl dL_areKept_363 ?_
                          refine g_istore F rfl (Nat.le_of_ble_eq_true rfl) (ls' := [(11, (2, 0)), (20, (0, z89)), (19, (0, z88)), (18, (0, z87)), (12, (0, (w32 (l12 + z20)))), (17, (0, z20)), (16, (0, z19)), (0, (17, 0)), (1, (1, l1)), (3, (0, 4)), (4, (1, l4)), (6, (1, l6)), (8, (1, l8)), (10, (0, l10)), (13, (27, 0)), (14, (28, 0)), (15, (0, l15))]) rfl dL_areKept_364 ?_
                          refine g_iinc F 16 rfl rfl (Nat.le_of_ble_eq_true rfl) (ls' := [(15, (0, (w32 (l15 + 1)))), (11, (2, 0)), (20, (0, z89)), (19, (0, z88)), (18, (0, z87)), (12, (0, (w32 (l12 + z20)))), (17, (0, z20)), (16, (0, z19)), (0, (17, 0)), (1, (1, l1)), (3, (0, 4)), (4, (1, l4)), (6, (1, l6)), (8, (1, l8)), (10, (0, l10)), (13, (27, 0)), (14, (28, 0))]) rfl dL_areKept_366 ?_
                          refine g_goto F (tgt := 134) rfl dL_areKept_369 ?_
                          refine g_loc [(8, 17), (9, 1), (10, 0), (11, 1), (12, 1), (13, 1), (14, 0), (1, 0), (5, 0), (15, 27), (16, 28), (0, 0)] rfl ?_
                          exact ih v177 0 (w32 (l12 + z20)) (w32 (l15 + 1)) (cells + 20) (slots + 120) (by omega) (by omega)
                        · refine g_aload_n F rfl 6 rfl dL_areKept_316 ?_
                          refine g_iload F 16 rfl rfl dL_areKept_317 ?_
                          refine g_iconst F 0 rfl dL_areKept_319 ?_
                          refine g_callV F (by decide) (K := 7) (b := 0) [(0, l15), (0, 4)] [0, 0] ml_RL_30 wi_X7_ofLot ws_X7_ofLot (c_X7_ofLot 0 l15 4 (by decide)) mi_X7_ofLot (by decide) ⟨_, rfl, rfl⟩ (by decide) rfl rfl rfl (Nat.le_of_ble_eq_true rfl) (Nat.le_of_ble_eq_true rfl) (show (cells + 20) + 2 ≤ 1862 by omega) (show (slots + 120) + 12 ≤ 11184 by omega) (Nat.le_of_ble_eq_true rfl) dL_areKept_320 (fun z179 v179 hz179 => ?_)
                          refine g_if_lt F rfl (tgt := 348) rfl dL_areKept_323 (fun n180 => ?_) (fun n180 => ?_)
                          · refine g_aload_n F rfl 6 rfl dL_areKept_348 ?_
                            refine g_iload F 16 rfl rfl dL_areKept_349 ?_
                            refine g_bipush F rfl (by decide) dL_areKept_351 ?_
                            refine g_callV F (by decide) (K := 7) (b := 0) [(0, l15), (0, 7)] [0, 0] ml_RL_30 wi_X7_ofLot ws_X7_ofLot (c_X7_ofLot 0 l15 7 (by decide)) mi_X7_ofLot (by decide) ⟨_, rfl, rfl⟩ (by decide) rfl rfl rfl (Nat.le_of_ble_eq_true rfl) (Nat.le_of_ble_eq_true rfl) (show (cells + 22) + 2 ≤ 1862 by omega) (show (slots + 132) + 12 ≤ 11184 by omega) (Nat.le_of_ble_eq_true rfl) dL_areKept_353 (fun z181 v181 hz181 => ?_)
                            refine g_if_lt F rfl (tgt := 363) rfl dL_areKept_356 (fun n182 => ?_) (fun n182 => ?_)
                            · refine g_iconst F 2 rfl dL_areKept_363 ?_
                              refine g_istore F rfl (Nat.le_of_ble_eq_true rfl) (ls' := [(11, (2, 0)), (20, (0, z89)), (19, (0, z88)), (18, (0, z87)), (12, (0, (w32 (l12 + z20)))), (17, (0, z20)), (16, (0, z19)), (0, (17, 0)), (1, (1, l1)), (3, (0, 4)), (4, (1, l4)), (6, (1, l6)), (8, (1, l8)), (10, (0, l10)), (13, (27, 0)), (14, (28, 0)), (15, (0, l15))]) rfl dL_areKept_364 ?_
                              refine g_iinc F 16 rfl rfl (Nat.le_of_ble_eq_true rfl) (ls' := [(15, (0, (w32 (l15 + 1)))), (11, (2, 0)), (20, (0, z89)), (19, (0, z88)), (18, (0, z87)), (12, (0, (w32 (l12 + z20)))), (17, (0, z20)), (16, (0, z19)), (0, (17, 0)), (1, (1, l1)), (3, (0, 4)), (4, (1, l4)), (6, (1, l6)), (8, (1, l8)), (10, (0, l10)), (13, (27, 0)), (14, (28, 0))]) rfl dL_areKept_366 ?_
                              refine g_goto F (tgt := 134) rfl dL_areKept_369 ?_
                              refine g_loc [(8, 17), (9, 1), (10, 0), (11, 1), (12, 1), (13, 1), (14, 0), (1, 0), (5, 0), (15, 27), (16, 28), (0, 0)] rfl ?_
                              exact ih v181 0 (w32 (l12 + z20)) (w32 (l15 + 1)) (cells + 24) (slots + 144) (by omega) (by omega)
                            · refine g_iconst F 2 rfl dL_areKept_359 ?_
                              refine g_goto F (tgt := 364) rfl dL_areKept_360 ?_
                              refine g_istore F rfl (Nat.le_of_ble_eq_true rfl) (ls' := [(11, (2, 1)), (20, (0, z89)), (19, (0, z88)), (18, (0, z87)), (12, (0, (w32 (l12 + z20)))), (17, (0, z20)), (16, (0, z19)), (0, (17, 0)), (1, (1, l1)), (3, (0, 4)), (4, (1, l4)), (6, (1, l6)), (8, (1, l8)), (10, (0, l10)), (13, (27, 0)), (14, (28, 0)), (15, (0, l15))]) rfl dL_areKept_364 ?_
                              refine g_iinc F 16 rfl rfl (Nat.le_of_ble_eq_true rfl) (ls' := [(15, (0, (w32 (l15 + 1)))), (11, (2, 1)), (20, (0, z89)), (19, (0, z88)), (18, (0, z87)), (12, (0, (w32 (l12 + z20)))), (17, (0, z20)), (16, (0, z19)), (0, (17, 0)), (1, (1, l1)), (3, (0, 4)), (4, (1, l4)), (6, (1, l6)), (8, (1, l8)), (10, (0, l10)), (13, (27, 0)), (14, (28, 0))]) rfl dL_areKept_366 ?_
                              refine g_goto F (tgt := 134) rfl dL_areKept_369 ?_
                              refine g_loc [(8, 17), (9, 1), (10, 0), (11, 1), (12, 1), (13, 1), (14, 0), (1, 0), (5, 0), (15, 27), (16, 28), (0, 0)] rfl ?_
                              exact ih v181 1 (w32 (l12 + z20)) (w32 (l15 + 1)) (cells + 24) (slots + 144) (by omega) (by omega)
                          · refine g_iload F 4 rfl rfl dL_areKept_326 ?_
                            refine g_if_le_f F rfl (Int.not_le.mpr (Int.not_le.mp n23)) (tgt := 363) rfl dL_areKept_328 ?_
                            refine g_aload_n F rfl 6 rfl dL_areKept_331 ?_
                            refine g_iload F 16 rfl rfl dL_areKept_332 ?_
                            refine g_iconst F 0 rfl dL_areKept_334 ?_
                            refine g_callV F (by decide) (K := 7) (b := 0) [(0, l15), (0, 4)] [0, 0] ml_RL_30 wi_X7_ofLot ws_X7_ofLot (c_X7_ofLot 0 l15 4 (by decide)) mi_X7_ofLot (by decide) ⟨_, rfl, rfl⟩ (by decide) rfl rfl rfl (Nat.le_of_ble_eq_true rfl) (Nat.le_of_ble_eq_true rfl) (show (cells + 22) + 2 ≤ 1862 by omega) (show (slots + 132) + 12 ≤ 11184 by omega) (Nat.le_of_ble_eq_true rfl) dL_areKept_335 (fun z183 v183 hz183 => ?_)
                            refine g_aload_n F rfl 6 rfl dL_areKept_338 ?_
                            refine g_iload F 16 rfl rfl dL_areKept_339 ?_
                            refine g_iconst F 2 rfl dL_areKept_341 ?_
                            refine g_callV F (by decide) (K := 7) (b := 0) [(0, l15), (2, 1)] [0, 0] ml_RL_30 wi_X7_ofLot ws_X7_ofLot (c_X7_ofLot 0 l15 1 (by decide)) mi_X7_ofLot (by decide) ⟨_, rfl, rfl⟩ (by decide) rfl rfl rfl (Nat.le_of_ble_eq_true rfl) (Nat.le_of_ble_eq_true rfl) (show (cells + 24) + 2 ≤ 1862 by omega) (show (slots + 144) + 12 ≤ 11184 by omega) (Nat.le_of_ble_eq_true rfl) dL_areKept_342 (fun z184 v184 hz184 => ?_)
                            refine g_icmp_eq F rfl rfl (tgt := 363) rfl dL_areKept_345 (fun n185 => ?_) (fun n185 => ?_)
                            · refine g_iconst F 2 rfl dL_areKept_363 ?_
                              refine g_istore F rfl (Nat.le_of_ble_eq_true rfl) (ls' := [(11, (2, 0)), (20, (0, z89)), (19, (0, z88)), (18, (0, z87)), (12, (0, (w32 (l12 + z20)))), (17, (0, z20)), (16, (0, z19)), (0, (17, 0)), (1, (1, l1)), (3, (0, 4)), (4, (1, l4)), (6, (1, l6)), (8, (1, l8)), (10, (0, l10)), (13, (27, 0)), (14, (28, 0)), (15, (0, l15))]) rfl dL_areKept_364 ?_
                              refine g_iinc F 16 rfl rfl (Nat.le_of_ble_eq_true rfl) (ls' := [(15, (0, (w32 (l15 + 1)))), (11, (2, 0)), (20, (0, z89)), (19, (0, z88)), (18, (0, z87)), (12, (0, (w32 (l12 + z20)))), (17, (0, z20)), (16, (0, z19)), (0, (17, 0)), (1, (1, l1)), (3, (0, 4)), (4, (1, l4)), (6, (1, l6)), (8, (1, l8)), (10, (0, l10)), (13, (27, 0)), (14, (28, 0))]) rfl dL_areKept_366 ?_
                              refine g_goto F (tgt := 134) rfl dL_areKept_369 ?_
                              refine g_loc [(8, 17), (9, 1), (10, 0), (11, 1), (12, 1), (13, 1), (14, 0), (1, 0), (5, 0), (15, 27), (16, 28), (0, 0)] rfl ?_
                              exact ih v184 0 (w32 (l12 + z20)) (w32 (l15 + 1)) (cells + 26) (slots + 156) (by omega) (by omega)
                            · refine g_aload_n F rfl 6 rfl dL_areKept_348 ?_
                              refine g_iload F 16 rfl rfl dL_areKept_349 ?_
                              refine g_bipush F rfl (by decide) dL_areKept_351 ?_
                              refine g_callV F (by decide) (K := 7) (b := 0) [(0, l15), (0, 7)] [0, 0] ml_RL_30 wi_X7_ofLot ws_X7_ofLot (c_X7_ofLot 0 l15 7 (by decide)) mi_X7_ofLot (by decide) ⟨_, rfl, rfl⟩ (by decide) rfl rfl rfl (Nat.le_of_ble_eq_true rfl) (Nat.le_of_ble_eq_true rfl) (show (cells + 26) + 2 ≤ 1862 by omega) (show (slots + 156) + 12 ≤ 11184 by omega) (Nat.le_of_ble_eq_true rfl) dL_areKept_353 (fun z186 v186 hz186 => ?_)
                              refine g_if_lt F rfl (tgt := 363) rfl dL_areKept_356 (fun n187 => ?_) (fun n187 => ?_)
                              · refine g_iconst F 2 rfl dL_areKept_363 ?_
                                refine g_istore F rfl (Nat.le_of_ble_eq_true rfl) (ls' := [(11, (2, 0)), (20, (0, z89)), (19, (0, z88)), (18, (0, z87)), (12, (0, (w32 (l12 + z20)))), (17, (0, z20)), (16, (0, z19)), (0, (17, 0)), (1, (1, l1)), (3, (0, 4)), (4, (1, l4)), (6, (1, l6)), (8, (1, l8)), (10, (0, l10)), (13, (27, 0)), (14, (28, 0)), (15, (0, l15))]) rfl dL_areKept_364 ?_
                                refine g_iinc F 16 rfl rfl (Nat.le_of_ble_eq_true rfl) (ls' := [(15, (0, (w32 (l15 + 1)))), (11, (2, 0)), (20, (0, z89)), (19, (0, z88)), (18, (0, z87)), (12, (0, (w32 (l12 + z20)))), (17, (0, z20)), (16, (0, z19)), (0, (17, 0)), (1, (1, l1)), (3, (0, 4)), (4, (1, l4)), (6, (1, l6)), (8, (1, l8)), (10, (0, l10)), (13, (27, 0)), (14, (28, 0))]) rfl dL_areKept_366 ?_
                                refine g_goto F (tgt := 134) rfl dL_areKept_369 ?_
                                refine g_loc [(8, 17), (9, 1), (10, 0), (11, 1), (12, 1), (13, 1), (14, 0), (1, 0), (5, 0), (15, 27), (16, 28), (0, 0)] rfl ?_
                                exact ih v186 0 (w32 (l12 + z20)) (w32 (l15 + 1)) (cells + 28) (slots + 168) (by omega) (by omega)
                              · refine g_iconst F 2 rfl dL_areKept_359 ?_
                                refine g_goto F (tgt := 364) rfl dL_areKept_360 ?_
                                refine g_istore F rfl (Nat.le_of_ble_eq_true rfl) (ls' := [(11, (2, 1)), (20, (0, z89)), (19, (0, z88)), (18, (0, z87)), (12, (0, (w32 (l12 + z20)))), (17, (0, z20)), (16, (0, z19)), (0, (17, 0)), (1, (1, l1)), (3, (0, 4)), (4, (1, l4)), (6, (1, l6)), (8, (1, l8)), (10, (0, l10)), (13, (27, 0)), (14, (28, 0)), (15, (0, l15))]) rfl dL_areKept_364 ?_
                                refine g_iinc F 16 rfl rfl (Nat.le_of_ble_eq_true rfl) (ls' := [(15, (0, (w32 (l15 + 1)))), (11, (2, 1)), (20, (0, z89)), (19, (0, z88)), (18, (0, z87)), (12, (0, (w32 (l12 + z20)))), (17, (0, z20)), (16, (0, z19)), (0, (17, 0)), (1, (1, l1)), (3, (0, 4)), (4, (1, l4)), (6, (1, l6)), (8, (1, l8)), (10, (0, l10)), (13, (27, 0)), (14, (28, 0))]) rfl dL_areKept_366 ?_
                                refine g_goto F (tgt := 134) rfl dL_areKept_369 ?_
                                refine g_loc [(8, 17), (9, 1), (10, 0), (11, 1), (12, 1), (13, 1), (14, 0), (1, 0), (5, 0), (15, 27), (16, 28), (0, 0)] rfl ?_
                                exact ih v186 1 (w32 (l12 + z20)) (w32 (l15 + 1)) (cells + 28) (slots + 168) (by omega) (by omega)
def lp_L_areKept_4_375 (l1 l4 l6 l8 l10 l12 : Int) (k : V → Int → Int → Res) : Nat → V → Int → Int → Res
  | 0, _, _, _ => none
  | n + 1, v, l11, l15 => (if 4 ≤ l15 then (k v l11 l15)
   else (if l11 = 0 then (k v l11 l15)
   else (chk (0 ≤ l15 ∧ l15 < 12) (if ¬ (v 17 0 l15) = 60 then (lp_L_areKept_4_375 l1 l4 l6 l8 l10 l12 k n v 0 (w32 (l15 + 1)))
   else (rB (sp_X7_ofWork 0 l15 5 v) (fun z193 v193 => (if ¬ (v 18 0 l15) = z193 then (lp_L_areKept_4_375 l1 l4 l6 l8 l10 l12 k n v193 0 (w32 (l15 + 1)))
   else (rB (sp_X7_ofWork 0 l15 4 v193) (fun z195 v195 => (if z195 < 0 then (rB (sp_X7_ofWork 0 l15 3 v195) (fun z197 v197 => (if z197 < 0 then (lp_L_areKept_4_375 l1 l4 l6 l8 l10 l12 k n v197 0 (w32 (l15 + 1)))
   else (lp_L_areKept_4_375 l1 l4 l6 l8 l10 l12 k n v197 1 (w32 (l15 + 1))))))
   else (rB (sp_X7_ofWork 0 l15 4 v195) (fun z199 v199 => (if z199 < 0 then (lp_L_areKept_4_375 l1 l4 l6 l8 l10 l12 k n v199 0 (w32 (l15 + 1)))
   else (rB (sp_X7_ofWork 0 l15 3 v199) (fun z201 v201 => (if z201 < 0 then (lp_L_areKept_4_375 l1 l4 l6 l8 l10 l12 k n v201 0 (w32 (l15 + 1)))
   else (lp_L_areKept_4_375 l1 l4 l6 l8 l10 l12 k n v201 1 (w32 (l15 + 1)))))))))))))))))))
set_option maxRecDepth 100000 in
set_option maxHeartbeats 4000000 in
theorem kl_L_areKept_4_375 {l1 l4 l6 l8 l10 l12 : Int} {x : Cx} (F : Fx x cL_areKept RL "areKept" ({ frames := 9, cells := 1862, slots := 11184, locals := 153 }) 21 (some 2) (some .boolean) 0) {k : V → Int → Int → Res} (c9 s9 : Nat) (hC : c9 ≤ 1862) (hS : s9 ≤ 11184) (hk : ∀ (v : V) (l11 l15 : Int), Gs x (k v l11 l15) v c9 s9 454 [(0, (17, 0)), (1, (1, l1)), (3, (0, 4)), (4, (1, l4)), (6, (1, l6)), (8, (1, l8)), (10, (0, l10)), (11, (0, l11)), (12, (0, l12)), (13, (27, 0)), (14, (28, 0)), (15, (0, l15))] []) : ∀ (n : Nat) (v : V) (l11 l15 : Int) (cells slots : Nat), cells + n * 8 ≤ c9 → slots + n * 48 ≤ s9 → Gs x (lp_L_areKept_4_375 l1 l4 l6 l8 l10 l12 k n v l11 l15) v cells slots 375 [(0, (17, 0)), (1, (1, l1)), (3, (0, 4)), (4, (1, l4)), (6, (1, l6)), (8, (1, l8)), (10, (0, l10)), (11, (0, l11)), (12, (0, l12)), (13, (27, 0)), (14, (28, 0)), (15, (0, l15))] [] := by
  intro n
  induction n with
  | zero => intro v l11 l15 cells slots _ _; exact g_none
  | succ n ih =>
    intro v l11 l15 cells slots hc hs
    rw [lp_L_areKept_4_375]
    refine g_iload F 11 rfl rfl dL_areKept_375 ?_
    refine g_iload_n F rfl 2 rfl rfl dL_areKept_377 ?_
    refine g_icmp_ge F rfl rfl (tgt := 454) rfl dL_areKept_378 (fun n189 => ?_) (fun n189 => ?_)
    · refine g_loc [(0, 17), (1, 1), (2, 0), (3, 1), (4, 1), (5, 1), (6, 0), (7, 0), (8, 0), (9, 27), (10, 28), (11, 0)] rfl ?_
      refine g_wide (c2 := c9) (s2 := s9) (show cells ≤ c9 by omega) (show slots ≤ s9 by omega) ?_
      exact hk v l11 l15
    · refine g_iload F 7 rfl rfl dL_areKept_381 ?_
      refine g_if_eq F rfl (tgt := 454) rfl dL_areKept_383 (fun n190 => ?_) (fun n190 => ?_)
      · refine g_loc [(0, 17), (1, 1), (2, 0), (3, 1), (4, 1), (5, 1), (6, 0), (7, 0), (8, 0), (9, 27), (10, 28), (11, 0)] rfl ?_
        refine g_wide (c2 := c9) (s2 := s9) (show cells ≤ c9 by omega) (show slots ≤ s9 by omega) ?_
        exact hk v l11 l15
      · refine g_aload F 9 rfl dL_areKept_386 ?_
        refine g_iload F 11 rfl rfl dL_areKept_388 ?_
        refine g_chk (fun n191 => ?_)
        refine h_iald F (n := 12) ak_17 (by decide) n191 rfl dL_areKept_390 ?_
        refine g_bipush F rfl (by decide) dL_areKept_391 ?_
        refine g_icmp_ne F rfl rfl (tgt := 445) rfl dL_areKept_393 (fun n192 => ?_) (fun n192 => ?_)
        · refine g_iconst F 2 rfl dL_areKept_445 ?_
          refine g_istore F rfl (Nat.le_of_ble_eq_true rfl) (ls' := [(11, (2, 0)), (0, (17, 0)), (1, (1, l1)), (3, (0, 4)), (4, (1, l4)), (6, (1, l6)), (8, (1, l8)), (10, (0, l10)), (12, (0, l12)), (13, (27, 0)), (14, (28, 0)), (15, (0, l15))]) rfl dL_areKept_446 ?_
          refine g_iinc F 11 rfl rfl (Nat.le_of_ble_eq_true rfl) (ls' := [(15, (0, (w32 (l15 + 1)))), (11, (2, 0)), (0, (17, 0)), (1, (1, l1)), (3, (0, 4)), (4, (1, l4)), (6, (1, l6)), (8, (1, l8)), (10, (0, l10)), (12, (0, l12)), (13, (27, 0)), (14, (28, 0))]) rfl dL_areKept_448 ?_
          refine g_goto F (tgt := 375) rfl dL_areKept_451 ?_
          refine g_loc [(2, 17), (3, 1), (4, 0), (5, 1), (6, 1), (7, 1), (8, 0), (1, 0), (9, 0), (10, 27), (11, 28), (0, 0)] rfl ?_
          exact ih v 0 (w32 (l15 + 1)) cells slots (by omega) (by omega)
        · refine g_aload F 10 rfl dL_areKept_396 ?_
          refine g_iload F 11 rfl rfl dL_areKept_398 ?_
          refine h_iald F (n := 12) ak_18 (by decide) n191 rfl dL_areKept_400 ?_
          refine g_aload_n F rfl 0 rfl dL_areKept_401 ?_
          refine g_iload F 11 rfl rfl dL_areKept_402 ?_
          refine g_iconst F 0 rfl dL_areKept_404 ?_
          refine g_callV F (by decide) (K := 7) (b := 0) [(0, l15), (0, 5)] [0, 0] ml_RL_27 wi_X7_ofWork ws_X7_ofWork (c_X7_ofWork 0 l15 5 (by decide)) mi_X7_ofWork (by decide) ⟨_, rfl, rfl⟩ (by decide) rfl rfl rfl (Nat.le_of_ble_eq_true rfl) (Nat.le_of_ble_eq_true rfl) (show cells + 2 ≤ 1862 by omega) (show slots + 12 ≤ 11184 by omega) (Nat.le_of_ble_eq_true rfl) dL_areKept_405 (fun z193 v193 hz193 => ?_)
          refine g_icmp_ne F rfl rfl (tgt := 445) rfl dL_areKept_408 (fun n194 => ?_) (fun n194 => ?_)
          · refine g_iconst F 2 rfl dL_areKept_445 ?_
            refine g_istore F rfl (Nat.le_of_ble_eq_true rfl) (ls' := [(11, (2, 0)), (0, (17, 0)), (1, (1, l1)), (3, (0, 4)), (4, (1, l4)), (6, (1, l6)), (8, (1, l8)), (10, (0, l10)), (12, (0, l12)), (13, (27, 0)), (14, (28, 0)), (15, (0, l15))]) rfl dL_areKept_446 ?_
            refine g_iinc F 11 rfl rfl (Nat.le_of_ble_eq_true rfl) (ls' := [(15, (0, (w32 (l15 + 1)))), (11, (2, 0)), (0, (17, 0)), (1, (1, l1)), (3, (0, 4)), (4, (1, l4)), (6, (1, l6)), (8, (1, l8)), (10, (0, l10)), (12, (0, l12)), (13, (27, 0)), (14, (28, 0))]) rfl dL_areKept_448 ?_
            refine g_goto F (tgt := 375) rfl dL_areKept_451 ?_
            refine g_loc [(2, 17), (3, 1), (4, 0), (5, 1), (6, 1), (7, 1), (8, 0), (1, 0), (9, 0), (10, 27), (11, 28), (0, 0)] rfl ?_
            exact ih v193 0 (w32 (l15 + 1)) (cells + 2) (slots + 12) (by omega) (by omega)
          · refine g_aload_n F rfl 0 rfl dL_areKept_411 ?_
            refine g_iload F 11 rfl rfl dL_areKept_412 ?_
            refine g_iconst F 0 rfl dL_areKept_414 ?_
            refine g_callV F (by decide) (K := 7) (b := 0) [(0, l15), (0, 4)] [0, 0] ml_RL_27 wi_X7_ofWork ws_X7_ofWork (c_X7_ofWork 0 l15 4 (by decide)) mi_X7_ofWork (by decide) ⟨_, rfl, rfl⟩ (by decide) rfl rfl rfl (Nat.le_of_ble_eq_true rfl) (Nat.le_of_ble_eq_true rfl) (show (cells + 2) + 2 ≤ 1862 by omega) (show (slots + 12) + 12 ≤ 11184 by omega) (Nat.le_of_ble_eq_true rfl) dL_areKept_415 (fun z195 v195 hz195 => ?_)
            refine g_if_lt F rfl (tgt := 431) rfl dL_areKept_418 (fun n196 => ?_) (fun n196 => ?_)
            · refine g_aload_n F rfl 0 rfl dL_areKept_431 ?_
              refine g_iload F 11 rfl rfl dL_areKept_432 ?_
              refine g_iconst F 0 rfl dL_areKept_434 ?_
              refine g_callV F (by decide) (K := 7) (b := 0) [(0, l15), (0, 3)] [0, 0] ml_RL_27 wi_X7_ofWork ws_X7_ofWork (c_X7_ofWork 0 l15 3 (by decide)) mi_X7_ofWork (by decide) ⟨_, rfl, rfl⟩ (by decide) rfl rfl rfl (Nat.le_of_ble_eq_true rfl) (Nat.le_of_ble_eq_true rfl) (show (cells + 4) + 2 ≤ 1862 by omega) (show (slots + 24) + 12 ≤ 11184 by omega) (Nat.le_of_ble_eq_true rfl) dL_areKept_435 (fun z197 v197 hz197 => ?_)
              refine g_if_lt F rfl (tgt := 445) rfl dL_areKept_438 (fun n198 => ?_) (fun n198 => ?_)
              · refine g_iconst F 2 rfl dL_areKept_445 ?_
                refine g_istore F rfl (Nat.le_of_ble_eq_true rfl) (ls' := [(11, (2, 0)), (0, (17, 0)), (1, (1, l1)), (3, (0, 4)), (4, (1, l4)), (6, (1, l6)), (8, (1, l8)), (10, (0, l10)), (12, (0, l12)), (13, (27, 0)), (14, (28, 0)), (15, (0, l15))]) rfl dL_areKept_446 ?_
                refine g_iinc F 11 rfl rfl (Nat.le_of_ble_eq_true rfl) (ls' := [(15, (0, (w32 (l15 + 1)))), (11, (2, 0)), (0, (17, 0)), (1, (1, l1)), (3, (0, 4)), (4, (1, l4)), (6, (1, l6)), (8, (1, l8)), (10, (0, l10)), (12, (0, l12)), (13, (27, 0)), (14, (28, 0))]) rfl dL_areKept_448 ?_
                refine g_goto F (tgt := 375) rfl dL_areKept_451 ?_
                refine g_loc [(2, 17), (3, 1), (4, 0), (5, 1), (6, 1), (7, 1), (8, 0), (1, 0), (9, 0), (10, 27), (11, 28), (0, 0)] rfl ?_
                exact ih v197 0 (w32 (l15 + 1)) (cells + 6) (slots + 36) (by omega) (by omega)
              · refine g_iconst F 2 rfl dL_areKept_441 ?_
                refine g_goto F (tgt := 446) rfl dL_areKept_442 ?_
                refine g_istore F rfl (Nat.le_of_ble_eq_true rfl) (ls' := [(11, (2, 1)), (0, (17, 0)), (1, (1, l1)), (3, (0, 4)), (4, (1, l4)), (6, (1, l6)), (8, (1, l8)), (10, (0, l10)), (12, (0, l12)), (13, (27, 0)), (14, (28, 0)), (15, (0, l15))]) rfl dL_areKept_446 ?_
                refine g_iinc F 11 rfl rfl (Nat.le_of_ble_eq_true rfl) (ls' := [(15, (0, (w32 (l15 + 1)))), (11, (2, 1)), (0, (17, 0)), (1, (1, l1)), (3, (0, 4)), (4, (1, l4)), (6, (1, l6)), (8, (1, l8)), (10, (0, l10)), (12, (0, l12)), (13, (27, 0)), (14, (28, 0))]) rfl dL_areKept_448 ?_
                refine g_goto F (tgt := 375) rfl dL_areKept_451 ?_
                refine g_loc [(2, 17), (3, 1), (4, 0), (5, 1), (6, 1), (7, 1), (8, 0), (1, 0), (9, 0), (10, 27), (11, 28), (0, 0)] rfl ?_
                exact ih v197 1 (w32 (l15 + 1)) (cells + 6) (slots + 36) (by omega) (by omega)
            · refine g_aload_n F rfl 0 rfl dL_areKept_421 ?_
              refine g_iload F 11 rfl rfl dL_areKept_422 ?_
              refine g_iconst F 0 rfl dL_areKept_424 ?_
              refine g_callV F (by decide) (K := 7) (b := 0) [(0, l15), (0, 4)] [0, 0] ml_RL_27 wi_X7_ofWork ws_X7_ofWork (c_X7_ofWork 0 l15 4 (by decide)) mi_X7_ofWork (by decide) ⟨_, rfl, rfl⟩ (by decide) rfl rfl rfl (Nat.le_of_ble_eq_true rfl) (Nat.le_of_ble_eq_true rfl) (show (cells + 4) + 2 ≤ 1862 by omega) (show (slots + 24) + 12 ≤ 11184 by omega) (Nat.le_of_ble_eq_true rfl) dL_areKept_425 (fun z199 v199 hz199 => ?_)
              refine g_if_lt F rfl (tgt := 445) rfl dL_areKept_428 (fun n200 => ?_) (fun n200 => ?_)
              · refine g_iconst F 2 rfl dL_areKept_445 ?_
                refine g_istore F rfl (Nat.le_of_ble_eq_true rfl) (ls' := [(11, (2, 0)), (0, (17, 0)), (1, (1, l1)), (3, (0, 4)), (4, (1, l4)), (6, (1, l6)), (8, (1, l8)), (10, (0, l10)), (12, (0, l12)), (13, (27, 0)), (14, (28, 0)), (15, (0, l15))]) rfl dL_areKept_446 ?_
                refine g_iinc F 11 rfl rfl (Nat.le_of_ble_eq_true rfl) (ls' := [(15, (0, (w32 (l15 + 1)))), (11, (2, 0)), (0, (17, 0)), (1, (1, l1)), (3, (0, 4)), (4, (1, l4)), (6, (1, l6)), (8, (1, l8)), (10, (0, l10)), (12, (0, l12)), (13, (27, 0)), (14, (28, 0))]) rfl dL_areKept_448 ?_
                refine g_goto F (tgt := 375) rfl dL_areKept_451 ?_
                refine g_loc [(2, 17), (3, 1), (4, 0), (5, 1), (6, 1), (7, 1), (8, 0), (1, 0), (9, 0), (10, 27), (11, 28), (0, 0)] rfl ?_
                exact ih v199 0 (w32 (l15 + 1)) (cells + 6) (slots + 36) (by omega) (by omega)
              · refine g_aload_n F rfl 0 rfl dL_areKept_431 ?_
                refine g_iload F 11 rfl rfl dL_areKept_432 ?_
                refine g_iconst F 0 rfl dL_areKept_434 ?_
                refine g_callV F (by decide) (K := 7) (b := 0) [(0, l15), (0, 3)] [0, 0] ml_RL_27 wi_X7_ofWork ws_X7_ofWork (c_X7_ofWork 0 l15 3 (by decide)) mi_X7_ofWork (by decide) ⟨_, rfl, rfl⟩ (by decide) rfl rfl rfl (Nat.le_of_ble_eq_true rfl) (Nat.le_of_ble_eq_true rfl) (show (cells + 6) + 2 ≤ 1862 by omega) (show (slots + 36) + 12 ≤ 11184 by omega) (Nat.le_of_ble_eq_true rfl) dL_areKept_435 (fun z201 v201 hz201 => ?_)
                refine g_if_lt F rfl (tgt := 445) rfl dL_areKept_438 (fun n202 => ?_) (fun n202 => ?_)
                · refine g_iconst F 2 rfl dL_areKept_445 ?_
                  refine g_istore F rfl (Nat.le_of_ble_eq_true rfl) (ls' := [(11, (2, 0)), (0, (17, 0)), (1, (1, l1)), (3, (0, 4)), (4, (1, l4)), (6, (1, l6)), (8, (1, l8)), (10, (0, l10)), (12, (0, l12)), (13, (27, 0)), (14, (28, 0)), (15, (0, l15))]) rfl dL_areKept_446 ?_
                  refine g_iinc F 11 rfl rfl (Nat.le_of_ble_eq_true rfl) (ls' := [(15, (0, (w32 (l15 + 1)))), (11, (2, 0)), (0, (17, 0)), (1, (1, l1)), (3, (0, 4)), (4, (1, l4)), (6, (1, l6)), (8, (1, l8)), (10, (0, l10)), (12, (0, l12)), (13, (27, 0)), (14, (28, 0))]) rfl dL_areKept_448 ?_
                  refine g_goto F (tgt := 375) rfl dL_areKept_451 ?_
                  refine g_loc [(2, 17), (3, 1), (4, 0), (5, 1), (6, 1), (7, 1), (8, 0), (1, 0), (9, 0), (10, 27), (11, 28), (0, 0)] rfl ?_
                  exact ih v201 0 (w32 (l15 + 1)) (cells + 8) (slots + 48) (by omega) (by omega)
                · refine g_iconst F 2 rfl dL_areKept_441 ?_
                  refine g_goto F (tgt := 446) rfl dL_areKept_442 ?_
                  refine g_istore F rfl (Nat.le_of_ble_eq_true rfl) (ls' := [(11, (2, 1)), (0, (17, 0)), (1, (1, l1)), (3, (0, 4)), (4, (1, l4)), (6, (1, l6)), (8, (1, l8)), (10, (0, l10)), (12, (0, l12)), (13, (27, 0)), (14, (28, 0)), (15, (0, l15))]) rfl dL_areKept_446 ?_
                  refine g_iinc F 11 rfl rfl (Nat.le_of_ble_eq_true rfl) (ls' := [(15, (0, (w32 (l15 + 1)))), (11, (2, 1)), (0, (17, 0)), (1, (1, l1)), (3, (0, 4)), (4, (1, l4)), (6, (1, l6)), (8, (1, l8)), (10, (0, l10)), (12, (0, l12)), (13, (27, 0)), (14, (28, 0))]) rfl dL_areKept_448 ?_
                  refine g_goto F (tgt := 375) rfl dL_areKept_451 ?_
                  refine g_loc [(2, 17), (3, 1), (4, 0), (5, 1), (6, 1), (7, 1), (8, 0), (1, 0), (9, 0), (10, 27), (11, 28), (0, 0)] rfl ?_
                  exact ih v201 1 (w32 (l15 + 1)) (cells + 8) (slots + 48) (by omega) (by omega)
def sp_L_areKept_4 (a1 : Int) (v : V) : Res := (lp_L_areKept_4_18 a1 (fun v11 u11_4 u11_6 u11_8 u11_10 u11_11 u11_12 => (chk ((0 : Int) ≤ 0 ∧ ¬ v11 99 17 0 = 1) (rLet (nw v11 17 0) (fun v12 => (chk ((0 : Int) ≤ 0 ∧ ¬ v12 99 18 0 = 1) (rLet (nw v12 18 0) (fun v14 => (lp_L_areKept_4_134 a1 u11_4 u11_6 u11_8 u11_10 (fun v188 u188_11 u188_12 u188_15 => (lp_L_areKept_4_375 a1 u11_4 u11_6 u11_8 u11_10 u188_12 (fun v203 u203_11 u203_15 => (if u203_11 = 0 then (rOk 0 v203)
   else (if ¬ (lcmp u11_4 a1) = 0 then (rOk 0 v203)
   else (if ¬ (lcmp u11_6 u11_8) = 0 then (rOk 0 v203)
   else (if ¬ u11_10 = u188_12 then (rOk 0 v203)
   else (if ¬ u188_12 = (w32 (60 * 4)) then (rOk 0 v203)
   else (rOk 1 v203))))))) 5 v188 u188_11 0)) 62 v14 u11_11 0 0)))))))) 7 v 0 0 0 0 1 0)
set_option maxRecDepth 100000 in
set_option maxHeartbeats 4000000 in
theorem k_L_areKept_4 (a1 : Int) (x : Cx) (v : V) (F : Fx x cL_areKept RL "areKept" ({ frames := 9, cells := 1862, slots := 11184, locals := 153 }) 21 (some 2) (some .boolean) 0) (ho : ∀ a ∈ [(17, 0), (1, a1), (0, 4)], okv v a) : Gs x (sp_L_areKept_4 a1 v) v 0 0 0 (avArgs 0 [(17, 0), (1, a1), (0, 4)]) [] := by
  show Gs x _ v 0 0 0 [(0, (17, 0)), (1, (1, a1)), (3, (0, 4))] []
  unfold sp_L_areKept_4
  refine g_lconst F (z := 0) rfl dL_areKept_0 ?_
  refine g_lstore F (Nat.le_of_ble_eq_true rfl) (ls' := [(4, (1, 0)), (0, (17, 0)), (1, (1, a1)), (3, (0, 4))]) rfl dL_areKept_1 ?_
  refine g_lconst F (z := 0) rfl dL_areKept_3 ?_
  refine g_lstore F (Nat.le_of_ble_eq_true rfl) (ls' := [(6, (1, 0)), (4, (1, 0)), (0, (17, 0)), (1, (1, a1)), (3, (0, 4))]) rfl dL_areKept_4 ?_
  refine g_lconst F (z := 0) rfl dL_areKept_6 ?_
  refine g_lstore F (Nat.le_of_ble_eq_true rfl) (ls' := [(8, (1, 0)), (6, (1, 0)), (4, (1, 0)), (0, (17, 0)), (1, (1, a1)), (3, (0, 4))]) rfl dL_areKept_7 ?_
  refine g_iconst F 2 rfl dL_areKept_9 ?_
  refine g_istore F rfl (Nat.le_of_ble_eq_true rfl) (ls' := [(10, (2, 0)), (8, (1, 0)), (6, (1, 0)), (4, (1, 0)), (0, (17, 0)), (1, (1, a1)), (3, (0, 4))]) rfl dL_areKept_10 ?_
  refine g_iconst F 2 rfl dL_areKept_12 ?_
  refine g_istore F rfl (Nat.le_of_ble_eq_true rfl) (ls' := [(11, (2, 1)), (10, (2, 0)), (8, (1, 0)), (6, (1, 0)), (4, (1, 0)), (0, (17, 0)), (1, (1, a1)), (3, (0, 4))]) rfl dL_areKept_13 ?_
  refine g_iconst F 2 rfl dL_areKept_15 ?_
  refine g_istore F rfl (Nat.le_of_ble_eq_true rfl) (ls' := [(12, (2, 0)), (11, (2, 1)), (10, (2, 0)), (8, (1, 0)), (6, (1, 0)), (4, (1, 0)), (0, (17, 0)), (1, (1, a1)), (3, (0, 4))]) rfl dL_areKept_16 ?_
  refine g_loc [(6, 17), (7, 1), (8, 0), (5, 1), (4, 1), (3, 1), (2, 0), (1, 0), (0, 0)] rfl ?_
  refine kl_L_areKept_4_18 F 84 504 (by omega) (by omega) (fun v11 u11_4 u11_6 u11_8 u11_10 u11_11 u11_12 => ?_) 7 v 0 0 0 0 1 0 0 0 (by omega) (by omega)
  refine g_iconst F 2 rfl dL_areKept_116 ?_
  refine g_istore F rfl (Nat.le_of_ble_eq_true rfl) (ls' := [(12, (2, 0)), (0, (17, 0)), (1, (1, a1)), (3, (0, 4)), (4, (1, u11_4)), (6, (1, u11_6)), (8, (1, u11_8)), (10, (0, u11_10)), (11, (0, u11_11))]) rfl dL_areKept_117 ?_
  refine g_bipush F rfl (by decide) dL_areKept_119 ?_
  refine g_chk (fun n13 => ?_)
  refine h_newa F (n := 12) (Kz := 17) 0 ak_17 rfl rfl aw_int rfl (Nat.le_of_ble_eq_true rfl) rfl n13 rfl (Nat.le_of_ble_eq_true rfl) (Nat.le_of_ble_eq_true rfl) dL_areKept_121 (fun v12 => ?_)
  refine g_astore F (Nat.le_of_ble_eq_true rfl) (ls' := [(13, (27, 0)), (12, (2, 0)), (0, (17, 0)), (1, (1, a1)), (3, (0, 4)), (4, (1, u11_4)), (6, (1, u11_6)), (8, (1, u11_8)), (10, (0, u11_10)), (11, (0, u11_11))]) rfl dL_areKept_123 ?_
  refine g_bipush F rfl (by decide) dL_areKept_125 ?_
  refine g_chk (fun n15 => ?_)
  refine h_newa F (n := 12) (Kz := 18) 0 ak_18 rfl rfl aw_int rfl (Nat.le_of_ble_eq_true rfl) rfl n15 rfl (Nat.le_of_ble_eq_true rfl) (Nat.le_of_ble_eq_true rfl) dL_areKept_127 (fun v14 => ?_)
  refine g_astore F (Nat.le_of_ble_eq_true rfl) (ls' := [(14, (28, 0)), (13, (27, 0)), (12, (2, 0)), (0, (17, 0)), (1, (1, a1)), (3, (0, 4)), (4, (1, u11_4)), (6, (1, u11_6)), (8, (1, u11_8)), (10, (0, u11_10)), (11, (0, u11_11))]) rfl dL_areKept_129 ?_
  refine g_iconst F 2 rfl dL_areKept_131 ?_
  refine g_istore F rfl (Nat.le_of_ble_eq_true rfl) (ls' := [(15, (2, 0)), (14, (28, 0)), (13, (27, 0)), (12, (2, 0)), (0, (17, 0)), (1, (1, a1)), (3, (0, 4)), (4, (1, u11_4)), (6, (1, u11_6)), (8, (1, u11_8)), (10, (0, u11_10)), (11, (0, u11_11))]) rfl dL_areKept_132 ?_
  refine g_loc [(4, 17), (5, 1), (6, 0), (7, 1), (8, 1), (9, 1), (10, 0), (11, 0), (3, 0), (2, 27), (1, 28), (0, 0)] rfl ?_
  refine kl_L_areKept_4_134 F 1822 10944 (by omega) (by omega) (fun v188 u188_11 u188_12 u188_15 => ?_) 62 v14 u11_11 0 0 86 528 (by omega) (by omega)
  refine g_iconst F 2 rfl dL_areKept_372 ?_
  refine g_istore F rfl (Nat.le_of_ble_eq_true rfl) (ls' := [(15, (2, 0)), (0, (17, 0)), (1, (1, a1)), (3, (0, 4)), (4, (1, u11_4)), (6, (1, u11_6)), (8, (1, u11_8)), (10, (0, u11_10)), (11, (0, u188_11)), (12, (0, u188_12)), (13, (27, 0)), (14, (28, 0))]) rfl dL_areKept_373 ?_
  refine g_loc [(1, 17), (2, 1), (3, 0), (4, 1), (5, 1), (6, 1), (7, 0), (8, 0), (9, 0), (10, 27), (11, 28), (0, 0)] rfl ?_
  refine kl_L_areKept_4_375 F 1862 11184 (by omega) (by omega) (fun v203 u203_11 u203_15 => ?_) 5 v188 u188_11 0 1822 10944 (by omega) (by omega)
  refine g_iload F 7 rfl rfl dL_areKept_454 ?_
  refine g_if_eq F rfl (tgt := 494) rfl dL_areKept_456 (fun n204 => ?_) (fun n204 => ?_)
  · refine g_iconst F 2 rfl dL_areKept_494 ?_
    exact g_ireturn F rfl rfl rfl rfl (Nat.le_of_ble_eq_true rfl) (Nat.le_of_ble_eq_true rfl) dL_areKept_495
  · refine g_lload F 3 rfl dL_areKept_459 ?_
    refine g_lload_n F rfl 1 rfl dL_areKept_461 ?_
    refine g_lcmp F dL_areKept_462 ?_
    refine g_if_ne F rfl (tgt := 494) rfl dL_areKept_463 (fun n205 => ?_) (fun n205 => ?_)
    · refine g_iconst F 2 rfl dL_areKept_494 ?_
      exact g_ireturn F rfl rfl rfl rfl (Nat.le_of_ble_eq_true rfl) (Nat.le_of_ble_eq_true rfl) dL_areKept_495
    · refine g_lload F 4 rfl dL_areKept_466 ?_
      refine g_lload F 5 rfl dL_areKept_468 ?_
      refine g_lcmp F dL_areKept_470 ?_
      refine g_if_ne F rfl (tgt := 494) rfl dL_areKept_471 (fun n206 => ?_) (fun n206 => ?_)
      · refine g_iconst F 2 rfl dL_areKept_494 ?_
        exact g_ireturn F rfl rfl rfl rfl (Nat.le_of_ble_eq_true rfl) (Nat.le_of_ble_eq_true rfl) dL_areKept_495
      · refine g_iload F 6 rfl rfl dL_areKept_474 ?_
        refine g_iload F 8 rfl rfl dL_areKept_476 ?_
        refine g_icmp_ne F rfl rfl (tgt := 494) rfl dL_areKept_478 (fun n207 => ?_) (fun n207 => ?_)
        · refine g_iconst F 2 rfl dL_areKept_494 ?_
          exact g_ireturn F rfl rfl rfl rfl (Nat.le_of_ble_eq_true rfl) (Nat.le_of_ble_eq_true rfl) dL_areKept_495
        · refine g_iload F 8 rfl rfl dL_areKept_481 ?_
          refine g_bipush F rfl (by decide) dL_areKept_483 ?_
          refine g_iload_n F rfl 2 rfl rfl dL_areKept_485 ?_
          refine g_imul F rfl rfl dL_areKept_486 ?_
          refine g_icmp_ne F rfl rfl (tgt := 494) rfl dL_areKept_487 (fun n208 => ?_) (fun n208 => ?_)
          · refine g_iconst F 2 rfl dL_areKept_494 ?_
            exact g_ireturn F rfl rfl rfl rfl (Nat.le_of_ble_eq_true rfl) (Nat.le_of_ble_eq_true rfl) dL_areKept_495
          · refine g_iconst F 2 rfl dL_areKept_490 ?_
            refine g_goto F (tgt := 495) rfl dL_areKept_491 ?_
            exact g_ireturn F rfl rfl rfl rfl (Nat.le_of_ble_eq_true rfl) (Nat.le_of_ble_eq_true rfl) dL_areKept_495
theorem c_L_areKept_4 (a1 : Int) : ∀ l, Ct l yL_areKept cL_areKept 21 (some .boolean) ({ frames := 9, cells := 1862, slots := 11184, locals := 153 }) (some 2) [(17, 0), (1, a1), (0, 4)] (sp_L_areKept_4 a1) := g_method (by decide +kernel) (Nat.le_of_ble_eq_true rfl) (fun x v F ho => k_L_areKept_4 a1 x v F ho)

noncomputable def lp_L_law_24 (L : Nat) (xs : Nat → Int32) (k : V → Int → Int → Int → Res) : Nat → V → Int → Int → Int → Res
  | 0, _, _, _, _ => none
  | n + 1, v, l3, l4, l6 => (if 6 ≤ l6 then (k v l3 l4 l6)
   else (if l3 = 0 then (k v l3 l4 l6)
   else (chk (0 ≤ l6) (if ¬ (and32 (shr32 (cellf L xs l6) 6) 3) = 0 then (rB (lZ (sp_L_low (shr32 (cellf L xs l6) 2) 1000001) v) (fun z11 v11 => (rB (lZ (sp_L_low (cellf L xs l6) 4) v11) (fun z12 v12 => (rB (lO (sp_L_does_0 z11 z12 0 0) v12) (fun z13 v13 => (if ¬ z13 = l6 then (lp_L_law_24 L xs k n v13 0 (w64 (l4 + z11)) (w32 (l6 + 1)))
   else (rB (lZ (sp_L_low (cellf L xs l6) 4) v13) (fun z15 v15 => (rB (lP (sp_L_does_0 z11 z15 0 0) v15) (fun z16 v16 => (if ¬ z16 = l6 then (lp_L_law_24 L xs k n v16 0 (w64 (l4 + z11)) (w32 (l6 + 1)))
   else (lp_L_law_24 L xs k n v16 1 (w64 (l4 + z11)) (w32 (l6 + 1)))))))))))))))
   else (rB (lZ (sp_L_low (shr32 (cellf L xs l6) 2) 2000) v) (fun z18 v18 => (rB (lZ (sp_L_low (cellf L xs l6) 4) v18) (fun z19 v19 => (rB (lO (sp_L_does_0 z18 z19 0 0) v19) (fun z20 v20 => (if ¬ z20 = l6 then (lp_L_law_24 L xs k n v20 0 (w64 (l4 + z18)) (w32 (l6 + 1)))
   else (rB (lZ (sp_L_low (cellf L xs l6) 4) v20) (fun z22 v22 => (rB (lP (sp_L_does_0 z18 z22 0 0) v22) (fun z23 v23 => (if ¬ z23 = l6 then (lp_L_law_24 L xs k n v23 0 (w64 (l4 + z18)) (w32 (l6 + 1)))
   else (lp_L_law_24 L xs k n v23 1 (w64 (l4 + z18)) (w32 (l6 + 1)))))))))))))))))))
set_option maxRecDepth 100000 in
set_option maxHeartbeats 4000000 in
theorem kl_L_law_24 {nm9 : String} {rt9 : Option Nat} {x : Cx} (F : Fx x cL_law RL nm9 room_1 9 rt9 (some .boolean) 1) {L : Nat} {xs : Nat → Int32} (hX : FxS x L xs) {k : V → Int → Int → Int → Res} (c9 s9 : Nat) (hC : c9 ≤ 716531) (hS : s9 ≤ 6952104) (hk : ∀ (v : V) (l3 l4 l6 : Int), Gs2 x (k v l3 l4 l6) v c9 s9 137 [(0, (108, 0)), (1, (17, 0)), (2, (117, 0)), (3, (2, l3)), (4, (1, l4)), (6, (0, l6))] []) : ∀ (n : Nat) (v : V) (l3 l4 l6 : Int) (cells slots : Nat), cells + n * 8 ≤ c9 → slots + n * 48 ≤ s9 → Gs2 x (lp_L_law_24 L xs k n v l3 l4 l6) v cells slots 24 [(0, (108, 0)), (1, (17, 0)), (2, (117, 0)), (3, (2, l3)), (4, (1, l4)), (6, (0, l6))] [] := by
  intro n
  induction n with
  | zero => intro v l3 l4 l6 cells slots _ _; exact g2_none
  | succ n ih =>
    intro v l3 l4 l6 cells slots hc hs
    rw [lp_L_law_24]
    refine g2_iload F 5 rfl rfl dL_law_24 ?_
    refine g2_bipush F rfl (by decide) dL_law_26 ?_
    refine g2_icmp_ge F rfl rfl (tgt := 137) rfl dL_law_28 (fun n7 => ?_) (fun n7 => ?_)
    · refine g2_loc [(0, 108), (1, 17), (2, 117), (3, 2), (4, 1), (5, 0)] rfl ?_
      refine g2_wide (c2 := c9) (s2 := s9) (show cells ≤ c9 by omega) (show slots ≤ s9 by omega) ?_
      exact hk v l3 l4 l6
    · refine g2_iload_n F rfl 3 rfl rfl dL_law_31 ?_
      refine g2_if_eq F rfl (tgt := 137) rfl dL_law_32 (fun n8 => ?_) (fun n8 => ?_)
      · refine g2_loc [(0, 108), (1, 17), (2, 117), (3, 2), (4, 1), (5, 0)] rfl ?_
        refine g2_wide (c2 := c9) (s2 := s9) (show cells ≤ c9 by omega) (show slots ≤ s9 by omega) ?_
        exact hk v l3 l4 l6
      · refine g2_aload_n F rfl 0 rfl dL_law_35 ?_
        refine g2_iload F 5 rfl rfl dL_law_36 ?_
        refine g2_chk (fun n9 => ?_)
        refine g2_cell F (by decide) hX (Int.not_lt.mp (Int.not_lt.mpr n9)) rfl ml_RL_165 wt_L_cell mi_L_cell (Nat.le_of_ble_eq_true rfl) (Nat.le_of_ble_eq_true rfl) (show cells + 0 ≤ 716531 by omega) (show slots + 0 ≤ 6952104 by omega) (Nat.le_of_ble_eq_true rfl) dL_law_38 ?_
        refine g2_istore F rfl (Nat.le_of_ble_eq_true rfl) (ls' := [(7, (0, (cellf L xs l6))), (0, (108, 0)), (1, (17, 0)), (2, (117, 0)), (3, (2, l3)), (4, (1, l4)), (6, (0, l6))]) rfl dL_law_41 ?_
        refine g2_iload F 0 rfl rfl dL_law_43 ?_
        refine g2_bipush F rfl (by decide) dL_law_45 ?_
        refine g2_ishr F rfl rfl dL_law_47 ?_
        refine g2_iconst F 0 rfl dL_law_48 ?_
        refine g2_iand F rfl rfl dL_law_49 ?_
        refine g2_if_ne F rfl (tgt := 66) rfl dL_law_50 (fun n10 => ?_) (fun n10 => ?_)
        · refine g2_iload F 0 rfl rfl dL_law_66 ?_
          refine g2_iconst F 0 rfl dL_law_68 ?_
          refine g2_ishr F rfl rfl dL_law_69 ?_
          refine g2_ldc F rfl cn_RL_154 dL_law_70 ?_
          refine g2_callS F (by decide) [(0, (shr32 (cellf L xs l6) 2)), (0, 1000001)] [0, 0] ml_RL_149 wt_L_low (fun l => ct_N ((c_L_low (shr32 (cellf L xs l6) 2) 1000001) l) (prs_ok rfl) (fun q hq => by cases hq <;> decide)) mi_L_low rfl rfl rfl (Nat.le_of_ble_eq_true rfl) (Nat.le_of_ble_eq_true rfl) (show cells + 0 ≤ 716531 by omega) (show slots + 0 ≤ 6952104 by omega) (Nat.le_of_ble_eq_true rfl) dL_law_72 (fun z11 v11 hz11 => ?_)
          refine g2_istore F rfl (Nat.le_of_ble_eq_true rfl) (ls' := [(8, (0, z11)), (7, (0, (cellf L xs l6))), (0, (108, 0)), (1, (17, 0)), (2, (117, 0)), (3, (2, l3)), (4, (1, l4)), (6, (0, l6))]) rfl dL_law_75 ?_
          refine g2_lload F 6 rfl dL_law_77 ?_
          refine g2_iload F 0 rfl rfl dL_law_79 ?_
          refine g2_i2l F rfl dL_law_81 ?_
          refine g2_ladd F dL_law_82 ?_
          refine g2_lstore F (Nat.le_of_ble_eq_true rfl) (ls' := [(4, (1, (w64 (l4 + z11)))), (8, (0, z11)), (7, (0, (cellf L xs l6))), (0, (108, 0)), (1, (17, 0)), (2, (117, 0)), (3, (2, l3)), (6, (0, l6))]) rfl dL_law_83 ?_
          refine g2_aload_n F rfl 4 rfl dL_law_85 ?_
          refine g2_iconst F 2 rfl dL_law_86 ?_
          refine g2_iload F 1 rfl rfl dL_law_87 ?_
          refine g2_iload F 2 rfl rfl dL_law_89 ?_
          refine g2_iconst F 0 rfl dL_law_91 ?_
          refine g2_callS F (by decide) [(0, (cellf L xs l6)), (0, 4)] [0, 0] ml_RL_149 wt_L_low (fun l => ct_N ((c_L_low (cellf L xs l6) 4) l) (prs_ok rfl) (fun q hq => by cases hq <;> decide)) mi_L_low rfl rfl rfl (Nat.le_of_ble_eq_true rfl) (Nat.le_of_ble_eq_true rfl) (show cells + 0 ≤ 716531 by omega) (show slots + 0 ≤ 6952104 by omega) (Nat.le_of_ble_eq_true rfl) dL_law_92 (fun z12 v12 hz12 => ?_)
          refine g2_iconst F 2 rfl dL_law_95 ?_
          refine g2_iconst F 2 rfl dL_law_96 ?_
          refine g2_callSX F (by decide) [(17, 0), (2, 0), (0, z11), (0, z12), (2, 0), (2, 0)] [17, 0, 0, 0, 0, 0] ml_RL_155 wt_L_does (fun l => ctW_O ((c_L_does_0 z11 z12 0 0) l) (prs_ok rfl) (fun q hq => by cases hq <;> decide)) mw_L_does rfl rfl rfl (Nat.le_of_ble_eq_true rfl) (Nat.le_of_ble_eq_true rfl) (show cells + 4 ≤ 716531 by omega) (show slots + 24 ≤ 6952104 by omega) (Nat.le_of_ble_eq_true rfl) dL_law_97 (fun z13 v13 hz13 => ?_)
          refine g2_iload F 7 rfl rfl dL_law_100 ?_
          refine g2_icmp_ne F rfl rfl (tgt := 129) rfl dL_law_102 (fun n14 => ?_) (fun n14 => ?_)
          · refine g2_iconst F 2 rfl dL_law_129 ?_
            refine g2_istore_n F rfl rfl (Nat.le_of_ble_eq_true rfl) (ls' := [(3, (2, 0)), (4, (1, (w64 (l4 + z11)))), (8, (0, z11)), (7, (0, (cellf L xs l6))), (0, (108, 0)), (1, (17, 0)), (2, (117, 0)), (6, (0, l6))]) rfl dL_law_130 ?_
            refine g2_iinc F 7 rfl rfl (Nat.le_of_ble_eq_true rfl) (ls' := [(6, (0, (w32 (l6 + 1)))), (3, (2, 0)), (4, (1, (w64 (l4 + z11)))), (8, (0, z11)), (7, (0, (cellf L xs l6))), (0, (108, 0)), (1, (17, 0)), (2, (117, 0))]) rfl dL_law_131 ?_
            refine g2_goto F (tgt := 24) rfl dL_law_134 ?_
            refine g2_loc [(5, 108), (6, 17), (7, 117), (1, 2), (2, 1), (0, 0)] rfl ?_
            exact ih v13 0 (w64 (l4 + z11)) (w32 (l6 + 1)) (cells + 4) (slots + 24) (by omega) (by omega)
          · refine g2_aload_n F rfl 5 rfl dL_law_105 ?_
            refine g2_iconst F 2 rfl dL_law_106 ?_
            refine g2_iload F 1 rfl rfl dL_law_107 ?_
            refine g2_iload F 2 rfl rfl dL_law_109 ?_
            refine g2_iconst F 0 rfl dL_law_111 ?_
            refine g2_callS F (by decide) [(0, (cellf L xs l6)), (0, 4)] [0, 0] ml_RL_149 wt_L_low (fun l => ct_N ((c_L_low (cellf L xs l6) 4) l) (prs_ok rfl) (fun q hq => by cases hq <;> decide)) mi_L_low rfl rfl rfl (Nat.le_of_ble_eq_true rfl) (Nat.le_of_ble_eq_true rfl) (show (cells + 4) + 0 ≤ 716531 by omega) (show (slots + 24) + 0 ≤ 6952104 by omega) (Nat.le_of_ble_eq_true rfl) dL_law_112 (fun z15 v15 hz15 => ?_)
            refine g2_iconst F 2 rfl dL_law_115 ?_
            refine g2_iconst F 2 rfl dL_law_116 ?_
            refine g2_callSX F (by decide) [(117, 0), (2, 0), (0, z11), (0, z15), (2, 0), (2, 0)] [117, 0, 0, 0, 0, 0] ml_RL_155 wt_L_does (fun l => ctW_P ((c_L_does_0 z11 z15 0 0) l) (prs_ok rfl) (fun q hq => by cases hq <;> decide)) mw_L_does rfl rfl rfl (Nat.le_of_ble_eq_true rfl) (Nat.le_of_ble_eq_true rfl) (show (cells + 4) + 4 ≤ 716531 by omega) (show (slots + 24) + 24 ≤ 6952104 by omega) (Nat.le_of_ble_eq_true rfl) dL_law_117 (fun z16 v16 hz16 => ?_)
            refine g2_iload F 7 rfl rfl dL_law_120 ?_
            refine g2_icmp_ne F rfl rfl (tgt := 129) rfl dL_law_122 (fun n17 => ?_) (fun n17 => ?_)
            · refine g2_iconst F 2 rfl dL_law_129 ?_
              refine g2_istore_n F rfl rfl (Nat.le_of_ble_eq_true rfl) (ls' := [(3, (2, 0)), (4, (1, (w64 (l4 + z11)))), (8, (0, z11)), (7, (0, (cellf L xs l6))), (0, (108, 0)), (1, (17, 0)), (2, (117, 0)), (6, (0, l6))]) rfl dL_law_130 ?_
              refine g2_iinc F 7 rfl rfl (Nat.le_of_ble_eq_true rfl) (ls' := [(6, (0, (w32 (l6 + 1)))), (3, (2, 0)), (4, (1, (w64 (l4 + z11)))), (8, (0, z11)), (7, (0, (cellf L xs l6))), (0, (108, 0)), (1, (17, 0)), (2, (117, 0))]) rfl dL_law_131 ?_
              refine g2_goto F (tgt := 24) rfl dL_law_134 ?_
              refine g2_loc [(5, 108), (6, 17), (7, 117), (1, 2), (2, 1), (0, 0)] rfl ?_
              exact ih v16 0 (w64 (l4 + z11)) (w32 (l6 + 1)) (cells + 8) (slots + 48) (by omega) (by omega)
            · refine g2_iconst F 2 rfl dL_law_125 ?_
              refine g2_goto F (tgt := 130) rfl dL_law_126 ?_
              refine g2_istore_n F rfl rfl (Nat.le_of_ble_eq_true rfl) (ls' := [(3, (2, 1)), (4, (1, (w64 (l4 + z11)))), (8, (0, z11)), (7, (0, (cellf L xs l6))), (0, (108, 0)), (1, (17, 0)), (2, (117, 0)), (6, (0, l6))]) rfl dL_law_130 ?_
              refine g2_iinc F 7 rfl rfl (Nat.le_of_ble_eq_true rfl) (ls' := [(6, (0, (w32 (l6 + 1)))), (3, (2, 1)), (4, (1, (w64 (l4 + z11)))), (8, (0, z11)), (7, (0, (cellf L xs l6))), (0, (108, 0)), (1, (17, 0)), (2, (117, 0))]) rfl dL_law_131 ?_
              refine g2_goto F (tgt := 24) rfl dL_law_134 ?_
              refine g2_loc [(5, 108), (6, 17), (7, 117), (1, 2), (2, 1), (0, 0)] rfl ?_
              exact ih v16 1 (w64 (l4 + z11)) (w32 (l6 + 1)) (cells + 8) (slots + 48) (by omega) (by omega)
        · refine g2_iload F 0 rfl rfl dL_law_53 ?_
          refine g2_iconst F 0 rfl dL_law_55 ?_
          refine g2_ishr F rfl rfl dL_law_56 ?_
          refine g2_sipush F rfl (by decide) dL_law_57 ?_
          refine g2_callS F (by decide) [(0, (shr32 (cellf L xs l6) 2)), (0, 2000)] [0, 0] ml_RL_149 wt_L_low (fun l => ct_N ((c_L_low (shr32 (cellf L xs l6) 2) 2000) l) (prs_ok rfl) (fun q hq => by cases hq <;> decide)) mi_L_low rfl rfl rfl (Nat.le_of_ble_eq_true rfl) (Nat.le_of_ble_eq_true rfl) (show cells + 0 ≤ 716531 by omega) (show slots + 0 ≤ 6952104 by omega) (Nat.le_of_ble_eq_true rfl) dL_law_60 (fun z18 v18 hz18 => ?_)
          refine g2_goto F (tgt := 75) rfl dL_law_63 ?_
          refine g2_istore F rfl (Nat.le_of_ble_eq_true rfl) (ls' := [(8, (0, z18)), (7, (0, (cellf L xs l6))), (0, (108, 0)), (1, (17, 0)), (2, (117, 0)), (3, (2, l3)), (4, (1, l4)), (6, (0, l6))]) rfl dL_law_75 ?_
          refine g2_lload F 6 rfl dL_law_77 ?_
          refine g2_iload F 0 rfl rfl dL_law_79 ?_
          refine g2_i2l F rfl dL_law_81 ?_
          refine g2_ladd F dL_law_82 ?_
          refine g2_lstore F (Nat.le_of_ble_eq_true rfl) (ls' := [(4, (1, (w64 (l4 + z18)))), (8, (0, z18)), (7, (0, (cellf L xs l6))), (0, (108, 0)), (1, (17, 0)), (2, (117, 0)), (3, (2, l3)), (6, (0, l6))]) rfl dL_law_83 ?_
          refine g2_aload_n F rfl 4 rfl dL_law_85 ?_
          refine g2_iconst F 2 rfl dL_law_86 ?_
          refine g2_iload F 1 rfl rfl dL_law_87 ?_
          refine g2_iload F 2 rfl rfl dL_law_89 ?_
          refine g2_iconst F 0 rfl dL_law_91 ?_
          refine g2_callS F (by decide) [(0, (cellf L xs l6)), (0, 4)] [0, 0] ml_RL_149 wt_L_low (fun l => ct_N ((c_L_low (cellf L xs l6) 4) l) (prs_ok rfl) (fun q hq => by cases hq <;> decide)) mi_L_low rfl rfl rfl (Nat.le_of_ble_eq_true rfl) (Nat.le_of_ble_eq_true rfl) (show cells + 0 ≤ 716531 by omega) (show slots + 0 ≤ 6952104 by omega) (Nat.le_of_ble_eq_true rfl) dL_law_92 (fun z19 v19 hz19 => ?_)
          refine g2_iconst F 2 rfl dL_law_95 ?_
          refine g2_iconst F 2 rfl dL_law_96 ?_
          refine g2_callSX F (by decide) [(17, 0), (2, 0), (0, z18), (0, z19), (2, 0), (2, 0)] [17, 0, 0, 0, 0, 0] ml_RL_155 wt_L_does (fun l => ctW_O ((c_L_does_0 z18 z19 0 0) l) (prs_ok rfl) (fun q hq => by cases hq <;> decide)) mw_L_does rfl rfl rfl (Nat.le_of_ble_eq_true rfl) (Nat.le_of_ble_eq_true rfl) (show cells + 4 ≤ 716531 by omega) (show slots + 24 ≤ 6952104 by omega) (Nat.le_of_ble_eq_true rfl) dL_law_97 (fun z20 v20 hz20 => ?_)
          refine g2_iload F 7 rfl rfl dL_law_100 ?_
          refine g2_icmp_ne F rfl rfl (tgt := 129) rfl dL_law_102 (fun n21 => ?_) (fun n21 => ?_)
          · refine g2_iconst F 2 rfl dL_law_129 ?_
            refine g2_istore_n F rfl rfl (Nat.le_of_ble_eq_true rfl) (ls' := [(3, (2, 0)), (4, (1, (w64 (l4 + z18)))), (8, (0, z18)), (7, (0, (cellf L xs l6))), (0, (108, 0)), (1, (17, 0)), (2, (117, 0)), (6, (0, l6))]) rfl dL_law_130 ?_
            refine g2_iinc F 7 rfl rfl (Nat.le_of_ble_eq_true rfl) (ls' := [(6, (0, (w32 (l6 + 1)))), (3, (2, 0)), (4, (1, (w64 (l4 + z18)))), (8, (0, z18)), (7, (0, (cellf L xs l6))), (0, (108, 0)), (1, (17, 0)), (2, (117, 0))]) rfl dL_law_131 ?_
            refine g2_goto F (tgt := 24) rfl dL_law_134 ?_
            refine g2_loc [(5, 108), (6, 17), (7, 117), (1, 2), (2, 1), (0, 0)] rfl ?_
            exact ih v20 0 (w64 (l4 + z18)) (w32 (l6 + 1)) (cells + 4) (slots + 24) (by omega) (by omega)
          · refine g2_aload_n F rfl 5 rfl dL_law_105 ?_
            refine g2_iconst F 2 rfl dL_law_106 ?_
            refine g2_iload F 1 rfl rfl dL_law_107 ?_
            refine g2_iload F 2 rfl rfl dL_law_109 ?_
            refine g2_iconst F 0 rfl dL_law_111 ?_
            refine g2_callS F (by decide) [(0, (cellf L xs l6)), (0, 4)] [0, 0] ml_RL_149 wt_L_low (fun l => ct_N ((c_L_low (cellf L xs l6) 4) l) (prs_ok rfl) (fun q hq => by cases hq <;> decide)) mi_L_low rfl rfl rfl (Nat.le_of_ble_eq_true rfl) (Nat.le_of_ble_eq_true rfl) (show (cells + 4) + 0 ≤ 716531 by omega) (show (slots + 24) + 0 ≤ 6952104 by omega) (Nat.le_of_ble_eq_true rfl) dL_law_112 (fun z22 v22 hz22 => ?_)
            refine g2_iconst F 2 rfl dL_law_115 ?_
            refine g2_iconst F 2 rfl dL_law_116 ?_
            refine g2_callSX F (by decide) [(117, 0), (2, 0), (0, z18), (0, z22), (2, 0), (2, 0)] [117, 0, 0, 0, 0, 0] ml_RL_155 wt_L_does (fun l => ctW_P ((c_L_does_0 z18 z22 0 0) l) (prs_ok rfl) (fun q hq => by cases hq <;> decide)) mw_L_does rfl rfl rfl (Nat.le_of_ble_eq_true rfl) (Nat.le_of_ble_eq_true rfl) (show (cells + 4) + 4 ≤ 716531 by omega) (show (slots + 24) + 24 ≤ 6952104 by omega) (Nat.le_of_ble_eq_true rfl) dL_law_117 (fun z23 v23 hz23 => ?_)
            refine g2_iload F 7 rfl rfl dL_law_120 ?_
            refine g2_icmp_ne F rfl rfl (tgt := 129) rfl dL_law_122 (fun n24 => ?_) (fun n24 => ?_)
            · refine g2_iconst F 2 rfl dL_law_129 ?_
              refine g2_istore_n F rfl rfl (Nat.le_of_ble_eq_true rfl) (ls' := [(3, (2, 0)), (4, (1, (w64 (l4 + z18)))), (8, (0, z18)), (7, (0, (cellf L xs l6))), (0, (108, 0)), (1, (17, 0)), (2, (117, 0)), (6, (0, l6))]) rfl dL_law_130 ?_
              refine g2_iinc F 7 rfl rfl (Nat.le_of_ble_eq_true rfl) (ls' := [(6, (0, (w32 (l6 + 1)))), (3, (2, 0)), (4, (1, (w64 (l4 + z18)))), (8, (0, z18)), (7, (0, (cellf L xs l6))), (0, (108, 0)), (1, (17, 0)), (2, (117, 0))]) rfl dL_law_131 ?_
              refine g2_goto F (tgt := 24) rfl dL_law_134 ?_
              refine g2_loc [(5, 108), (6, 17), (7, 117), (1, 2), (2, 1), (0, 0)] rfl ?_
              exact ih v23 0 (w64 (l4 + z18)) (w32 (l6 + 1)) (cells + 8) (slots + 48) (by omega) (by omega)
            · refine g2_iconst F 2 rfl dL_law_125 ?_
              refine g2_goto F (tgt := 130) rfl dL_law_126 ?_
              refine g2_istore_n F rfl rfl (Nat.le_of_ble_eq_true rfl) (ls' := [(3, (2, 1)), (4, (1, (w64 (l4 + z18)))), (8, (0, z18)), (7, (0, (cellf L xs l6))), (0, (108, 0)), (1, (17, 0)), (2, (117, 0)), (6, (0, l6))]) rfl dL_law_130 ?_
              refine g2_iinc F 7 rfl rfl (Nat.le_of_ble_eq_true rfl) (ls' := [(6, (0, (w32 (l6 + 1)))), (3, (2, 1)), (4, (1, (w64 (l4 + z18)))), (8, (0, z18)), (7, (0, (cellf L xs l6))), (0, (108, 0)), (1, (17, 0)), (2, (117, 0))]) rfl dL_law_131 ?_
              refine g2_goto F (tgt := 24) rfl dL_law_134 ?_
              refine g2_loc [(5, 108), (6, 17), (7, 117), (1, 2), (2, 1), (0, 0)] rfl ?_
              exact ih v23 1 (w64 (l4 + z18)) (w32 (l6 + 1)) (cells + 8) (slots + 48) (by omega) (by omega)

noncomputable def sp_law (L : Nat) (xs : Nat → Int32) (v : V) : Res := (chk (¬ v 99 7 0 = 1 ∧ ¬ vO v 99 7 0 = 1) (rLet (up (sO v (nw (vO v) 7 0)) 99 7 0 1) (fun v2 => (rB (lO (sp_X7_init 0) v2) (fun z3 v3 => (chk (¬ v3 99 107 0 = 1 ∧ ¬ vP v3 99 7 0 = 1) (rLet (up (sP v3 (nw (vP v3) 7 0)) 99 107 0 1) (fun v5 => (rB (lP (sp_X7_init 0) v5) (fun z6 v6 => (lp_L_law_24 L xs (fun v25 u25_3 u25_4 u25_6 => (lp_L_law_140 L xs u25_4 (fun v37 u37_3 u37_6 => (lp_L_law_232 L xs u25_4 (fun v87 u87_3 u87_6 => (if u87_3 = 0 then (rOk 0 v87)
   else (rB (sp_L_areAlike 7 v87) (fun z89 v89 => (if z89 = 0 then (rOk 0 v89)
   else (rB (lP (fgt (sp_L_areKept_4 u25_4)) v89) (fun z91 v91 => (if z91 = 0 then (rOk 0 v91)
   else (rOk 1 v91))))))))) 151 v37 u37_3 0)) 5 v25 u25_3 0)) 7 v6 1 0 0)))))))))))
set_option maxRecDepth 100000 in
set_option maxHeartbeats 4000000 in
theorem k_law {x : Cx} {nm9 : String} {rt9 : Option Nat} (F : Fx x cL_law RL nm9 room_1 9 rt9 (some .boolean) 1) {L : Nat} {xs : Nat → Int32} (hX : FxS x L xs) (v : V) : Gs2 x (sp_law L xs v) v 0 0 0 [(0, (108, 0))] [] := by
  unfold sp_law
  refine g2_chk (fun n1 => ?_)
  refine g2_newO F (n := 10) fn_RL_19 rfl n1 (Nat.le_of_ble_eq_true rfl) (Nat.le_of_ble_eq_true rfl) dL_law_0 (fun v2 => ?_)
  refine g2_dup F rfl dL_law_3 ?_
  refine g2_callI F (by decide) (K := 7) (b := 0) [] [] ml_RL_164 wi_X7_init rfl (fun l => ct_O ((c_X7_init 0 (by decide)) l) (prs_ok rfl) (fun q hq => by cases hq <;> decide)) mi_X7_init (by decide) rfl rfl rfl (Nat.le_of_ble_eq_true rfl) (Nat.le_of_ble_eq_true rfl) (Nat.le_of_ble_eq_true rfl) (Nat.le_of_ble_eq_true rfl) (Nat.le_of_ble_eq_true rfl) dL_law_4 (fun z3 v3 hz3 => ?_)
  refine g2_astore_n F rfl (Nat.le_of_ble_eq_true rfl) (ls' := [(1, (17, 0)), (0, (108, 0))]) rfl dL_law_7 ?_
  refine g2_chk (fun n4 => ?_)
  refine g2_newP F (n := 10) fn_RL_19 rfl n4 (Nat.le_of_ble_eq_true rfl) (Nat.le_of_ble_eq_true rfl) dL_law_8 (fun v5 => ?_)
  refine g2_dup F rfl dL_law_11 ?_
  refine g2_callI F (by decide) (K := 107) (b := 0) [] [] ml_RL_164 wi_X7_init rfl (fun l => ct_P ((c_X7_init 0 (by decide)) l) (prs_ok rfl) (fun q hq => by cases hq <;> decide)) mi_X7_init (by decide) rfl rfl rfl (Nat.le_of_ble_eq_true rfl) (Nat.le_of_ble_eq_true rfl) (Nat.le_of_ble_eq_true rfl) (Nat.le_of_ble_eq_true rfl) (Nat.le_of_ble_eq_true rfl) dL_law_12 (fun z6 v6 hz6 => ?_)
  refine g2_astore_n F rfl (Nat.le_of_ble_eq_true rfl) (ls' := [(2, (117, 0)), (1, (17, 0)), (0, (108, 0))]) rfl dL_law_15 ?_
  refine g2_iconst F 2 rfl dL_law_16 ?_
  refine g2_istore_n F rfl rfl (Nat.le_of_ble_eq_true rfl) (ls' := [(3, (2, 1)), (2, (117, 0)), (1, (17, 0)), (0, (108, 0))]) rfl dL_law_17 ?_
  refine g2_lconst F (z := 0) rfl dL_law_18 ?_
  refine g2_lstore F (Nat.le_of_ble_eq_true rfl) (ls' := [(4, (1, 0)), (3, (2, 1)), (2, (117, 0)), (1, (17, 0)), (0, (108, 0))]) rfl dL_law_19 ?_
  refine g2_iconst F 2 rfl dL_law_21 ?_
  refine g2_istore F rfl (Nat.le_of_ble_eq_true rfl) (ls' := [(6, (2, 0)), (4, (1, 0)), (3, (2, 1)), (2, (117, 0)), (1, (17, 0)), (0, (108, 0))]) rfl dL_law_22 ?_
  refine g2_loc [(5, 108), (4, 17), (3, 117), (2, 2), (1, 1), (0, 0)] rfl ?_
  refine kl_L_law_24 F hX 68 568 (by omega) (by omega) (fun v25 u25_3 u25_4 u25_6 => ?_) 7 v6 1 0 0 12 232 (by omega) (by omega)
  refine g2_iconst F 2 rfl dL_law_137 ?_
  refine g2_istore F rfl (Nat.le_of_ble_eq_true rfl) (ls' := [(6, (2, 0)), (0, (108, 0)), (1, (17, 0)), (2, (117, 0)), (3, (2, u25_3)), (4, (1, u25_4))]) rfl dL_law_138 ?_
  refine g2_loc [(1, 108), (2, 17), (3, 117), (4, 2), (5, 1), (0, 0)] rfl ?_
  refine kl_L_law_140 F hX 138 2438 (by omega) (by omega) (fun v37 u37_3 u37_6 => ?_) 5 v25 u25_3 0 68 568 (by omega) (by omega)
  refine g2_iconst F 2 rfl dL_law_229 ?_
  refine g2_istore F rfl (Nat.le_of_ble_eq_true rfl) (ls' := [(6, (2, 0)), (0, (108, 0)), (1, (17, 0)), (2, (117, 0)), (3, (2, u37_3)), (4, (1, u25_4))]) rfl dL_law_230 ?_
  refine g2_loc [(1, 108), (2, 17), (3, 117), (4, 2), (5, 1), (0, 0)] rfl ?_
  refine kl_L_law_232 F hX 124754 751072 (by omega) (by omega) (fun v87 u87_3 u87_6 => ?_) 151 v37 u37_3 0 138 2438 (Nat.le_of_ble_eq_true rfl) (Nat.le_of_ble_eq_true rfl)
  refine g2_iload_n F rfl 3 rfl rfl dL_law_384 ?_
  refine g2_if_eq F rfl (tgt := 412) rfl dL_law_385 (fun n88 => ?_) (fun n88 => ?_)
  · refine g2_iconst F 2 rfl dL_law_412 ?_
    exact g2_lawret F rfl (Nat.le_of_ble_eq_true rfl) (Nat.le_of_ble_eq_true rfl) rfl dL_law_413
  · refine g2_aload_n F rfl 1 rfl dL_law_388 ?_
    refine g2_aload_n F rfl 2 rfl dL_law_389 ?_
    refine g2_bipush F rfl (by decide) dL_law_390 ?_
    refine g2_callS F (by decide) [(17, 0), (117, 0), (0, 7)] [17, 117, 0] ml_RL_173 wt_L_areAlike (c_L_areAlike 7) mi_L_areAlike rfl rfl rfl (Nat.le_of_ble_eq_true rfl) (Nat.le_of_ble_eq_true rfl) (Nat.le_of_ble_eq_true rfl) (Nat.le_of_ble_eq_true rfl) (Nat.le_of_ble_eq_true rfl) dL_law_392 (fun z89 v89 hz89 => ?_)
    refine g2_if_eq F rfl (tgt := 412) rfl dL_law_395 (fun n90 => ?_) (fun n90 => ?_)
    · refine g2_iconst F 2 rfl dL_law_412 ?_
      exact g2_lawret F rfl (Nat.le_of_ble_eq_true rfl) (Nat.le_of_ble_eq_true rfl) rfl dL_law_413
    · refine g2_aload_n F rfl 2 rfl dL_law_398 ?_
      refine g2_lload F 4 rfl dL_law_399 ?_
      refine g2_iconst F 0 rfl dL_law_401 ?_
      refine g2_callS F (by decide) [(117, 0), (1, u25_4), (0, 4)] [117, 1, 0] ml_RL_177 wt_L_areKept (fun l => ct_P ((fun l => ct_fgt ((c_L_areKept_4 u25_4) l) (fun q hq => by cases hq <;> decide)) l) (prs_ok rfl) (fun q hq => by cases hq <;> decide)) mi_L_areKept rfl rfl rfl (Nat.le_of_ble_eq_true rfl) (Nat.le_of_ble_eq_true rfl) (Nat.le_of_ble_eq_true rfl) (Nat.le_of_ble_eq_true rfl) (Nat.le_of_ble_eq_true rfl) dL_law_402 (fun z91 v91 hz91 => ?_)
      refine g2_if_eq F rfl (tgt := 412) rfl dL_law_405 (fun n92 => ?_) (fun n92 => ?_)
      · refine g2_iconst F 2 rfl dL_law_412 ?_
        exact g2_lawret F rfl (Nat.le_of_ble_eq_true rfl) (Nat.le_of_ble_eq_true rfl) rfl dL_law_413
      · refine g2_iconst F 2 rfl dL_law_408 ?_
        refine g2_goto F (tgt := 413) rfl dL_law_409 ?_
        exact g2_lawret F rfl (Nat.le_of_ble_eq_true rfl) (Nat.le_of_ble_eq_true rfl) rfl dL_law_413

/-! methods, by the walker -/
def sp_X8_canLend (a0 a1 a2 a3 : Int) (v : V) : Res := (chk (0 ≤ (v 8 a0 25)) (chk (0 ≤ a1 ∧ a1 < 60) (if ¬ (v 65 (v 8 a0 25) a1) = (-1) then (rOk 0 v)
   else (chk (0 ≤ (v 8 a0 26)) (if ¬ (v 66 (v 8 a0 26) a1) = (-1) then (rOk 0 v)
   else (chk (0 ≤ (v 8 a0 5)) (chk (0 ≤ a2 ∧ a2 < 10) (if ¬ (v 45 (v 8 a0 5) a2) = 0 then (rOk 0 v)
   else (chk (0 ≤ (v 8 a0 23)) (chk (0 ≤ (v 63 (v 8 a0 23) a1) ∧ (v 63 (v 8 a0 23) a1) < 10) (if ¬ (v 45 (v 8 a0 5) (v 63 (v 8 a0 23) a1)) = 0 then (rOk 0 v)
   else (chk (0 ≤ (v 8 a0 3)) (if (lcmp (v 43 (v 8 a0 3) a2) a3) < 0 then (rOk 0 v)
   else (rB (sp_X8_worth a0 a1 v) (fun z14 v14 => (if z14 < (w32 (2 * a3)) then (rOk 0 v14)
   else (if 20 ≤ (v14 8 a0 36) then (rOk 0 v14)
   else (rOk 1 v14))))))))))))))))))
set_option maxRecDepth 100000 in
set_option maxHeartbeats 4000000 in
theorem k_X8_canLend (a0 a1 a2 a3 : Int) (h0 : 0 ≤ a0) (x : Cx) (v : V) (F : Fx x cX8_canLend RX8 "canLend" ({ frames := 3, cells := 0, slots := 0, locals := 69 }) 5 (some 2) (some .boolean) 0) (ho : ∀ a ∈ [(18, a0), (0, a1), (0, a2), (0, a3)], okv v a) : Gs x (sp_X8_canLend a0 a1 a2 a3 v) v 0 0 0 (avArgs 0 [(18, a0), (0, a1), (0, a2), (0, a3)]) [] := by
  show Gs x _ v 0 0 0 [(0, (18, a0)), (1, (0, a1)), (2, (0, a2)), (3, (0, a3))] []
  unfold sp_X8_canLend
  refine g_aload_n F rfl 0 rfl dX8_canLend_0 ?_
  refine g_get F (t := 75) (sI := 25) fl_RX8_72 rfl rfl (Int.not_lt.mp (Int.not_lt.mpr h0)) dX8_canLend_1 ?_
  refine g_iload_n F rfl 1 rfl rfl dX8_canLend_4 ?_
  refine g_chk (fun n1 => ?_)
  refine g_chk (fun n2 => ?_)
  refine h_iald F (n := 60) ak_65 (Int.not_lt.mp (Int.not_lt.mpr n1)) n2 rfl dX8_canLend_5 ?_
  refine g_iconst F 0 rfl dX8_canLend_6 ?_
  refine g_icmp_ne F rfl rfl (tgt := 47) rfl dX8_canLend_7 (fun n3 => ?_) (fun n3 => ?_)
  · refine g_iconst F 2 rfl dX8_canLend_47 ?_
    refine g_istore F rfl (Nat.le_of_ble_eq_true rfl) (ls' := [(4, (2, 0)), (0, (18, a0)), (1, (0, a1)), (2, (0, a2)), (3, (0, a3))]) rfl dX8_canLend_48 ?_
    refine g_iload F 0 rfl rfl dX8_canLend_50 ?_
    refine g_if_eq_t F rfl (by decide) (tgt := 91) rfl dX8_canLend_52 ?_
    refine g_iconst F 2 rfl dX8_canLend_91 ?_
    exact g_ireturn F rfl rfl rfl rfl (Nat.le_of_ble_eq_true rfl) (Nat.le_of_ble_eq_true rfl) dX8_canLend_92
  · refine g_aload_n F rfl 0 rfl dX8_canLend_10 ?_
    refine g_get F (t := 76) (sI := 26) fl_RX8_75 rfl rfl (Int.not_lt.mp (Int.not_lt.mpr h0)) dX8_canLend_11 ?_
    refine g_iload_n F rfl 1 rfl rfl dX8_canLend_14 ?_
    refine g_chk (fun n4 => ?_)
    refine h_iald F (n := 60) ak_66 (Int.not_lt.mp (Int.not_lt.mpr n4)) n2 rfl dX8_canLend_15 ?_
    refine g_iconst F 0 rfl dX8_canLend_16 ?_
    refine g_icmp_ne F rfl rfl (tgt := 47) rfl dX8_canLend_17 (fun n5 => ?_) (fun n5 => ?_)
    · refine g_iconst F 2 rfl dX8_canLend_47 ?_
      refine g_istore F rfl (Nat.le_of_ble_eq_true rfl) (ls' := [(4, (2, 0)), (0, (18, a0)), (1, (0, a1)), (2, (0, a2)), (3, (0, a3))]) rfl dX8_canLend_48 ?_
      refine g_iload F 0 rfl rfl dX8_canLend_50 ?_
      refine g_if_eq_t F rfl (by decide) (tgt := 91) rfl dX8_canLend_52 ?_
      refine g_iconst F 2 rfl dX8_canLend_91 ?_
      exact g_ireturn F rfl rfl rfl rfl (Nat.le_of_ble_eq_true rfl) (Nat.le_of_ble_eq_true rfl) dX8_canLend_92
    · refine g_aload_n F rfl 0 rfl dX8_canLend_20 ?_
      refine g_get F (t := 55) (sI := 5) fl_RX8_17 rfl rfl (Int.not_lt.mp (Int.not_lt.mpr h0)) dX8_canLend_21 ?_
      refine g_iload_n F rfl 2 rfl rfl dX8_canLend_24 ?_
      refine g_chk (fun n6 => ?_)
      refine g_chk (fun n7 => ?_)
      refine h_zald F (n := 10) ak_45 (Int.not_lt.mp (Int.not_lt.mpr n6)) n7 rfl dX8_canLend_25 ?_
      refine g_if_ne F rfl (tgt := 47) rfl dX8_canLend_26 (fun n8 => ?_) (fun n8 => ?_)
      · refine g_iconst F 2 rfl dX8_canLend_47 ?_
        refine g_istore F rfl (Nat.le_of_ble_eq_true rfl) (ls' := [(4, (2, 0)), (0, (18, a0)), (1, (0, a1)), (2, (0, a2)), (3, (0, a3))]) rfl dX8_canLend_48 ?_
        refine g_iload F 0 rfl rfl dX8_canLend_50 ?_
        refine g_if_eq_t F rfl (by decide) (tgt := 91) rfl dX8_canLend_52 ?_
        refine g_iconst F 2 rfl dX8_canLend_91 ?_
        exact g_ireturn F rfl rfl rfl rfl (Nat.le_of_ble_eq_true rfl) (Nat.le_of_ble_eq_true rfl) dX8_canLend_92
      · refine g_aload_n F rfl 0 rfl dX8_canLend_29 ?_
        refine g_get F (t := 55) (sI := 5) fl_RX8_17 rfl rfl (Int.not_lt.mp (Int.not_lt.mpr h0)) dX8_canLend_30 ?_
        refine g_aload_n F rfl 0 rfl dX8_canLend_33 ?_
        refine g_get F (t := 73) (sI := 23) fl_RX8_66 rfl rfl (Int.not_lt.mp (Int.not_lt.mpr h0)) dX8_canLend_34 ?_
        refine g_iload_n F rfl 1 rfl rfl dX8_canLend_37 ?_
        refine g_chk (fun n9 => ?_)
        refine h_iald F (n := 60) ak_63 (Int.not_lt.mp (Int.not_lt.mpr n9)) n2 rfl dX8_canLend_38 ?_
        refine g_chk (fun n10 => ?_)
        refine h_zald F (n := 10) ak_45 (Int.not_lt.mp (Int.not_lt.mpr n6)) n10 rfl dX8_canLend_39 ?_
        refine g_if_ne F rfl (tgt := 47) rfl dX8_canLend_40 (fun n11 => ?_) (fun n11 => ?_)
        · refine g_iconst F 2 rfl dX8_canLend_47 ?_
          refine g_istore F rfl (Nat.le_of_ble_eq_true rfl) (ls' := [(4, (2, 0)), (0, (18, a0)), (1, (0, a1)), (2, (0, a2)), (3, (0, a3))]) rfl dX8_canLend_48 ?_
          refine g_iload F 0 rfl rfl dX8_canLend_50 ?_
          refine g_if_eq_t F rfl (by decide) (tgt := 91) rfl dX8_canLend_52 ?_
          refine g_iconst F 2 rfl dX8_canLend_91 ?_
          exact g_ireturn F rfl rfl rfl rfl (Nat.le_of_ble_eq_true rfl) (Nat.le_of_ble_eq_true rfl) dX8_canLend_92
        · refine g_iconst F 2 rfl dX8_canLend_43 ?_
          refine g_goto F (tgt := 48) rfl dX8_canLend_44 ?_
          refine g_istore F rfl (Nat.le_of_ble_eq_true rfl) (ls' := [(4, (2, 1)), (0, (18, a0)), (1, (0, a1)), (2, (0, a2)), (3, (0, a3))]) rfl dX8_canLend_48 ?_
          refine g_iload F 0 rfl rfl dX8_canLend_50 ?_
          refine g_if_eq_f F rfl (by decide) (tgt := 91) rfl dX8_canLend_52 ?_
          refine g_aload_n F rfl 1 rfl dX8_canLend_55 ?_
          refine g_get F (t := 53) (sI := 3) fl_RX8_7 rfl rfl (Int.not_lt.mp (Int.not_lt.mpr h0)) dX8_canLend_56 ?_
          refine g_iload_n F rfl 3 rfl rfl dX8_canLend_59 ?_
          refine g_chk (fun n12 => ?_)
          refine h_lald F (n := 10) ak_43 (Int.not_lt.mp (Int.not_lt.mpr n12)) n7 rfl dX8_canLend_60 ?_
          refine g_iload_n F rfl 4 rfl rfl dX8_canLend_61 ?_
          refine g_i2l F rfl dX8_canLend_62 ?_
          refine g_lcmp F dX8_canLend_63 ?_
          refine g_if_lt F rfl (tgt := 91) rfl dX8_canLend_64 (fun n13 => ?_) (fun n13 => ?_)
          · refine g_iconst F 2 rfl dX8_canLend_91 ?_
            exact g_ireturn F rfl rfl rfl rfl (Nat.le_of_ble_eq_true rfl) (Nat.le_of_ble_eq_true rfl) dX8_canLend_92
          · refine g_iconst F 0 rfl dX8_canLend_67 ?_
            refine g_iload_n F rfl 4 rfl rfl dX8_canLend_68 ?_
            refine g_imul F rfl rfl dX8_canLend_69 ?_
            refine g_aload_n F rfl 1 rfl dX8_canLend_70 ?_
            refine g_iload_n F rfl 2 rfl rfl dX8_canLend_71 ?_
            refine g_callV F (by decide) (K := 8) (b := a0) [(0, a1)] [0] ml_RX8_212 wi_X8_worth ws_X8_worth (c_X8_worth a0 a1 (Int.not_lt.mp (Int.not_lt.mpr h0))) mi_X8_worth (by decide) ⟨_, rfl, rfl⟩ (Int.not_lt.mp (Int.not_lt.mpr h0)) rfl rfl rfl (Nat.le_of_ble_eq_true rfl) (Nat.le_of_ble_eq_true rfl) (Nat.le_of_ble_eq_true rfl) (Nat.le_of_ble_eq_true rfl) (Nat.le_of_ble_eq_true rfl) dX8_canLend_72 (fun z14 v14 hz14 => ?_)
            refine g_icmp_gt F rfl rfl (tgt := 91) rfl dX8_canLend_75 (fun n15 => ?_) (fun n15 => ?_)
            · refine g_iconst F 2 rfl dX8_canLend_91 ?_
              exact g_ireturn F rfl rfl rfl rfl (Nat.le_of_ble_eq_true rfl) (Nat.le_of_ble_eq_true rfl) dX8_canLend_92
            · refine g_aload_n F rfl 1 rfl dX8_canLend_78 ?_
              refine g_get F (t := 0) (sI := 36) fl_RX8_143 rfl rfl (Int.not_lt.mp (Int.not_lt.mpr h0)) dX8_canLend_79 ?_
              refine g_bipush F rfl (by decide) dX8_canLend_82 ?_
              refine g_icmp_ge F rfl rfl (tgt := 91) rfl dX8_canLend_84 (fun n16 => ?_) (fun n16 => ?_)
              · refine g_iconst F 2 rfl dX8_canLend_91 ?_
                exact g_ireturn F rfl rfl rfl rfl (Nat.le_of_ble_eq_true rfl) (Nat.le_of_ble_eq_true rfl) dX8_canLend_92
              · refine g_iconst F 2 rfl dX8_canLend_87 ?_
                refine g_goto F (tgt := 92) rfl dX8_canLend_88 ?_
                exact g_ireturn F rfl rfl rfl rfl (Nat.le_of_ble_eq_true rfl) (Nat.le_of_ble_eq_true rfl) dX8_canLend_92
theorem c_X8_canLend (a0 a1 a2 a3 : Int) (h0 : 0 ≤ a0) : ∀ l, Ct l yX8_canLend cX8_canLend 5 (some .boolean) ({ frames := 3, cells := 0, slots := 0, locals := 69 }) (some 2) [(18, a0), (0, a1), (0, a2), (0, a3)] (sp_X8_canLend a0 a1 a2 a3) := g_method (by decide +kernel) (Nat.le_of_ble_eq_true rfl) (fun x v F ho => k_X8_canLend a0 a1 a2 a3 h0 x v F ho)
def sp_X8_lend (a0 a1 a2 a3 a4 a5 : Int) (v : V) : Res := (rB (sp_X8_isLot a0 a1 v) (fun z1 v1 => (if z1 = 0 then (rB (sp_X8_holds a0 1 v1) (fun z3 v3 => (if ¬ z3 = 0 then none
   else (rOk 0 v3))))
   else (rB (sp_X8_isParty a0 a2 v1) (fun z5 v5 => (if z5 = 0 then (rB (sp_X8_holds a0 1 v5) (fun z7 v7 => (if ¬ z7 = 0 then none
   else (rOk 0 v7))))
   else (rB (sp_X8_in a3 1 1000000 v5) (fun z9 v9 => (if z9 = 0 then (rB (sp_X8_holds a0 2 v9) (fun z11 v11 => (if ¬ z11 = 0 then none
   else (rOk 0 v11))))
   else (rB (sp_X8_in a4 0 100 v9) (fun z13 v13 => (if z13 = 0 then (rB (sp_X8_holds a0 2 v13) (fun z15 v15 => (if ¬ z15 = 0 then none
   else (rOk 0 v15))))
   else (rB (sp_X8_in a5 1 1000 v13) (fun z17 v17 => (if z17 = 0 then (rB (sp_X8_holds a0 2 v17) (fun z19 v19 => (if ¬ z19 = 0 then none
   else (rOk 0 v19))))
   else (chk (0 ≤ (v17 8 a0 23)) (chk (0 ≤ a1 ∧ a1 < 60) (if a2 = (v17 63 (v17 8 a0 23) a1) then (rB (sp_X8_holds a0 2 v17) (fun z24 v24 => (if ¬ z24 = 0 then none
   else (rOk 0 v24))))
   else (rB (sp_X8_canLend a0 a1 a2 a3 v17) (fun z26 v26 => (if z26 = 0 then (rB (sp_X8_holds a0 3 v26) (fun z28 v28 => (if ¬ z28 = 0 then none
   else (rOk 0 v28))))
   else (rB (sp_X8_holds a0 0 v26) (fun z30 v30 => (if ¬ z30 = 0 then (chk (0 ≤ (v30 8 a0 23)) (chk (0 ≤ (v30 8 a0 37)) (chk (0 ≤ (v30 8 a0 36) ∧ (v30 8 a0 36) < 20) (rLet (up v30 77 (v30 8 a0 37) (v30 8 a0 36) (v30 63 (v30 8 a0 23) a1)) (fun v35 => (chk (0 ≤ (v35 8 a0 38)) (chk (0 ≤ (v35 8 a0 36) ∧ (v35 8 a0 36) < 20) (rLet (up v35 78 (v35 8 a0 38) (v35 8 a0 36) a2) (fun v38 => (chk (0 ≤ (v38 8 a0 39)) (chk (0 ≤ (v38 8 a0 36) ∧ (v38 8 a0 36) < 20) (rLet (up v38 79 (v38 8 a0 39) (v38 8 a0 36) a3) (fun v41 => (chk (0 ≤ (v41 8 a0 40)) (chk (0 ≤ (v41 8 a0 36) ∧ (v41 8 a0 36) < 20) (rLet (up v41 80 (v41 8 a0 40) (v41 8 a0 36) a4) (fun v44 => (chk (0 ≤ (v44 8 a0 41)) (chk (0 ≤ (v44 8 a0 36) ∧ (v44 8 a0 36) < 20) (rLet (up v44 81 (v44 8 a0 41) (v44 8 a0 36) (v44 8 a0 1)) (fun v47 => (chk (0 ≤ (v47 8 a0 42)) (chk (0 ≤ (v47 8 a0 36) ∧ (v47 8 a0 36) < 20) (rLet (up v47 82 (v47 8 a0 42) (v47 8 a0 36) (w32 ((v47 8 a0 1) + a5))) (fun v50 => (chk (0 ≤ (v50 8 a0 3)) (chk (0 ≤ a2 ∧ a2 < 10) (rLet (up v50 43 (v50 8 a0 3) a2 (w64 ((v50 43 (v50 8 a0 3) a2) - a3))) (fun v53 => (chk (0 ≤ (v53 8 a0 23)) (chk (0 ≤ (v53 8 a0 3)) (chk (0 ≤ (v53 63 (v53 8 a0 23) a1) ∧ (v53 63 (v53 8 a0 23) a1) < 10) (rLet (up v53 43 (v53 8 a0 3) (v53 63 (v53 8 a0 23) a1) (w64 ((v53 43 (v53 8 a0 3) (v53 63 (v53 8 a0 23) a1)) + a3))) (fun v57 => (chk (0 ≤ (v57 8 a0 25)) (rLet (up v57 65 (v57 8 a0 25) a1 (v57 8 a0 36)) (fun v59 => (rLet (up v59 8 a0 36 (w32 ((v59 8 a0 36) + 1))) (fun v60 => (rOk (w32 ((v60 8 a0 36) - 1)) v60))))))))))))))))))))))))))))))))))))))))
   else none))))))))))))))))))))))))
set_option maxRecDepth 100000 in
set_option maxHeartbeats 4000000 in
theorem k_X8_lend (a0 a1 a2 a3 a4 a5 : Int) (h0 : 0 ≤ a0) (x : Cx) (v : V) (F : Fx x cX8_lend RX8 "lend" ({ frames := 4, cells := 0, slots := 0, locals := 93 }) 8 (some 0) (some .int) 0) (ho : ∀ a ∈ [(18, a0), (0, a1), (0, a2), (0, a3), (0, a4), (0, a5)], okv v a) : Gs x (sp_X8_lend a0 a1 a2 a3 a4 a5 v) v 0 0 0 (avArgs 0 [(18, a0), (0, a1), (0, a2), (0, a3), (0, a4), (0, a5)]) [] := by
  show Gs x _ v 0 0 0 [(0, (18, a0)), (1, (0, a1)), (2, (0, a2)), (3, (0, a3)), (4, (0, a4)), (5, (0, a5))] []
  unfold sp_X8_lend
  refine g_aload_n F rfl 0 rfl dX8_lend_0 ?_
  refine g_iload_n F rfl 1 rfl rfl dX8_lend_1 ?_
  refine g_callV F (by decide) (K := 8) (b := a0) [(0, a1)] [0] ml_RX8_191 wi_X8_isLot ws_X8_isLot (c_X8_isLot a0 a1 (Int.not_lt.mp (Int.not_lt.mpr h0))) mi_X8_isLot (by decide) ⟨_, rfl, rfl⟩ (Int.not_lt.mp (Int.not_lt.mpr h0)) rfl rfl rfl (Nat.le_of_ble_eq_true rfl) (Nat.le_of_ble_eq_true rfl) (Nat.le_of_ble_eq_true rfl) (Nat.le_of_ble_eq_true rfl) (Nat.le_of_ble_eq_true rfl) dX8_lend_2 (fun z1 v1 hz1 => ?_)
  refine g_if_eq F rfl (tgt := 20) rfl dX8_lend_5 (fun n2 => ?_) (fun n2 => ?_)
  · refine g_iconst F 2 rfl dX8_lend_20 ?_
    refine g_istore F rfl (Nat.le_of_ble_eq_true rfl) (ls' := [(6, (2, 0)), (0, (18, a0)), (1, (0, a1)), (2, (0, a2)), (3, (0, a3)), (4, (0, a4)), (5, (0, a5))]) rfl dX8_lend_21 ?_
    refine g_iload F 0 rfl rfl dX8_lend_23 ?_
    refine g_if_eq_t F rfl (by decide) (tgt := 75) rfl dX8_lend_25 ?_
    refine g_iconst F 2 rfl dX8_lend_75 ?_
    refine g_istore F rfl (Nat.le_of_ble_eq_true rfl) (ls' := [(7, (2, 0)), (6, (2, 0)), (0, (18, a0)), (1, (0, a1)), (2, (0, a2)), (3, (0, a3)), (4, (0, a4)), (5, (0, a5))]) rfl dX8_lend_76 ?_
    refine g_aload_n F rfl 2 rfl dX8_lend_78 ?_
    refine g_iload F 1 rfl rfl dX8_lend_79 ?_
    refine g_if_ne_f F rfl (by decide) (tgt := 88) rfl dX8_lend_81 ?_
    refine g_iconst F 2 rfl dX8_lend_84 ?_
    refine g_goto F (tgt := 112) rfl dX8_lend_85 ?_
    refine g_callV F (by decide) (K := 8) (b := a0) [(2, 1)] [0] ml_RX8_151 wi_X8_holds ws_X8_holds (c_X8_holds a0 1 (Int.not_lt.mp (Int.not_lt.mpr h0))) mi_X8_holds (by decide) ⟨_, rfl, rfl⟩ (Int.not_lt.mp (Int.not_lt.mpr h0)) rfl rfl rfl (Nat.le_of_ble_eq_true rfl) (Nat.le_of_ble_eq_true rfl) (Nat.le_of_ble_eq_true rfl) (Nat.le_of_ble_eq_true rfl) (Nat.le_of_ble_eq_true rfl) dX8_lend_112 (fun z3 v3 hz3 => ?_)
    refine g_if_ne F rfl (tgt := 120) rfl dX8_lend_115 (fun n4 => ?_) (fun n4 => ?_)
    · exact g_none
    · refine g_iconst F 2 rfl dX8_lend_118 ?_
      exact g_ireturn F rfl rfl rfl rfl (Nat.le_of_ble_eq_true rfl) (Nat.le_of_ble_eq_true rfl) dX8_lend_119
  · refine g_aload_n F rfl 0 rfl dX8_lend_8 ?_
    refine g_iload_n F rfl 2 rfl rfl dX8_lend_9 ?_
    refine g_callV F (by decide) (K := 8) (b := a0) [(0, a2)] [0] ml_RX8_154 wi_X8_isParty ws_X8_isParty (c_X8_isParty a0 a2 (Int.not_lt.mp (Int.not_lt.mpr h0))) mi_X8_isParty (by decide) ⟨_, rfl, rfl⟩ (Int.not_lt.mp (Int.not_lt.mpr h0)) rfl rfl rfl (Nat.le_of_ble_eq_true rfl) (Nat.le_of_ble_eq_true rfl) (Nat.le_of_ble_eq_true rfl) (Nat.le_of_ble_eq_true rfl) (Nat.le_of_ble_eq_true rfl) dX8_lend_10 (fun z5 v5 hz5 => ?_)
    refine g_if_eq F rfl (tgt := 20) rfl dX8_lend_13 (fun n6 => ?_) (fun n6 => ?_)
    · refine g_iconst F 2 rfl dX8_lend_20 ?_
      refine g_istore F rfl (Nat.le_of_ble_eq_true rfl) (ls' := [(6, (2, 0)), (0, (18, a0)), (1, (0, a1)), (2, (0, a2)), (3, (0, a3)), (4, (0, a4)), (5, (0, a5))]) rfl dX8_lend_21 ?_
      refine g_iload F 0 rfl rfl dX8_lend_23 ?_
      refine g_if_eq_t F rfl (by decide) (tgt := 75) rfl dX8_lend_25 ?_
      refine g_iconst F 2 rfl dX8_lend_75 ?_
      refine g_istore F rfl (Nat.le_of_ble_eq_true rfl) (ls' := [(7, (2, 0)), (6, (2, 0)), (0, (18, a0)), (1, (0, a1)), (2, (0, a2)), (3, (0, a3)), (4, (0, a4)), (5, (0, a5))]) rfl dX8_lend_76 ?_
      refine g_aload_n F rfl 2 rfl dX8_lend_78 ?_
      refine g_iload F 1 rfl rfl dX8_lend_79 ?_
      refine g_if_ne_f F rfl (by decide) (tgt := 88) rfl dX8_lend_81 ?_
      refine g_iconst F 2 rfl dX8_lend_84 ?_
      refine g_goto F (tgt := 112) rfl dX8_lend_85 ?_
      refine g_callV F (by decide) (K := 8) (b := a0) [(2, 1)] [0] ml_RX8_151 wi_X8_holds ws_X8_holds (c_X8_holds a0 1 (Int.not_lt.mp (Int.not_lt.mpr h0))) mi_X8_holds (by decide) ⟨_, rfl, rfl⟩ (Int.not_lt.mp (Int.not_lt.mpr h0)) rfl rfl rfl (Nat.le_of_ble_eq_true rfl) (Nat.le_of_ble_eq_true rfl) (Nat.le_of_ble_eq_true rfl) (Nat.le_of_ble_eq_true rfl) (Nat.le_of_ble_eq_true rfl) dX8_lend_112 (fun z7 v7 hz7 => ?_)
      refine g_if_ne F rfl (tgt := 120) rfl dX8_lend_115 (fun n8 => ?_) (fun n8 => ?_)
      · exact g_none
      · refine g_iconst F 2 rfl dX8_lend_118 ?_
        exact g_ireturn F rfl rfl rfl rfl (Nat.le_of_ble_eq_true rfl) (Nat.le_of_ble_eq_true rfl) dX8_lend_119
    · refine g_iconst F 2 rfl dX8_lend_16 ?_
      refine g_goto F (tgt := 21) rfl dX8_lend_17 ?_
      refine g_istore F rfl (Nat.le_of_ble_eq_true rfl) (ls' := [(6, (2, 1)), (0, (18, a0)), (1, (0, a1)), (2, (0, a2)), (3, (0, a3)), (4, (0, a4)), (5, (0, a5))]) rfl dX8_lend_21 ?_
      refine g_iload F 0 rfl rfl dX8_lend_23 ?_
      refine g_if_eq_f F rfl (by decide) (tgt := 75) rfl dX8_lend_25 ?_
      refine g_iload_n F rfl 4 rfl rfl dX8_lend_28 ?_
      refine g_iconst F 2 rfl dX8_lend_29 ?_
      refine g_ldc F rfl cn_RX8_150 dX8_lend_30 ?_
      refine g_callS F (by decide) [(0, a3), (2, 1), (0, 1000000)] [0, 0, 0] ml_RX8_133 wt_X8_in (c_X8_in a3 1 1000000) mi_X8_in rfl rfl rfl (Nat.le_of_ble_eq_true rfl) (Nat.le_of_ble_eq_true rfl) (Nat.le_of_ble_eq_true rfl) (Nat.le_of_ble_eq_true rfl) (Nat.le_of_ble_eq_true rfl) dX8_lend_32 (fun z9 v9 hz9 => ?_)
      refine g_if_eq F rfl (tgt := 75) rfl dX8_lend_35 (fun n10 => ?_) (fun n10 => ?_)
      · refine g_iconst F 2 rfl dX8_lend_75 ?_
        refine g_istore F rfl (Nat.le_of_ble_eq_true rfl) (ls' := [(7, (2, 0)), (6, (2, 1)), (0, (18, a0)), (1, (0, a1)), (2, (0, a2)), (3, (0, a3)), (4, (0, a4)), (5, (0, a5))]) rfl dX8_lend_76 ?_
        refine g_aload_n F rfl 2 rfl dX8_lend_78 ?_
        refine g_iload F 1 rfl rfl dX8_lend_79 ?_
        refine g_if_ne_t F rfl (by decide) (tgt := 88) rfl dX8_lend_81 ?_
        refine g_iload F 0 rfl rfl dX8_lend_88 ?_
        refine g_if_ne_f F rfl (by decide) (tgt := 97) rfl dX8_lend_90 ?_
        refine g_iconst F 0 rfl dX8_lend_93 ?_
        refine g_goto F (tgt := 112) rfl dX8_lend_94 ?_
        refine g_callV F (by decide) (K := 8) (b := a0) [(0, 2)] [0] ml_RX8_151 wi_X8_holds ws_X8_holds (c_X8_holds a0 2 (Int.not_lt.mp (Int.not_lt.mpr h0))) mi_X8_holds (by decide) ⟨_, rfl, rfl⟩ (Int.not_lt.mp (Int.not_lt.mpr h0)) rfl rfl rfl (Nat.le_of_ble_eq_true rfl) (Nat.le_of_ble_eq_true rfl) (Nat.le_of_ble_eq_true rfl) (Nat.le_of_ble_eq_true rfl) (Nat.le_of_ble_eq_true rfl) dX8_lend_112 (fun z11 v11 hz11 => ?_)
        refine g_if_ne F rfl (tgt := 120) rfl dX8_lend_115 (fun n12 => ?_) (fun n12 => ?_)
        · exact g_none
        · refine g_iconst F 2 rfl dX8_lend_118 ?_
          exact g_ireturn F rfl rfl rfl rfl (Nat.le_of_ble_eq_true rfl) (Nat.le_of_ble_eq_true rfl) dX8_lend_119
      · refine g_iload F 5 rfl rfl dX8_lend_38 ?_
        refine g_iconst F 2 rfl dX8_lend_40 ?_
        refine g_bipush F rfl (by decide) dX8_lend_41 ?_
        refine g_callS F (by decide) [(0, a4), (2, 0), (0, 100)] [0, 0, 0] ml_RX8_133 wt_X8_in (c_X8_in a4 0 100) mi_X8_in rfl rfl rfl (Nat.le_of_ble_eq_true rfl) (Nat.le_of_ble_eq_true rfl) (Nat.le_of_ble_eq_true rfl) (Nat.le_of_ble_eq_true rfl) (Nat.le_of_ble_eq_true rfl) dX8_lend_43 (fun z13 v13 hz13 => ?_)
        refine g_if_eq F rfl (tgt := 75) rfl dX8_lend_46 (fun n14 => ?_) (fun n14 => ?_)
        · refine g_iconst F 2 rfl dX8_lend_75 ?_
          refine g_istore F rfl (Nat.le_of_ble_eq_true rfl) (ls' := [(7, (2, 0)), (6, (2, 1)), (0, (18, a0)), (1, (0, a1)), (2, (0, a2)), (3, (0, a3)), (4, (0, a4)), (5, (0, a5))]) rfl dX8_lend_76 ?_
          refine g_aload_n F rfl 2 rfl dX8_lend_78 ?_
          refine g_iload F 1 rfl rfl dX8_lend_79 ?_
          refine g_if_ne_t F rfl (by decide) (tgt := 88) rfl dX8_lend_81 ?_
          refine g_iload F 0 rfl rfl dX8_lend_88 ?_
          refine g_if_ne_f F rfl (by decide) (tgt := 97) rfl dX8_lend_90 ?_
          refine g_iconst F 0 rfl dX8_lend_93 ?_
          refine g_goto F (tgt := 112) rfl dX8_lend_94 ?_
          refine g_callV F (by decide) (K := 8) (b := a0) [(0, 2)] [0] ml_RX8_151 wi_X8_holds ws_X8_holds (c_X8_holds a0 2 (Int.not_lt.mp (Int.not_lt.mpr h0))) mi_X8_holds (by decide) ⟨_, rfl, rfl⟩ (Int.not_lt.mp (Int.not_lt.mpr h0)) rfl rfl rfl (Nat.le_of_ble_eq_true rfl) (Nat.le_of_ble_eq_true rfl) (Nat.le_of_ble_eq_true rfl) (Nat.le_of_ble_eq_true rfl) (Nat.le_of_ble_eq_true rfl) dX8_lend_112 (fun z15 v15 hz15 => ?_)
          refine g_if_ne F rfl (tgt := 120) rfl dX8_lend_115 (fun n16 => ?_) (fun n16 => ?_)
          · exact g_none
          · refine g_iconst F 2 rfl dX8_lend_118 ?_
            exact g_ireturn F rfl rfl rfl rfl (Nat.le_of_ble_eq_true rfl) (Nat.le_of_ble_eq_true rfl) dX8_lend_119
        · refine g_iload F 6 rfl rfl dX8_lend_49 ?_
          refine g_iconst F 2 rfl dX8_lend_51 ?_
          refine g_sipush F rfl (by decide) dX8_lend_52 ?_
          refine g_callS F (by decide) [(0, a5), (2, 1), (0, 1000)] [0, 0, 0] ml_RX8_133 wt_X8_in (c_X8_in a5 1 1000) mi_X8_in rfl rfl rfl (Nat.le_of_ble_eq_true rfl) (Nat.le_of_ble_eq_true rfl) (Nat.le_of_ble_eq_true rfl) (Nat.le_of_ble_eq_true rfl) (Nat.le_of_ble_eq_true rfl) dX8_lend_55 (fun z17 v17 hz17 => ?_)
          refine g_if_eq F rfl (tgt := 75) rfl dX8_lend_58 (fun n18 => ?_) (fun n18 => ?_)
          · refine g_iconst F 2 rfl dX8_lend_75 ?_
            refine g_istore F rfl (Nat.le_of_ble_eq_true rfl) (ls' := [(7, (2, 0)), (6, (2, 1)), (0, (18, a0)), (1, (0, a1)), (2, (0, a2)), (3, (0, a3)), (4, (0, a4)), (5, (0, a5))]) rfl dX8_lend_76 ?_
            refine g_aload_n F rfl 2 rfl dX8_lend_78 ?_
            refine g_iload F 1 rfl rfl dX8_lend_79 ?_
            refine g_if_ne_t F rfl (by decide) (tgt := 88) rfl dX8_lend_81 ?_
            refine g_iload F 0 rfl rfl dX8_lend_88 ?_
            refine g_if_ne_f F rfl (by decide) (tgt := 97) rfl dX8_lend_90 ?_
            refine g_iconst F 0 rfl dX8_lend_93 ?_
            refine g_goto F (tgt := 112) rfl dX8_lend_94 ?_
            refine g_callV F (by decide) (K := 8) (b := a0) [(0, 2)] [0] ml_RX8_151 wi_X8_holds ws_X8_holds (c_X8_holds a0 2 (Int.not_lt.mp (Int.not_lt.mpr h0))) mi_X8_holds (by decide) ⟨_, rfl, rfl⟩ (Int.not_lt.mp (Int.not_lt.mpr h0)) rfl rfl rfl (Nat.le_of_ble_eq_true rfl) (Nat.le_of_ble_eq_true rfl) (Nat.le_of_ble_eq_true rfl) (Nat.le_of_ble_eq_true rfl) (Nat.le_of_ble_eq_true rfl) dX8_lend_112 (fun z19 v19 hz19 => ?_)
            refine g_if_ne F rfl (tgt := 120) rfl dX8_lend_115 (fun n20 => ?_) (fun n20 => ?_)
            · exact g_none
            · refine g_iconst F 2 rfl dX8_lend_118 ?_
              exact g_ireturn F rfl rfl rfl rfl (Nat.le_of_ble_eq_true rfl) (Nat.le_of_ble_eq_true rfl) dX8_lend_119
          · refine g_iload_n F rfl 3 rfl rfl dX8_lend_61 ?_
            refine g_aload_n F rfl 1 rfl dX8_lend_62 ?_
            refine g_get F (t := 73) (sI := 23) fl_RX8_66 rfl rfl (Int.not_lt.mp (Int.not_lt.mpr h0)) dX8_lend_63 ?_
            refine g_iload_n F rfl 2 rfl rfl dX8_lend_66 ?_
            refine g_chk (fun n21 => ?_)
            refine g_chk (fun n22 => ?_)
            refine h_iald F (n := 60) ak_63 (Int.not_lt.mp (Int.not_lt.mpr n21)) n22 rfl dX8_lend_67 ?_
            refine g_icmp_eq F rfl rfl (tgt := 75) rfl dX8_lend_68 (fun n23 => ?_) (fun n23 => ?_)
            · refine g_iconst F 2 rfl dX8_lend_75 ?_
              refine g_istore F rfl (Nat.le_of_ble_eq_true rfl) (ls' := [(7, (2, 0)), (6, (2, 1)), (0, (18, a0)), (1, (0, a1)), (2, (0, a2)), (3, (0, a3)), (4, (0, a4)), (5, (0, a5))]) rfl dX8_lend_76 ?_
              refine g_aload_n F rfl 2 rfl dX8_lend_78 ?_
              refine g_iload F 1 rfl rfl dX8_lend_79 ?_
              refine g_if_ne_t F rfl (by decide) (tgt := 88) rfl dX8_lend_81 ?_
              refine g_iload F 0 rfl rfl dX8_lend_88 ?_
              refine g_if_ne_f F rfl (by decide) (tgt := 97) rfl dX8_lend_90 ?_
              refine g_iconst F 0 rfl dX8_lend_93 ?_
              refine g_goto F (tgt := 112) rfl dX8_lend_94 ?_
              refine g_callV F (by decide) (K := 8) (b := a0) [(0, 2)] [0] ml_RX8_151 wi_X8_holds ws_X8_holds (c_X8_holds a0 2 (Int.not_lt.mp (Int.not_lt.mpr h0))) mi_X8_holds (by decide) ⟨_, rfl, rfl⟩ (Int.not_lt.mp (Int.not_lt.mpr h0)) rfl rfl rfl (Nat.le_of_ble_eq_true rfl) (Nat.le_of_ble_eq_true rfl) (Nat.le_of_ble_eq_true rfl) (Nat.le_of_ble_eq_true rfl) (Nat.le_of_ble_eq_true rfl) dX8_lend_112 (fun z24 v24 hz24 => ?_)
              refine g_if_ne F rfl (tgt := 120) rfl dX8_lend_115 (fun n25 => ?_) (fun n25 => ?_)
              · exact g_none
              · refine g_iconst F 2 rfl dX8_lend_118 ?_
                exact g_ireturn F rfl rfl rfl rfl (Nat.le_of_ble_eq_true rfl) (Nat.le_of_ble_eq_true rfl) dX8_lend_119
            · refine g_iconst F 2 rfl dX8_lend_71 ?_
              refine g_goto F (tgt := 76) rfl dX8_lend_72 ?_
              refine g_istore F rfl (Nat.le_of_ble_eq_true rfl) (ls' := [(7, (2, 1)), (6, (2, 1)), (0, (18, a0)), (1, (0, a1)), (2, (0, a2)), (3, (0, a3)), (4, (0, a4)), (5, (0, a5))]) rfl dX8_lend_76 ?_
              refine g_aload_n F rfl 2 rfl dX8_lend_78 ?_
              refine g_iload F 1 rfl rfl dX8_lend_79 ?_
              refine g_if_ne_t F rfl (by decide) (tgt := 88) rfl dX8_lend_81 ?_
              refine g_iload F 0 rfl rfl dX8_lend_88 ?_
              refine g_if_ne_t F rfl (by decide) (tgt := 97) rfl dX8_lend_90 ?_
              refine g_aload_n F rfl 2 rfl dX8_lend_97 ?_
              refine g_iload_n F rfl 3 rfl rfl dX8_lend_98 ?_
              refine g_iload_n F rfl 4 rfl rfl dX8_lend_99 ?_
              refine g_iload_n F rfl 5 rfl rfl dX8_lend_100 ?_
              refine g_callV F (by decide) (K := 8) (b := a0) [(0, a1), (0, a2), (0, a3)] [0, 0, 0] ml_RX8_215 wi_X8_canLend ws_X8_canLend (c_X8_canLend a0 a1 a2 a3 (Int.not_lt.mp (Int.not_lt.mpr h0))) mi_X8_canLend (by decide) ⟨_, rfl, rfl⟩ (Int.not_lt.mp (Int.not_lt.mpr h0)) rfl rfl rfl (Nat.le_of_ble_eq_true rfl) (Nat.le_of_ble_eq_true rfl) (Nat.le_of_ble_eq_true rfl) (Nat.le_of_ble_eq_true rfl) (Nat.le_of_ble_eq_true rfl) dX8_lend_101 (fun z26 v26 hz26 => ?_)
              refine g_if_eq F rfl (tgt := 111) rfl dX8_lend_104 (fun n27 => ?_) (fun n27 => ?_)
              · refine g_iconst F 0 rfl dX8_lend_111 ?_
                refine g_callV F (by decide) (K := 8) (b := a0) [(0, 3)] [0] ml_RX8_151 wi_X8_holds ws_X8_holds (c_X8_holds a0 3 (Int.not_lt.mp (Int.not_lt.mpr h0))) mi_X8_holds (by decide) ⟨_, rfl, rfl⟩ (Int.not_lt.mp (Int.not_lt.mpr h0)) rfl rfl rfl (Nat.le_of_ble_eq_true rfl) (Nat.le_of_ble_eq_true rfl) (Nat.le_of_ble_eq_true rfl) (Nat.le_of_ble_eq_true rfl) (Nat.le_of_ble_eq_true rfl) dX8_lend_112 (fun z28 v28 hz28 => ?_)
                refine g_if_ne F rfl (tgt := 120) rfl dX8_lend_115 (fun n29 => ?_) (fun n29 => ?_)
                · exact g_none
                · refine g_iconst F 2 rfl dX8_lend_118 ?_
                  exact g_ireturn F rfl rfl rfl rfl (Nat.le_of_ble_eq_true rfl) (Nat.le_of_ble_eq_true rfl) dX8_lend_119
              · refine g_iconst F 2 rfl dX8_lend_107 ?_
                refine g_goto F (tgt := 112) rfl dX8_lend_108 ?_
                refine g_callV F (by decide) (K := 8) (b := a0) [(2, 0)] [0] ml_RX8_151 wi_X8_holds ws_X8_holds (c_X8_holds a0 0 (Int.not_lt.mp (Int.not_lt.mpr h0))) mi_X8_holds (by decide) ⟨_, rfl, rfl⟩ (Int.not_lt.mp (Int.not_lt.mpr h0)) rfl rfl rfl (Nat.le_of_ble_eq_true rfl) (Nat.le_of_ble_eq_true rfl) (Nat.le_of_ble_eq_true rfl) (Nat.le_of_ble_eq_true rfl) (Nat.le_of_ble_eq_true rfl) dX8_lend_112 (fun z30 v30 hz30 => ?_)
                refine g_if_ne F rfl (tgt := 120) rfl dX8_lend_115 (fun n31 => ?_) (fun n31 => ?_)
                · refine g_aload_n F rfl 2 rfl dX8_lend_120 ?_
                  refine g_get F (t := 87) (sI := 37) fl_RX8_105 rfl rfl (Int.not_lt.mp (Int.not_lt.mpr h0)) dX8_lend_121 ?_
                  refine g_aload_n F rfl 2 rfl dX8_lend_124 ?_
                  refine g_get F (t := 0) (sI := 36) fl_RX8_143 rfl rfl (Int.not_lt.mp (Int.not_lt.mpr h0)) dX8_lend_125 ?_
                  refine g_aload_n F rfl 2 rfl dX8_lend_128 ?_
                  refine g_get F (t := 73) (sI := 23) fl_RX8_66 rfl rfl (Int.not_lt.mp (Int.not_lt.mpr h0)) dX8_lend_129 ?_
                  refine g_iload_n F rfl 3 rfl rfl dX8_lend_132 ?_
                  refine g_chk (fun n32 => ?_)
                  refine h_iald F (n := 60) ak_63 (Int.not_lt.mp (Int.not_lt.mpr n32)) n22 rfl dX8_lend_133 ?_
                  refine g_chk (fun n33 => ?_)
                  refine g_chk (fun n34 => ?_)
                  refine h_iast F (n := 20) ak_77 rfl (Int.not_lt.mp (Int.not_lt.mpr n33)) n34 rfl dX8_lend_134 (fun v35 => ?_)
                  refine g_aload_n F rfl 2 rfl dX8_lend_135 ?_
                  refine g_get F (t := 88) (sI := 38) fl_RX8_108 rfl rfl (Int.not_lt.mp (Int.not_lt.mpr h0)) dX8_lend_136 ?_
                  refine g_aload_n F rfl 2 rfl dX8_lend_139 ?_
                  refine g_get F (t := 0) (sI := 36) fl_RX8_143 rfl rfl (Int.not_lt.mp (Int.not_lt.mpr h0)) dX8_lend_140 ?_
                  refine g_iload_n F rfl 4 rfl rfl dX8_lend_143 ?_
                  refine g_chk (fun n36 => ?_)
                  refine g_chk (fun n37 => ?_)
                  refine h_iast F (n := 20) ak_78 rfl (Int.not_lt.mp (Int.not_lt.mpr n36)) n37 rfl dX8_lend_144 (fun v38 => ?_)
                  refine g_aload_n F rfl 2 rfl dX8_lend_145 ?_
                  refine g_get F (t := 89) (sI := 39) fl_RX8_111 rfl rfl (Int.not_lt.mp (Int.not_lt.mpr h0)) dX8_lend_146 ?_
                  refine g_aload_n F rfl 2 rfl dX8_lend_149 ?_
                  refine g_get F (t := 0) (sI := 36) fl_RX8_143 rfl rfl (Int.not_lt.mp (Int.not_lt.mpr h0)) dX8_lend_150 ?_
                  refine g_iload_n F rfl 5 rfl rfl dX8_lend_153 ?_
                  refine g_chk (fun n39 => ?_)
                  refine g_chk (fun n40 => ?_)
                  refine h_iast F (n := 20) ak_79 rfl (Int.not_lt.mp (Int.not_lt.mpr n39)) n40 rfl dX8_lend_154 (fun v41 => ?_)
                  refine g_aload_n F rfl 2 rfl dX8_lend_155 ?_
                  refine g_get F (t := 90) (sI := 40) fl_RX8_114 rfl rfl (Int.not_lt.mp (Int.not_lt.mpr h0)) dX8_lend_156 ?_
                  refine g_aload_n F rfl 2 rfl dX8_lend_159 ?_
                  refine g_get F (t := 0) (sI := 36) fl_RX8_143 rfl rfl (Int.not_lt.mp (Int.not_lt.mpr h0)) dX8_lend_160 ?_
                  refine g_iload F 6 rfl rfl dX8_lend_163 ?_
                  refine g_chk (fun n42 => ?_)
                  refine g_chk (fun n43 => ?_)
                  refine h_iast F (n := 20) ak_80 rfl (Int.not_lt.mp (Int.not_lt.mpr n42)) n43 rfl dX8_lend_165 (fun v44 => ?_)
                  refine g_aload_n F rfl 2 rfl dX8_lend_166 ?_
                  refine g_get F (t := 91) (sI := 41) fl_RX8_117 rfl rfl (Int.not_lt.mp (Int.not_lt.mpr h0)) dX8_lend_167 ?_
                  refine g_aload_n F rfl 2 rfl dX8_lend_170 ?_
                  refine g_get F (t := 0) (sI := 36) fl_RX8_143 rfl rfl (Int.not_lt.mp (Int.not_lt.mpr h0)) dX8_lend_171 ?_
                  refine g_aload_n F rfl 2 rfl dX8_lend_174 ?_
                  refine g_get F (t := 0) (sI := 1) fl_RX8_164 rfl rfl (Int.not_lt.mp (Int.not_lt.mpr h0)) dX8_lend_175 ?_
                  refine g_chk (fun n45 => ?_)
                  refine g_chk (fun n46 => ?_)
                  refine h_iast F (n := 20) ak_81 rfl (Int.not_lt.mp (Int.not_lt.mpr n45)) n46 rfl dX8_lend_178 (fun v47 => ?_)
                  refine g_aload_n F rfl 2 rfl dX8_lend_179 ?_
                  refine g_get F (t := 92) (sI := 42) fl_RX8_120 rfl rfl (Int.not_lt.mp (Int.not_lt.mpr h0)) dX8_lend_180 ?_
                  refine g_aload_n F rfl 2 rfl dX8_lend_183 ?_
                  refine g_get F (t := 0) (sI := 36) fl_RX8_143 rfl rfl (Int.not_lt.mp (Int.not_lt.mpr h0)) dX8_lend_184 ?_
                  refine g_aload_n F rfl 2 rfl dX8_lend_187 ?_
                  refine g_get F (t := 0) (sI := 1) fl_RX8_164 rfl rfl (Int.not_lt.mp (Int.not_lt.mpr h0)) dX8_lend_188 ?_
                  refine g_iload F 7 rfl rfl dX8_lend_191 ?_
                  refine g_iadd F rfl rfl dX8_lend_193 ?_
                  refine g_chk (fun n48 => ?_)
                  refine g_chk (fun n49 => ?_)
                  refine h_iast F (n := 20) ak_82 rfl (Int.not_lt.mp (Int.not_lt.mpr n48)) n49 rfl dX8_lend_194 (fun v50 => ?_)
                  refine g_aload_n F rfl 2 rfl dX8_lend_195 ?_
                  refine g_get F (t := 53) (sI := 3) fl_RX8_7 rfl rfl (Int.not_lt.mp (Int.not_lt.mpr h0)) dX8_lend_196 ?_
                  refine g_iload_n F rfl 4 rfl rfl dX8_lend_199 ?_
                  refine g_dup2 F rfl rfl dX8_lend_200 ?_
                  refine g_chk (fun n51 => ?_)
                  refine g_chk (fun n52 => ?_)
                  refine h_lald F (n := 10) ak_43 (Int.not_lt.mp (Int.not_lt.mpr n51)) n52 rfl dX8_lend_201 ?_
                  refine g_iload_n F rfl 5 rfl rfl dX8_lend_202 ?_
                  refine g_i2l F rfl dX8_lend_203 ?_
                  refine g_lsub F dX8_lend_204 ?_
                  refine h_last F (n := 10) ak_43 rfl (Int.not_lt.mp (Int.not_lt.mpr n51)) n52 rfl dX8_lend_205 (fun v53 => ?_)
                  refine g_aload_n F rfl 2 rfl dX8_lend_206 ?_
                  refine g_get F (t := 53) (sI := 3) fl_RX8_7 rfl rfl (Int.not_lt.mp (Int.not_lt.mpr h0)) dX8_lend_207 ?_
                  refine g_aload_n F rfl 2 rfl dX8_lend_210 ?_
                  refine g_get F (t := 73) (sI := 23) fl_RX8_66 rfl rfl (Int.not_lt.mp (Int.not_lt.mpr h0)) dX8_lend_211 ?_
                  refine g_iload_n F rfl 3 rfl rfl dX8_lend_214 ?_
                  refine g_chk (fun n54 => ?_)
                  refine h_iald F (n := 60) ak_63 (Int.not_lt.mp (Int.not_lt.mpr n54)) n22 rfl dX8_lend_215 ?_
                  refine g_dup2 F rfl rfl dX8_lend_216 ?_
                  refine g_chk (fun n55 => ?_)
                  refine g_chk (fun n56 => ?_)
                  refine h_lald F (n := 10) ak_43 (Int.not_lt.mp (Int.not_lt.mpr n55)) n56 rfl dX8_lend_217 ?_
                  refine g_iload_n F rfl 5 rfl rfl dX8_lend_218 ?_
                  refine g_i2l F rfl dX8_lend_219 ?_
                  refine g_ladd F dX8_lend_220 ?_
                  refine h_last F (n := 10) ak_43 rfl (Int.not_lt.mp (Int.not_lt.mpr n55)) n56 rfl dX8_lend_221 (fun v57 => ?_)
                  refine g_aload_n F rfl 2 rfl dX8_lend_222 ?_
                  refine g_get F (t := 75) (sI := 25) fl_RX8_72 rfl rfl (Int.not_lt.mp (Int.not_lt.mpr h0)) dX8_lend_223 ?_
                  refine g_iload_n F rfl 3 rfl rfl dX8_lend_226 ?_
                  refine g_aload_n F rfl 2 rfl dX8_lend_227 ?_
                  refine g_get F (t := 0) (sI := 36) fl_RX8_143 rfl rfl (Int.not_lt.mp (Int.not_lt.mpr h0)) dX8_lend_228 ?_
                  refine g_chk (fun n58 => ?_)
                  refine h_iast F (n := 60) ak_65 rfl (Int.not_lt.mp (Int.not_lt.mpr n58)) n22 rfl dX8_lend_231 (fun v59 => ?_)
                  refine g_aload_n F rfl 2 rfl dX8_lend_232 ?_
                  refine g_dup F rfl dX8_lend_233 ?_
                  refine g_get F (t := 0) (sI := 36) fl_RX8_143 rfl rfl (Int.not_lt.mp (Int.not_lt.mpr h0)) dX8_lend_234 ?_
                  refine g_iconst F 2 rfl dX8_lend_237 ?_
                  refine g_iadd F rfl rfl dX8_lend_238 ?_
                  refine h_put F (sI := 36) fl_RX8_143 ⟨_, rfl, Or.inl rfl⟩ rfl rfl (Int.not_lt.mp (Int.not_lt.mpr h0)) dX8_lend_239 (fun v60 => ?_)
                  refine g_aload_n F rfl 2 rfl dX8_lend_242 ?_
                  refine g_get F (t := 0) (sI := 36) fl_RX8_143 rfl rfl (Int.not_lt.mp (Int.not_lt.mpr h0)) dX8_lend_243 ?_
                  refine g_iconst F 2 rfl dX8_lend_246 ?_
                  refine g_isub F rfl rfl dX8_lend_247 ?_
                  exact g_ireturn F rfl rfl rfl rfl (Nat.le_of_ble_eq_true rfl) (Nat.le_of_ble_eq_true rfl) dX8_lend_248
                · exact g_none
theorem c_X8_lend (a0 a1 a2 a3 a4 a5 : Int) (h0 : 0 ≤ a0) : ∀ l, Ct l yX8_lend cX8_lend 8 (some .int) ({ frames := 4, cells := 0, slots := 0, locals := 93 }) (some 0) [(18, a0), (0, a1), (0, a2), (0, a3), (0, a4), (0, a5)] (sp_X8_lend a0 a1 a2 a3 a4 a5) := g_method (by decide +kernel) (Nat.le_of_ble_eq_true rfl) (fun x v F ho => k_X8_lend a0 a1 a2 a3 a4 a5 h0 x v F ho)
def sp_X8_owed (a0 a1 : Int) (v : V) : Res := (chk (0 ≤ (v 8 a0 39)) (chk (0 ≤ a1 ∧ a1 < 20) (chk (0 ≤ (v 8 a0 40)) (chk (0 ≤ (v 8 a0 41)) (chk (0 ≤ (v 8 a0 43)) (if (v 83 (v 8 a0 43) a1) = 0 then (rOk (w64 ((v 79 (v 8 a0 39) a1) + (w64 ((w64 ((w64 ((v 79 (v 8 a0 39) a1) * (v 80 (v 8 a0 40) a1))) * (w32 ((v 8 a0 1) - (v 81 (v 8 a0 41) a1))))).tdiv 10000)))) v)
   else (rOk 0 v)))))))
set_option maxRecDepth 100000 in
set_option maxHeartbeats 4000000 in
theorem k_X8_owed (a0 a1 : Int) (h0 : 0 ≤ a0) (x : Cx) (v : V) (F : Fx x cX8_owed RX8 "owed" ({ frames := 0, cells := 0, slots := 0, locals := 0 }) 4 (some 1) (some .long) 0) (ho : ∀ a ∈ [(18, a0), (0, a1)], okv v a) : Gs x (sp_X8_owed a0 a1 v) v 0 0 0 (avArgs 0 [(18, a0), (0, a1)]) [] := by
  show Gs x _ v 0 0 0 [(0, (18, a0)), (1, (0, a1))] []
  unfold sp_X8_owed
  refine g_aload_n F rfl 0 rfl dX8_owed_0 ?_
  refine g_get F (t := 89) (sI := 39) fl_RX8_111 rfl rfl (Int.not_lt.mp (Int.not_lt.mpr h0)) dX8_owed_1 ?_
  refine g_iload_n F rfl 1 rfl rfl dX8_owed_4 ?_
  refine g_chk (fun n1 => ?_)
  refine g_chk (fun n2 => ?_)
  refine h_iald F (n := 20) ak_79 (Int.not_lt.mp (Int.not_lt.mpr n1)) n2 rfl dX8_owed_5 ?_
  refine g_i2l F rfl dX8_owed_6 ?_
  refine g_aload_n F rfl 0 rfl dX8_owed_7 ?_
  refine g_get F (t := 90) (sI := 40) fl_RX8_114 rfl rfl (Int.not_lt.mp (Int.not_lt.mpr h0)) dX8_owed_8 ?_
  refine g_iload_n F rfl 1 rfl rfl dX8_owed_11 ?_
  refine g_chk (fun n3 => ?_)
  refine h_iald F (n := 20) ak_80 (Int.not_lt.mp (Int.not_lt.mpr n3)) n2 rfl dX8_owed_12 ?_
  refine g_i2l F rfl dX8_owed_13 ?_
  refine g_lmul F dX8_owed_14 ?_
  refine g_aload_n F rfl 0 rfl dX8_owed_15 ?_
  refine g_get F (t := 0) (sI := 1) fl_RX8_164 rfl rfl (Int.not_lt.mp (Int.not_lt.mpr h0)) dX8_owed_16 ?_
  refine g_aload_n F rfl 0 rfl dX8_owed_19 ?_
  refine g_get F (t := 91) (sI := 41) fl_RX8_117 rfl rfl (Int.not_lt.mp (Int.not_lt.mpr h0)) dX8_owed_20 ?_
  refine g_iload_n F rfl 1 rfl rfl dX8_owed_23 ?_
  refine g_chk (fun n4 => ?_)
  refine h_iald F (n := 20) ak_81 (Int.not_lt.mp (Int.not_lt.mpr n4)) n2 rfl dX8_owed_24 ?_
  refine g_isub F rfl rfl dX8_owed_25 ?_
  refine g_i2l F rfl dX8_owed_26 ?_
  refine g_lmul F dX8_owed_27 ?_
  refine g_ldc2 F rfl cn_RX8_218 dX8_owed_28 ?_
  refine g_ldiv F (by decide) dX8_owed_31 ?_
  refine g_lstore_n F rfl (Nat.le_of_ble_eq_true rfl) (ls' := [(2, (1, (w64 ((w64 ((w64 ((v 79 (v 8 a0 39) a1) * (v 80 (v 8 a0 40) a1))) * (w32 ((v 8 a0 1) - (v 81 (v 8 a0 41) a1))))).tdiv 10000)))), (0, (18, a0)), (1, (0, a1))]) rfl dX8_owed_32 ?_
  refine g_aload_n F rfl 1 rfl dX8_owed_33 ?_
  refine g_get F (t := 93) (sI := 43) fl_RX8_123 rfl rfl (Int.not_lt.mp (Int.not_lt.mpr h0)) dX8_owed_34 ?_
  refine g_iload_n F rfl 2 rfl rfl dX8_owed_37 ?_
  refine g_chk (fun n5 => ?_)
  refine h_zald F (n := 20) ak_83 (Int.not_lt.mp (Int.not_lt.mpr n5)) n2 rfl dX8_owed_38 ?_
  refine g_if_eq F rfl (tgt := 46) rfl dX8_owed_39 (fun n6 => ?_) (fun n6 => ?_)
  · refine g_aload_n F rfl 1 rfl dX8_owed_46 ?_
    refine g_get F (t := 89) (sI := 39) fl_RX8_111 rfl rfl (Int.not_lt.mp (Int.not_lt.mpr h0)) dX8_owed_47 ?_
    refine g_iload_n F rfl 2 rfl rfl dX8_owed_50 ?_
    refine h_iald F (n := 20) ak_79 (Int.not_lt.mp (Int.not_lt.mpr n1)) n2 rfl dX8_owed_51 ?_
    refine g_i2l F rfl dX8_owed_52 ?_
    refine g_lload_n F rfl 0 rfl dX8_owed_53 ?_
    refine g_ladd F dX8_owed_54 ?_
    exact g_lreturn F rfl (Nat.le_of_ble_eq_true rfl) (Nat.le_of_ble_eq_true rfl) dX8_owed_55
  · refine g_lconst F (z := 0) rfl dX8_owed_42 ?_
    refine g_goto F (tgt := 55) rfl dX8_owed_43 ?_
    exact g_lreturn F rfl (Nat.le_of_ble_eq_true rfl) (Nat.le_of_ble_eq_true rfl) dX8_owed_55
theorem c_X8_owed (a0 a1 : Int) (h0 : 0 ≤ a0) : ∀ l, Ct l yX8_owed cX8_owed 4 (some .long) ({ frames := 0, cells := 0, slots := 0, locals := 0 }) (some 1) [(18, a0), (0, a1)] (sp_X8_owed a0 a1) := g_method (by decide +kernel) (Nat.le_of_ble_eq_true rfl) (fun x v F ho => k_X8_owed a0 a1 h0 x v F ho)
def lp_X8_goesAway_9 (l0 l1 : Int) (k : V → Int → Res) : Nat → V → Int → Res
  | 0, _, _ => none
  | n + 1, v, l2 => (if (v 8 l0 21) ≤ l2 then (k v l2)
   else (chk (0 ≤ (v 8 l0 25)) (chk (0 ≤ l2 ∧ l2 < 60) (if ¬ (v 65 (v 8 l0 25) l2) = l1 then (rLet (up v 65 (v 8 l0 25) l2 (v 65 (v 8 l0 25) l2)) (fun v8 => (lp_X8_goesAway_9 l0 l1 k n v8 (w32 (l2 + 1)))))
   else (rLet (up v 65 (v 8 l0 25) l2 (-1)) (fun v9 => (lp_X8_goesAway_9 l0 l1 k n v9 (w32 (l2 + 1)))))))))
set_option maxRecDepth 100000 in
set_option maxHeartbeats 4000000 in
theorem kl_X8_goesAway_9 {l0 l1 : Int} (h0 : 0 ≤ l0) {x : Cx} (F : Fx x cX8_goesAway RX8 "goesAway" ({ frames := 0, cells := 0, slots := 0, locals := 0 }) 3 none none 0) {k : V → Int → Res} (hk : ∀ (v : V) (l2 : Int), Gs x (k v l2) v 0 0 49 [(0, (18, l0)), (1, (0, l1)), (2, (0, l2))] []) : ∀ (n : Nat) (v : V) (l2 : Int), Gs x (lp_X8_goesAway_9 l0 l1 k n v l2) v 0 0 9 [(0, (18, l0)), (1, (0, l1)), (2, (0, l2))] [] := by
  intro n
  induction n with
  | zero => intro v l2; exact g_none
  | succ n ih =>
    intro v l2
    rw [lp_X8_goesAway_9]
    refine g_iload_n F rfl 2 rfl rfl dX8_goesAway_9 ?_
    refine g_aload_n F rfl 0 rfl dX8_goesAway_10 ?_
    refine g_get F (t := 0) (sI := 21) fl_RX8_140 rfl rfl (Int.not_lt.mp (Int.not_lt.mpr h0)) dX8_goesAway_11 ?_
    refine g_icmp_ge F rfl rfl (tgt := 49) rfl dX8_goesAway_14 (fun n4 => ?_) (fun n4 => ?_)
    · refine g_loc [(0, 18), (1, 0), (2, 0)] rfl ?_
      exact hk v l2
    · refine g_aload_n F rfl 0 rfl dX8_goesAway_17 ?_
      refine g_get F (t := 75) (sI := 25) fl_RX8_72 rfl rfl (Int.not_lt.mp (Int.not_lt.mpr h0)) dX8_goesAway_18 ?_
      refine g_iload_n F rfl 2 rfl rfl dX8_goesAway_21 ?_
      refine g_aload_n F rfl 0 rfl dX8_goesAway_22 ?_
      refine g_get F (t := 75) (sI := 25) fl_RX8_72 rfl rfl (Int.not_lt.mp (Int.not_lt.mpr h0)) dX8_goesAway_23 ?_
      refine g_iload_n F rfl 2 rfl rfl dX8_goesAway_26 ?_
      refine g_chk (fun n5 => ?_)
      refine g_chk (fun n6 => ?_)
      refine h_iald F (n := 60) ak_65 (Int.not_lt.mp (Int.not_lt.mpr n5)) n6 rfl dX8_goesAway_27 ?_
      refine g_iload_n F rfl 1 rfl rfl dX8_goesAway_28 ?_
      refine g_icmp_ne F rfl rfl (tgt := 36) rfl dX8_goesAway_29 (fun n7 => ?_) (fun n7 => ?_)
      · refine g_aload_n F rfl 0 rfl dX8_goesAway_36 ?_
        refine g_get F (t := 75) (sI := 25) fl_RX8_72 rfl rfl (Int.not_lt.mp (Int.not_lt.mpr h0)) dX8_goesAway_37 ?_
        refine g_iload_n F rfl 2 rfl rfl dX8_goesAway_40 ?_
        refine h_iald F (n := 60) ak_65 (Int.not_lt.mp (Int.not_lt.mpr n5)) n6 rfl dX8_goesAway_41 ?_
        refine h_iast F (n := 60) ak_65 rfl (Int.not_lt.mp (Int.not_lt.mpr n5)) n6 rfl dX8_goesAway_42 (fun v8 => ?_)
        refine g_iinc F 2 rfl rfl (Nat.le_of_ble_eq_true rfl) (ls' := [(2, (0, (w32 (l2 + 1)))), (0, (18, l0)), (1, (0, l1))]) rfl dX8_goesAway_43 ?_
        refine g_goto F (tgt := 9) rfl dX8_goesAway_46 ?_
        refine g_loc [(1, 18), (2, 0), (0, 0)] rfl ?_
        exact ih v8 (w32 (l2 + 1))
      · refine g_iconst F 0 rfl dX8_goesAway_32 ?_
        refine g_goto F (tgt := 42) rfl dX8_goesAway_33 ?_
        refine h_iast F (n := 60) ak_65 rfl (Int.not_lt.mp (Int.not_lt.mpr n5)) n6 rfl dX8_goesAway_42 (fun v9 => ?_)
        refine g_iinc F 2 rfl rfl (Nat.le_of_ble_eq_true rfl) (ls' := [(2, (0, (w32 (l2 + 1)))), (0, (18, l0)), (1, (0, l1))]) rfl dX8_goesAway_43 ?_
        refine g_goto F (tgt := 9) rfl dX8_goesAway_46 ?_
        refine g_loc [(1, 18), (2, 0), (0, 0)] rfl ?_
        exact ih v9 (w32 (l2 + 1))
def sp_X8_goesAway (a0 a1 : Int) (v : V) : Res := (chk (0 ≤ (v 8 a0 43)) (chk (0 ≤ a1 ∧ a1 < 20) (rLet (up v 83 (v 8 a0 43) a1 1) (fun v3 => (lp_X8_goesAway_9 a0 a1 (fun v10 u10_2 => (rOk 0 v10)) 200 v3 0)))))
set_option maxRecDepth 100000 in
set_option maxHeartbeats 4000000 in
theorem k_X8_goesAway (a0 a1 : Int) (h0 : 0 ≤ a0) (x : Cx) (v : V) (F : Fx x cX8_goesAway RX8 "goesAway" ({ frames := 0, cells := 0, slots := 0, locals := 0 }) 3 none none 0) (ho : ∀ a ∈ [(18, a0), (0, a1)], okv v a) : Gs x (sp_X8_goesAway a0 a1 v) v 0 0 0 (avArgs 0 [(18, a0), (0, a1)]) [] := by
  show Gs x _ v 0 0 0 [(0, (18, a0)), (1, (0, a1))] []
  unfold sp_X8_goesAway
  refine g_aload_n F rfl 0 rfl dX8_goesAway_0 ?_
  refine g_get F (t := 93) (sI := 43) fl_RX8_123 rfl rfl (Int.not_lt.mp (Int.not_lt.mpr h0)) dX8_goesAway_1 ?_
  refine g_iload_n F rfl 1 rfl rfl dX8_goesAway_4 ?_
  refine g_iconst F 2 rfl dX8_goesAway_5 ?_
  refine g_chk (fun n1 => ?_)
  refine g_chk (fun n2 => ?_)
  refine h_zast F (n := 20) ak_83 rfl (Int.not_lt.mp (Int.not_lt.mpr n1)) n2 rfl dX8_goesAway_6 (fun v3 => ?_)
  refine g_iconst F 2 rfl dX8_goesAway_7 ?_
  refine g_istore_n F rfl rfl (Nat.le_of_ble_eq_true rfl) (ls' := [(2, (2, 0)), (0, (18, a0)), (1, (0, a1))]) rfl dX8_goesAway_8 ?_
  refine g_loc [(1, 18), (2, 0), (0, 0)] rfl ?_
  refine kl_X8_goesAway_9 (Int.not_lt.mp (Int.not_lt.mpr h0)) F (fun v10 u10_2 => ?_) 200 v3 0
  exact g_return F rfl (Nat.le_of_ble_eq_true rfl) (Nat.le_of_ble_eq_true rfl) dX8_goesAway_49
theorem c_X8_goesAway (a0 a1 : Int) (h0 : 0 ≤ a0) : ∀ l, Ct l yX8_goesAway cX8_goesAway 3 none ({ frames := 0, cells := 0, slots := 0, locals := 0 }) none [(18, a0), (0, a1)] (sp_X8_goesAway a0 a1) := g_method (by decide +kernel) (Nat.le_of_ble_eq_true rfl) (fun x v F ho => k_X8_goesAway a0 a1 h0 x v F ho)
def sp_X8_repay (a0 a1 : Int) (v : V) : Res := (rB (sp_X8_isLoan a0 a1 v) (fun z1 v1 => (if z1 = 0 then (rB (sp_X8_holds a0 1 v1) (fun z3 v3 => (if ¬ z3 = 0 then none
   else (rOk 0 v3))))
   else (chk (0 ≤ (v1 8 a0 43)) (chk (0 ≤ a1 ∧ a1 < 20) (if ¬ (v1 83 (v1 8 a0 43) a1) = 0 then (rB (sp_X8_holds a0 2 v1) (fun z8 v8 => (if ¬ z8 = 0 then none
   else (rOk 0 v8))))
   else (chk (0 ≤ (v1 8 a0 37)) (chk (0 ≤ (v1 8 a0 5)) (chk (0 ≤ (v1 77 (v1 8 a0 37) a1) ∧ (v1 77 (v1 8 a0 37) a1) < 10) (if ¬ (v1 45 (v1 8 a0 5) (v1 77 (v1 8 a0 37) a1)) = 0 then (rB (sp_X8_holds a0 2 v1) (fun z14 v14 => (if ¬ z14 = 0 then none
   else (rOk 0 v14))))
   else (chk (0 ≤ (v1 8 a0 3)) (rB (sp_X8_owed a0 a1 v1) (fun z17 v17 => (if (lcmp (v1 43 (v1 8 a0 3) (v1 77 (v1 8 a0 37) a1)) z17) < 0 then (rB (sp_X8_holds a0 2 v17) (fun z19 v19 => (if ¬ z19 = 0 then none
   else (rOk 0 v19))))
   else (rB (sp_X8_holds a0 0 v17) (fun z21 v21 => (if ¬ z21 = 0 then (rB (sp_X8_owed a0 a1 v21) (fun z23 v23 => (chk (0 ≤ (v23 8 a0 37)) (chk (0 ≤ (v23 8 a0 3)) (chk (0 ≤ (v23 77 (v23 8 a0 37) a1) ∧ (v23 77 (v23 8 a0 37) a1) < 10) (rLet (up v23 43 (v23 8 a0 3) (v23 77 (v23 8 a0 37) a1) (w64 ((v23 43 (v23 8 a0 3) (v23 77 (v23 8 a0 37) a1)) - z23))) (fun v27 => (chk (0 ≤ (v27 8 a0 38)) (chk (0 ≤ (v27 8 a0 3)) (chk (0 ≤ (v27 78 (v27 8 a0 38) a1) ∧ (v27 78 (v27 8 a0 38) a1) < 10) (rLet (up v27 43 (v27 8 a0 3) (v27 78 (v27 8 a0 38) a1) (w64 ((v27 43 (v27 8 a0 3) (v27 78 (v27 8 a0 38) a1)) + z23))) (fun v31 => (rB (sp_X8_goesAway a0 a1 v31) (fun z32 v32 => (rOk (w32 z23) v32)))))))))))))))
   else none)))))))))))))))))
set_option maxRecDepth 100000 in
set_option maxHeartbeats 4000000 in
theorem k_X8_repay (a0 a1 : Int) (h0 : 0 ≤ a0) (x : Cx) (v : V) (F : Fx x cX8_repay RX8 "repay" ({ frames := 2, cells := 0, slots := 0, locals := 43 }) 6 (some 0) (some .int) 0) (ho : ∀ a ∈ [(18, a0), (0, a1)], okv v a) : Gs x (sp_X8_repay a0 a1 v) v 0 0 0 (avArgs 0 [(18, a0), (0, a1)]) [] := by
  show Gs x _ v 0 0 0 [(0, (18, a0)), (1, (0, a1))] []
  unfold sp_X8_repay
  refine g_aload_n F rfl 0 rfl dX8_repay_0 ?_
  refine g_iload_n F rfl 1 rfl rfl dX8_repay_1 ?_
  refine g_callV F (by decide) (K := 8) (b := a0) [(0, a1)] [0] ml_RX8_220 wi_X8_isLoan ws_X8_isLoan (c_X8_isLoan a0 a1 (Int.not_lt.mp (Int.not_lt.mpr h0))) mi_X8_isLoan (by decide) ⟨_, rfl, rfl⟩ (Int.not_lt.mp (Int.not_lt.mpr h0)) rfl rfl rfl (Nat.le_of_ble_eq_true rfl) (Nat.le_of_ble_eq_true rfl) (Nat.le_of_ble_eq_true rfl) (Nat.le_of_ble_eq_true rfl) (Nat.le_of_ble_eq_true rfl) dX8_repay_2 (fun z1 v1 hz1 => ?_)
  refine g_istore_n F rfl rfl (Nat.le_of_ble_eq_true rfl) (ls' := [(2, (2, z1)), (0, (18, a0)), (1, (0, a1))]) rfl dX8_repay_5 ?_
  refine g_iload_n F rfl 0 rfl rfl dX8_repay_6 ?_
  refine g_if_eq F rfl (tgt := 57) rfl dX8_repay_7 (fun n2 => ?_) (fun n2 => ?_)
  · refine g_iconst F 2 rfl dX8_repay_57 ?_
    refine g_istore_n F rfl rfl (Nat.le_of_ble_eq_true rfl) (ls' := [(3, (2, 0)), (2, (2, z1)), (0, (18, a0)), (1, (0, a1))]) rfl dX8_repay_58 ?_
    refine g_aload_n F rfl 2 rfl dX8_repay_59 ?_
    refine g_iload_n F rfl 1 rfl rfl dX8_repay_60 ?_
    refine g_if_ne_f F rfl (fun q => q n2) (tgt := 68) rfl dX8_repay_61 ?_
    refine g_iconst F 2 rfl dX8_repay_64 ?_
    refine g_goto F (tgt := 77) rfl dX8_repay_65 ?_
    refine g_callV F (by decide) (K := 8) (b := a0) [(2, 1)] [0] ml_RX8_151 wi_X8_holds ws_X8_holds (c_X8_holds a0 1 (Int.not_lt.mp (Int.not_lt.mpr h0))) mi_X8_holds (by decide) ⟨_, rfl, rfl⟩ (Int.not_lt.mp (Int.not_lt.mpr h0)) rfl rfl rfl (Nat.le_of_ble_eq_true rfl) (Nat.le_of_ble_eq_true rfl) (Nat.le_of_ble_eq_true rfl) (Nat.le_of_ble_eq_true rfl) (Nat.le_of_ble_eq_true rfl) dX8_repay_77 (fun z3 v3 hz3 => ?_)
    refine g_if_ne F rfl (tgt := 85) rfl dX8_repay_80 (fun n4 => ?_) (fun n4 => ?_)
    · exact g_none
    · refine g_iconst F 2 rfl dX8_repay_83 ?_
      exact g_ireturn F rfl rfl rfl rfl (Nat.le_of_ble_eq_true rfl) (Nat.le_of_ble_eq_true rfl) dX8_repay_84
  · refine g_aload_n F rfl 1 rfl dX8_repay_10 ?_
    refine g_get F (t := 93) (sI := 43) fl_RX8_123 rfl rfl (Int.not_lt.mp (Int.not_lt.mpr h0)) dX8_repay_11 ?_
    refine g_iload_n F rfl 2 rfl rfl dX8_repay_14 ?_
    refine g_chk (fun n5 => ?_)
    refine g_chk (fun n6 => ?_)
    refine h_zald F (n := 20) ak_83 (Int.not_lt.mp (Int.not_lt.mpr n5)) n6 rfl dX8_repay_15 ?_
    refine g_if_ne F rfl (tgt := 57) rfl dX8_repay_16 (fun n7 => ?_) (fun n7 => ?_)
    · refine g_iconst F 2 rfl dX8_repay_57 ?_
      refine g_istore_n F rfl rfl (Nat.le_of_ble_eq_true rfl) (ls' := [(3, (2, 0)), (2, (2, z1)), (0, (18, a0)), (1, (0, a1))]) rfl dX8_repay_58 ?_
      refine g_aload_n F rfl 2 rfl dX8_repay_59 ?_
      refine g_iload_n F rfl 1 rfl rfl dX8_repay_60 ?_
      refine g_if_ne_t F rfl n2 (tgt := 68) rfl dX8_repay_61 ?_
      refine g_iload_n F rfl 0 rfl rfl dX8_repay_68 ?_
      refine g_if_eq_t F rfl (by decide) (tgt := 76) rfl dX8_repay_69 ?_
      refine g_iconst F 0 rfl dX8_repay_76 ?_
      refine g_callV F (by decide) (K := 8) (b := a0) [(0, 2)] [0] ml_RX8_151 wi_X8_holds ws_X8_holds (c_X8_holds a0 2 (Int.not_lt.mp (Int.not_lt.mpr h0))) mi_X8_holds (by decide) ⟨_, rfl, rfl⟩ (Int.not_lt.mp (Int.not_lt.mpr h0)) rfl rfl rfl (Nat.le_of_ble_eq_true rfl) (Nat.le_of_ble_eq_true rfl) (Nat.le_of_ble_eq_true rfl) (Nat.le_of_ble_eq_true rfl) (Nat.le_of_ble_eq_true rfl) dX8_repay_77 (fun z8 v8 hz8 => ?_)
      refine g_if_ne F rfl (tgt := 85) rfl dX8_repay_80 (fun n9 => ?_) (fun n9 => ?_)
      · exact g_none
      · refine g_iconst F 2 rfl dX8_repay_83 ?_
        exact g_ireturn F rfl rfl rfl rfl (Nat.le_of_ble_eq_true rfl) (Nat.le_of_ble_eq_true rfl) dX8_repay_84
    · refine g_aload_n F rfl 1 rfl dX8_repay_19 ?_
      refine g_get F (t := 55) (sI := 5) fl_RX8_17 rfl rfl (Int.not_lt.mp (Int.not_lt.mpr h0)) dX8_repay_20 ?_
      refine g_aload_n F rfl 1 rfl dX8_repay_23 ?_
      refine g_get F (t := 87) (sI := 37) fl_RX8_105 rfl rfl (Int.not_lt.mp (Int.not_lt.mpr h0)) dX8_repay_24 ?_
      refine g_iload_n F rfl 2 rfl rfl dX8_repay_27 ?_
      refine g_chk (fun n10 => ?_)
      refine h_iald F (n := 20) ak_77 (Int.not_lt.mp (Int.not_lt.mpr n10)) n6 rfl dX8_repay_28 ?_
      refine g_chk (fun n11 => ?_)
      refine g_chk (fun n12 => ?_)
      refine h_zald F (n := 10) ak_45 (Int.not_lt.mp (Int.not_lt.mpr n11)) n12 rfl dX8_repay_29 ?_
      refine g_if_ne F rfl (tgt := 57) rfl dX8_repay_30 (fun n13 => ?_) (fun n13 => ?_)
      · refine g_iconst F 2 rfl dX8_repay_57 ?_
        refine g_istore_n F rfl rfl (Nat.le_of_ble_eq_true rfl) (ls' := [(3, (2, 0)), (2, (2, z1)), (0, (18, a0)), (1, (0, a1))]) rfl dX8_repay_58 ?_
        refine g_aload_n F rfl 2 rfl dX8_repay_59 ?_
        refine g_iload_n F rfl 1 rfl rfl dX8_repay_60 ?_
        refine g_if_ne_t F rfl n2 (tgt := 68) rfl dX8_repay_61 ?_
        refine g_iload_n F rfl 0 rfl rfl dX8_repay_68 ?_
        refine g_if_eq_t F rfl (by decide) (tgt := 76) rfl dX8_repay_69 ?_
        refine g_iconst F 0 rfl dX8_repay_76 ?_
        refine g_callV F (by decide) (K := 8) (b := a0) [(0, 2)] [0] ml_RX8_151 wi_X8_holds ws_X8_holds (c_X8_holds a0 2 (Int.not_lt.mp (Int.not_lt.mpr h0))) mi_X8_holds (by decide) ⟨_, rfl, rfl⟩ (Int.not_lt.mp (Int.not_lt.mpr h0)) rfl rfl rfl (Nat.le_of_ble_eq_true rfl) (Nat.le_of_ble_eq_true rfl) (Nat.le_of_ble_eq_true rfl) (Nat.le_of_ble_eq_true rfl) (Nat.le_of_ble_eq_true rfl) dX8_repay_77 (fun z14 v14 hz14 => ?_)
        refine g_if_ne F rfl (tgt := 85) rfl dX8_repay_80 (fun n15 => ?_) (fun n15 => ?_)
        · exact g_none
        · refine g_iconst F 2 rfl dX8_repay_83 ?_
          exact g_ireturn F rfl rfl rfl rfl (Nat.le_of_ble_eq_true rfl) (Nat.le_of_ble_eq_true rfl) dX8_repay_84
      · refine g_aload_n F rfl 1 rfl dX8_repay_33 ?_
        refine g_get F (t := 53) (sI := 3) fl_RX8_7 rfl rfl (Int.not_lt.mp (Int.not_lt.mpr h0)) dX8_repay_34 ?_
        refine g_aload_n F rfl 1 rfl dX8_repay_37 ?_
        refine g_get F (t := 87) (sI := 37) fl_RX8_105 rfl rfl (Int.not_lt.mp (Int.not_lt.mpr h0)) dX8_repay_38 ?_
        refine g_iload_n F rfl 2 rfl rfl dX8_repay_41 ?_
        refine h_iald F (n := 20) ak_77 (Int.not_lt.mp (Int.not_lt.mpr n10)) n6 rfl dX8_repay_42 ?_
        refine g_chk (fun n16 => ?_)
        refine h_lald F (n := 10) ak_43 (Int.not_lt.mp (Int.not_lt.mpr n16)) n12 rfl dX8_repay_43 ?_
        refine g_aload_n F rfl 1 rfl dX8_repay_44 ?_
        refine g_iload_n F rfl 2 rfl rfl dX8_repay_45 ?_
        refine g_callV F (by decide) (K := 8) (b := a0) [(0, a1)] [0] ml_RX8_223 wi_X8_owed ws_X8_owed (c_X8_owed a0 a1 (Int.not_lt.mp (Int.not_lt.mpr h0))) mi_X8_owed (by decide) ⟨_, rfl, rfl⟩ (Int.not_lt.mp (Int.not_lt.mpr h0)) rfl rfl rfl (Nat.le_of_ble_eq_true rfl) (Nat.le_of_ble_eq_true rfl) (Nat.le_of_ble_eq_true rfl) (Nat.le_of_ble_eq_true rfl) (Nat.le_of_ble_eq_true rfl) dX8_repay_46 (fun z17 v17 hz17 => ?_)
        refine g_lcmp F dX8_repay_49 ?_
        refine g_if_lt F rfl (tgt := 57) rfl dX8_repay_50 (fun n18 => ?_) (fun n18 => ?_)
        · refine g_iconst F 2 rfl dX8_repay_57 ?_
          refine g_istore_n F rfl rfl (Nat.le_of_ble_eq_true rfl) (ls' := [(3, (2, 0)), (2, (2, z1)), (0, (18, a0)), (1, (0, a1))]) rfl dX8_repay_58 ?_
          refine g_aload_n F rfl 2 rfl dX8_repay_59 ?_
          refine g_iload_n F rfl 1 rfl rfl dX8_repay_60 ?_
          refine g_if_ne_t F rfl n2 (tgt := 68) rfl dX8_repay_61 ?_
          refine g_iload_n F rfl 0 rfl rfl dX8_repay_68 ?_
          refine g_if_eq_t F rfl (by decide) (tgt := 76) rfl dX8_repay_69 ?_
          refine g_iconst F 0 rfl dX8_repay_76 ?_
          refine g_callV F (by decide) (K := 8) (b := a0) [(0, 2)] [0] ml_RX8_151 wi_X8_holds ws_X8_holds (c_X8_holds a0 2 (Int.not_lt.mp (Int.not_lt.mpr h0))) mi_X8_holds (by decide) ⟨_, rfl, rfl⟩ (Int.not_lt.mp (Int.not_lt.mpr h0)) rfl rfl rfl (Nat.le_of_ble_eq_true rfl) (Nat.le_of_ble_eq_true rfl) (Nat.le_of_ble_eq_true rfl) (Nat.le_of_ble_eq_true rfl) (Nat.le_of_ble_eq_true rfl) dX8_repay_77 (fun z19 v19 hz19 => ?_)
          refine g_if_ne F rfl (tgt := 85) rfl dX8_repay_80 (fun n20 => ?_) (fun n20 => ?_)
          · exact g_none
          · refine g_iconst F 2 rfl dX8_repay_83 ?_
            exact g_ireturn F rfl rfl rfl rfl (Nat.le_of_ble_eq_true rfl) (Nat.le_of_ble_eq_true rfl) dX8_repay_84
        · refine g_iconst F 2 rfl dX8_repay_53 ?_
          refine g_goto F (tgt := 58) rfl dX8_repay_54 ?_
          refine g_istore_n F rfl rfl (Nat.le_of_ble_eq_true rfl) (ls' := [(3, (2, 1)), (2, (2, z1)), (0, (18, a0)), (1, (0, a1))]) rfl dX8_repay_58 ?_
          refine g_aload_n F rfl 2 rfl dX8_repay_59 ?_
          refine g_iload_n F rfl 1 rfl rfl dX8_repay_60 ?_
          refine g_if_ne_t F rfl n2 (tgt := 68) rfl dX8_repay_61 ?_
          refine g_iload_n F rfl 0 rfl rfl dX8_repay_68 ?_
          refine g_if_eq_f F rfl (by decide) (tgt := 76) rfl dX8_repay_69 ?_
          refine g_iconst F 2 rfl dX8_repay_72 ?_
          refine g_goto F (tgt := 77) rfl dX8_repay_73 ?_
          refine g_callV F (by decide) (K := 8) (b := a0) [(2, 0)] [0] ml_RX8_151 wi_X8_holds ws_X8_holds (c_X8_holds a0 0 (Int.not_lt.mp (Int.not_lt.mpr h0))) mi_X8_holds (by decide) ⟨_, rfl, rfl⟩ (Int.not_lt.mp (Int.not_lt.mpr h0)) rfl rfl rfl (Nat.le_of_ble_eq_true rfl) (Nat.le_of_ble_eq_true rfl) (Nat.le_of_ble_eq_true rfl) (Nat.le_of_ble_eq_true rfl) (Nat.le_of_ble_eq_true rfl) dX8_repay_77 (fun z21 v21 hz21 => ?_)
          refine g_if_ne F rfl (tgt := 85) rfl dX8_repay_80 (fun n22 => ?_) (fun n22 => ?_)
          · refine g_aload_n F rfl 2 rfl dX8_repay_85 ?_
            refine g_iload_n F rfl 3 rfl rfl dX8_repay_86 ?_
            refine g_callV F (by decide) (K := 8) (b := a0) [(0, a1)] [0] ml_RX8_223 wi_X8_owed ws_X8_owed (c_X8_owed a0 a1 (Int.not_lt.mp (Int.not_lt.mpr h0))) mi_X8_owed (by decide) ⟨_, rfl, rfl⟩ (Int.not_lt.mp (Int.not_lt.mpr h0)) rfl rfl rfl (Nat.le_of_ble_eq_true rfl) (Nat.le_of_ble_eq_true rfl) (Nat.le_of_ble_eq_true rfl) (Nat.le_of_ble_eq_true rfl) (Nat.le_of_ble_eq_true rfl) dX8_repay_87 (fun z23 v23 hz23 => ?_)
            refine g_lstore F (Nat.le_of_ble_eq_true rfl) (ls' := [(4, (1, z23)), (3, (2, 1)), (2, (2, z1)), (0, (18, a0)), (1, (0, a1))]) rfl dX8_repay_90 ?_
            refine g_aload_n F rfl 3 rfl dX8_repay_92 ?_
            refine g_get F (t := 53) (sI := 3) fl_RX8_7 rfl rfl (Int.not_lt.mp (Int.not_lt.mpr h0)) dX8_repay_93 ?_
            refine g_aload_n F rfl 3 rfl dX8_repay_96 ?_
            refine g_get F (t := 87) (sI := 37) fl_RX8_105 rfl rfl (Int.not_lt.mp (Int.not_lt.mpr h0)) dX8_repay_97 ?_
            refine g_iload_n F rfl 4 rfl rfl dX8_repay_100 ?_
            refine g_chk (fun n24 => ?_)
            refine h_iald F (n := 20) ak_77 (Int.not_lt.mp (Int.not_lt.mpr n24)) n6 rfl dX8_repay_101 ?_
            refine g_dup2 F rfl rfl dX8_repay_102 ?_
            refine g_chk (fun n25 => ?_)
            refine g_chk (fun n26 => ?_)
            refine h_lald F (n := 10) ak_43 (Int.not_lt.mp (Int.not_lt.mpr n25)) n26 rfl dX8_repay_103 ?_
            refine g_lload F 0 rfl dX8_repay_104 ?_
            refine g_lsub F dX8_repay_106 ?_
            refine h_last F (n := 10) ak_43 rfl (Int.not_lt.mp (Int.not_lt.mpr n25)) n26 rfl dX8_repay_107 (fun v27 => ?_)
            refine g_aload_n F rfl 3 rfl dX8_repay_108 ?_
            refine g_get F (t := 53) (sI := 3) fl_RX8_7 rfl rfl (Int.not_lt.mp (Int.not_lt.mpr h0)) dX8_repay_109 ?_
            refine g_aload_n F rfl 3 rfl dX8_repay_112 ?_
            refine g_get F (t := 88) (sI := 38) fl_RX8_108 rfl rfl (Int.not_lt.mp (Int.not_lt.mpr h0)) dX8_repay_113 ?_
            refine g_iload_n F rfl 4 rfl rfl dX8_repay_116 ?_
            refine g_chk (fun n28 => ?_)
            refine h_iald F (n := 20) ak_78 (Int.not_lt.mp (Int.not_lt.mpr n28)) n6 rfl dX8_repay_117 ?_
            refine g_dup2 F rfl rfl dX8_repay_118 ?_
            refine g_chk (fun n29 => ?_)
            refine g_chk (fun n30 => ?_)
            refine h_lald F (n := 10) ak_43 (Int.not_lt.mp (Int.not_lt.mpr n29)) n30 rfl dX8_repay_119 ?_
            refine g_lload F 0 rfl dX8_repay_120 ?_
            refine g_ladd F dX8_repay_122 ?_
            refine h_last F (n := 10) ak_43 rfl (Int.not_lt.mp (Int.not_lt.mpr n29)) n30 rfl dX8_repay_123 (fun v31 => ?_)
            refine g_aload_n F rfl 3 rfl dX8_repay_124 ?_
            refine g_iload_n F rfl 4 rfl rfl dX8_repay_125 ?_
            refine g_callV F (by decide) (K := 8) (b := a0) [(0, a1)] [0] ml_RX8_227 wi_X8_goesAway ws_X8_goesAway (c_X8_goesAway a0 a1 (Int.not_lt.mp (Int.not_lt.mpr h0))) mi_X8_goesAway (by decide) ⟨_, rfl, rfl⟩ (Int.not_lt.mp (Int.not_lt.mpr h0)) rfl rfl rfl (Nat.le_of_ble_eq_true rfl) (Nat.le_of_ble_eq_true rfl) (Nat.le_of_ble_eq_true rfl) (Nat.le_of_ble_eq_true rfl) (Nat.le_of_ble_eq_true rfl) dX8_repay_126 (fun z32 v32 hz32 => ?_)
            refine g_lload F 0 rfl dX8_repay_129 ?_
            refine g_l2i F dX8_repay_131 ?_
            exact g_ireturn F rfl rfl rfl rfl (Nat.le_of_ble_eq_true rfl) (Nat.le_of_ble_eq_true rfl) dX8_repay_132
          · exact g_none
theorem c_X8_repay (a0 a1 : Int) (h0 : 0 ≤ a0) : ∀ l, Ct l yX8_repay cX8_repay 6 (some .int) ({ frames := 2, cells := 0, slots := 0, locals := 43 }) (some 0) [(18, a0), (0, a1)] (sp_X8_repay a0 a1) := g_method (by decide +kernel) (Nat.le_of_ble_eq_true rfl) (fun x v F ho => k_X8_repay a0 a1 h0 x v F ho)
def lp_X8_canSeize_5 (l0 l1 : Int) (k : V → Int → Int → Res) : Nat → V → Int → Int → Res
  | 0, _, _, _ => none
  | n + 1, v, l2, l4 => (if (v 8 l0 21) ≤ l4 then (k v l2 l4)
   else (chk (0 ≤ (v 8 l0 25)) (chk (0 ≤ l4 ∧ l4 < 60) (if ¬ (v 65 (v 8 l0 25) l4) = l1 then (lp_X8_canSeize_5 l0 l1 k n v (w64 (l2 + 0)) (w32 (l4 + 1)))
   else (rB (sp_X8_worth l0 l4 v) (fun z5 v5 => (lp_X8_canSeize_5 l0 l1 k n v5 (w64 (l2 + z5)) (w32 (l4 + 1)))))))))
set_option maxRecDepth 100000 in
set_option maxHeartbeats 4000000 in
theorem kl_X8_canSeize_5 {l0 l1 : Int} (h0 : 0 ≤ l0) {x : Cx} (F : Fx x cX8_canSeize RX8 "canSeize" ({ frames := 3, cells := 0, slots := 0, locals := 69 }) 5 (some 2) (some .boolean) 0) {k : V → Int → Int → Res} (hk : ∀ (v : V) (l2 l4 : Int), Gs x (k v l2 l4) v 0 0 45 [(0, (18, l0)), (1, (0, l1)), (2, (1, l2)), (4, (0, l4))] []) : ∀ (n : Nat) (v : V) (l2 l4 : Int), Gs x (lp_X8_canSeize_5 l0 l1 k n v l2 l4) v 0 0 5 [(0, (18, l0)), (1, (0, l1)), (2, (1, l2)), (4, (0, l4))] [] := by
  intro n
  induction n with
  | zero => intro v l2 l4; exact g_none
  | succ n ih =>
    intro v l2 l4
    rw [lp_X8_canSeize_5]
    refine g_iload F 3 rfl rfl dX8_canSeize_5 ?_
    refine g_aload_n F rfl 0 rfl dX8_canSeize_7 ?_
    refine g_get F (t := 0) (sI := 21) fl_RX8_140 rfl rfl (Int.not_lt.mp (Int.not_lt.mpr h0)) dX8_canSeize_8 ?_
    refine g_icmp_ge F rfl rfl (tgt := 45) rfl dX8_canSeize_11 (fun n1 => ?_) (fun n1 => ?_)
    · refine g_loc [(0, 18), (1, 0), (2, 1), (3, 0)] rfl ?_
      exact hk v l2 l4
    · refine g_lload_n F rfl 2 rfl dX8_canSeize_14 ?_
      refine g_aload_n F rfl 0 rfl dX8_canSeize_15 ?_
      refine g_get F (t := 75) (sI := 25) fl_RX8_72 rfl rfl (Int.not_lt.mp (Int.not_lt.mpr h0)) dX8_canSeize_16 ?_
      refine g_iload F 3 rfl rfl dX8_canSeize_19 ?_
      refine g_chk (fun n2 => ?_)
      refine g_chk (fun n3 => ?_)
      refine h_iald F (n := 60) ak_65 (Int.not_lt.mp (Int.not_lt.mpr n2)) n3 rfl dX8_canSeize_21 ?_
      refine g_iload_n F rfl 1 rfl rfl dX8_canSeize_22 ?_
      refine g_icmp_ne F rfl rfl (tgt := 36) rfl dX8_canSeize_23 (fun n4 => ?_) (fun n4 => ?_)
      · refine g_lconst F (z := 0) rfl dX8_canSeize_36 ?_
        refine g_ladd F dX8_canSeize_37 ?_
        refine g_lstore_n F rfl (Nat.le_of_ble_eq_true rfl) (ls' := [(2, (1, (w64 (l2 + 0)))), (0, (18, l0)), (1, (0, l1)), (4, (0, l4))]) rfl dX8_canSeize_38 ?_
        refine g_iinc F 3 rfl rfl (Nat.le_of_ble_eq_true rfl) (ls' := [(4, (0, (w32 (l4 + 1)))), (2, (1, (w64 (l2 + 0)))), (0, (18, l0)), (1, (0, l1))]) rfl dX8_canSeize_39 ?_
        refine g_goto F (tgt := 5) rfl dX8_canSeize_42 ?_
        refine g_loc [(2, 18), (3, 0), (1, 1), (0, 0)] rfl ?_
        exact ih v (w64 (l2 + 0)) (w32 (l4 + 1))
      · refine g_aload_n F rfl 0 rfl dX8_canSeize_26 ?_
        refine g_iload F 3 rfl rfl dX8_canSeize_27 ?_
        refine g_callV F (by decide) (K := 8) (b := l0) [(0, l4)] [0] ml_RX8_212 wi_X8_worth ws_X8_worth (c_X8_worth l0 l4 (Int.not_lt.mp (Int.not_lt.mpr h0))) mi_X8_worth (by decide) ⟨_, rfl, rfl⟩ (Int.not_lt.mp (Int.not_lt.mpr h0)) rfl rfl rfl (Nat.le_of_ble_eq_true rfl) (Nat.le_of_ble_eq_true rfl) (Nat.le_of_ble_eq_true rfl) (Nat.le_of_ble_eq_true rfl) (Nat.le_of_ble_eq_true rfl) dX8_canSeize_29 (fun z5 v5 hz5 => ?_)
        refine g_i2l F rfl dX8_canSeize_32 ?_
        refine g_goto F (tgt := 37) rfl dX8_canSeize_33 ?_
        refine g_ladd F dX8_canSeize_37 ?_
        refine g_lstore_n F rfl (Nat.le_of_ble_eq_true rfl) (ls' := [(2, (1, (w64 (l2 + z5)))), (0, (18, l0)), (1, (0, l1)), (4, (0, l4))]) rfl dX8_canSeize_38 ?_
        refine g_iinc F 3 rfl rfl (Nat.le_of_ble_eq_true rfl) (ls' := [(4, (0, (w32 (l4 + 1)))), (2, (1, (w64 (l2 + z5)))), (0, (18, l0)), (1, (0, l1))]) rfl dX8_canSeize_39 ?_
        refine g_goto F (tgt := 5) rfl dX8_canSeize_42 ?_
        refine g_loc [(2, 18), (3, 0), (1, 1), (0, 0)] rfl ?_
        exact ih v5 (w64 (l2 + z5)) (w32 (l4 + 1))
def sp_X8_canSeize (a0 a1 : Int) (v : V) : Res := (lp_X8_canSeize_5 a0 a1 (fun v6 u6_2 u6_4 => (chk (0 ≤ (v6 8 a0 43)) (chk (0 ≤ a1 ∧ a1 < 20) (if ¬ (v6 83 (v6 8 a0 43) a1) = 0 then (rOk 0 v6)
   else (chk (0 ≤ (v6 8 a0 42)) (if (v6 82 (v6 8 a0 42) a1) < (v6 8 a0 1) then (rOk 1 v6)
   else (rB (sp_X8_owed a0 a1 v6) (fun z12 v12 => (if (lcmp (w64 (10 * z12)) (w64 (7 * u6_2))) ≤ 0 then (rOk 0 v12)
   else (rOk 1 v12)))))))))) 200 v 0 0)
set_option maxRecDepth 100000 in
set_option maxHeartbeats 4000000 in
theorem k_X8_canSeize (a0 a1 : Int) (h0 : 0 ≤ a0) (x : Cx) (v : V) (F : Fx x cX8_canSeize RX8 "canSeize" ({ frames := 3, cells := 0, slots := 0, locals := 69 }) 5 (some 2) (some .boolean) 0) (ho : ∀ a ∈ [(18, a0), (0, a1)], okv v a) : Gs x (sp_X8_canSeize a0 a1 v) v 0 0 0 (avArgs 0 [(18, a0), (0, a1)]) [] := by
  show Gs x _ v 0 0 0 [(0, (18, a0)), (1, (0, a1))] []
  unfold sp_X8_canSeize
  refine g_lconst F (z := 0) rfl dX8_canSeize_0 ?_
  refine g_lstore_n F rfl (Nat.le_of_ble_eq_true rfl) (ls' := [(2, (1, 0)), (0, (18, a0)), (1, (0, a1))]) rfl dX8_canSeize_1 ?_
  refine g_iconst F 2 rfl dX8_canSeize_2 ?_
  refine g_istore F rfl (Nat.le_of_ble_eq_true rfl) (ls' := [(4, (2, 0)), (2, (1, 0)), (0, (18, a0)), (1, (0, a1))]) rfl dX8_canSeize_3 ?_
  refine g_loc [(2, 18), (3, 0), (1, 1), (0, 0)] rfl ?_
  refine kl_X8_canSeize_5 (Int.not_lt.mp (Int.not_lt.mpr h0)) F (fun v6 u6_2 u6_4 => ?_) 200 v 0 0
  refine g_aload_n F rfl 0 rfl dX8_canSeize_45 ?_
  refine g_get F (t := 93) (sI := 43) fl_RX8_123 rfl rfl (Int.not_lt.mp (Int.not_lt.mpr h0)) dX8_canSeize_46 ?_
  refine g_iload_n F rfl 1 rfl rfl dX8_canSeize_49 ?_
  refine g_chk (fun n7 => ?_)
  refine g_chk (fun n8 => ?_)
  refine h_zald F (n := 20) ak_83 (Int.not_lt.mp (Int.not_lt.mpr n7)) n8 rfl dX8_canSeize_50 ?_
  refine g_if_ne F rfl (tgt := 89) rfl dX8_canSeize_51 (fun n9 => ?_) (fun n9 => ?_)
  · refine g_iconst F 2 rfl dX8_canSeize_89 ?_
    exact g_ireturn F rfl rfl rfl rfl (Nat.le_of_ble_eq_true rfl) (Nat.le_of_ble_eq_true rfl) dX8_canSeize_90
  · refine g_aload_n F rfl 0 rfl dX8_canSeize_54 ?_
    refine g_get F (t := 0) (sI := 1) fl_RX8_164 rfl rfl (Int.not_lt.mp (Int.not_lt.mpr h0)) dX8_canSeize_55 ?_
    refine g_aload_n F rfl 0 rfl dX8_canSeize_58 ?_
    refine g_get F (t := 92) (sI := 42) fl_RX8_120 rfl rfl (Int.not_lt.mp (Int.not_lt.mpr h0)) dX8_canSeize_59 ?_
    refine g_iload_n F rfl 1 rfl rfl dX8_canSeize_62 ?_
    refine g_chk (fun n10 => ?_)
    refine h_iald F (n := 20) ak_82 (Int.not_lt.mp (Int.not_lt.mpr n10)) n8 rfl dX8_canSeize_63 ?_
    refine g_icmp_gt F rfl rfl (tgt := 85) rfl dX8_canSeize_64 (fun n11 => ?_) (fun n11 => ?_)
    · refine g_iconst F 2 rfl dX8_canSeize_85 ?_
      refine g_goto F (tgt := 90) rfl dX8_canSeize_86 ?_
      exact g_ireturn F rfl rfl rfl rfl (Nat.le_of_ble_eq_true rfl) (Nat.le_of_ble_eq_true rfl) dX8_canSeize_90
    · refine g_ldc2 F rfl cn_RX8_231 dX8_canSeize_67 ?_
      refine g_aload_n F rfl 0 rfl dX8_canSeize_70 ?_
      refine g_iload_n F rfl 1 rfl rfl dX8_canSeize_71 ?_
      refine g_callV F (by decide) (K := 8) (b := a0) [(0, a1)] [0] ml_RX8_223 wi_X8_owed ws_X8_owed (c_X8_owed a0 a1 (Int.not_lt.mp (Int.not_lt.mpr h0))) mi_X8_owed (by decide) ⟨_, rfl, rfl⟩ (Int.not_lt.mp (Int.not_lt.mpr h0)) rfl rfl rfl (Nat.le_of_ble_eq_true rfl) (Nat.le_of_ble_eq_true rfl) (Nat.le_of_ble_eq_true rfl) (Nat.le_of_ble_eq_true rfl) (Nat.le_of_ble_eq_true rfl) dX8_canSeize_72 (fun z12 v12 hz12 => ?_)
      refine g_lmul F dX8_canSeize_75 ?_
      refine g_ldc2 F rfl cn_RX8_233 dX8_canSeize_76 ?_
      refine g_lload_n F rfl 2 rfl dX8_canSeize_79 ?_
      refine g_lmul F dX8_canSeize_80 ?_
      refine g_lcmp F dX8_canSeize_81 ?_
      refine g_if_le F rfl (tgt := 89) rfl dX8_canSeize_82 (fun n13 => ?_) (fun n13 => ?_)
      · refine g_iconst F 2 rfl dX8_canSeize_89 ?_
        exact g_ireturn F rfl rfl rfl rfl (Nat.le_of_ble_eq_true rfl) (Nat.le_of_ble_eq_true rfl) dX8_canSeize_90
      · refine g_iconst F 2 rfl dX8_canSeize_85 ?_
        refine g_goto F (tgt := 90) rfl dX8_canSeize_86 ?_
        exact g_ireturn F rfl rfl rfl rfl (Nat.le_of_ble_eq_true rfl) (Nat.le_of_ble_eq_true rfl) dX8_canSeize_90
theorem c_X8_canSeize (a0 a1 : Int) (h0 : 0 ≤ a0) : ∀ l, Ct l yX8_canSeize cX8_canSeize 5 (some .boolean) ({ frames := 3, cells := 0, slots := 0, locals := 69 }) (some 2) [(18, a0), (0, a1)] (sp_X8_canSeize a0 a1) := g_method (by decide +kernel) (Nat.le_of_ble_eq_true rfl) (fun x v F ho => k_X8_canSeize a0 a1 h0 x v F ho)
def lp_X8_seize_55 (l0 l1 l2 : Int) (k : V → Int → Int → Res) : Nat → V → Int → Int → Res
  | 0, _, _, _ => none
  | n + 1, v, l3, l4 => (if (v 8 l0 21) ≤ l4 then (k v l3 l4)
   else (chk (0 ≤ (v 8 l0 25)) (chk (0 ≤ l4 ∧ l4 < 60) (if ¬ (v 65 (v 8 l0 25) l4) = l1 then (lp_X8_seize_55 l0 l1 l2 k n v l3 (w32 (l4 + 1)))
   else (chk (0 ≤ (v 8 l0 38)) (chk (0 ≤ l1 ∧ l1 < 20) (rB (sp_X8_takes l0 l4 (v 78 (v 8 l0 38) l1) v) (fun z20 v20 => (lp_X8_seize_55 l0 l1 l2 k n v20 (w32 (l3 + 1)) (w32 (l4 + 1)))))))))))
set_option maxRecDepth 100000 in
set_option maxHeartbeats 4000000 in
theorem kl_X8_seize_55 {l0 l1 l2 : Int} (h0 : 0 ≤ l0) {x : Cx} (F : Fx x cX8_seize RX8 "seize" ({ frames := 4, cells := 0, slots := 0, locals := 93 }) 5 (some 0) (some .int) 0) {k : V → Int → Int → Res} (hk : ∀ (v : V) (l3 l4 : Int), Gs x (k v l3 l4) v 0 0 96 [(0, (18, l0)), (1, (0, l1)), (2, (2, l2)), (3, (0, l3)), (4, (0, l4))] []) : ∀ (n : Nat) (v : V) (l3 l4 : Int), Gs x (lp_X8_seize_55 l0 l1 l2 k n v l3 l4) v 0 0 55 [(0, (18, l0)), (1, (0, l1)), (2, (2, l2)), (3, (0, l3)), (4, (0, l4))] [] := by
  intro n
  induction n with
  | zero => intro v l3 l4; exact g_none
  | succ n ih =>
    intro v l3 l4
    rw [lp_X8_seize_55]
    refine g_iload F 4 rfl rfl dX8_seize_55 ?_
    refine g_aload_n F rfl 0 rfl dX8_seize_57 ?_
    refine g_get F (t := 0) (sI := 21) fl_RX8_140 rfl rfl (Int.not_lt.mp (Int.not_lt.mpr h0)) dX8_seize_58 ?_
    refine g_icmp_ge F rfl rfl (tgt := 96) rfl dX8_seize_61 (fun n14 => ?_) (fun n14 => ?_)
    · refine g_loc [(0, 18), (1, 0), (2, 2), (3, 0), (4, 0)] rfl ?_
      exact hk v l3 l4
    · refine g_aload_n F rfl 0 rfl dX8_seize_64 ?_
      refine g_get F (t := 75) (sI := 25) fl_RX8_72 rfl rfl (Int.not_lt.mp (Int.not_lt.mpr h0)) dX8_seize_65 ?_
      refine g_iload F 4 rfl rfl dX8_seize_68 ?_
      refine g_chk (fun n15 => ?_)
      refine g_chk (fun n16 => ?_)
      refine h_iald F (n := 60) ak_65 (Int.not_lt.mp (Int.not_lt.mpr n15)) n16 rfl dX8_seize_70 ?_
      refine g_iload_n F rfl 1 rfl rfl dX8_seize_71 ?_
      refine g_icmp_ne F rfl rfl (tgt := 90) rfl dX8_seize_72 (fun n17 => ?_) (fun n17 => ?_)
      · refine g_iinc F 4 rfl rfl (Nat.le_of_ble_eq_true rfl) (ls' := [(4, (0, (w32 (l4 + 1)))), (0, (18, l0)), (1, (0, l1)), (2, (2, l2)), (3, (0, l3))]) rfl dX8_seize_90 ?_
        refine g_goto F (tgt := 55) rfl dX8_seize_93 ?_
        refine g_loc [(1, 18), (2, 0), (3, 2), (4, 0), (0, 0)] rfl ?_
        exact ih v l3 (w32 (l4 + 1))
      · refine g_aload_n F rfl 0 rfl dX8_seize_75 ?_
        refine g_iload F 4 rfl rfl dX8_seize_76 ?_
        refine g_aload_n F rfl 0 rfl dX8_seize_78 ?_
        refine g_get F (t := 88) (sI := 38) fl_RX8_108 rfl rfl (Int.not_lt.mp (Int.not_lt.mpr h0)) dX8_seize_79 ?_
        refine g_iload_n F rfl 1 rfl rfl dX8_seize_82 ?_
        refine g_chk (fun n18 => ?_)
        refine g_chk (fun n19 => ?_)
        refine h_iald F (n := 20) ak_78 (Int.not_lt.mp (Int.not_lt.mpr n18)) n19 rfl dX8_seize_83 ?_
        refine g_callV F (by decide) (K := 8) (b := l0) [(0, l4), (0, (v 78 (v 8 l0 38) l1))] [0, 0] ml_RX8_208 wi_X8_takes ws_X8_takes (c_X8_takes l0 l4 (v 78 (v 8 l0 38) l1) (Int.not_lt.mp (Int.not_lt.mpr h0))) mi_X8_takes (by decide) ⟨_, rfl, rfl⟩ (Int.not_lt.mp (Int.not_lt.mpr h0)) rfl rfl rfl (Nat.le_of_ble_eq_true rfl) (Nat.le_of_ble_eq_true rfl) (Nat.le_of_ble_eq_true rfl) (Nat.le_of_ble_eq_true rfl) (Nat.le_of_ble_eq_true rfl) dX8_seize_84 (fun z20 v20 hz20 => ?_)
        refine g_iinc F 3 rfl rfl (Nat.le_of_ble_eq_true rfl) (ls' := [(3, (0, (w32 (l3 + 1)))), (0, (18, l0)), (1, (0, l1)), (2, (2, l2)), (4, (0, l4))]) rfl dX8_seize_87 ?_
        refine g_iinc F 4 rfl rfl (Nat.le_of_ble_eq_true rfl) (ls' := [(4, (0, (w32 (l4 + 1)))), (3, (0, (w32 (l3 + 1)))), (0, (18, l0)), (1, (0, l1)), (2, (2, l2))]) rfl dX8_seize_90 ?_
        refine g_goto F (tgt := 55) rfl dX8_seize_93 ?_
        refine g_loc [(2, 18), (3, 0), (4, 2), (1, 0), (0, 0)] rfl ?_
        exact ih v20 (w32 (l3 + 1)) (w32 (l4 + 1))
def sp_X8_seize (a0 a1 : Int) (v : V) : Res := (rB (sp_X8_isLoan a0 a1 v) (fun z1 v1 => (if ¬ z1 = 0 then (rB (sp_X8_canSeize a0 a1 v1) (fun z3 v3 => (if z3 = 0 then (rB (sp_X8_holds a0 2 v3) (fun z5 v5 => (if ¬ z5 = 0 then none
   else (rOk 0 v5))))
   else (chk (0 ≤ (v3 8 a0 38)) (chk (0 ≤ a1 ∧ a1 < 20) (chk (0 ≤ (v3 8 a0 5)) (chk (0 ≤ (v3 78 (v3 8 a0 38) a1) ∧ (v3 78 (v3 8 a0 38) a1) < 10) (if (v3 45 (v3 8 a0 5) (v3 78 (v3 8 a0 38) a1)) = 0 then (rB (sp_X8_holds a0 0 v3) (fun z12 v12 => (if ¬ z12 = 0 then (lp_X8_seize_55 a0 a1 z1 (fun v21 u21_3 u21_4 => (rB (sp_X8_goesAway a0 a1 v21) (fun z22 v22 => (rOk u21_3 v22)))) 200 v12 0 0)
   else none)))
   else (rB (sp_X8_holds a0 2 v3) (fun z23 v23 => (if ¬ z23 = 0 then none
   else (rOk 0 v23))))))))))))
   else (rB (sp_X8_holds a0 1 v1) (fun z25 v25 => (if ¬ z25 = 0 then none
   else (rOk 0 v25)))))))
set_option maxRecDepth 100000 in
set_option maxHeartbeats 4000000 in
theorem k_X8_seize (a0 a1 : Int) (h0 : 0 ≤ a0) (x : Cx) (v : V) (F : Fx x cX8_seize RX8 "seize" ({ frames := 4, cells := 0, slots := 0, locals := 93 }) 5 (some 0) (some .int) 0) (ho : ∀ a ∈ [(18, a0), (0, a1)], okv v a) : Gs x (sp_X8_seize a0 a1 v) v 0 0 0 (avArgs 0 [(18, a0), (0, a1)]) [] := by
  show Gs x _ v 0 0 0 [(0, (18, a0)), (1, (0, a1))] []
  unfold sp_X8_seize
  refine g_aload_n F rfl 0 rfl dX8_seize_0 ?_
  refine g_iload_n F rfl 1 rfl rfl dX8_seize_1 ?_
  refine g_callV F (by decide) (K := 8) (b := a0) [(0, a1)] [0] ml_RX8_220 wi_X8_isLoan ws_X8_isLoan (c_X8_isLoan a0 a1 (Int.not_lt.mp (Int.not_lt.mpr h0))) mi_X8_isLoan (by decide) ⟨_, rfl, rfl⟩ (Int.not_lt.mp (Int.not_lt.mpr h0)) rfl rfl rfl (Nat.le_of_ble_eq_true rfl) (Nat.le_of_ble_eq_true rfl) (Nat.le_of_ble_eq_true rfl) (Nat.le_of_ble_eq_true rfl) (Nat.le_of_ble_eq_true rfl) dX8_seize_2 (fun z1 v1 hz1 => ?_)
  refine g_istore_n F rfl rfl (Nat.le_of_ble_eq_true rfl) (ls' := [(2, (2, z1)), (0, (18, a0)), (1, (0, a1))]) rfl dX8_seize_5 ?_
  refine g_aload_n F rfl 1 rfl dX8_seize_6 ?_
  refine g_iload_n F rfl 0 rfl rfl dX8_seize_7 ?_
  refine g_if_ne F rfl (tgt := 15) rfl dX8_seize_8 (fun n2 => ?_) (fun n2 => ?_)
  · refine g_aload_n F rfl 1 rfl dX8_seize_15 ?_
    refine g_iload_n F rfl 2 rfl rfl dX8_seize_16 ?_
    refine g_callV F (by decide) (K := 8) (b := a0) [(0, a1)] [0] ml_RX8_235 wi_X8_canSeize ws_X8_canSeize (c_X8_canSeize a0 a1 (Int.not_lt.mp (Int.not_lt.mpr h0))) mi_X8_canSeize (by decide) ⟨_, rfl, rfl⟩ (Int.not_lt.mp (Int.not_lt.mpr h0)) rfl rfl rfl (Nat.le_of_ble_eq_true rfl) (Nat.le_of_ble_eq_true rfl) (Nat.le_of_ble_eq_true rfl) (Nat.le_of_ble_eq_true rfl) (Nat.le_of_ble_eq_true rfl) dX8_seize_17 (fun z3 v3 hz3 => ?_)
    refine g_if_eq F rfl (tgt := 37) rfl dX8_seize_20 (fun n4 => ?_) (fun n4 => ?_)
    · refine g_iconst F 0 rfl dX8_seize_37 ?_
      refine g_goto F (tgt := 42) rfl dX8_seize_38 ?_
      refine g_callV F (by decide) (K := 8) (b := a0) [(0, 2)] [0] ml_RX8_151 wi_X8_holds ws_X8_holds (c_X8_holds a0 2 (Int.not_lt.mp (Int.not_lt.mpr h0))) mi_X8_holds (by decide) ⟨_, rfl, rfl⟩ (Int.not_lt.mp (Int.not_lt.mpr h0)) rfl rfl rfl (Nat.le_of_ble_eq_true rfl) (Nat.le_of_ble_eq_true rfl) (Nat.le_of_ble_eq_true rfl) (Nat.le_of_ble_eq_true rfl) (Nat.le_of_ble_eq_true rfl) dX8_seize_42 (fun z5 v5 hz5 => ?_)
      refine g_if_ne F rfl (tgt := 50) rfl dX8_seize_45 (fun n6 => ?_) (fun n6 => ?_)
      · exact g_none
      · refine g_iconst F 2 rfl dX8_seize_48 ?_
        exact g_ireturn F rfl rfl rfl rfl (Nat.le_of_ble_eq_true rfl) (Nat.le_of_ble_eq_true rfl) dX8_seize_49
    · refine g_aload_n F rfl 1 rfl dX8_seize_23 ?_
      refine g_get F (t := 55) (sI := 5) fl_RX8_17 rfl rfl (Int.not_lt.mp (Int.not_lt.mpr h0)) dX8_seize_24 ?_
      refine g_aload_n F rfl 1 rfl dX8_seize_27 ?_
      refine g_get F (t := 88) (sI := 38) fl_RX8_108 rfl rfl (Int.not_lt.mp (Int.not_lt.mpr h0)) dX8_seize_28 ?_
      refine g_iload_n F rfl 2 rfl rfl dX8_seize_31 ?_
      refine g_chk (fun n7 => ?_)
      refine g_chk (fun n8 => ?_)
      refine h_iald F (n := 20) ak_78 (Int.not_lt.mp (Int.not_lt.mpr n7)) n8 rfl dX8_seize_32 ?_
      refine g_chk (fun n9 => ?_)
      refine g_chk (fun n10 => ?_)
      refine h_zald F (n := 10) ak_45 (Int.not_lt.mp (Int.not_lt.mpr n9)) n10 rfl dX8_seize_33 ?_
      refine g_if_eq F rfl (tgt := 41) rfl dX8_seize_34 (fun n11 => ?_) (fun n11 => ?_)
      · refine g_iconst F 2 rfl dX8_seize_41 ?_
        refine g_callV F (by decide) (K := 8) (b := a0) [(2, 0)] [0] ml_RX8_151 wi_X8_holds ws_X8_holds (c_X8_holds a0 0 (Int.not_lt.mp (Int.not_lt.mpr h0))) mi_X8_holds (by decide) ⟨_, rfl, rfl⟩ (Int.not_lt.mp (Int.not_lt.mpr h0)) rfl rfl rfl (Nat.le_of_ble_eq_true rfl) (Nat.le_of_ble_eq_true rfl) (Nat.le_of_ble_eq_true rfl) (Nat.le_of_ble_eq_true rfl) (Nat.le_of_ble_eq_true rfl) dX8_seize_42 (fun z12 v12 hz12 => ?_)
        refine g_if_ne F rfl (tgt := 50) rfl dX8_seize_45 (fun n13 => ?_) (fun n13 => ?_)
        · refine g_iconst F 2 rfl dX8_seize_50 ?_
          refine g_istore_n F rfl rfl (Nat.le_of_ble_eq_true rfl) (ls' := [(3, (2, 0)), (2, (2, z1)), (0, (18, a0)), (1, (0, a1))]) rfl dX8_seize_51 ?_
          refine g_iconst F 2 rfl dX8_seize_52 ?_
          refine g_istore F rfl (Nat.le_of_ble_eq_true rfl) (ls' := [(4, (2, 0)), (3, (2, 0)), (2, (2, z1)), (0, (18, a0)), (1, (0, a1))]) rfl dX8_seize_53 ?_
          refine g_loc [(3, 18), (4, 0), (2, 2), (1, 0), (0, 0)] rfl ?_
          refine kl_X8_seize_55 (Int.not_lt.mp (Int.not_lt.mpr h0)) F (fun v21 u21_3 u21_4 => ?_) 200 v12 0 0
          refine g_aload_n F rfl 0 rfl dX8_seize_96 ?_
          refine g_iload_n F rfl 1 rfl rfl dX8_seize_97 ?_
          refine g_callV F (by decide) (K := 8) (b := a0) [(0, a1)] [0] ml_RX8_227 wi_X8_goesAway ws_X8_goesAway (c_X8_goesAway a0 a1 (Int.not_lt.mp (Int.not_lt.mpr h0))) mi_X8_goesAway (by decide) ⟨_, rfl, rfl⟩ (Int.not_lt.mp (Int.not_lt.mpr h0)) rfl rfl rfl (Nat.le_of_ble_eq_true rfl) (Nat.le_of_ble_eq_true rfl) (Nat.le_of_ble_eq_true rfl) (Nat.le_of_ble_eq_true rfl) (Nat.le_of_ble_eq_true rfl) dX8_seize_98 (fun z22 v22 hz22 => ?_)
          refine g_iload_n F rfl 3 rfl rfl dX8_seize_101 ?_
          exact g_ireturn F rfl rfl rfl rfl (Nat.le_of_ble_eq_true rfl) (Nat.le_of_ble_eq_true rfl) dX8_seize_102
        · exact g_none
      · refine g_iconst F 0 rfl dX8_seize_37 ?_
        refine g_goto F (tgt := 42) rfl dX8_seize_38 ?_
        refine g_callV F (by decide) (K := 8) (b := a0) [(0, 2)] [0] ml_RX8_151 wi_X8_holds ws_X8_holds (c_X8_holds a0 2 (Int.not_lt.mp (Int.not_lt.mpr h0))) mi_X8_holds (by decide) ⟨_, rfl, rfl⟩ (Int.not_lt.mp (Int.not_lt.mpr h0)) rfl rfl rfl (Nat.le_of_ble_eq_true rfl) (Nat.le_of_ble_eq_true rfl) (Nat.le_of_ble_eq_true rfl) (Nat.le_of_ble_eq_true rfl) (Nat.le_of_ble_eq_true rfl) dX8_seize_42 (fun z23 v23 hz23 => ?_)
        refine g_if_ne F rfl (tgt := 50) rfl dX8_seize_45 (fun n24 => ?_) (fun n24 => ?_)
        · exact g_none
        · refine g_iconst F 2 rfl dX8_seize_48 ?_
          exact g_ireturn F rfl rfl rfl rfl (Nat.le_of_ble_eq_true rfl) (Nat.le_of_ble_eq_true rfl) dX8_seize_49
  · refine g_iconst F 2 rfl dX8_seize_11 ?_
    refine g_goto F (tgt := 42) rfl dX8_seize_12 ?_
    refine g_callV F (by decide) (K := 8) (b := a0) [(2, 1)] [0] ml_RX8_151 wi_X8_holds ws_X8_holds (c_X8_holds a0 1 (Int.not_lt.mp (Int.not_lt.mpr h0))) mi_X8_holds (by decide) ⟨_, rfl, rfl⟩ (Int.not_lt.mp (Int.not_lt.mpr h0)) rfl rfl rfl (Nat.le_of_ble_eq_true rfl) (Nat.le_of_ble_eq_true rfl) (Nat.le_of_ble_eq_true rfl) (Nat.le_of_ble_eq_true rfl) (Nat.le_of_ble_eq_true rfl) dX8_seize_42 (fun z25 v25 hz25 => ?_)
    refine g_if_ne F rfl (tgt := 50) rfl dX8_seize_45 (fun n26 => ?_) (fun n26 => ?_)
    · exact g_none
    · refine g_iconst F 2 rfl dX8_seize_48 ?_
      exact g_ireturn F rfl rfl rfl rfl (Nat.le_of_ble_eq_true rfl) (Nat.le_of_ble_eq_true rfl) dX8_seize_49
theorem c_X8_seize (a0 a1 : Int) (h0 : 0 ≤ a0) : ∀ l, Ct l yX8_seize cX8_seize 5 (some .int) ({ frames := 4, cells := 0, slots := 0, locals := 93 }) (some 0) [(18, a0), (0, a1)] (sp_X8_seize a0 a1) := g_method (by decide +kernel) (Nat.le_of_ble_eq_true rfl) (fun x v F ho => k_X8_seize a0 a1 h0 x v F ho)
def sp_X8_assign (a0 a1 a2 a3 : Int) (v : V) : Res := (rB (sp_X8_isLoan a0 a1 v) (fun z1 v1 => (if z1 = 0 then (rB (sp_X8_holds a0 1 v1) (fun z3 v3 => (if ¬ z3 = 0 then none
   else (rOk 0 v3))))
   else (rB (sp_X8_isParty a0 a2 v1) (fun z5 v5 => (if z5 = 0 then (rB (sp_X8_holds a0 1 v5) (fun z7 v7 => (if ¬ z7 = 0 then none
   else (rOk 0 v7))))
   else (rB (sp_X8_in a3 0 1000000 v5) (fun z9 v9 => (if z9 = 0 then (rB (sp_X8_holds a0 2 v9) (fun z11 v11 => (if ¬ z11 = 0 then none
   else (rOk 0 v11))))
   else (chk (0 ≤ (v9 8 a0 38)) (chk (0 ≤ a1 ∧ a1 < 20) (if a2 = (v9 78 (v9 8 a0 38) a1) then (rB (sp_X8_holds a0 2 v9) (fun z16 v16 => (if ¬ z16 = 0 then none
   else (rOk 0 v16))))
   else (chk (0 ≤ (v9 8 a0 37)) (if a2 = (v9 77 (v9 8 a0 37) a1) then (rB (sp_X8_holds a0 2 v9) (fun z20 v20 => (if ¬ z20 = 0 then none
   else (rOk 0 v20))))
   else (chk (0 ≤ (v9 8 a0 43)) (if ¬ (v9 83 (v9 8 a0 43) a1) = 0 then (rB (sp_X8_holds a0 3 v9) (fun z24 v24 => (if ¬ z24 = 0 then none
   else (rOk 0 v24))))
   else (chk (0 ≤ (v9 8 a0 5)) (chk (0 ≤ (v9 78 (v9 8 a0 38) a1) ∧ (v9 78 (v9 8 a0 38) a1) < 10) (if ¬ (v9 45 (v9 8 a0 5) (v9 78 (v9 8 a0 38) a1)) = 0 then (rB (sp_X8_holds a0 3 v9) (fun z29 v29 => (if ¬ z29 = 0 then none
   else (rOk 0 v29))))
   else (chk (0 ≤ a2 ∧ a2 < 10) (if ¬ (v9 45 (v9 8 a0 5) a2) = 0 then (rB (sp_X8_holds a0 3 v9) (fun z33 v33 => (if ¬ z33 = 0 then none
   else (rOk 0 v33))))
   else (chk (0 ≤ (v9 8 a0 3)) (if (lcmp (v9 43 (v9 8 a0 3) a2) a3) < 0 then (rB (sp_X8_holds a0 3 v9) (fun z37 v37 => (if ¬ z37 = 0 then none
   else (rOk 0 v37))))
   else (rB (sp_X8_holds a0 0 v9) (fun z39 v39 => (if ¬ z39 = 0 then (chk (0 ≤ (v39 8 a0 38)) (chk (0 ≤ (v39 8 a0 3)) (rLet (up v39 43 (v39 8 a0 3) a2 (w64 ((v39 43 (v39 8 a0 3) a2) - a3))) (fun v43 => (chk (0 ≤ (v43 8 a0 3)) (chk (0 ≤ (v39 78 (v39 8 a0 38) a1) ∧ (v39 78 (v39 8 a0 38) a1) < 10) (rLet (up v43 43 (v43 8 a0 3) (v39 78 (v39 8 a0 38) a1) (w64 ((v43 43 (v43 8 a0 3) (v39 78 (v39 8 a0 38) a1)) + a3))) (fun v46 => (chk (0 ≤ (v46 8 a0 38)) (rLet (up v46 78 (v46 8 a0 38) a1 a2) (fun v48 => (rOk (v39 78 (v39 8 a0 38) a1) v48))))))))))))
   else none))))))))))))))))))))))))))
set_option maxRecDepth 100000 in
set_option maxHeartbeats 4000000 in
theorem k_X8_assign (a0 a1 a2 a3 : Int) (h0 : 0 ≤ a0) (x : Cx) (v : V) (F : Fx x cX8_assign RX8 "assign" ({ frames := 2, cells := 0, slots := 0, locals := 43 }) 8 (some 0) (some .int) 0) (ho : ∀ a ∈ [(18, a0), (0, a1), (0, a2), (0, a3)], okv v a) : Gs x (sp_X8_assign a0 a1 a2 a3 v) v 0 0 0 (avArgs 0 [(18, a0), (0, a1), (0, a2), (0, a3)]) [] := by
  show Gs x _ v 0 0 0 [(0, (18, a0)), (1, (0, a1)), (2, (0, a2)), (3, (0, a3))] []
  unfold sp_X8_assign
  refine g_aload_n F rfl 0 rfl dX8_assign_0 ?_
  refine g_iload_n F rfl 1 rfl rfl dX8_assign_1 ?_
  refine g_callV F (by decide) (K := 8) (b := a0) [(0, a1)] [0] ml_RX8_220 wi_X8_isLoan ws_X8_isLoan (c_X8_isLoan a0 a1 (Int.not_lt.mp (Int.not_lt.mpr h0))) mi_X8_isLoan (by decide) ⟨_, rfl, rfl⟩ (Int.not_lt.mp (Int.not_lt.mpr h0)) rfl rfl rfl (Nat.le_of_ble_eq_true rfl) (Nat.le_of_ble_eq_true rfl) (Nat.le_of_ble_eq_true rfl) (Nat.le_of_ble_eq_true rfl) (Nat.le_of_ble_eq_true rfl) dX8_assign_2 (fun z1 v1 hz1 => ?_)
  refine g_if_eq F rfl (tgt := 20) rfl dX8_assign_5 (fun n2 => ?_) (fun n2 => ?_)
  · refine g_iconst F 2 rfl dX8_assign_20 ?_
    refine g_istore F rfl (Nat.le_of_ble_eq_true rfl) (ls' := [(4, (2, 0)), (0, (18, a0)), (1, (0, a1)), (2, (0, a2)), (3, (0, a3))]) rfl dX8_assign_21 ?_
    refine g_iload F 0 rfl rfl dX8_assign_23 ?_
    refine g_if_eq_t F rfl (by decide) (tgt := 62) rfl dX8_assign_25 ?_
    refine g_iconst F 2 rfl dX8_assign_62 ?_
    refine g_istore F rfl (Nat.le_of_ble_eq_true rfl) (ls' := [(5, (2, 0)), (4, (2, 0)), (0, (18, a0)), (1, (0, a1)), (2, (0, a2)), (3, (0, a3))]) rfl dX8_assign_63 ?_
    refine g_iload F 0 rfl rfl dX8_assign_65 ?_
    refine g_if_eq_t F rfl (by decide) (tgt := 118) rfl dX8_assign_67 ?_
    refine g_iconst F 2 rfl dX8_assign_118 ?_
    refine g_istore F rfl (Nat.le_of_ble_eq_true rfl) (ls' := [(6, (2, 0)), (5, (2, 0)), (4, (2, 0)), (0, (18, a0)), (1, (0, a1)), (2, (0, a2)), (3, (0, a3))]) rfl dX8_assign_119 ?_
    refine g_aload_n F rfl 3 rfl dX8_assign_121 ?_
    refine g_iload F 2 rfl rfl dX8_assign_122 ?_
    refine g_if_ne_f F rfl (by decide) (tgt := 131) rfl dX8_assign_124 ?_
    refine g_iconst F 2 rfl dX8_assign_127 ?_
    refine g_goto F (tgt := 150) rfl dX8_assign_128 ?_
    refine g_callV F (by decide) (K := 8) (b := a0) [(2, 1)] [0] ml_RX8_151 wi_X8_holds ws_X8_holds (c_X8_holds a0 1 (Int.not_lt.mp (Int.not_lt.mpr h0))) mi_X8_holds (by decide) ⟨_, rfl, rfl⟩ (Int.not_lt.mp (Int.not_lt.mpr h0)) rfl rfl rfl (Nat.le_of_ble_eq_true rfl) (Nat.le_of_ble_eq_true rfl) (Nat.le_of_ble_eq_true rfl) (Nat.le_of_ble_eq_true rfl) (Nat.le_of_ble_eq_true rfl) dX8_assign_150 (fun z3 v3 hz3 => ?_)
    refine g_if_ne F rfl (tgt := 158) rfl dX8_assign_153 (fun n4 => ?_) (fun n4 => ?_)
    · exact g_none
    · refine g_iconst F 2 rfl dX8_assign_156 ?_
      exact g_ireturn F rfl rfl rfl rfl (Nat.le_of_ble_eq_true rfl) (Nat.le_of_ble_eq_true rfl) dX8_assign_157
  · refine g_aload_n F rfl 0 rfl dX8_assign_8 ?_
    refine g_iload_n F rfl 2 rfl rfl dX8_assign_9 ?_
    refine g_callV F (by decide) (K := 8) (b := a0) [(0, a2)] [0] ml_RX8_154 wi_X8_isParty ws_X8_isParty (c_X8_isParty a0 a2 (Int.not_lt.mp (Int.not_lt.mpr h0))) mi_X8_isParty (by decide) ⟨_, rfl, rfl⟩ (Int.not_lt.mp (Int.not_lt.mpr h0)) rfl rfl rfl (Nat.le_of_ble_eq_true rfl) (Nat.le_of_ble_eq_true rfl) (Nat.le_of_ble_eq_true rfl) (Nat.le_of_ble_eq_true rfl) (Nat.le_of_ble_eq_true rfl) dX8_assign_10 (fun z5 v5 hz5 => ?_)
    refine g_if_eq F rfl (tgt := 20) rfl dX8_assign_13 (fun n6 => ?_) (fun n6 => ?_)
    · refine g_iconst F 2 rfl dX8_assign_20 ?_
      refine g_istore F rfl (Nat.le_of_ble_eq_true rfl) (ls' := [(4, (2, 0)), (0, (18, a0)), (1, (0, a1)), (2, (0, a2)), (3, (0, a3))]) rfl dX8_assign_21 ?_
      refine g_iload F 0 rfl rfl dX8_assign_23 ?_
      refine g_if_eq_t F rfl (by decide) (tgt := 62) rfl dX8_assign_25 ?_
      refine g_iconst F 2 rfl dX8_assign_62 ?_
      refine g_istore F rfl (Nat.le_of_ble_eq_true rfl) (ls' := [(5, (2, 0)), (4, (2, 0)), (0, (18, a0)), (1, (0, a1)), (2, (0, a2)), (3, (0, a3))]) rfl dX8_assign_63 ?_
      refine g_iload F 0 rfl rfl dX8_assign_65 ?_
      refine g_if_eq_t F rfl (by decide) (tgt := 118) rfl dX8_assign_67 ?_
      refine g_iconst F 2 rfl dX8_assign_118 ?_
      refine g_istore F rfl (Nat.le_of_ble_eq_true rfl) (ls' := [(6, (2, 0)), (5, (2, 0)), (4, (2, 0)), (0, (18, a0)), (1, (0, a1)), (2, (0, a2)), (3, (0, a3))]) rfl dX8_assign_119 ?_
      refine g_aload_n F rfl 3 rfl dX8_assign_121 ?_
      refine g_iload F 2 rfl rfl dX8_assign_122 ?_
      refine g_if_ne_f F rfl (by decide) (tgt := 131) rfl dX8_assign_124 ?_
      refine g_iconst F 2 rfl dX8_assign_127 ?_
      refine g_goto F (tgt := 150) rfl dX8_assign_128 ?_
      refine g_callV F (by decide) (K := 8) (b := a0) [(2, 1)] [0] ml_RX8_151 wi_X8_holds ws_X8_holds (c_X8_holds a0 1 (Int.not_lt.mp (Int.not_lt.mpr h0))) mi_X8_holds (by decide) ⟨_, rfl, rfl⟩ (Int.not_lt.mp (Int.not_lt.mpr h0)) rfl rfl rfl (Nat.le_of_ble_eq_true rfl) (Nat.le_of_ble_eq_true rfl) (Nat.le_of_ble_eq_true rfl) (Nat.le_of_ble_eq_true rfl) (Nat.le_of_ble_eq_true rfl) dX8_assign_150 (fun z7 v7 hz7 => ?_)
      refine g_if_ne F rfl (tgt := 158) rfl dX8_assign_153 (fun n8 => ?_) (fun n8 => ?_)
      · exact g_none
      · refine g_iconst F 2 rfl dX8_assign_156 ?_
        exact g_ireturn F rfl rfl rfl rfl (Nat.le_of_ble_eq_true rfl) (Nat.le_of_ble_eq_true rfl) dX8_assign_157
    · refine g_iconst F 2 rfl dX8_assign_16 ?_
      refine g_goto F (tgt := 21) rfl dX8_assign_17 ?_
      refine g_istore F rfl (Nat.le_of_ble_eq_true rfl) (ls' := [(4, (2, 1)), (0, (18, a0)), (1, (0, a1)), (2, (0, a2)), (3, (0, a3))]) rfl dX8_assign_21 ?_
      refine g_iload F 0 rfl rfl dX8_assign_23 ?_
      refine g_if_eq_f F rfl (by decide) (tgt := 62) rfl dX8_assign_25 ?_
      refine g_iload_n F rfl 4 rfl rfl dX8_assign_28 ?_
      refine g_iconst F 2 rfl dX8_assign_29 ?_
      refine g_ldc F rfl cn_RX8_150 dX8_assign_30 ?_
      refine g_callS F (by decide) [(0, a3), (2, 0), (0, 1000000)] [0, 0, 0] ml_RX8_133 wt_X8_in (c_X8_in a3 0 1000000) mi_X8_in rfl rfl rfl (Nat.le_of_ble_eq_true rfl) (Nat.le_of_ble_eq_true rfl) (Nat.le_of_ble_eq_true rfl) (Nat.le_of_ble_eq_true rfl) (Nat.le_of_ble_eq_true rfl) dX8_assign_32 (fun z9 v9 hz9 => ?_)
      refine g_if_eq F rfl (tgt := 62) rfl dX8_assign_35 (fun n10 => ?_) (fun n10 => ?_)
      · refine g_iconst F 2 rfl dX8_assign_62 ?_
        refine g_istore F rfl (Nat.le_of_ble_eq_true rfl) (ls' := [(5, (2, 0)), (4, (2, 1)), (0, (18, a0)), (1, (0, a1)), (2, (0, a2)), (3, (0, a3))]) rfl dX8_assign_63 ?_
        refine g_iload F 0 rfl rfl dX8_assign_65 ?_
        refine g_if_eq_t F rfl (by decide) (tgt := 118) rfl dX8_assign_67 ?_
        refine g_iconst F 2 rfl dX8_assign_118 ?_
        refine g_istore F rfl (Nat.le_of_ble_eq_true rfl) (ls' := [(6, (2, 0)), (5, (2, 0)), (4, (2, 1)), (0, (18, a0)), (1, (0, a1)), (2, (0, a2)), (3, (0, a3))]) rfl dX8_assign_119 ?_
        refine g_aload_n F rfl 3 rfl dX8_assign_121 ?_
        refine g_iload F 2 rfl rfl dX8_assign_122 ?_
        refine g_if_ne_t F rfl (by decide) (tgt := 131) rfl dX8_assign_124 ?_
        refine g_iload F 1 rfl rfl dX8_assign_131 ?_
        refine g_if_ne_f F rfl (by decide) (tgt := 140) rfl dX8_assign_133 ?_
        refine g_iconst F 0 rfl dX8_assign_136 ?_
        refine g_goto F (tgt := 150) rfl dX8_assign_137 ?_
        refine g_callV F (by decide) (K := 8) (b := a0) [(0, 2)] [0] ml_RX8_151 wi_X8_holds ws_X8_holds (c_X8_holds a0 2 (Int.not_lt.mp (Int.not_lt.mpr h0))) mi_X8_holds (by decide) ⟨_, rfl, rfl⟩ (Int.not_lt.mp (Int.not_lt.mpr h0)) rfl rfl rfl (Nat.le_of_ble_eq_true rfl) (Nat.le_of_ble_eq_true rfl) (Nat.le_of_ble_eq_true rfl) (Nat.le_of_ble_eq_true rfl) (Nat.le_of_ble_eq_true rfl) dX8_assign_150 (fun z11 v11 hz11 => ?_)
        refine g_if_ne F rfl (tgt := 158) rfl dX8_assign_153 (fun n12 => ?_) (fun n12 => ?_)
        · exact g_none
        · refine g_iconst F 2 rfl dX8_assign_156 ?_
          exact g_ireturn F rfl rfl rfl rfl (Nat.le_of_ble_eq_true rfl) (Nat.le_of_ble_eq_true rfl) dX8_assign_157
      · refine g_iload_n F rfl 3 rfl rfl dX8_assign_38 ?_
        refine g_aload_n F rfl 1 rfl dX8_assign_39 ?_
        refine g_get F (t := 88) (sI := 38) fl_RX8_108 rfl rfl (Int.not_lt.mp (Int.not_lt.mpr h0)) dX8_assign_40 ?_
        refine g_iload_n F rfl 2 rfl rfl dX8_assign_43 ?_
        refine g_chk (fun n13 => ?_)
        refine g_chk (fun n14 => ?_)
        refine h_iald F (n := 20) ak_78 (Int.not_lt.mp (Int.not_lt.mpr n13)) n14 rfl dX8_assign_44 ?_
        refine g_icmp_eq F rfl rfl (tgt := 62) rfl dX8_assign_45 (fun n15 => ?_) (fun n15 => ?_)
        · refine g_iconst F 2 rfl dX8_assign_62 ?_
          refine g_istore F rfl (Nat.le_of_ble_eq_true rfl) (ls' := [(5, (2, 0)), (4, (2, 1)), (0, (18, a0)), (1, (0, a1)), (2, (0, a2)), (3, (0, a3))]) rfl dX8_assign_63 ?_
          refine g_iload F 0 rfl rfl dX8_assign_65 ?_
          refine g_if_eq_t F rfl (by decide) (tgt := 118) rfl dX8_assign_67 ?_
          refine g_iconst F 2 rfl dX8_assign_118 ?_
          refine g_istore F rfl (Nat.le_of_ble_eq_true rfl) (ls' := [(6, (2, 0)), (5, (2, 0)), (4, (2, 1)), (0, (18, a0)), (1, (0, a1)), (2, (0, a2)), (3, (0, a3))]) rfl dX8_assign_119 ?_
          refine g_aload_n F rfl 3 rfl dX8_assign_121 ?_
          refine g_iload F 2 rfl rfl dX8_assign_122 ?_
          refine g_if_ne_t F rfl (by decide) (tgt := 131) rfl dX8_assign_124 ?_
          refine g_iload F 1 rfl rfl dX8_assign_131 ?_
          refine g_if_ne_f F rfl (by decide) (tgt := 140) rfl dX8_assign_133 ?_
          refine g_iconst F 0 rfl dX8_assign_136 ?_
          refine g_goto F (tgt := 150) rfl dX8_assign_137 ?_
          refine g_callV F (by decide) (K := 8) (b := a0) [(0, 2)] [0] ml_RX8_151 wi_X8_holds ws_X8_holds (c_X8_holds a0 2 (Int.not_lt.mp (Int.not_lt.mpr h0))) mi_X8_holds (by decide) ⟨_, rfl, rfl⟩ (Int.not_lt.mp (Int.not_lt.mpr h0)) rfl rfl rfl (Nat.le_of_ble_eq_true rfl) (Nat.le_of_ble_eq_true rfl) (Nat.le_of_ble_eq_true rfl) (Nat.le_of_ble_eq_true rfl) (Nat.le_of_ble_eq_true rfl) dX8_assign_150 (fun z16 v16 hz16 => ?_)
          refine g_if_ne F rfl (tgt := 158) rfl dX8_assign_153 (fun n17 => ?_) (fun n17 => ?_)
          · exact g_none
          · refine g_iconst F 2 rfl dX8_assign_156 ?_
            exact g_ireturn F rfl rfl rfl rfl (Nat.le_of_ble_eq_true rfl) (Nat.le_of_ble_eq_true rfl) dX8_assign_157
        · refine g_iload_n F rfl 3 rfl rfl dX8_assign_48 ?_
          refine g_aload_n F rfl 1 rfl dX8_assign_49 ?_
          refine g_get F (t := 87) (sI := 37) fl_RX8_105 rfl rfl (Int.not_lt.mp (Int.not_lt.mpr h0)) dX8_assign_50 ?_
          refine g_iload_n F rfl 2 rfl rfl dX8_assign_53 ?_
          refine g_chk (fun n18 => ?_)
          refine h_iald F (n := 20) ak_77 (Int.not_lt.mp (Int.not_lt.mpr n18)) n14 rfl dX8_assign_54 ?_
          refine g_icmp_eq F rfl rfl (tgt := 62) rfl dX8_assign_55 (fun n19 => ?_) (fun n19 => ?_)
          · refine g_iconst F 2 rfl dX8_assign_62 ?_
            refine g_istore F rfl (Nat.le_of_ble_eq_true rfl) (ls' := [(5, (2, 0)), (4, (2, 1)), (0, (18, a0)), (1, (0, a1)), (2, (0, a2)), (3, (0, a3))]) rfl dX8_assign_63 ?_
            refine g_iload F 0 rfl rfl dX8_assign_65 ?_
            refine g_if_eq_t F rfl (by decide) (tgt := 118) rfl dX8_assign_67 ?_
            refine g_iconst F 2 rfl dX8_assign_118 ?_
            refine g_istore F rfl (Nat.le_of_ble_eq_true rfl) (ls' := [(6, (2, 0)), (5, (2, 0)), (4, (2, 1)), (0, (18, a0)), (1, (0, a1)), (2, (0, a2)), (3, (0, a3))]) rfl dX8_assign_119 ?_
            refine g_aload_n F rfl 3 rfl dX8_assign_121 ?_
            refine g_iload F 2 rfl rfl dX8_assign_122 ?_
            refine g_if_ne_t F rfl (by decide) (tgt := 131) rfl dX8_assign_124 ?_
            refine g_iload F 1 rfl rfl dX8_assign_131 ?_
            refine g_if_ne_f F rfl (by decide) (tgt := 140) rfl dX8_assign_133 ?_
            refine g_iconst F 0 rfl dX8_assign_136 ?_
            refine g_goto F (tgt := 150) rfl dX8_assign_137 ?_
            refine g_callV F (by decide) (K := 8) (b := a0) [(0, 2)] [0] ml_RX8_151 wi_X8_holds ws_X8_holds (c_X8_holds a0 2 (Int.not_lt.mp (Int.not_lt.mpr h0))) mi_X8_holds (by decide) ⟨_, rfl, rfl⟩ (Int.not_lt.mp (Int.not_lt.mpr h0)) rfl rfl rfl (Nat.le_of_ble_eq_true rfl) (Nat.le_of_ble_eq_true rfl) (Nat.le_of_ble_eq_true rfl) (Nat.le_of_ble_eq_true rfl) (Nat.le_of_ble_eq_true rfl) dX8_assign_150 (fun z20 v20 hz20 => ?_)
            refine g_if_ne F rfl (tgt := 158) rfl dX8_assign_153 (fun n21 => ?_) (fun n21 => ?_)
            · exact g_none
            · refine g_iconst F 2 rfl dX8_assign_156 ?_
              exact g_ireturn F rfl rfl rfl rfl (Nat.le_of_ble_eq_true rfl) (Nat.le_of_ble_eq_true rfl) dX8_assign_157
          · refine g_iconst F 2 rfl dX8_assign_58 ?_
            refine g_goto F (tgt := 63) rfl dX8_assign_59 ?_
            refine g_istore F rfl (Nat.le_of_ble_eq_true rfl) (ls' := [(5, (2, 1)), (4, (2, 1)), (0, (18, a0)), (1, (0, a1)), (2, (0, a2)), (3, (0, a3))]) rfl dX8_assign_63 ?_
            refine g_iload F 0 rfl rfl dX8_assign_65 ?_
            refine g_if_eq_f F rfl (by decide) (tgt := 118) rfl dX8_assign_67 ?_
            refine g_aload_n F rfl 2 rfl dX8_assign_70 ?_
            refine g_get F (t := 93) (sI := 43) fl_RX8_123 rfl rfl (Int.not_lt.mp (Int.not_lt.mpr h0)) dX8_assign_71 ?_
            refine g_iload_n F rfl 3 rfl rfl dX8_assign_74 ?_
            refine g_chk (fun n22 => ?_)
            refine h_zald F (n := 20) ak_83 (Int.not_lt.mp (Int.not_lt.mpr n22)) n14 rfl dX8_assign_75 ?_
            refine g_if_ne F rfl (tgt := 118) rfl dX8_assign_76 (fun n23 => ?_) (fun n23 => ?_)
            · refine g_iconst F 2 rfl dX8_assign_118 ?_
              refine g_istore F rfl (Nat.le_of_ble_eq_true rfl) (ls' := [(6, (2, 0)), (5, (2, 1)), (4, (2, 1)), (0, (18, a0)), (1, (0, a1)), (2, (0, a2)), (3, (0, a3))]) rfl dX8_assign_119 ?_
              refine g_aload_n F rfl 3 rfl dX8_assign_121 ?_
              refine g_iload F 2 rfl rfl dX8_assign_122 ?_
              refine g_if_ne_t F rfl (by decide) (tgt := 131) rfl dX8_assign_124 ?_
              refine g_iload F 1 rfl rfl dX8_assign_131 ?_
              refine g_if_ne_t F rfl (by decide) (tgt := 140) rfl dX8_assign_133 ?_
              refine g_iload F 0 rfl rfl dX8_assign_140 ?_
              refine g_if_eq_t F rfl (by decide) (tgt := 149) rfl dX8_assign_142 ?_
              refine g_iconst F 0 rfl dX8_assign_149 ?_
              refine g_callV F (by decide) (K := 8) (b := a0) [(0, 3)] [0] ml_RX8_151 wi_X8_holds ws_X8_holds (c_X8_holds a0 3 (Int.not_lt.mp (Int.not_lt.mpr h0))) mi_X8_holds (by decide) ⟨_, rfl, rfl⟩ (Int.not_lt.mp (Int.not_lt.mpr h0)) rfl rfl rfl (Nat.le_of_ble_eq_true rfl) (Nat.le_of_ble_eq_true rfl) (Nat.le_of_ble_eq_true rfl) (Nat.le_of_ble_eq_true rfl) (Nat.le_of_ble_eq_true rfl) dX8_assign_150 (fun z24 v24 hz24 => ?_)
              refine g_if_ne F rfl (tgt := 158) rfl dX8_assign_153 (fun n25 => ?_) (fun n25 => ?_)
              · exact g_none
              · refine g_iconst F 2 rfl dX8_assign_156 ?_
                exact g_ireturn F rfl rfl rfl rfl (Nat.le_of_ble_eq_true rfl) (Nat.le_of_ble_eq_true rfl) dX8_assign_157
            · refine g_aload_n F rfl 2 rfl dX8_assign_79 ?_
              refine g_get F (t := 55) (sI := 5) fl_RX8_17 rfl rfl (Int.not_lt.mp (Int.not_lt.mpr h0)) dX8_assign_80 ?_
              refine g_aload_n F rfl 2 rfl dX8_assign_83 ?_
              refine g_get F (t := 88) (sI := 38) fl_RX8_108 rfl rfl (Int.not_lt.mp (Int.not_lt.mpr h0)) dX8_assign_84 ?_
              refine g_iload_n F rfl 3 rfl rfl dX8_assign_87 ?_
              refine h_iald F (n := 20) ak_78 (Int.not_lt.mp (Int.not_lt.mpr n13)) n14 rfl dX8_assign_88 ?_
              refine g_chk (fun n26 => ?_)
              refine g_chk (fun n27 => ?_)
              refine h_zald F (n := 10) ak_45 (Int.not_lt.mp (Int.not_lt.mpr n26)) n27 rfl dX8_assign_89 ?_
              refine g_if_ne F rfl (tgt := 118) rfl dX8_assign_90 (fun n28 => ?_) (fun n28 => ?_)
              · refine g_iconst F 2 rfl dX8_assign_118 ?_
                refine g_istore F rfl (Nat.le_of_ble_eq_true rfl) (ls' := [(6, (2, 0)), (5, (2, 1)), (4, (2, 1)), (0, (18, a0)), (1, (0, a1)), (2, (0, a2)), (3, (0, a3))]) rfl dX8_assign_119 ?_
                refine g_aload_n F rfl 3 rfl dX8_assign_121 ?_
                refine g_iload F 2 rfl rfl dX8_assign_122 ?_
                refine g_if_ne_t F rfl (by decide) (tgt := 131) rfl dX8_assign_124 ?_
                refine g_iload F 1 rfl rfl dX8_assign_131 ?_
                refine g_if_ne_t F rfl (by decide) (tgt := 140) rfl dX8_assign_133 ?_
                refine g_iload F 0 rfl rfl dX8_assign_140 ?_
                refine g_if_eq_t F rfl (by decide) (tgt := 149) rfl dX8_assign_142 ?_
                refine g_iconst F 0 rfl dX8_assign_149 ?_
                refine g_callV F (by decide) (K := 8) (b := a0) [(0, 3)] [0] ml_RX8_151 wi_X8_holds ws_X8_holds (c_X8_holds a0 3 (Int.not_lt.mp (Int.not_lt.mpr h0))) mi_X8_holds (by decide) ⟨_, rfl, rfl⟩ (Int.not_lt.mp (Int.not_lt.mpr h0)) rfl rfl rfl (Nat.le_of_ble_eq_true rfl) (Nat.le_of_ble_eq_true rfl) (Nat.le_of_ble_eq_true rfl) (Nat.le_of_ble_eq_true rfl) (Nat.le_of_ble_eq_true rfl) dX8_assign_150 (fun z29 v29 hz29 => ?_)
                refine g_if_ne F rfl (tgt := 158) rfl dX8_assign_153 (fun n30 => ?_) (fun n30 => ?_)
                · exact g_none
                · refine g_iconst F 2 rfl dX8_assign_156 ?_
                  exact g_ireturn F rfl rfl rfl rfl (Nat.le_of_ble_eq_true rfl) (Nat.le_of_ble_eq_true rfl) dX8_assign_157
              · refine g_aload_n F rfl 2 rfl dX8_assign_93 ?_
                refine g_get F (t := 55) (sI := 5) fl_RX8_17 rfl rfl (Int.not_lt.mp (Int.not_lt.mpr h0)) dX8_assign_94 ?_
                refine g_iload_n F rfl 4 rfl rfl dX8_assign_97 ?_
                refine g_chk (fun n31 => ?_)
                refine h_zald F (n := 10) ak_45 (Int.not_lt.mp (Int.not_lt.mpr n26)) n31 rfl dX8_assign_98 ?_
                refine g_if_ne F rfl (tgt := 118) rfl dX8_assign_99 (fun n32 => ?_) (fun n32 => ?_)
                · refine g_iconst F 2 rfl dX8_assign_118 ?_
                  refine g_istore F rfl (Nat.le_of_ble_eq_true rfl) (ls' := [(6, (2, 0)), (5, (2, 1)), (4, (2, 1)), (0, (18, a0)), (1, (0, a1)), (2, (0, a2)), (3, (0, a3))]) rfl dX8_assign_119 ?_
                  refine g_aload_n F rfl 3 rfl dX8_assign_121 ?_
                  refine g_iload F 2 rfl rfl dX8_assign_122 ?_
                  refine g_if_ne_t F rfl (by decide) (tgt := 131) rfl dX8_assign_124 ?_
                  refine g_iload F 1 rfl rfl dX8_assign_131 ?_
                  refine g_if_ne_t F rfl (by decide) (tgt := 140) rfl dX8_assign_133 ?_
                  refine g_iload F 0 rfl rfl dX8_assign_140 ?_
                  refine g_if_eq_t F rfl (by decide) (tgt := 149) rfl dX8_assign_142 ?_
                  refine g_iconst F 0 rfl dX8_assign_149 ?_
                  refine g_callV F (by decide) (K := 8) (b := a0) [(0, 3)] [0] ml_RX8_151 wi_X8_holds ws_X8_holds (c_X8_holds a0 3 (Int.not_lt.mp (Int.not_lt.mpr h0))) mi_X8_holds (by decide) ⟨_, rfl, rfl⟩ (Int.not_lt.mp (Int.not_lt.mpr h0)) rfl rfl rfl (Nat.le_of_ble_eq_true rfl) (Nat.le_of_ble_eq_true rfl) (Nat.le_of_ble_eq_true rfl) (Nat.le_of_ble_eq_true rfl) (Nat.le_of_ble_eq_true rfl) dX8_assign_150 (fun z33 v33 hz33 => ?_)
                  refine g_if_ne F rfl (tgt := 158) rfl dX8_assign_153 (fun n34 => ?_) (fun n34 => ?_)
                  · exact g_none
                  · refine g_iconst F 2 rfl dX8_assign_156 ?_
                    exact g_ireturn F rfl rfl rfl rfl (Nat.le_of_ble_eq_true rfl) (Nat.le_of_ble_eq_true rfl) dX8_assign_157
                · refine g_aload_n F rfl 2 rfl dX8_assign_102 ?_
                  refine g_get F (t := 53) (sI := 3) fl_RX8_7 rfl rfl (Int.not_lt.mp (Int.not_lt.mpr h0)) dX8_assign_103 ?_
                  refine g_iload_n F rfl 4 rfl rfl dX8_assign_106 ?_
                  refine g_chk (fun n35 => ?_)
                  refine h_lald F (n := 10) ak_43 (Int.not_lt.mp (Int.not_lt.mpr n35)) n31 rfl dX8_assign_107 ?_
                  refine g_iload_n F rfl 5 rfl rfl dX8_assign_108 ?_
                  refine g_i2l F rfl dX8_assign_109 ?_
                  refine g_lcmp F dX8_assign_110 ?_
                  refine g_if_lt F rfl (tgt := 118) rfl dX8_assign_111 (fun n36 => ?_) (fun n36 => ?_)
                  · refine g_iconst F 2 rfl dX8_assign_118 ?_
                    refine g_istore F rfl (Nat.le_of_ble_eq_true rfl) (ls' := [(6, (2, 0)), (5, (2, 1)), (4, (2, 1)), (0, (18, a0)), (1, (0, a1)), (2, (0, a2)), (3, (0, a3))]) rfl dX8_assign_119 ?_
                    refine g_aload_n F rfl 3 rfl dX8_assign_121 ?_
                    refine g_iload F 2 rfl rfl dX8_assign_122 ?_
                    refine g_if_ne_t F rfl (by decide) (tgt := 131) rfl dX8_assign_124 ?_
                    refine g_iload F 1 rfl rfl dX8_assign_131 ?_
                    refine g_if_ne_t F rfl (by decide) (tgt := 140) rfl dX8_assign_133 ?_
                    refine g_iload F 0 rfl rfl dX8_assign_140 ?_
                    refine g_if_eq_t F rfl (by decide) (tgt := 149) rfl dX8_assign_142 ?_
                    refine g_iconst F 0 rfl dX8_assign_149 ?_
                    refine g_callV F (by decide) (K := 8) (b := a0) [(0, 3)] [0] ml_RX8_151 wi_X8_holds ws_X8_holds (c_X8_holds a0 3 (Int.not_lt.mp (Int.not_lt.mpr h0))) mi_X8_holds (by decide) ⟨_, rfl, rfl⟩ (Int.not_lt.mp (Int.not_lt.mpr h0)) rfl rfl rfl (Nat.le_of_ble_eq_true rfl) (Nat.le_of_ble_eq_true rfl) (Nat.le_of_ble_eq_true rfl) (Nat.le_of_ble_eq_true rfl) (Nat.le_of_ble_eq_true rfl) dX8_assign_150 (fun z37 v37 hz37 => ?_)
                    refine g_if_ne F rfl (tgt := 158) rfl dX8_assign_153 (fun n38 => ?_) (fun n38 => ?_)
                    · exact g_none
                    · refine g_iconst F 2 rfl dX8_assign_156 ?_
                      exact g_ireturn F rfl rfl rfl rfl (Nat.le_of_ble_eq_true rfl) (Nat.le_of_ble_eq_true rfl) dX8_assign_157
                  · refine g_iconst F 2 rfl dX8_assign_114 ?_
                    refine g_goto F (tgt := 119) rfl dX8_assign_115 ?_
                    refine g_istore F rfl (Nat.le_of_ble_eq_true rfl) (ls' := [(6, (2, 1)), (5, (2, 1)), (4, (2, 1)), (0, (18, a0)), (1, (0, a1)), (2, (0, a2)), (3, (0, a3))]) rfl dX8_assign_119 ?_
                    refine g_aload_n F rfl 3 rfl dX8_assign_121 ?_
                    refine g_iload F 2 rfl rfl dX8_assign_122 ?_
                    refine g_if_ne_t F rfl (by decide) (tgt := 131) rfl dX8_assign_124 ?_
                    refine g_iload F 1 rfl rfl dX8_assign_131 ?_
                    refine g_if_ne_t F rfl (by decide) (tgt := 140) rfl dX8_assign_133 ?_
                    refine g_iload F 0 rfl rfl dX8_assign_140 ?_
                    refine g_if_eq_f F rfl (by decide) (tgt := 149) rfl dX8_assign_142 ?_
                    refine g_iconst F 2 rfl dX8_assign_145 ?_
                    refine g_goto F (tgt := 150) rfl dX8_assign_146 ?_
                    refine g_callV F (by decide) (K := 8) (b := a0) [(2, 0)] [0] ml_RX8_151 wi_X8_holds ws_X8_holds (c_X8_holds a0 0 (Int.not_lt.mp (Int.not_lt.mpr h0))) mi_X8_holds (by decide) ⟨_, rfl, rfl⟩ (Int.not_lt.mp (Int.not_lt.mpr h0)) rfl rfl rfl (Nat.le_of_ble_eq_true rfl) (Nat.le_of_ble_eq_true rfl) (Nat.le_of_ble_eq_true rfl) (Nat.le_of_ble_eq_true rfl) (Nat.le_of_ble_eq_true rfl) dX8_assign_150 (fun z39 v39 hz39 => ?_)
                    refine g_if_ne F rfl (tgt := 158) rfl dX8_assign_153 (fun n40 => ?_) (fun n40 => ?_)
                    · refine g_aload_n F rfl 3 rfl dX8_assign_158 ?_
                      refine g_get F (t := 88) (sI := 38) fl_RX8_108 rfl rfl (Int.not_lt.mp (Int.not_lt.mpr h0)) dX8_assign_159 ?_
                      refine g_iload_n F rfl 4 rfl rfl dX8_assign_162 ?_
                      refine g_chk (fun n41 => ?_)
                      refine h_iald F (n := 20) ak_78 (Int.not_lt.mp (Int.not_lt.mpr n41)) n14 rfl dX8_assign_163 ?_
                      refine g_istore F rfl (Nat.le_of_ble_eq_true rfl) (ls' := [(7, (0, (v39 78 (v39 8 a0 38) a1))), (6, (2, 1)), (5, (2, 1)), (4, (2, 1)), (0, (18, a0)), (1, (0, a1)), (2, (0, a2)), (3, (0, a3))]) rfl dX8_assign_164 ?_
                      refine g_aload_n F rfl 4 rfl dX8_assign_166 ?_
                      refine g_get F (t := 53) (sI := 3) fl_RX8_7 rfl rfl (Int.not_lt.mp (Int.not_lt.mpr h0)) dX8_assign_167 ?_
                      refine g_iload_n F rfl 6 rfl rfl dX8_assign_170 ?_
                      refine g_dup2 F rfl rfl dX8_assign_171 ?_
                      refine g_chk (fun n42 => ?_)
                      refine h_lald F (n := 10) ak_43 (Int.not_lt.mp (Int.not_lt.mpr n42)) n31 rfl dX8_assign_172 ?_
                      refine g_iload_n F rfl 7 rfl rfl dX8_assign_173 ?_
                      refine g_i2l F rfl dX8_assign_174 ?_
                      refine g_lsub F dX8_assign_175 ?_
                      refine h_last F (n := 10) ak_43 rfl (Int.not_lt.mp (Int.not_lt.mpr n42)) n31 rfl dX8_assign_176 (fun v43 => ?_)
                      refine g_aload_n F rfl 4 rfl dX8_assign_177 ?_
                      refine g_get F (t := 53) (sI := 3) fl_RX8_7 rfl rfl (Int.not_lt.mp (Int.not_lt.mpr h0)) dX8_assign_178 ?_
                      refine g_iload F 0 rfl rfl dX8_assign_181 ?_
                      refine g_dup2 F rfl rfl dX8_assign_183 ?_
                      refine g_chk (fun n44 => ?_)
                      refine g_chk (fun n45 => ?_)
                      refine h_lald F (n := 10) ak_43 (Int.not_lt.mp (Int.not_lt.mpr n44)) n45 rfl dX8_assign_184 ?_
                      refine g_iload_n F rfl 7 rfl rfl dX8_assign_185 ?_
                      refine g_i2l F rfl dX8_assign_186 ?_
                      refine g_ladd F dX8_assign_187 ?_
                      refine h_last F (n := 10) ak_43 rfl (Int.not_lt.mp (Int.not_lt.mpr n44)) n45 rfl dX8_assign_188 (fun v46 => ?_)
                      refine g_aload_n F rfl 4 rfl dX8_assign_189 ?_
                      refine g_get F (t := 88) (sI := 38) fl_RX8_108 rfl rfl (Int.not_lt.mp (Int.not_lt.mpr h0)) dX8_assign_190 ?_
                      refine g_iload_n F rfl 5 rfl rfl dX8_assign_193 ?_
                      refine g_iload_n F rfl 6 rfl rfl dX8_assign_194 ?_
                      refine g_chk (fun n47 => ?_)
                      refine h_iast F (n := 20) ak_78 rfl (Int.not_lt.mp (Int.not_lt.mpr n47)) n14 rfl dX8_assign_195 (fun v48 => ?_)
                      refine g_iload F 0 rfl rfl dX8_assign_196 ?_
                      exact g_ireturn F rfl rfl rfl rfl (Nat.le_of_ble_eq_true rfl) (Nat.le_of_ble_eq_true rfl) dX8_assign_198
                    · exact g_none
theorem c_X8_assign (a0 a1 a2 a3 : Int) (h0 : 0 ≤ a0) : ∀ l, Ct l yX8_assign cX8_assign 8 (some .int) ({ frames := 2, cells := 0, slots := 0, locals := 43 }) (some 0) [(18, a0), (0, a1), (0, a2), (0, a3)] (sp_X8_assign a0 a1 a2 a3) := g_method (by decide +kernel) (Nat.le_of_ble_eq_true rfl) (fun x v F ho => k_X8_assign a0 a1 a2 a3 h0 x v F ho)
def sp_X8_price (a0 a1 a2 : Int) (v : V) : Res := (rB (sp_X8_isLot a0 a1 v) (fun z1 v1 => (if z1 = 0 then (rB (sp_X8_holds a0 1 v1) (fun z3 v3 => (if z3 = 0 then (rOk 0 v3)
   else none)))
   else (rB (sp_X8_isParty a0 a2 v1) (fun z5 v5 => (if z5 = 0 then (rB (sp_X8_holds a0 1 v5) (fun z7 v7 => (if z7 = 0 then (rOk 0 v7)
   else none)))
   else (rB (sp_X8_holds a0 0 v5) (fun z9 v9 => (if z9 = 0 then none
   else (rB (sp_X8_knows a0 a1 a2 v9) (fun z11 v11 => (if z11 = 0 then (rOk (-1) v11)
   else (chk (0 ≤ (v11 8 a0 32)) (chk (0 ≤ a1 ∧ a1 < 60) (rOk (v11 72 (v11 8 a0 32) a1) v11)))))))))))))))
set_option maxRecDepth 100000 in
set_option maxHeartbeats 4000000 in
theorem k_X8_price (a0 a1 a2 : Int) (h0 : 0 ≤ a0) (x : Cx) (v : V) (F : Fx x cX8_price RX8 "price" ({ frames := 2, cells := 0, slots := 0, locals := 43 }) 4 (some 0) (some .int) 0) (ho : ∀ a ∈ [(18, a0), (0, a1), (0, a2)], okv v a) : Gs x (sp_X8_price a0 a1 a2 v) v 0 0 0 (avArgs 0 [(18, a0), (0, a1), (0, a2)]) [] := by
  show Gs x _ v 0 0 0 [(0, (18, a0)), (1, (0, a1)), (2, (0, a2))] []
  unfold sp_X8_price
  refine g_aload_n F rfl 0 rfl dX8_price_0 ?_
  refine g_iload_n F rfl 1 rfl rfl dX8_price_1 ?_
  refine g_callV F (by decide) (K := 8) (b := a0) [(0, a1)] [0] ml_RX8_191 wi_X8_isLot ws_X8_isLot (c_X8_isLot a0 a1 (Int.not_lt.mp (Int.not_lt.mpr h0))) mi_X8_isLot (by decide) ⟨_, rfl, rfl⟩ (Int.not_lt.mp (Int.not_lt.mpr h0)) rfl rfl rfl (Nat.le_of_ble_eq_true rfl) (Nat.le_of_ble_eq_true rfl) (Nat.le_of_ble_eq_true rfl) (Nat.le_of_ble_eq_true rfl) (Nat.le_of_ble_eq_true rfl) dX8_price_2 (fun z1 v1 hz1 => ?_)
  refine g_if_eq F rfl (tgt := 20) rfl dX8_price_5 (fun n2 => ?_) (fun n2 => ?_)
  · refine g_iconst F 2 rfl dX8_price_20 ?_
    refine g_istore_n F rfl rfl (Nat.le_of_ble_eq_true rfl) (ls' := [(3, (2, 0)), (0, (18, a0)), (1, (0, a1)), (2, (0, a2))]) rfl dX8_price_21 ?_
    refine g_aload_n F rfl 1 rfl dX8_price_22 ?_
    refine g_iload_n F rfl 0 rfl rfl dX8_price_23 ?_
    refine g_if_eq_t F rfl (by decide) (tgt := 31) rfl dX8_price_24 ?_
    refine g_iconst F 2 rfl dX8_price_31 ?_
    refine g_callV F (by decide) (K := 8) (b := a0) [(2, 1)] [0] ml_RX8_151 wi_X8_holds ws_X8_holds (c_X8_holds a0 1 (Int.not_lt.mp (Int.not_lt.mpr h0))) mi_X8_holds (by decide) ⟨_, rfl, rfl⟩ (Int.not_lt.mp (Int.not_lt.mpr h0)) rfl rfl rfl (Nat.le_of_ble_eq_true rfl) (Nat.le_of_ble_eq_true rfl) (Nat.le_of_ble_eq_true rfl) (Nat.le_of_ble_eq_true rfl) (Nat.le_of_ble_eq_true rfl) dX8_price_32 (fun z3 v3 hz3 => ?_)
    refine g_if_eq F rfl (tgt := 60) rfl dX8_price_35 (fun n4 => ?_) (fun n4 => ?_)
    · refine g_iconst F 2 rfl dX8_price_60 ?_
      exact g_ireturn F rfl rfl rfl rfl (Nat.le_of_ble_eq_true rfl) (Nat.le_of_ble_eq_true rfl) dX8_price_61
    · exact g_none
  · refine g_aload_n F rfl 0 rfl dX8_price_8 ?_
    refine g_iload_n F rfl 2 rfl rfl dX8_price_9 ?_
    refine g_callV F (by decide) (K := 8) (b := a0) [(0, a2)] [0] ml_RX8_154 wi_X8_isParty ws_X8_isParty (c_X8_isParty a0 a2 (Int.not_lt.mp (Int.not_lt.mpr h0))) mi_X8_isParty (by decide) ⟨_, rfl, rfl⟩ (Int.not_lt.mp (Int.not_lt.mpr h0)) rfl rfl rfl (Nat.le_of_ble_eq_true rfl) (Nat.le_of_ble_eq_true rfl) (Nat.le_of_ble_eq_true rfl) (Nat.le_of_ble_eq_true rfl) (Nat.le_of_ble_eq_true rfl) dX8_price_10 (fun z5 v5 hz5 => ?_)
    refine g_if_eq F rfl (tgt := 20) rfl dX8_price_13 (fun n6 => ?_) (fun n6 => ?_)
    · refine g_iconst F 2 rfl dX8_price_20 ?_
      refine g_istore_n F rfl rfl (Nat.le_of_ble_eq_true rfl) (ls' := [(3, (2, 0)), (0, (18, a0)), (1, (0, a1)), (2, (0, a2))]) rfl dX8_price_21 ?_
      refine g_aload_n F rfl 1 rfl dX8_price_22 ?_
      refine g_iload_n F rfl 0 rfl rfl dX8_price_23 ?_
      refine g_if_eq_t F rfl (by decide) (tgt := 31) rfl dX8_price_24 ?_
      refine g_iconst F 2 rfl dX8_price_31 ?_
      refine g_callV F (by decide) (K := 8) (b := a0) [(2, 1)] [0] ml_RX8_151 wi_X8_holds ws_X8_holds (c_X8_holds a0 1 (Int.not_lt.mp (Int.not_lt.mpr h0))) mi_X8_holds (by decide) ⟨_, rfl, rfl⟩ (Int.not_lt.mp (Int.not_lt.mpr h0)) rfl rfl rfl (Nat.le_of_ble_eq_true rfl) (Nat.le_of_ble_eq_true rfl) (Nat.le_of_ble_eq_true rfl) (Nat.le_of_ble_eq_true rfl) (Nat.le_of_ble_eq_true rfl) dX8_price_32 (fun z7 v7 hz7 => ?_)
      refine g_if_eq F rfl (tgt := 60) rfl dX8_price_35 (fun n8 => ?_) (fun n8 => ?_)
      · refine g_iconst F 2 rfl dX8_price_60 ?_
        exact g_ireturn F rfl rfl rfl rfl (Nat.le_of_ble_eq_true rfl) (Nat.le_of_ble_eq_true rfl) dX8_price_61
      · exact g_none
    · refine g_iconst F 2 rfl dX8_price_16 ?_
      refine g_goto F (tgt := 21) rfl dX8_price_17 ?_
      refine g_istore_n F rfl rfl (Nat.le_of_ble_eq_true rfl) (ls' := [(3, (2, 1)), (0, (18, a0)), (1, (0, a1)), (2, (0, a2))]) rfl dX8_price_21 ?_
      refine g_aload_n F rfl 1 rfl dX8_price_22 ?_
      refine g_iload_n F rfl 0 rfl rfl dX8_price_23 ?_
      refine g_if_eq_f F rfl (by decide) (tgt := 31) rfl dX8_price_24 ?_
      refine g_iconst F 2 rfl dX8_price_27 ?_
      refine g_goto F (tgt := 32) rfl dX8_price_28 ?_
      refine g_callV F (by decide) (K := 8) (b := a0) [(2, 0)] [0] ml_RX8_151 wi_X8_holds ws_X8_holds (c_X8_holds a0 0 (Int.not_lt.mp (Int.not_lt.mpr h0))) mi_X8_holds (by decide) ⟨_, rfl, rfl⟩ (Int.not_lt.mp (Int.not_lt.mpr h0)) rfl rfl rfl (Nat.le_of_ble_eq_true rfl) (Nat.le_of_ble_eq_true rfl) (Nat.le_of_ble_eq_true rfl) (Nat.le_of_ble_eq_true rfl) (Nat.le_of_ble_eq_true rfl) dX8_price_32 (fun z9 v9 hz9 => ?_)
      refine g_if_eq F rfl (tgt := 60) rfl dX8_price_35 (fun n10 => ?_) (fun n10 => ?_)
      · exact g_none
      · refine g_aload_n F rfl 1 rfl dX8_price_38 ?_
        refine g_iload_n F rfl 2 rfl rfl dX8_price_39 ?_
        refine g_iload_n F rfl 3 rfl rfl dX8_price_40 ?_
        refine g_callV F (by decide) (K := 8) (b := a0) [(0, a1), (0, a2)] [0, 0] ml_RX8_205 wi_X8_knows ws_X8_knows (c_X8_knows a0 a1 a2 (Int.not_lt.mp (Int.not_lt.mpr h0))) mi_X8_knows (by decide) ⟨_, rfl, rfl⟩ (Int.not_lt.mp (Int.not_lt.mpr h0)) rfl rfl rfl (Nat.le_of_ble_eq_true rfl) (Nat.le_of_ble_eq_true rfl) (Nat.le_of_ble_eq_true rfl) (Nat.le_of_ble_eq_true rfl) (Nat.le_of_ble_eq_true rfl) dX8_price_41 (fun z11 v11 hz11 => ?_)
        refine g_if_eq F rfl (tgt := 56) rfl dX8_price_44 (fun n12 => ?_) (fun n12 => ?_)
        · refine g_iconst F 0 rfl dX8_price_56 ?_
          refine g_goto F (tgt := 61) rfl dX8_price_57 ?_
          exact g_ireturn F rfl rfl rfl rfl (Nat.le_of_ble_eq_true rfl) (Nat.le_of_ble_eq_true rfl) dX8_price_61
        · refine g_aload_n F rfl 1 rfl dX8_price_47 ?_
          refine g_get F (t := 82) (sI := 32) fl_RX8_93 rfl rfl (Int.not_lt.mp (Int.not_lt.mpr h0)) dX8_price_48 ?_
          refine g_iload_n F rfl 2 rfl rfl dX8_price_51 ?_
          refine g_chk (fun n13 => ?_)
          refine g_chk (fun n14 => ?_)
          refine h_iald F (n := 60) ak_72 (Int.not_lt.mp (Int.not_lt.mpr n13)) n14 rfl dX8_price_52 ?_
          refine g_goto F (tgt := 61) rfl dX8_price_53 ?_
          exact g_ireturn F rfl rfl rfl rfl (Nat.le_of_ble_eq_true rfl) (Nat.le_of_ble_eq_true rfl) dX8_price_61
theorem c_X8_price (a0 a1 a2 : Int) (h0 : 0 ≤ a0) : ∀ l, Ct l yX8_price cX8_price 4 (some .int) ({ frames := 2, cells := 0, slots := 0, locals := 43 }) (some 0) [(18, a0), (0, a1), (0, a2)] (sp_X8_price a0 a1 a2) := g_method (by decide +kernel) (Nat.le_of_ble_eq_true rfl) (fun x v F ho => k_X8_price a0 a1 a2 h0 x v F ho)

/-! methods, by the walker -/
def sp_X8_bring (a0 a1 a2 : Int) (v : V) : Res := (rB (sp_X8_isWork a0 a1 v) (fun z1 v1 => (if z1 = 0 then (rB (sp_X8_holds a0 1 v1) (fun z3 v3 => (if ¬ z3 = 0 then none
   else (rOk 0 v3))))
   else (rB (sp_X8_isLand a2 v1) (fun z5 v5 => (if z5 = 0 then (rB (sp_X8_holds a0 1 v5) (fun z7 v7 => (if ¬ z7 = 0 then none
   else (rOk 0 v7))))
   else (chk (0 ≤ (v5 8 a0 12)) (chk (0 ≤ a1 ∧ a1 < 12) (if (v5 52 (v5 8 a0 12) a1) = a2 then (rB (sp_X8_holds a0 0 v5) (fun z12 v12 => (if ¬ z12 = 0 then (chk (0 ≤ (v12 8 a0 12)) (rLet (up v12 52 (v12 8 a0 12) a1 a2) (fun v15 => (rOk (v12 52 (v12 8 a0 12) a1) v15))))
   else none)))
   else (chk (0 ≤ (v5 8 a0 13)) (if ¬ (v5 53 (v5 8 a0 13) a1) = 0 then (rB (sp_X8_holds a0 2 v5) (fun z18 v18 => (if ¬ z18 = 0 then none
   else (rOk 0 v18))))
   else (rB (sp_X8_leftOf a0 a1 v5) (fun z20 v20 => (if z20 ≤ 0 then (rB (sp_X8_holds a0 0 v20) (fun z22 v22 => (if ¬ z22 = 0 then (chk (0 ≤ (v22 8 a0 12)) (rLet (up v22 52 (v22 8 a0 12) a1 a2) (fun v25 => (rOk (v22 52 (v22 8 a0 12) a1) v25))))
   else none)))
   else (rB (sp_X8_holds a0 2 v20) (fun z26 v26 => (if ¬ z26 = 0 then none
   else (rOk 0 v26))))))))))))))))))
set_option maxRecDepth 100000 in
set_option maxHeartbeats 4000000 in
theorem k_X8_bring (a0 a1 a2 : Int) (h0 : 0 ≤ a0) (x : Cx) (v : V) (F : Fx x cX8_bring RX8 "bring" ({ frames := 2, cells := 0, slots := 0, locals := 43 }) 5 (some 0) (some .int) 0) (ho : ∀ a ∈ [(18, a0), (0, a1), (0, a2)], okv v a) : Gs x (sp_X8_bring a0 a1 a2 v) v 0 0 0 (avArgs 0 [(18, a0), (0, a1), (0, a2)]) [] := by
  show Gs x _ v 0 0 0 [(0, (18, a0)), (1, (0, a1)), (2, (0, a2))] []
  unfold sp_X8_bring
  refine g_aload_n F rfl 0 rfl dX8_bring_0 ?_
  refine g_iload_n F rfl 1 rfl rfl dX8_bring_1 ?_
  refine g_callV F (by decide) (K := 8) (b := a0) [(0, a1)] [0] ml_RX8_161 wi_X8_isWork ws_X8_isWork (c_X8_isWork a0 a1 (Int.not_lt.mp (Int.not_lt.mpr h0))) mi_X8_isWork (by decide) ⟨_, rfl, rfl⟩ (Int.not_lt.mp (Int.not_lt.mpr h0)) rfl rfl rfl (Nat.le_of_ble_eq_true rfl) (Nat.le_of_ble_eq_true rfl) (Nat.le_of_ble_eq_true rfl) (Nat.le_of_ble_eq_true rfl) (Nat.le_of_ble_eq_true rfl) dX8_bring_2 (fun z1 v1 hz1 => ?_)
  refine g_if_eq F rfl (tgt := 19) rfl dX8_bring_5 (fun n2 => ?_) (fun n2 => ?_)
  · refine g_iconst F 2 rfl dX8_bring_19 ?_
    refine g_istore_n F rfl rfl (Nat.le_of_ble_eq_true rfl) (ls' := [(3, (2, 0)), (0, (18, a0)), (1, (0, a1)), (2, (0, a2))]) rfl dX8_bring_20 ?_
    refine g_aload_n F rfl 1 rfl dX8_bring_21 ?_
    refine g_iload_n F rfl 0 rfl rfl dX8_bring_22 ?_
    refine g_if_ne_f F rfl (by decide) (tgt := 30) rfl dX8_bring_23 ?_
    refine g_iconst F 2 rfl dX8_bring_26 ?_
    refine g_goto F (tgt := 62) rfl dX8_bring_27 ?_
    refine g_callV F (by decide) (K := 8) (b := a0) [(2, 1)] [0] ml_RX8_151 wi_X8_holds ws_X8_holds (c_X8_holds a0 1 (Int.not_lt.mp (Int.not_lt.mpr h0))) mi_X8_holds (by decide) ⟨_, rfl, rfl⟩ (Int.not_lt.mp (Int.not_lt.mpr h0)) rfl rfl rfl (Nat.le_of_ble_eq_true rfl) (Nat.le_of_ble_eq_true rfl) (Nat.le_of_ble_eq_true rfl) (Nat.le_of_ble_eq_true rfl) (Nat.le_of_ble_eq_true rfl) dX8_bring_62 (fun z3 v3 hz3 => ?_)
    refine g_if_ne F rfl (tgt := 70) rfl dX8_bring_65 (fun n4 => ?_) (fun n4 => ?_)
    · exact g_none
    · refine g_iconst F 2 rfl dX8_bring_68 ?_
      exact g_ireturn F rfl rfl rfl rfl (Nat.le_of_ble_eq_true rfl) (Nat.le_of_ble_eq_true rfl) dX8_bring_69
  · refine g_iload_n F rfl 2 rfl rfl dX8_bring_8 ?_
    refine g_callS F (by decide) [(0, a2)] [0] ml_RX8_146 wt_X8_isLand (c_X8_isLand a2) mi_X8_isLand rfl rfl rfl (Nat.le_of_ble_eq_true rfl) (Nat.le_of_ble_eq_true rfl) (Nat.le_of_ble_eq_true rfl) (Nat.le_of_ble_eq_true rfl) (Nat.le_of_ble_eq_true rfl) dX8_bring_9 (fun z5 v5 hz5 => ?_)
    refine g_if_eq F rfl (tgt := 19) rfl dX8_bring_12 (fun n6 => ?_) (fun n6 => ?_)
    · refine g_iconst F 2 rfl dX8_bring_19 ?_
      refine g_istore_n F rfl rfl (Nat.le_of_ble_eq_true rfl) (ls' := [(3, (2, 0)), (0, (18, a0)), (1, (0, a1)), (2, (0, a2))]) rfl dX8_bring_20 ?_
      refine g_aload_n F rfl 1 rfl dX8_bring_21 ?_
      refine g_iload_n F rfl 0 rfl rfl dX8_bring_22 ?_
      refine g_if_ne_f F rfl (by decide) (tgt := 30) rfl dX8_bring_23 ?_
      refine g_iconst F 2 rfl dX8_bring_26 ?_
      refine g_goto F (tgt := 62) rfl dX8_bring_27 ?_
      refine g_callV F (by decide) (K := 8) (b := a0) [(2, 1)] [0] ml_RX8_151 wi_X8_holds ws_X8_holds (c_X8_holds a0 1 (Int.not_lt.mp (Int.not_lt.mpr h0))) mi_X8_holds (by decide) ⟨_, rfl, rfl⟩ (Int.not_lt.mp (Int.not_lt.mpr h0)) rfl rfl rfl (Nat.le_of_ble_eq_true rfl) (Nat.le_of_ble_eq_true rfl) (Nat.le_of_ble_eq_true rfl) (Nat.le_of_ble_eq_true rfl) (Nat.le_of_ble_eq_true rfl) dX8_bring_62 (fun z7 v7 hz7 => ?_)
      refine g_if_ne F rfl (tgt := 70) rfl dX8_bring_65 (fun n8 => ?_) (fun n8 => ?_)
      · exact g_none
      · refine g_iconst F 2 rfl dX8_bring_68 ?_
        exact g_ireturn F rfl rfl rfl rfl (Nat.le_of_ble_eq_true rfl) (Nat.le_of_ble_eq_true rfl) dX8_bring_69
    · refine g_iconst F 2 rfl dX8_bring_15 ?_
      refine g_goto F (tgt := 20) rfl dX8_bring_16 ?_
      refine g_istore_n F rfl rfl (Nat.le_of_ble_eq_true rfl) (ls' := [(3, (2, 1)), (0, (18, a0)), (1, (0, a1)), (2, (0, a2))]) rfl dX8_bring_20 ?_
      refine g_aload_n F rfl 1 rfl dX8_bring_21 ?_
      refine g_iload_n F rfl 0 rfl rfl dX8_bring_22 ?_
      refine g_if_ne_t F rfl (by decide) (tgt := 30) rfl dX8_bring_23 ?_
      refine g_aload_n F rfl 1 rfl dX8_bring_30 ?_
      refine g_get F (t := 62) (sI := 12) fl_RX8_36 rfl rfl (Int.not_lt.mp (Int.not_lt.mpr h0)) dX8_bring_31 ?_
      refine g_iload_n F rfl 2 rfl rfl dX8_bring_34 ?_
      refine g_chk (fun n9 => ?_)
      refine g_chk (fun n10 => ?_)
      refine h_iald F (n := 12) ak_52 (Int.not_lt.mp (Int.not_lt.mpr n9)) n10 rfl dX8_bring_35 ?_
      refine g_iload_n F rfl 3 rfl rfl dX8_bring_36 ?_
      refine g_icmp_eq F rfl rfl (tgt := 61) rfl dX8_bring_37 (fun n11 => ?_) (fun n11 => ?_)
      · refine g_iconst F 2 rfl dX8_bring_61 ?_
        refine g_callV F (by decide) (K := 8) (b := a0) [(2, 0)] [0] ml_RX8_151 wi_X8_holds ws_X8_holds (c_X8_holds a0 0 (Int.not_lt.mp (Int.not_lt.mpr h0))) mi_X8_holds (by decide) ⟨_, rfl, rfl⟩ (Int.not_lt.mp (Int.not_lt.mpr h0)) rfl rfl rfl (Nat.le_of_ble_eq_true rfl) (Nat.le_of_ble_eq_true rfl) (Nat.le_of_ble_eq_true rfl) (Nat.le_of_ble_eq_true rfl) (Nat.le_of_ble_eq_true rfl) dX8_bring_62 (fun z12 v12 hz12 => ?_)
        refine g_if_ne F rfl (tgt := 70) rfl dX8_bring_65 (fun n13 => ?_) (fun n13 => ?_)
        · refine g_aload_n F rfl 1 rfl dX8_bring_70 ?_
          refine g_get F (t := 62) (sI := 12) fl_RX8_36 rfl rfl (Int.not_lt.mp (Int.not_lt.mpr h0)) dX8_bring_71 ?_
          refine g_iload_n F rfl 2 rfl rfl dX8_bring_74 ?_
          refine g_chk (fun n14 => ?_)
          refine h_iald F (n := 12) ak_52 (Int.not_lt.mp (Int.not_lt.mpr n14)) n10 rfl dX8_bring_75 ?_
          refine g_istore F rfl (Nat.le_of_ble_eq_true rfl) (ls' := [(4, (0, (v12 52 (v12 8 a0 12) a1))), (3, (2, 1)), (0, (18, a0)), (1, (0, a1)), (2, (0, a2))]) rfl dX8_bring_76 ?_
          refine g_aload_n F rfl 2 rfl dX8_bring_78 ?_
          refine g_get F (t := 62) (sI := 12) fl_RX8_36 rfl rfl (Int.not_lt.mp (Int.not_lt.mpr h0)) dX8_bring_79 ?_
          refine g_iload_n F rfl 3 rfl rfl dX8_bring_82 ?_
          refine g_iload_n F rfl 4 rfl rfl dX8_bring_83 ?_
          refine h_iast F (n := 12) ak_52 rfl (Int.not_lt.mp (Int.not_lt.mpr n14)) n10 rfl dX8_bring_84 (fun v15 => ?_)
          refine g_iload F 0 rfl rfl dX8_bring_85 ?_
          exact g_ireturn F rfl rfl rfl rfl (Nat.le_of_ble_eq_true rfl) (Nat.le_of_ble_eq_true rfl) dX8_bring_87
        · exact g_none
      · refine g_aload_n F rfl 1 rfl dX8_bring_40 ?_
        refine g_get F (t := 63) (sI := 13) fl_RX8_39 rfl rfl (Int.not_lt.mp (Int.not_lt.mpr h0)) dX8_bring_41 ?_
        refine g_iload_n F rfl 2 rfl rfl dX8_bring_44 ?_
        refine g_chk (fun n16 => ?_)
        refine h_zald F (n := 12) ak_53 (Int.not_lt.mp (Int.not_lt.mpr n16)) n10 rfl dX8_bring_45 ?_
        refine g_if_ne F rfl (tgt := 57) rfl dX8_bring_46 (fun n17 => ?_) (fun n17 => ?_)
        · refine g_iconst F 0 rfl dX8_bring_57 ?_
          refine g_goto F (tgt := 62) rfl dX8_bring_58 ?_
          refine g_callV F (by decide) (K := 8) (b := a0) [(0, 2)] [0] ml_RX8_151 wi_X8_holds ws_X8_holds (c_X8_holds a0 2 (Int.not_lt.mp (Int.not_lt.mpr h0))) mi_X8_holds (by decide) ⟨_, rfl, rfl⟩ (Int.not_lt.mp (Int.not_lt.mpr h0)) rfl rfl rfl (Nat.le_of_ble_eq_true rfl) (Nat.le_of_ble_eq_true rfl) (Nat.le_of_ble_eq_true rfl) (Nat.le_of_ble_eq_true rfl) (Nat.le_of_ble_eq_true rfl) dX8_bring_62 (fun z18 v18 hz18 => ?_)
          refine g_if_ne F rfl (tgt := 70) rfl dX8_bring_65 (fun n19 => ?_) (fun n19 => ?_)
          · exact g_none
          · refine g_iconst F 2 rfl dX8_bring_68 ?_
            exact g_ireturn F rfl rfl rfl rfl (Nat.le_of_ble_eq_true rfl) (Nat.le_of_ble_eq_true rfl) dX8_bring_69
        · refine g_aload_n F rfl 1 rfl dX8_bring_49 ?_
          refine g_iload_n F rfl 2 rfl rfl dX8_bring_50 ?_
          refine g_callV F (by decide) (K := 8) (b := a0) [(0, a1)] [0] ml_RX8_167 wi_X8_leftOf ws_X8_leftOf (c_X8_leftOf a0 a1 (Int.not_lt.mp (Int.not_lt.mpr h0))) mi_X8_leftOf (by decide) ⟨_, rfl, rfl⟩ (Int.not_lt.mp (Int.not_lt.mpr h0)) rfl rfl rfl (Nat.le_of_ble_eq_true rfl) (Nat.le_of_ble_eq_true rfl) (Nat.le_of_ble_eq_true rfl) (Nat.le_of_ble_eq_true rfl) (Nat.le_of_ble_eq_true rfl) dX8_bring_51 (fun z20 v20 hz20 => ?_)
          refine g_if_le F rfl (tgt := 61) rfl dX8_bring_54 (fun n21 => ?_) (fun n21 => ?_)
          · refine g_iconst F 2 rfl dX8_bring_61 ?_
            refine g_callV F (by decide) (K := 8) (b := a0) [(2, 0)] [0] ml_RX8_151 wi_X8_holds ws_X8_holds (c_X8_holds a0 0 (Int.not_lt.mp (Int.not_lt.mpr h0))) mi_X8_holds (by decide) ⟨_, rfl, rfl⟩ (Int.not_lt.mp (Int.not_lt.mpr h0)) rfl rfl rfl (Nat.le_of_ble_eq_true rfl) (Nat.le_of_ble_eq_true rfl) (Nat.le_of_ble_eq_true rfl) (Nat.le_of_ble_eq_true rfl) (Nat.le_of_ble_eq_true rfl) dX8_bring_62 (fun z22 v22 hz22 => ?_)
            refine g_if_ne F rfl (tgt := 70) rfl dX8_bring_65 (fun n23 => ?_) (fun n23 => ?_)
            · refine g_aload_n F rfl 1 rfl dX8_bring_70 ?_
              refine g_get F (t := 62) (sI := 12) fl_RX8_36 rfl rfl (Int.not_lt.mp (Int.not_lt.mpr h0)) dX8_bring_71 ?_
              refine g_iload_n F rfl 2 rfl rfl dX8_bring_74 ?_
              refine g_chk (fun n24 => ?_)
              refine h_iald F (n := 12) ak_52 (Int.not_lt.mp (Int.not_lt.mpr n24)) n10 rfl dX8_bring_75 ?_
              refine g_istore F rfl (Nat.le_of_ble_eq_true rfl) (ls' := [(4, (0, (v22 52 (v22 8 a0 12) a1))), (3, (2, 1)), (0, (18, a0)), (1, (0, a1)), (2, (0, a2))]) rfl dX8_bring_76 ?_
              refine g_aload_n F rfl 2 rfl dX8_bring_78 ?_
              refine g_get F (t := 62) (sI := 12) fl_RX8_36 rfl rfl (Int.not_lt.mp (Int.not_lt.mpr h0)) dX8_bring_79 ?_
              refine g_iload_n F rfl 3 rfl rfl dX8_bring_82 ?_
              refine g_iload_n F rfl 4 rfl rfl dX8_bring_83 ?_
              refine h_iast F (n := 12) ak_52 rfl (Int.not_lt.mp (Int.not_lt.mpr n24)) n10 rfl dX8_bring_84 (fun v25 => ?_)
              refine g_iload F 0 rfl rfl dX8_bring_85 ?_
              exact g_ireturn F rfl rfl rfl rfl (Nat.le_of_ble_eq_true rfl) (Nat.le_of_ble_eq_true rfl) dX8_bring_87
            · exact g_none
          · refine g_iconst F 0 rfl dX8_bring_57 ?_
            refine g_goto F (tgt := 62) rfl dX8_bring_58 ?_
            refine g_callV F (by decide) (K := 8) (b := a0) [(0, 2)] [0] ml_RX8_151 wi_X8_holds ws_X8_holds (c_X8_holds a0 2 (Int.not_lt.mp (Int.not_lt.mpr h0))) mi_X8_holds (by decide) ⟨_, rfl, rfl⟩ (Int.not_lt.mp (Int.not_lt.mpr h0)) rfl rfl rfl (Nat.le_of_ble_eq_true rfl) (Nat.le_of_ble_eq_true rfl) (Nat.le_of_ble_eq_true rfl) (Nat.le_of_ble_eq_true rfl) (Nat.le_of_ble_eq_true rfl) dX8_bring_62 (fun z26 v26 hz26 => ?_)
            refine g_if_ne F rfl (tgt := 70) rfl dX8_bring_65 (fun n27 => ?_) (fun n27 => ?_)
            · exact g_none
            · refine g_iconst F 2 rfl dX8_bring_68 ?_
              exact g_ireturn F rfl rfl rfl rfl (Nat.le_of_ble_eq_true rfl) (Nat.le_of_ble_eq_true rfl) dX8_bring_69
theorem c_X8_bring (a0 a1 a2 : Int) (h0 : 0 ≤ a0) : ∀ l, Ct l yX8_bring cX8_bring 5 (some .int) ({ frames := 2, cells := 0, slots := 0, locals := 43 }) (some 0) [(18, a0), (0, a1), (0, a2)] (sp_X8_bring a0 a1 a2) := g_method (by decide +kernel) (Nat.le_of_ble_eq_true rfl) (fun x v F ho => k_X8_bring a0 a1 a2 h0 x v F ho)
def sp_X8_list (a0 a1 : Int) (v : V) : Res := (rB (sp_X8_isWork a0 a1 v) (fun z1 v1 => (if ¬ z1 = 0 then (chk (0 ≤ (v1 8 a0 15)) (chk (0 ≤ a1 ∧ a1 < 12) (if (v1 55 (v1 8 a0 15) a1) = (-1) then (rB (sp_X8_holds a0 0 v1) (fun z6 v6 => (if z6 = 0 then none
   else (chk (0 ≤ (v6 8 a0 15)) (rLet (up v6 55 (v6 8 a0 15) a1 (v6 8 a0 1)) (fun v9 => (rOk 0 v9)))))))
   else (rB (sp_X8_holds a0 2 v1) (fun z10 v10 => (if z10 = 0 then (rOk 0 v10)
   else none))))))
   else (rB (sp_X8_holds a0 1 v1) (fun z12 v12 => (if z12 = 0 then (rOk 0 v12)
   else none))))))
set_option maxRecDepth 100000 in
set_option maxHeartbeats 4000000 in
theorem k_X8_list (a0 a1 : Int) (h0 : 0 ≤ a0) (x : Cx) (v : V) (F : Fx x cX8_list RX8 "list" ({ frames := 2, cells := 0, slots := 0, locals := 43 }) 3 none none 0) (ho : ∀ a ∈ [(18, a0), (0, a1)], okv v a) : Gs x (sp_X8_list a0 a1 v) v 0 0 0 (avArgs 0 [(18, a0), (0, a1)]) [] := by
  show Gs x _ v 0 0 0 [(0, (18, a0)), (1, (0, a1))] []
  unfold sp_X8_list
  refine g_aload_n F rfl 0 rfl dX8_list_0 ?_
  refine g_iload_n F rfl 1 rfl rfl dX8_list_1 ?_
  refine g_callV F (by decide) (K := 8) (b := a0) [(0, a1)] [0] ml_RX8_161 wi_X8_isWork ws_X8_isWork (c_X8_isWork a0 a1 (Int.not_lt.mp (Int.not_lt.mpr h0))) mi_X8_isWork (by decide) ⟨_, rfl, rfl⟩ (Int.not_lt.mp (Int.not_lt.mpr h0)) rfl rfl rfl (Nat.le_of_ble_eq_true rfl) (Nat.le_of_ble_eq_true rfl) (Nat.le_of_ble_eq_true rfl) (Nat.le_of_ble_eq_true rfl) (Nat.le_of_ble_eq_true rfl) dX8_list_2 (fun z1 v1 hz1 => ?_)
  refine g_istore_n F rfl rfl (Nat.le_of_ble_eq_true rfl) (ls' := [(2, (2, z1)), (0, (18, a0)), (1, (0, a1))]) rfl dX8_list_5 ?_
  refine g_aload_n F rfl 1 rfl dX8_list_6 ?_
  refine g_iload_n F rfl 0 rfl rfl dX8_list_7 ?_
  refine g_if_ne F rfl (tgt := 15) rfl dX8_list_8 (fun n2 => ?_) (fun n2 => ?_)
  · refine g_aload_n F rfl 1 rfl dX8_list_15 ?_
    refine g_get F (t := 65) (sI := 15) fl_RX8_45 rfl rfl (Int.not_lt.mp (Int.not_lt.mpr h0)) dX8_list_16 ?_
    refine g_iload_n F rfl 2 rfl rfl dX8_list_19 ?_
    refine g_chk (fun n3 => ?_)
    refine g_chk (fun n4 => ?_)
    refine h_iald F (n := 12) ak_55 (Int.not_lt.mp (Int.not_lt.mpr n3)) n4 rfl dX8_list_20 ?_
    refine g_iconst F 0 rfl dX8_list_21 ?_
    refine g_icmp_eq F rfl rfl (tgt := 29) rfl dX8_list_22 (fun n5 => ?_) (fun n5 => ?_)
    · refine g_iconst F 2 rfl dX8_list_29 ?_
      refine g_callV F (by decide) (K := 8) (b := a0) [(2, 0)] [0] ml_RX8_151 wi_X8_holds ws_X8_holds (c_X8_holds a0 0 (Int.not_lt.mp (Int.not_lt.mpr h0))) mi_X8_holds (by decide) ⟨_, rfl, rfl⟩ (Int.not_lt.mp (Int.not_lt.mpr h0)) rfl rfl rfl (Nat.le_of_ble_eq_true rfl) (Nat.le_of_ble_eq_true rfl) (Nat.le_of_ble_eq_true rfl) (Nat.le_of_ble_eq_true rfl) (Nat.le_of_ble_eq_true rfl) dX8_list_30 (fun z6 v6 hz6 => ?_)
      refine g_if_eq F rfl (tgt := 46) rfl dX8_list_33 (fun n7 => ?_) (fun n7 => ?_)
      · exact g_none
      · refine g_aload_n F rfl 1 rfl dX8_list_36 ?_
        refine g_get F (t := 65) (sI := 15) fl_RX8_45 rfl rfl (Int.not_lt.mp (Int.not_lt.mpr h0)) dX8_list_37 ?_
        refine g_iload_n F rfl 2 rfl rfl dX8_list_40 ?_
        refine g_aload_n F rfl 1 rfl dX8_list_41 ?_
        refine g_get F (t := 0) (sI := 1) fl_RX8_164 rfl rfl (Int.not_lt.mp (Int.not_lt.mpr h0)) dX8_list_42 ?_
        refine g_chk (fun n8 => ?_)
        refine h_iast F (n := 12) ak_55 rfl (Int.not_lt.mp (Int.not_lt.mpr n8)) n4 rfl dX8_list_45 (fun v9 => ?_)
        exact g_return F rfl (Nat.le_of_ble_eq_true rfl) (Nat.le_of_ble_eq_true rfl) dX8_list_46
    · refine g_iconst F 0 rfl dX8_list_25 ?_
      refine g_goto F (tgt := 30) rfl dX8_list_26 ?_
      refine g_callV F (by decide) (K := 8) (b := a0) [(0, 2)] [0] ml_RX8_151 wi_X8_holds ws_X8_holds (c_X8_holds a0 2 (Int.not_lt.mp (Int.not_lt.mpr h0))) mi_X8_holds (by decide) ⟨_, rfl, rfl⟩ (Int.not_lt.mp (Int.not_lt.mpr h0)) rfl rfl rfl (Nat.le_of_ble_eq_true rfl) (Nat.le_of_ble_eq_true rfl) (Nat.le_of_ble_eq_true rfl) (Nat.le_of_ble_eq_true rfl) (Nat.le_of_ble_eq_true rfl) dX8_list_30 (fun z10 v10 hz10 => ?_)
      refine g_if_eq F rfl (tgt := 46) rfl dX8_list_33 (fun n11 => ?_) (fun n11 => ?_)
      · exact g_return F rfl (Nat.le_of_ble_eq_true rfl) (Nat.le_of_ble_eq_true rfl) dX8_list_46
      · exact g_none
  · refine g_iconst F 2 rfl dX8_list_11 ?_
    refine g_goto F (tgt := 30) rfl dX8_list_12 ?_
    refine g_callV F (by decide) (K := 8) (b := a0) [(2, 1)] [0] ml_RX8_151 wi_X8_holds ws_X8_holds (c_X8_holds a0 1 (Int.not_lt.mp (Int.not_lt.mpr h0))) mi_X8_holds (by decide) ⟨_, rfl, rfl⟩ (Int.not_lt.mp (Int.not_lt.mpr h0)) rfl rfl rfl (Nat.le_of_ble_eq_true rfl) (Nat.le_of_ble_eq_true rfl) (Nat.le_of_ble_eq_true rfl) (Nat.le_of_ble_eq_true rfl) (Nat.le_of_ble_eq_true rfl) dX8_list_30 (fun z12 v12 hz12 => ?_)
    refine g_if_eq F rfl (tgt := 46) rfl dX8_list_33 (fun n13 => ?_) (fun n13 => ?_)
    · exact g_return F rfl (Nat.le_of_ble_eq_true rfl) (Nat.le_of_ble_eq_true rfl) dX8_list_46
    · exact g_none
theorem c_X8_list (a0 a1 : Int) (h0 : 0 ≤ a0) : ∀ l, Ct l yX8_list cX8_list 3 none ({ frames := 2, cells := 0, slots := 0, locals := 43 }) none [(18, a0), (0, a1)] (sp_X8_list a0 a1) := g_method (by decide +kernel) (Nat.le_of_ble_eq_true rfl) (fun x v F ho => k_X8_list a0 a1 h0 x v F ho)
def lp_X8_fail_49 (l0 l1 l2 : Int) (k : V → Int → Int → Res) : Nat → V → Int → Int → Res
  | 0, _, _, _ => none
  | n + 1, v, l3, l4 => (if (v 8 l0 21) ≤ l4 then (k v l3 l4)
   else (chk (0 ≤ (v 8 l0 26)) (chk (0 ≤ l4 ∧ l4 < 60) (if ¬ (v 66 (v 8 l0 26) l4) = l1 then (rLet (up v 66 (v 8 l0 26) l4 (v 66 (v 8 l0 26) l4)) (fun v14 => (lp_X8_fail_49 l0 l1 l2 k n v14 (w32 (l3 + 0)) (w32 (l4 + 1)))))
   else (rLet (up v 66 (v 8 l0 26) l4 (-1)) (fun v15 => (lp_X8_fail_49 l0 l1 l2 k n v15 (w32 (l3 + 1)) (w32 (l4 + 1)))))))))
set_option maxRecDepth 100000 in
set_option maxHeartbeats 4000000 in
theorem kl_X8_fail_49 {l0 l1 l2 : Int} (h0 : 0 ≤ l0) {x : Cx} (F : Fx x cX8_fail RX8 "fail" ({ frames := 2, cells := 0, slots := 0, locals := 43 }) 5 (some 0) (some .int) 0) {k : V → Int → Int → Res} (hk : ∀ (v : V) (l3 l4 : Int), Gs x (k v l3 l4) v 0 0 112 [(0, (18, l0)), (1, (0, l1)), (2, (2, l2)), (3, (0, l3)), (4, (0, l4))] []) : ∀ (n : Nat) (v : V) (l3 l4 : Int), Gs x (lp_X8_fail_49 l0 l1 l2 k n v l3 l4) v 0 0 49 [(0, (18, l0)), (1, (0, l1)), (2, (2, l2)), (3, (0, l3)), (4, (0, l4))] [] := by
  intro n
  induction n with
  | zero => intro v l3 l4; exact g_none
  | succ n ih =>
    intro v l3 l4
    rw [lp_X8_fail_49]
    refine g_iload F 4 rfl rfl dX8_fail_49 ?_
    refine g_aload_n F rfl 0 rfl dX8_fail_51 ?_
    refine g_get F (t := 0) (sI := 21) fl_RX8_140 rfl rfl (Int.not_lt.mp (Int.not_lt.mpr h0)) dX8_fail_52 ?_
    refine g_icmp_ge F rfl rfl (tgt := 112) rfl dX8_fail_55 (fun n10 => ?_) (fun n10 => ?_)
    · refine g_loc [(0, 18), (1, 0), (2, 2), (3, 0), (4, 0)] rfl ?_
      exact hk v l3 l4
    · refine g_iload_n F rfl 3 rfl rfl dX8_fail_58 ?_
      refine g_aload_n F rfl 0 rfl dX8_fail_59 ?_
      refine g_get F (t := 76) (sI := 26) fl_RX8_75 rfl rfl (Int.not_lt.mp (Int.not_lt.mpr h0)) dX8_fail_60 ?_
      refine g_iload F 4 rfl rfl dX8_fail_63 ?_
      refine g_chk (fun n11 => ?_)
      refine g_chk (fun n12 => ?_)
      refine h_iald F (n := 60) ak_66 (Int.not_lt.mp (Int.not_lt.mpr n11)) n12 rfl dX8_fail_65 ?_
      refine g_iload_n F rfl 1 rfl rfl dX8_fail_66 ?_
      refine g_icmp_ne F rfl rfl (tgt := 74) rfl dX8_fail_67 (fun n13 => ?_) (fun n13 => ?_)
      · refine g_iconst F 2 rfl dX8_fail_74 ?_
        refine g_iadd F rfl rfl dX8_fail_75 ?_
        refine g_istore_n F rfl rfl (Nat.le_of_ble_eq_true rfl) (ls' := [(3, (0, (w32 (l3 + 0)))), (0, (18, l0)), (1, (0, l1)), (2, (2, l2)), (4, (0, l4))]) rfl dX8_fail_76 ?_
        refine g_aload_n F rfl 1 rfl dX8_fail_77 ?_
        refine g_get F (t := 76) (sI := 26) fl_RX8_75 rfl rfl (Int.not_lt.mp (Int.not_lt.mpr h0)) dX8_fail_78 ?_
        refine g_iload F 4 rfl rfl dX8_fail_81 ?_
        refine g_aload_n F rfl 1 rfl dX8_fail_83 ?_
        refine g_get F (t := 76) (sI := 26) fl_RX8_75 rfl rfl (Int.not_lt.mp (Int.not_lt.mpr h0)) dX8_fail_84 ?_
        refine g_iload F 4 rfl rfl dX8_fail_87 ?_
        refine h_iald F (n := 60) ak_66 (Int.not_lt.mp (Int.not_lt.mpr n11)) n12 rfl dX8_fail_89 ?_
        refine g_iload_n F rfl 2 rfl rfl dX8_fail_90 ?_
        refine g_icmp_ne_t F rfl rfl n13 (tgt := 98) rfl dX8_fail_91 ?_
        refine g_aload_n F rfl 1 rfl dX8_fail_98 ?_
        refine g_get F (t := 76) (sI := 26) fl_RX8_75 rfl rfl (Int.not_lt.mp (Int.not_lt.mpr h0)) dX8_fail_99 ?_
        refine g_iload F 4 rfl rfl dX8_fail_102 ?_
        refine h_iald F (n := 60) ak_66 (Int.not_lt.mp (Int.not_lt.mpr n11)) n12 rfl dX8_fail_104 ?_
        refine h_iast F (n := 60) ak_66 rfl (Int.not_lt.mp (Int.not_lt.mpr n11)) n12 rfl dX8_fail_105 (fun v14 => ?_)
        refine g_iinc F 4 rfl rfl (Nat.le_of_ble_eq_true rfl) (ls' := [(4, (0, (w32 (l4 + 1)))), (3, (0, (w32 (l3 + 0)))), (0, (18, l0)), (1, (0, l1)), (2, (2, l2))]) rfl dX8_fail_106 ?_
        refine g_goto F (tgt := 49) rfl dX8_fail_109 ?_
        refine g_loc [(2, 18), (3, 0), (4, 2), (1, 0), (0, 0)] rfl ?_
        exact ih v14 (w32 (l3 + 0)) (w32 (l4 + 1))
      · refine g_iconst F 2 rfl dX8_fail_70 ?_
        refine g_goto F (tgt := 75) rfl dX8_fail_71 ?_
        refine g_iadd F rfl rfl dX8_fail_75 ?_
        refine g_istore_n F rfl rfl (Nat.le_of_ble_eq_true rfl) (ls' := [(3, (0, (w32 (l3 + 1)))), (0, (18, l0)), (1, (0, l1)), (2, (2, l2)), (4, (0, l4))]) rfl dX8_fail_76 ?_
        refine g_aload_n F rfl 1 rfl dX8_fail_77 ?_
        refine g_get F (t := 76) (sI := 26) fl_RX8_75 rfl rfl (Int.not_lt.mp (Int.not_lt.mpr h0)) dX8_fail_78 ?_
        refine g_iload F 4 rfl rfl dX8_fail_81 ?_
        refine g_aload_n F rfl 1 rfl dX8_fail_83 ?_
        refine g_get F (t := 76) (sI := 26) fl_RX8_75 rfl rfl (Int.not_lt.mp (Int.not_lt.mpr h0)) dX8_fail_84 ?_
        refine g_iload F 4 rfl rfl dX8_fail_87 ?_
        refine h_iald F (n := 60) ak_66 (Int.not_lt.mp (Int.not_lt.mpr n11)) n12 rfl dX8_fail_89 ?_
        refine g_iload_n F rfl 2 rfl rfl dX8_fail_90 ?_
        refine g_icmp_ne_f F rfl rfl (fun q => q (Decidable.not_not.mp n13)) (tgt := 98) rfl dX8_fail_91 ?_
        refine g_iconst F 0 rfl dX8_fail_94 ?_
        refine g_goto F (tgt := 105) rfl dX8_fail_95 ?_
        refine h_iast F (n := 60) ak_66 rfl (Int.not_lt.mp (Int.not_lt.mpr n11)) n12 rfl dX8_fail_105 (fun v15 => ?_)
        refine g_iinc F 4 rfl rfl (Nat.le_of_ble_eq_true rfl) (ls' := [(4, (0, (w32 (l4 + 1)))), (3, (0, (w32 (l3 + 1)))), (0, (18, l0)), (1, (0, l1)), (2, (2, l2))]) rfl dX8_fail_106 ?_
        refine g_goto F (tgt := 49) rfl dX8_fail_109 ?_
        refine g_loc [(2, 18), (3, 0), (4, 2), (1, 0), (0, 0)] rfl ?_
        exact ih v15 (w32 (l3 + 1)) (w32 (l4 + 1))
def sp_X8_fail (a0 a1 : Int) (v : V) : Res := (rB (sp_X8_isParty a0 a1 v) (fun z1 v1 => (if ¬ z1 = 0 then (chk (0 ≤ (v1 8 a0 5)) (chk (0 ≤ a1 ∧ a1 < 10) (if (v1 45 (v1 8 a0 5) a1) = 0 then (rB (sp_X8_holds a0 0 v1) (fun z6 v6 => (if ¬ z6 = 0 then (chk (0 ≤ (v6 8 a0 5)) (rLet (up v6 45 (v6 8 a0 5) a1 1) (fun v9 => (lp_X8_fail_49 a0 a1 z1 (fun v16 u16_3 u16_4 => (rOk u16_3 v16)) 200 v9 0 0))))
   else none)))
   else (rB (sp_X8_holds a0 2 v1) (fun z17 v17 => (if ¬ z17 = 0 then none
   else (rOk 0 v17)))))))
   else (rB (sp_X8_holds a0 1 v1) (fun z19 v19 => (if ¬ z19 = 0 then none
   else (rOk 0 v19)))))))
set_option maxRecDepth 100000 in
set_option maxHeartbeats 4000000 in
theorem k_X8_fail (a0 a1 : Int) (h0 : 0 ≤ a0) (x : Cx) (v : V) (F : Fx x cX8_fail RX8 "fail" ({ frames := 2, cells := 0, slots := 0, locals := 43 }) 5 (some 0) (some .int) 0) (ho : ∀ a ∈ [(18, a0), (0, a1)], okv v a) : Gs x (sp_X8_fail a0 a1 v) v 0 0 0 (avArgs 0 [(18, a0), (0, a1)]) [] := by
  show Gs x _ v 0 0 0 [(0, (18, a0)), (1, (0, a1))] []
  unfold sp_X8_fail
  refine g_aload_n F rfl 0 rfl dX8_fail_0 ?_
  refine g_iload_n F rfl 1 rfl rfl dX8_fail_1 ?_
  refine g_callV F (by decide) (K := 8) (b := a0) [(0, a1)] [0] ml_RX8_154 wi_X8_isParty ws_X8_isParty (c_X8_isParty a0 a1 (Int.not_lt.mp (Int.not_lt.mpr h0))) mi_X8_isParty (by decide) ⟨_, rfl, rfl⟩ (Int.not_lt.mp (Int.not_lt.mpr h0)) rfl rfl rfl (Nat.le_of_ble_eq_true rfl) (Nat.le_of_ble_eq_true rfl) (Nat.le_of_ble_eq_true rfl) (Nat.le_of_ble_eq_true rfl) (Nat.le_of_ble_eq_true rfl) dX8_fail_2 (fun z1 v1 hz1 => ?_)
  refine g_istore_n F rfl rfl (Nat.le_of_ble_eq_true rfl) (ls' := [(2, (2, z1)), (0, (18, a0)), (1, (0, a1))]) rfl dX8_fail_5 ?_
  refine g_aload_n F rfl 1 rfl dX8_fail_6 ?_
  refine g_iload_n F rfl 0 rfl rfl dX8_fail_7 ?_
  refine g_if_ne F rfl (tgt := 15) rfl dX8_fail_8 (fun n2 => ?_) (fun n2 => ?_)
  · refine g_aload_n F rfl 1 rfl dX8_fail_15 ?_
    refine g_get F (t := 55) (sI := 5) fl_RX8_17 rfl rfl (Int.not_lt.mp (Int.not_lt.mpr h0)) dX8_fail_16 ?_
    refine g_iload_n F rfl 2 rfl rfl dX8_fail_19 ?_
    refine g_chk (fun n3 => ?_)
    refine g_chk (fun n4 => ?_)
    refine h_zald F (n := 10) ak_45 (Int.not_lt.mp (Int.not_lt.mpr n3)) n4 rfl dX8_fail_20 ?_
    refine g_if_eq F rfl (tgt := 28) rfl dX8_fail_21 (fun n5 => ?_) (fun n5 => ?_)
    · refine g_iconst F 2 rfl dX8_fail_28 ?_
      refine g_callV F (by decide) (K := 8) (b := a0) [(2, 0)] [0] ml_RX8_151 wi_X8_holds ws_X8_holds (c_X8_holds a0 0 (Int.not_lt.mp (Int.not_lt.mpr h0))) mi_X8_holds (by decide) ⟨_, rfl, rfl⟩ (Int.not_lt.mp (Int.not_lt.mpr h0)) rfl rfl rfl (Nat.le_of_ble_eq_true rfl) (Nat.le_of_ble_eq_true rfl) (Nat.le_of_ble_eq_true rfl) (Nat.le_of_ble_eq_true rfl) (Nat.le_of_ble_eq_true rfl) dX8_fail_29 (fun z6 v6 hz6 => ?_)
      refine g_if_ne F rfl (tgt := 37) rfl dX8_fail_32 (fun n7 => ?_) (fun n7 => ?_)
      · refine g_aload_n F rfl 1 rfl dX8_fail_37 ?_
        refine g_get F (t := 55) (sI := 5) fl_RX8_17 rfl rfl (Int.not_lt.mp (Int.not_lt.mpr h0)) dX8_fail_38 ?_
        refine g_iload_n F rfl 2 rfl rfl dX8_fail_41 ?_
        refine g_iconst F 2 rfl dX8_fail_42 ?_
        refine g_chk (fun n8 => ?_)
        refine h_zast F (n := 10) ak_45 rfl (Int.not_lt.mp (Int.not_lt.mpr n8)) n4 rfl dX8_fail_43 (fun v9 => ?_)
        refine g_iconst F 2 rfl dX8_fail_44 ?_
        refine g_istore_n F rfl rfl (Nat.le_of_ble_eq_true rfl) (ls' := [(3, (2, 0)), (2, (2, z1)), (0, (18, a0)), (1, (0, a1))]) rfl dX8_fail_45 ?_
        refine g_iconst F 2 rfl dX8_fail_46 ?_
        refine g_istore F rfl (Nat.le_of_ble_eq_true rfl) (ls' := [(4, (2, 0)), (3, (2, 0)), (2, (2, z1)), (0, (18, a0)), (1, (0, a1))]) rfl dX8_fail_47 ?_
        refine g_loc [(3, 18), (4, 0), (2, 2), (1, 0), (0, 0)] rfl ?_
        refine kl_X8_fail_49 (Int.not_lt.mp (Int.not_lt.mpr h0)) F (fun v16 u16_3 u16_4 => ?_) 200 v9 0 0
        refine g_iload_n F rfl 3 rfl rfl dX8_fail_112 ?_
        exact g_ireturn F rfl rfl rfl rfl (Nat.le_of_ble_eq_true rfl) (Nat.le_of_ble_eq_true rfl) dX8_fail_113
      · exact g_none
    · refine g_iconst F 0 rfl dX8_fail_24 ?_
      refine g_goto F (tgt := 29) rfl dX8_fail_25 ?_
      refine g_callV F (by decide) (K := 8) (b := a0) [(0, 2)] [0] ml_RX8_151 wi_X8_holds ws_X8_holds (c_X8_holds a0 2 (Int.not_lt.mp (Int.not_lt.mpr h0))) mi_X8_holds (by decide) ⟨_, rfl, rfl⟩ (Int.not_lt.mp (Int.not_lt.mpr h0)) rfl rfl rfl (Nat.le_of_ble_eq_true rfl) (Nat.le_of_ble_eq_true rfl) (Nat.le_of_ble_eq_true rfl) (Nat.le_of_ble_eq_true rfl) (Nat.le_of_ble_eq_true rfl) dX8_fail_29 (fun z17 v17 hz17 => ?_)
      refine g_if_ne F rfl (tgt := 37) rfl dX8_fail_32 (fun n18 => ?_) (fun n18 => ?_)
      · exact g_none
      · refine g_iconst F 2 rfl dX8_fail_35 ?_
        exact g_ireturn F rfl rfl rfl rfl (Nat.le_of_ble_eq_true rfl) (Nat.le_of_ble_eq_true rfl) dX8_fail_36
  · refine g_iconst F 2 rfl dX8_fail_11 ?_
    refine g_goto F (tgt := 29) rfl dX8_fail_12 ?_
    refine g_callV F (by decide) (K := 8) (b := a0) [(2, 1)] [0] ml_RX8_151 wi_X8_holds ws_X8_holds (c_X8_holds a0 1 (Int.not_lt.mp (Int.not_lt.mpr h0))) mi_X8_holds (by decide) ⟨_, rfl, rfl⟩ (Int.not_lt.mp (Int.not_lt.mpr h0)) rfl rfl rfl (Nat.le_of_ble_eq_true rfl) (Nat.le_of_ble_eq_true rfl) (Nat.le_of_ble_eq_true rfl) (Nat.le_of_ble_eq_true rfl) (Nat.le_of_ble_eq_true rfl) dX8_fail_29 (fun z19 v19 hz19 => ?_)
    refine g_if_ne F rfl (tgt := 37) rfl dX8_fail_32 (fun n20 => ?_) (fun n20 => ?_)
    · exact g_none
    · refine g_iconst F 2 rfl dX8_fail_35 ?_
      exact g_ireturn F rfl rfl rfl rfl (Nat.le_of_ble_eq_true rfl) (Nat.le_of_ble_eq_true rfl) dX8_fail_36
theorem c_X8_fail (a0 a1 : Int) (h0 : 0 ≤ a0) : ∀ l, Ct l yX8_fail cX8_fail 5 (some .int) ({ frames := 2, cells := 0, slots := 0, locals := 43 }) (some 0) [(18, a0), (0, a1)] (sp_X8_fail a0 a1) := g_method (by decide +kernel) (Nat.le_of_ble_eq_true rfl) (fun x v F ho => k_X8_fail a0 a1 h0 x v F ho)
def lp_X8_doubtOn_20 (l0 l1 l2 l3 l4 : Int) (k : V → Int → Int → Res) : Nat → V → Int → Int → Res
  | 0, _, _, _ => none
  | n + 1, v, l5, l6 => (chk (0 ≤ (v 8 l0 17)) (chk (0 ≤ l1 ∧ l1 < 12) (if (v 57 (v 8 l0 17) l1) ≤ l6 then (k v l5 l6)
   else (chk (0 ≤ (v 8 l0 18)) (chk (0 ≤ (w32 ((w32 (50 * l1)) + l6)) ∧ (w32 ((w32 (50 * l1)) + l6)) < 600) (if ¬ (v 58 (v 8 l0 18) (w32 ((w32 (50 * l1)) + l6))) = l4 then (lp_X8_doubtOn_20 l0 l1 l2 l3 l4 k n v l5 (w32 (l6 + 1)))
   else (chk (0 ≤ (v 8 l0 19)) (if l2 < (v 59 (v 8 l0 19) (w32 ((w32 (50 * l1)) + l6))) then (lp_X8_doubtOn_20 l0 l1 l2 l3 l4 k n v l5 (w32 (l6 + 1)))
   else (lp_X8_doubtOn_20 l0 l1 l2 l3 l4 k n v (w32 ((w32 (50 * l1)) + l6)) (w32 (l6 + 1)))))))))))
set_option maxRecDepth 100000 in
set_option maxHeartbeats 4000000 in
theorem kl_X8_doubtOn_20 {l0 l1 l2 l3 l4 : Int} (h0 : 0 ≤ l0) {x : Cx} (F : Fx x cX8_doubtOn RX8 "doubtOn" ({ frames := 0, cells := 0, slots := 0, locals := 0 }) 8 (some 0) (some .int) 0) {k : V → Int → Int → Res} (hk : ∀ (v : V) (l5 l6 : Int), Gs x (k v l5 l6) v 0 0 78 [(0, (18, l0)), (1, (0, l1)), (2, (0, l2)), (3, (0, l3)), (4, (0, l4)), (5, (0, l5)), (6, (0, l6))] []) : ∀ (n : Nat) (v : V) (l5 l6 : Int), Gs x (lp_X8_doubtOn_20 l0 l1 l2 l3 l4 k n v l5 l6) v 0 0 20 [(0, (18, l0)), (1, (0, l1)), (2, (0, l2)), (3, (0, l3)), (4, (0, l4)), (5, (0, l5)), (6, (0, l6))] [] := by
  intro n
  induction n with
  | zero => intro v l5 l6; exact g_none
  | succ n ih =>
    intro v l5 l6
    rw [lp_X8_doubtOn_20]
    refine g_iload F 6 rfl rfl dX8_doubtOn_20 ?_
    refine g_aload_n F rfl 0 rfl dX8_doubtOn_22 ?_
    refine g_get F (t := 67) (sI := 17) fl_RX8_51 rfl rfl (Int.not_lt.mp (Int.not_lt.mpr h0)) dX8_doubtOn_23 ?_
    refine g_iload_n F rfl 1 rfl rfl dX8_doubtOn_26 ?_
    refine g_chk (fun n2 => ?_)
    refine g_chk (fun n3 => ?_)
    refine h_iald F (n := 12) ak_57 (Int.not_lt.mp (Int.not_lt.mpr n2)) n3 rfl dX8_doubtOn_27 ?_
    refine g_icmp_ge F rfl rfl (tgt := 78) rfl dX8_doubtOn_28 (fun n4 => ?_) (fun n4 => ?_)
    · refine g_loc [(0, 18), (1, 0), (2, 0), (3, 0), (4, 0), (5, 0), (6, 0)] rfl ?_
      exact hk v l5 l6
    · refine g_bipush F rfl (by decide) dX8_doubtOn_31 ?_
      refine g_iload_n F rfl 1 rfl rfl dX8_doubtOn_33 ?_
      refine g_imul F rfl rfl dX8_doubtOn_34 ?_
      refine g_iload F 6 rfl rfl dX8_doubtOn_35 ?_
      refine g_iadd F rfl rfl dX8_doubtOn_37 ?_
      refine g_istore F rfl (Nat.le_of_ble_eq_true rfl) (ls' := [(7, (0, (w32 ((w32 (50 * l1)) + l6)))), (0, (18, l0)), (1, (0, l1)), (2, (0, l2)), (3, (0, l3)), (4, (0, l4)), (5, (0, l5)), (6, (0, l6))]) rfl dX8_doubtOn_38 ?_
      refine g_aload_n F rfl 1 rfl dX8_doubtOn_40 ?_
      refine g_get F (t := 68) (sI := 18) fl_RX8_54 rfl rfl (Int.not_lt.mp (Int.not_lt.mpr h0)) dX8_doubtOn_41 ?_
      refine g_iload F 0 rfl rfl dX8_doubtOn_44 ?_
      refine g_chk (fun n5 => ?_)
      refine g_chk (fun n6 => ?_)
      refine h_iald F (n := 600) ak_58 (Int.not_lt.mp (Int.not_lt.mpr n5)) n6 rfl dX8_doubtOn_46 ?_
      refine g_iload F 5 rfl rfl dX8_doubtOn_47 ?_
      refine g_icmp_ne F rfl rfl (tgt := 68) rfl dX8_doubtOn_49 (fun n7 => ?_) (fun n7 => ?_)
      · refine g_iload F 6 rfl rfl dX8_doubtOn_68 ?_
        refine g_istore F rfl (Nat.le_of_ble_eq_true rfl) (ls' := [(5, (0, l5)), (7, (0, (w32 ((w32 (50 * l1)) + l6)))), (0, (18, l0)), (1, (0, l1)), (2, (0, l2)), (3, (0, l3)), (4, (0, l4)), (6, (0, l6))]) rfl dX8_doubtOn_70 ?_
        refine g_iinc F 7 rfl rfl (Nat.le_of_ble_eq_true rfl) (ls' := [(6, (0, (w32 (l6 + 1)))), (5, (0, l5)), (7, (0, (w32 ((w32 (50 * l1)) + l6)))), (0, (18, l0)), (1, (0, l1)), (2, (0, l2)), (3, (0, l3)), (4, (0, l4))]) rfl dX8_doubtOn_72 ?_
        refine g_goto F (tgt := 20) rfl dX8_doubtOn_75 ?_
        refine g_loc [(3, 18), (4, 0), (5, 0), (6, 0), (7, 0), (1, 0), (0, 0)] rfl ?_
        exact ih v l5 (w32 (l6 + 1))
      · refine g_aload_n F rfl 1 rfl dX8_doubtOn_52 ?_
        refine g_get F (t := 69) (sI := 19) fl_RX8_57 rfl rfl (Int.not_lt.mp (Int.not_lt.mpr h0)) dX8_doubtOn_53 ?_
        refine g_iload F 0 rfl rfl dX8_doubtOn_56 ?_
        refine g_chk (fun n8 => ?_)
        refine h_iald F (n := 600) ak_59 (Int.not_lt.mp (Int.not_lt.mpr n8)) n6 rfl dX8_doubtOn_58 ?_
        refine g_iload_n F rfl 3 rfl rfl dX8_doubtOn_59 ?_
        refine g_icmp_gt F rfl rfl (tgt := 68) rfl dX8_doubtOn_60 (fun n9 => ?_) (fun n9 => ?_)
        · refine g_iload F 6 rfl rfl dX8_doubtOn_68 ?_
          refine g_istore F rfl (Nat.le_of_ble_eq_true rfl) (ls' := [(5, (0, l5)), (7, (0, (w32 ((w32 (50 * l1)) + l6)))), (0, (18, l0)), (1, (0, l1)), (2, (0, l2)), (3, (0, l3)), (4, (0, l4)), (6, (0, l6))]) rfl dX8_doubtOn_70 ?_
          refine g_iinc F 7 rfl rfl (Nat.le_of_ble_eq_true rfl) (ls' := [(6, (0, (w32 (l6 + 1)))), (5, (0, l5)), (7, (0, (w32 ((w32 (50 * l1)) + l6)))), (0, (18, l0)), (1, (0, l1)), (2, (0, l2)), (3, (0, l3)), (4, (0, l4))]) rfl dX8_doubtOn_72 ?_
          refine g_goto F (tgt := 20) rfl dX8_doubtOn_75 ?_
          refine g_loc [(3, 18), (4, 0), (5, 0), (6, 0), (7, 0), (1, 0), (0, 0)] rfl ?_
          exact ih v l5 (w32 (l6 + 1))
        · refine g_iload F 0 rfl rfl dX8_doubtOn_63 ?_
          refine g_goto F (tgt := 70) rfl dX8_doubtOn_65 ?_
          refine g_istore F rfl (Nat.le_of_ble_eq_true rfl) (ls' := [(5, (0, (w32 ((w32 (50 * l1)) + l6)))), (7, (0, (w32 ((w32 (50 * l1)) + l6)))), (0, (18, l0)), (1, (0, l1)), (2, (0, l2)), (3, (0, l3)), (4, (0, l4)), (6, (0, l6))]) rfl dX8_doubtOn_70 ?_
          refine g_iinc F 7 rfl rfl (Nat.le_of_ble_eq_true rfl) (ls' := [(6, (0, (w32 (l6 + 1)))), (5, (0, (w32 ((w32 (50 * l1)) + l6)))), (7, (0, (w32 ((w32 (50 * l1)) + l6)))), (0, (18, l0)), (1, (0, l1)), (2, (0, l2)), (3, (0, l3)), (4, (0, l4))]) rfl dX8_doubtOn_72 ?_
          refine g_goto F (tgt := 20) rfl dX8_doubtOn_75 ?_
          refine g_loc [(3, 18), (4, 0), (5, 0), (6, 0), (7, 0), (1, 0), (0, 0)] rfl ?_
          exact ih v (w32 ((w32 (50 * l1)) + l6)) (w32 (l6 + 1))
def lp_X8_doubtOn_5 (l0 l1 l2 : Int) (k : V → Int → Int → Res) : Nat → V → Int → Int → Res
  | 0, _, _, _ => none
  | n + 1, v, l3, l4 => (if (v 8 l0 2) ≤ l4 then (k v l3 l4)
   else (lp_X8_doubtOn_20 l0 l1 l2 l3 l4 (fun v10 u10_5 u10_6 => (if ¬ u10_5 = (-1) then (chk (0 ≤ (v10 8 l0 20)) (chk (0 ≤ u10_5 ∧ u10_5 < 600) (if (v10 60 (v10 8 l0 20) u10_5) = 0 then (chk (0 ≤ (v10 8 l0 6)) (chk (0 ≤ l4 ∧ l4 < 10) (lp_X8_doubtOn_5 l0 l1 l2 k n v10 (w32 (l3 + (v10 46 (v10 8 l0 6) l4))) (w32 (l4 + 1)))))
   else (chk (0 ≤ (v10 8 l0 6)) (chk (0 ≤ l4 ∧ l4 < 10) (lp_X8_doubtOn_5 l0 l1 l2 k n v10 (w32 (l3 + (w32 (-(v10 46 (v10 8 l0 6) l4))))) (w32 (l4 + 1))))))))
   else (lp_X8_doubtOn_5 l0 l1 l2 k n v10 (w32 (l3 + 0)) (w32 (l4 + 1))))) 200 v (-1) 0))
set_option maxRecDepth 100000 in
set_option maxHeartbeats 4000000 in
theorem kl_X8_doubtOn_5 {l0 l1 l2 : Int} (h0 : 0 ≤ l0) {x : Cx} (F : Fx x cX8_doubtOn RX8 "doubtOn" ({ frames := 0, cells := 0, slots := 0, locals := 0 }) 8 (some 0) (some .int) 0) {k : V → Int → Int → Res} (hk : ∀ (v : V) (l3 l4 : Int), Gs x (k v l3 l4) v 0 0 125 [(0, (18, l0)), (1, (0, l1)), (2, (0, l2)), (3, (0, l3)), (4, (0, l4))] []) : ∀ (n : Nat) (v : V) (l3 l4 : Int), Gs x (lp_X8_doubtOn_5 l0 l1 l2 k n v l3 l4) v 0 0 5 [(0, (18, l0)), (1, (0, l1)), (2, (0, l2)), (3, (0, l3)), (4, (0, l4))] [] := by
  intro n
  induction n with
  | zero => intro v l3 l4; exact g_none
  | succ n ih =>
    intro v l3 l4
    rw [lp_X8_doubtOn_5]
    refine g_iload F 4 rfl rfl dX8_doubtOn_5 ?_
    refine g_aload_n F rfl 0 rfl dX8_doubtOn_7 ?_
    refine g_get F (t := 0) (sI := 2) fl_RX8_130 rfl rfl (Int.not_lt.mp (Int.not_lt.mpr h0)) dX8_doubtOn_8 ?_
    refine g_icmp_ge F rfl rfl (tgt := 125) rfl dX8_doubtOn_11 (fun n1 => ?_) (fun n1 => ?_)
    · refine g_loc [(0, 18), (1, 0), (2, 0), (3, 0), (4, 0)] rfl ?_
      exact hk v l3 l4
    · refine g_iconst F 0 rfl dX8_doubtOn_14 ?_
      refine g_istore F rfl (Nat.le_of_ble_eq_true rfl) (ls' := [(5, (0, (-1))), (0, (18, l0)), (1, (0, l1)), (2, (0, l2)), (3, (0, l3)), (4, (0, l4))]) rfl dX8_doubtOn_15 ?_
      refine g_iconst F 2 rfl dX8_doubtOn_17 ?_
      refine g_istore F rfl (Nat.le_of_ble_eq_true rfl) (ls' := [(6, (2, 0)), (5, (0, (-1))), (0, (18, l0)), (1, (0, l1)), (2, (0, l2)), (3, (0, l3)), (4, (0, l4))]) rfl dX8_doubtOn_18 ?_
      refine g_loc [(2, 18), (3, 0), (4, 0), (5, 0), (6, 0), (1, 0), (0, 0)] rfl ?_
      refine kl_X8_doubtOn_20 (Int.not_lt.mp (Int.not_lt.mpr h0)) F (fun v10 u10_5 u10_6 => ?_) 200 v (-1) 0
      refine g_iload_n F rfl 3 rfl rfl dX8_doubtOn_78 ?_
      refine g_iload F 5 rfl rfl dX8_doubtOn_79 ?_
      refine g_iconst F 0 rfl dX8_doubtOn_81 ?_
      refine g_icmp_ne F rfl rfl (tgt := 89) rfl dX8_doubtOn_82 (fun n11 => ?_) (fun n11 => ?_)
      · refine g_aload_n F rfl 0 rfl dX8_doubtOn_89 ?_
        refine g_get F (t := 70) (sI := 20) fl_RX8_60 rfl rfl (Int.not_lt.mp (Int.not_lt.mpr h0)) dX8_doubtOn_90 ?_
        refine g_iload F 5 rfl rfl dX8_doubtOn_93 ?_
        refine g_chk (fun n12 => ?_)
        refine g_chk (fun n13 => ?_)
        refine h_zald F (n := 600) ak_60 (Int.not_lt.mp (Int.not_lt.mpr n12)) n13 rfl dX8_doubtOn_95 ?_
        refine g_if_eq F rfl (tgt := 110) rfl dX8_doubtOn_96 (fun n14 => ?_) (fun n14 => ?_)
        · refine g_aload_n F rfl 0 rfl dX8_doubtOn_110 ?_
          refine g_get F (t := 56) (sI := 6) fl_RX8_21 rfl rfl (Int.not_lt.mp (Int.not_lt.mpr h0)) dX8_doubtOn_111 ?_
          refine g_iload F 4 rfl rfl dX8_doubtOn_114 ?_
          refine g_chk (fun n15 => ?_)
          refine g_chk (fun n16 => ?_)
          refine h_iald F (n := 10) ak_46 (Int.not_lt.mp (Int.not_lt.mpr n15)) n16 rfl dX8_doubtOn_116 ?_
          refine g_iadd F rfl rfl dX8_doubtOn_117 ?_
          refine g_istore_n F rfl rfl (Nat.le_of_ble_eq_true rfl) (ls' := [(3, (0, (w32 (l3 + (v10 46 (v10 8 l0 6) l4))))), (0, (18, l0)), (1, (0, l1)), (2, (0, l2)), (4, (0, l4)), (5, (0, u10_5)), (6, (0, u10_6))]) rfl dX8_doubtOn_118 ?_
          refine g_iinc F 4 rfl rfl (Nat.le_of_ble_eq_true rfl) (ls' := [(4, (0, (w32 (l4 + 1)))), (3, (0, (w32 (l3 + (v10 46 (v10 8 l0 6) l4))))), (0, (18, l0)), (1, (0, l1)), (2, (0, l2)), (5, (0, u10_5)), (6, (0, u10_6))]) rfl dX8_doubtOn_119 ?_
          refine g_goto F (tgt := 5) rfl dX8_doubtOn_122 ?_
          refine g_loc [(2, 18), (3, 0), (4, 0), (1, 0), (0, 0)] rfl ?_
          exact ih v10 (w32 (l3 + (v10 46 (v10 8 l0 6) l4))) (w32 (l4 + 1))
        · refine g_aload_n F rfl 0 rfl dX8_doubtOn_99 ?_
          refine g_get F (t := 56) (sI := 6) fl_RX8_21 rfl rfl (Int.not_lt.mp (Int.not_lt.mpr h0)) dX8_doubtOn_100 ?_
          refine g_iload F 4 rfl rfl dX8_doubtOn_103 ?_
          refine g_chk (fun n17 => ?_)
          refine g_chk (fun n18 => ?_)
          refine h_iald F (n := 10) ak_46 (Int.not_lt.mp (Int.not_lt.mpr n17)) n18 rfl dX8_doubtOn_105 ?_
          refine g_ineg F rfl dX8_doubtOn_106 ?_
          refine g_goto F (tgt := 117) rfl dX8_doubtOn_107 ?_
          refine g_iadd F rfl rfl dX8_doubtOn_117 ?_
          refine g_istore_n F rfl rfl (Nat.le_of_ble_eq_true rfl) (ls' := [(3, (0, (w32 (l3 + (w32 (-(v10 46 (v10 8 l0 6) l4))))))), (0, (18, l0)), (1, (0, l1)), (2, (0, l2)), (4, (0, l4)), (5, (0, u10_5)), (6, (0, u10_6))]) rfl dX8_doubtOn_118 ?_
          refine g_iinc F 4 rfl rfl (Nat.le_of_ble_eq_true rfl) (ls' := [(4, (0, (w32 (l4 + 1)))), (3, (0, (w32 (l3 + (w32 (-(v10 46 (v10 8 l0 6) l4))))))), (0, (18, l0)), (1, (0, l1)), (2, (0, l2)), (5, (0, u10_5)), (6, (0, u10_6))]) rfl dX8_doubtOn_119 ?_
          refine g_goto F (tgt := 5) rfl dX8_doubtOn_122 ?_
          refine g_loc [(2, 18), (3, 0), (4, 0), (1, 0), (0, 0)] rfl ?_
          exact ih v10 (w32 (l3 + (w32 (-(v10 46 (v10 8 l0 6) l4))))) (w32 (l4 + 1))
      · refine g_iconst F 2 rfl dX8_doubtOn_85 ?_
        refine g_goto F (tgt := 117) rfl dX8_doubtOn_86 ?_
        refine g_iadd F rfl rfl dX8_doubtOn_117 ?_
        refine g_istore_n F rfl rfl (Nat.le_of_ble_eq_true rfl) (ls' := [(3, (0, (w32 (l3 + 0)))), (0, (18, l0)), (1, (0, l1)), (2, (0, l2)), (4, (0, l4)), (5, (0, u10_5)), (6, (0, u10_6))]) rfl dX8_doubtOn_118 ?_
        refine g_iinc F 4 rfl rfl (Nat.le_of_ble_eq_true rfl) (ls' := [(4, (0, (w32 (l4 + 1)))), (3, (0, (w32 (l3 + 0)))), (0, (18, l0)), (1, (0, l1)), (2, (0, l2)), (5, (0, u10_5)), (6, (0, u10_6))]) rfl dX8_doubtOn_119 ?_
        refine g_goto F (tgt := 5) rfl dX8_doubtOn_122 ?_
        refine g_loc [(2, 18), (3, 0), (4, 0), (1, 0), (0, 0)] rfl ?_
        exact ih v10 (w32 (l3 + 0)) (w32 (l4 + 1))
def sp_X8_doubtOn (a0 a1 a2 : Int) (v : V) : Res := (lp_X8_doubtOn_5 a0 a1 a2 (fun v19 u19_3 u19_4 => (rOk u19_3 v19)) 200 v 0 0)
set_option maxRecDepth 100000 in
set_option maxHeartbeats 4000000 in
theorem k_X8_doubtOn (a0 a1 a2 : Int) (h0 : 0 ≤ a0) (x : Cx) (v : V) (F : Fx x cX8_doubtOn RX8 "doubtOn" ({ frames := 0, cells := 0, slots := 0, locals := 0 }) 8 (some 0) (some .int) 0) (ho : ∀ a ∈ [(18, a0), (0, a1), (0, a2)], okv v a) : Gs x (sp_X8_doubtOn a0 a1 a2 v) v 0 0 0 (avArgs 0 [(18, a0), (0, a1), (0, a2)]) [] := by
  show Gs x _ v 0 0 0 [(0, (18, a0)), (1, (0, a1)), (2, (0, a2))] []
  unfold sp_X8_doubtOn
  refine g_iconst F 2 rfl dX8_doubtOn_0 ?_
  refine g_istore_n F rfl rfl (Nat.le_of_ble_eq_true rfl) (ls' := [(3, (2, 0)), (0, (18, a0)), (1, (0, a1)), (2, (0, a2))]) rfl dX8_doubtOn_1 ?_
  refine g_iconst F 2 rfl dX8_doubtOn_2 ?_
  refine g_istore F rfl (Nat.le_of_ble_eq_true rfl) (ls' := [(4, (2, 0)), (3, (2, 0)), (0, (18, a0)), (1, (0, a1)), (2, (0, a2))]) rfl dX8_doubtOn_3 ?_
  refine g_loc [(2, 18), (3, 0), (4, 0), (1, 0), (0, 0)] rfl ?_
  refine kl_X8_doubtOn_5 (Int.not_lt.mp (Int.not_lt.mpr h0)) F (fun v19 u19_3 u19_4 => ?_) 200 v 0 0
  refine g_iload_n F rfl 3 rfl rfl dX8_doubtOn_125 ?_
  exact g_ireturn F rfl rfl rfl rfl (Nat.le_of_ble_eq_true rfl) (Nat.le_of_ble_eq_true rfl) dX8_doubtOn_126
theorem c_X8_doubtOn (a0 a1 a2 : Int) (h0 : 0 ≤ a0) : ∀ l, Ct l yX8_doubtOn cX8_doubtOn 8 (some .int) ({ frames := 0, cells := 0, slots := 0, locals := 0 }) (some 0) [(18, a0), (0, a1), (0, a2)] (sp_X8_doubtOn a0 a1 a2) := g_method (by decide +kernel) (Nat.le_of_ble_eq_true rfl) (fun x v F ho => k_X8_doubtOn a0 a1 a2 h0 x v F ho)
def sp_X8_valueOf (a0 a1 : Int) (v : V) : Res := (rB (sp_X8_doubtOn a0 a1 (v 8 a0 1) v) (fun z1 v1 => (if z1 ≤ 0 then (chk (0 ≤ (v1 8 a0 11)) (chk (0 ≤ a1 ∧ a1 < 12) (rOk (v1 51 (v1 8 a0 11) a1) v1)))
   else (chk (0 ≤ (v1 8 a0 11)) (chk (0 ≤ a1 ∧ a1 < 12) (rOk (w32 ((v1 51 (v1 8 a0 11) a1).tdiv 10)) v1))))))
set_option maxRecDepth 100000 in
set_option maxHeartbeats 4000000 in
theorem k_X8_valueOf (a0 a1 : Int) (h0 : 0 ≤ a0) (x : Cx) (v : V) (F : Fx x cX8_valueOf RX8 "valueOf" ({ frames := 1, cells := 0, slots := 0, locals := 27 }) 2 (some 0) (some .int) 0) (ho : ∀ a ∈ [(18, a0), (0, a1)], okv v a) : Gs x (sp_X8_valueOf a0 a1 v) v 0 0 0 (avArgs 0 [(18, a0), (0, a1)]) [] := by
  show Gs x _ v 0 0 0 [(0, (18, a0)), (1, (0, a1))] []
  unfold sp_X8_valueOf
  refine g_aload_n F rfl 0 rfl dX8_valueOf_0 ?_
  refine g_iload_n F rfl 1 rfl rfl dX8_valueOf_1 ?_
  refine g_aload_n F rfl 0 rfl dX8_valueOf_2 ?_
  refine g_get F (t := 0) (sI := 1) fl_RX8_164 rfl rfl (Int.not_lt.mp (Int.not_lt.mpr h0)) dX8_valueOf_3 ?_
  refine g_callV F (by decide) (K := 8) (b := a0) [(0, a1), (0, (v 8 a0 1))] [0, 0] ml_RX8_171 wi_X8_doubtOn ws_X8_doubtOn (c_X8_doubtOn a0 a1 (v 8 a0 1) (Int.not_lt.mp (Int.not_lt.mpr h0))) mi_X8_doubtOn (by decide) ⟨_, rfl, rfl⟩ (Int.not_lt.mp (Int.not_lt.mpr h0)) rfl rfl rfl (Nat.le_of_ble_eq_true rfl) (Nat.le_of_ble_eq_true rfl) (Nat.le_of_ble_eq_true rfl) (Nat.le_of_ble_eq_true rfl) (Nat.le_of_ble_eq_true rfl) dX8_valueOf_6 (fun z1 v1 hz1 => ?_)
  refine g_if_le F rfl (tgt := 24) rfl dX8_valueOf_9 (fun n2 => ?_) (fun n2 => ?_)
  · refine g_aload_n F rfl 0 rfl dX8_valueOf_24 ?_
    refine g_get F (t := 61) (sI := 11) fl_RX8_33 rfl rfl (Int.not_lt.mp (Int.not_lt.mpr h0)) dX8_valueOf_25 ?_
    refine g_iload_n F rfl 1 rfl rfl dX8_valueOf_28 ?_
    refine g_chk (fun n3 => ?_)
    refine g_chk (fun n4 => ?_)
    refine h_iald F (n := 12) ak_51 (Int.not_lt.mp (Int.not_lt.mpr n3)) n4 rfl dX8_valueOf_29 ?_
    exact g_ireturn F rfl rfl rfl rfl (Nat.le_of_ble_eq_true rfl) (Nat.le_of_ble_eq_true rfl) dX8_valueOf_30
  · refine g_aload_n F rfl 0 rfl dX8_valueOf_12 ?_
    refine g_get F (t := 61) (sI := 11) fl_RX8_33 rfl rfl (Int.not_lt.mp (Int.not_lt.mpr h0)) dX8_valueOf_13 ?_
    refine g_iload_n F rfl 1 rfl rfl dX8_valueOf_16 ?_
    refine g_chk (fun n5 => ?_)
    refine g_chk (fun n6 => ?_)
    refine h_iald F (n := 12) ak_51 (Int.not_lt.mp (Int.not_lt.mpr n5)) n6 rfl dX8_valueOf_17 ?_
    refine g_bipush F rfl (by decide) dX8_valueOf_18 ?_
    refine g_idiv F (by decide) rfl rfl dX8_valueOf_20 ?_
    refine g_goto F (tgt := 30) rfl dX8_valueOf_21 ?_
    exact g_ireturn F rfl rfl rfl rfl (Nat.le_of_ble_eq_true rfl) (Nat.le_of_ble_eq_true rfl) dX8_valueOf_30
theorem c_X8_valueOf (a0 a1 : Int) (h0 : 0 ≤ a0) : ∀ l, Ct l yX8_valueOf cX8_valueOf 2 (some .int) ({ frames := 1, cells := 0, slots := 0, locals := 27 }) (some 0) [(18, a0), (0, a1)] (sp_X8_valueOf a0 a1) := g_method (by decide +kernel) (Nat.le_of_ble_eq_true rfl) (fun x v F ho => k_X8_valueOf a0 a1 h0 x v F ho)
def sp_X8_worth (a0 a1 : Int) (v : V) : Res := (chk (0 ≤ (v 8 a0 22)) (chk (0 ≤ a1 ∧ a1 < 60) (rB (sp_X8_valueOf a0 (v 62 (v 8 a0 22) a1) v) (fun z3 v3 => (chk (0 ≤ (v3 8 a0 24)) (rOk (w32 ((w32 (z3 * (v3 64 (v3 8 a0 24) a1))).tdiv 60)) v3))))))
set_option maxRecDepth 100000 in
set_option maxHeartbeats 4000000 in
theorem k_X8_worth (a0 a1 : Int) (h0 : 0 ≤ a0) (x : Cx) (v : V) (F : Fx x cX8_worth RX8 "worth" ({ frames := 2, cells := 0, slots := 0, locals := 48 }) 2 (some 0) (some .int) 0) (ho : ∀ a ∈ [(18, a0), (0, a1)], okv v a) : Gs x (sp_X8_worth a0 a1 v) v 0 0 0 (avArgs 0 [(18, a0), (0, a1)]) [] := by
  show Gs x _ v 0 0 0 [(0, (18, a0)), (1, (0, a1))] []
  unfold sp_X8_worth
  refine g_aload_n F rfl 0 rfl dX8_worth_0 ?_
  refine g_aload_n F rfl 0 rfl dX8_worth_1 ?_
  refine g_get F (t := 72) (sI := 22) fl_RX8_63 rfl rfl (Int.not_lt.mp (Int.not_lt.mpr h0)) dX8_worth_2 ?_
  refine g_iload_n F rfl 1 rfl rfl dX8_worth_5 ?_
  refine g_chk (fun n1 => ?_)
  refine g_chk (fun n2 => ?_)
  refine h_iald F (n := 60) ak_62 (Int.not_lt.mp (Int.not_lt.mpr n1)) n2 rfl dX8_worth_6 ?_
  refine g_callV F (by decide) (K := 8) (b := a0) [(0, (v 62 (v 8 a0 22) a1))] [0] ml_RX8_175 wi_X8_valueOf ws_X8_valueOf (c_X8_valueOf a0 (v 62 (v 8 a0 22) a1) (Int.not_lt.mp (Int.not_lt.mpr h0))) mi_X8_valueOf (by decide) ⟨_, rfl, rfl⟩ (Int.not_lt.mp (Int.not_lt.mpr h0)) rfl rfl rfl (Nat.le_of_ble_eq_true rfl) (Nat.le_of_ble_eq_true rfl) (Nat.le_of_ble_eq_true rfl) (Nat.le_of_ble_eq_true rfl) (Nat.le_of_ble_eq_true rfl) dX8_worth_7 (fun z3 v3 hz3 => ?_)
  refine g_aload_n F rfl 0 rfl dX8_worth_10 ?_
  refine g_get F (t := 74) (sI := 24) fl_RX8_69 rfl rfl (Int.not_lt.mp (Int.not_lt.mpr h0)) dX8_worth_11 ?_
  refine g_iload_n F rfl 1 rfl rfl dX8_worth_14 ?_
  refine g_chk (fun n4 => ?_)
  refine h_iald F (n := 60) ak_64 (Int.not_lt.mp (Int.not_lt.mpr n4)) n2 rfl dX8_worth_15 ?_
  refine g_imul F rfl rfl dX8_worth_16 ?_
  refine g_bipush F rfl (by decide) dX8_worth_17 ?_
  refine g_idiv F (by decide) rfl rfl dX8_worth_19 ?_
  exact g_ireturn F rfl rfl rfl rfl (Nat.le_of_ble_eq_true rfl) (Nat.le_of_ble_eq_true rfl) dX8_worth_20
theorem c_X8_worth (a0 a1 : Int) (h0 : 0 ≤ a0) : ∀ l, Ct l yX8_worth cX8_worth 2 (some .int) ({ frames := 2, cells := 0, slots := 0, locals := 48 }) (some 0) [(18, a0), (0, a1)] (sp_X8_worth a0 a1) := g_method (by decide +kernel) (Nat.le_of_ble_eq_true rfl) (fun x v F ho => k_X8_worth a0 a1 h0 x v F ho)
def sp_X8_isBarred (a0 a1 a2 : Int) (v : V) : Res := (rLet (up v 8 a0 44 a1) (fun v1 => (rLet (up v1 8 a0 45 a2) (fun v2 => (rOk 1 v2)))))
set_option maxRecDepth 100000 in
set_option maxHeartbeats 4000000 in
theorem k_X8_isBarred (a0 a1 a2 : Int) (h0 : 0 ≤ a0) (x : Cx) (v : V) (F : Fx x cX8_isBarred RX8 "isBarred" ({ frames := 0, cells := 0, slots := 0, locals := 0 }) 3 (some 2) (some .boolean) 0) (ho : ∀ a ∈ [(18, a0), (0, a1), (0, a2)], okv v a) : Gs x (sp_X8_isBarred a0 a1 a2 v) v 0 0 0 (avArgs 0 [(18, a0), (0, a1), (0, a2)]) [] := by
  show Gs x _ v 0 0 0 [(0, (18, a0)), (1, (0, a1)), (2, (0, a2))] []
  unfold sp_X8_isBarred
  refine g_aload_n F rfl 0 rfl dX8_isBarred_0 ?_
  refine g_iload_n F rfl 1 rfl rfl dX8_isBarred_1 ?_
  refine h_put F (sI := 44) fl_RX8_178 ⟨_, rfl, Or.inl rfl⟩ rfl rfl (Int.not_lt.mp (Int.not_lt.mpr h0)) dX8_isBarred_2 (fun v1 => ?_)
  refine g_aload_n F rfl 0 rfl dX8_isBarred_5 ?_
  refine g_iload_n F rfl 2 rfl rfl dX8_isBarred_6 ?_
  refine h_put F (sI := 45) fl_RX8_181 ⟨_, rfl, Or.inl rfl⟩ rfl rfl (Int.not_lt.mp (Int.not_lt.mpr h0)) dX8_isBarred_7 (fun v2 => ?_)
  refine g_iconst F 2 rfl dX8_isBarred_10 ?_
  exact g_ireturn F rfl rfl rfl rfl (Nat.le_of_ble_eq_true rfl) (Nat.le_of_ble_eq_true rfl) dX8_isBarred_11
theorem c_X8_isBarred (a0 a1 a2 : Int) (h0 : 0 ≤ a0) : ∀ l, Ct l yX8_isBarred cX8_isBarred 3 (some .boolean) ({ frames := 0, cells := 0, slots := 0, locals := 0 }) (some 2) [(18, a0), (0, a1), (0, a2)] (sp_X8_isBarred a0 a1 a2) := g_method (by decide +kernel) (Nat.le_of_ble_eq_true rfl) (fun x v F ho => k_X8_isBarred a0 a1 a2 h0 x v F ho)
def sp_X8_isBarredBehind (a0 a1 a2 a3 : Int) (v : V) : Res := (chk (0 ≤ (v 8 a0 22)) (chk (0 ≤ a1 ∧ a1 < 60) (chk (0 ≤ (v 8 a0 10)) (chk (0 ≤ (v 62 (v 8 a0 22) a1) ∧ (v 62 (v 8 a0 22) a1) < 12) (rB (sp_X8_leftOf a0 (v 62 (v 8 a0 22) a1) v) (fun z5 v5 => (if z5 ≤ 0 then (chk (0 ≤ (v5 8 a0 3)) (chk (0 ≤ a2 ∧ a2 < 10) (if 0 ≤ (lcmp (v5 43 (v5 8 a0 3) a2) a3) then (chk (0 ≤ (v5 8 a0 23)) (if ¬ (v5 63 (v5 8 a0 23) a1) = (v 50 (v 8 a0 10) (v 62 (v 8 a0 22) a1)) then (if ¬ (v5 8 a0 21) = 60 then (rOk 0 v5)
   else (rB (sp_X8_isBarred a0 7 60 v5) (fun z13 v13 => (if z13 = 0 then (rOk 0 v13)
   else (rOk 1 v13)))))
   else (chk (0 ≤ (v5 8 a0 7)) (chk (0 ≤ (w32 ((w32 (10 * (v 50 (v 8 a0 10) (v 62 (v 8 a0 22) a1)))) + a2)) ∧ (w32 ((w32 (10 * (v 50 (v 8 a0 10) (v 62 (v 8 a0 22) a1)))) + a2)) < 100) (if (v5 47 (v5 8 a0 7) (w32 ((w32 (10 * (v 50 (v 8 a0 10) (v 62 (v 8 a0 22) a1)))) + a2))) = 0 then (if ¬ (v5 8 a0 21) = 60 then (rOk 0 v5)
   else (rB (sp_X8_isBarred a0 7 60 v5) (fun z19 v19 => (if z19 = 0 then (rOk 0 v19)
   else (rOk 1 v19)))))
   else (rB (sp_X8_isBarred a0 6 (v 50 (v 8 a0 10) (v 62 (v 8 a0 22) a1)) v5) (fun z21 v21 => (rOk z21 v21))))))))
   else (rB (sp_X8_isBarred a0 5 (w32 (w64 (a3 - (v5 43 (v5 8 a0 3) a2)))) v5) (fun z22 v22 => (rOk z22 v22))))))
   else (chk (0 ≤ (v5 8 a0 4)) (chk (0 ≤ a2 ∧ a2 < 10) (chk (0 ≤ (v5 8 a0 12)) (if (v5 44 (v5 8 a0 4) a2) = (v5 52 (v5 8 a0 12) (v 62 (v 8 a0 22) a1)) then (chk (0 ≤ (v5 8 a0 3)) (if 0 ≤ (lcmp (v5 43 (v5 8 a0 3) a2) a3) then (chk (0 ≤ (v5 8 a0 23)) (if ¬ (v5 63 (v5 8 a0 23) a1) = (v 50 (v 8 a0 10) (v 62 (v 8 a0 22) a1)) then (if ¬ (v5 8 a0 21) = 60 then (rOk 0 v5)
   else (rB (sp_X8_isBarred a0 7 60 v5) (fun z32 v32 => (if z32 = 0 then (rOk 0 v32)
   else (rOk 1 v32)))))
   else (chk (0 ≤ (v5 8 a0 7)) (chk (0 ≤ (w32 ((w32 (10 * (v 50 (v 8 a0 10) (v 62 (v 8 a0 22) a1)))) + a2)) ∧ (w32 ((w32 (10 * (v 50 (v 8 a0 10) (v 62 (v 8 a0 22) a1)))) + a2)) < 100) (if (v5 47 (v5 8 a0 7) (w32 ((w32 (10 * (v 50 (v 8 a0 10) (v 62 (v 8 a0 22) a1)))) + a2))) = 0 then (if ¬ (v5 8 a0 21) = 60 then (rOk 0 v5)
   else (rB (sp_X8_isBarred a0 7 60 v5) (fun z38 v38 => (if z38 = 0 then (rOk 0 v38)
   else (rOk 1 v38)))))
   else (rB (sp_X8_isBarred a0 6 (v 50 (v 8 a0 10) (v 62 (v 8 a0 22) a1)) v5) (fun z40 v40 => (rOk z40 v40))))))))
   else (rB (sp_X8_isBarred a0 5 (w32 (w64 (a3 - (v5 43 (v5 8 a0 3) a2)))) v5) (fun z41 v41 => (rOk z41 v41)))))
   else (rB (sp_X8_leftOf a0 (v 62 (v 8 a0 22) a1) v5) (fun z42 v42 => (rB (sp_X8_isBarred a0 4 z42 v42) (fun z43 v43 => (rOk z43 v43))))))))))))))))
set_option maxRecDepth 100000 in
set_option maxHeartbeats 4000000 in
theorem k_X8_isBarredBehind (a0 a1 a2 a3 : Int) (h0 : 0 ≤ a0) (x : Cx) (v : V) (F : Fx x cX8_isBarredBehind RX8 "isBarredBehind" ({ frames := 1, cells := 0, slots := 0, locals := 22 }) 6 (some 2) (some .boolean) 0) (ho : ∀ a ∈ [(18, a0), (0, a1), (0, a2), (0, a3)], okv v a) : Gs x (sp_X8_isBarredBehind a0 a1 a2 a3 v) v 0 0 0 (avArgs 0 [(18, a0), (0, a1), (0, a2), (0, a3)]) [] := by
  show Gs x _ v 0 0 0 [(0, (18, a0)), (1, (0, a1)), (2, (0, a2)), (3, (0, a3))] []
  unfold sp_X8_isBarredBehind
  refine g_aload_n F rfl 0 rfl dX8_isBarredBehind_0 ?_
  refine g_get F (t := 72) (sI := 22) fl_RX8_63 rfl rfl (Int.not_lt.mp (Int.not_lt.mpr h0)) dX8_isBarredBehind_1 ?_
  refine g_iload_n F rfl 1 rfl rfl dX8_isBarredBehind_4 ?_
  refine g_chk (fun n1 => ?_)
  refine g_chk (fun n2 => ?_)
  refine h_iald F (n := 60) ak_62 (Int.not_lt.mp (Int.not_lt.mpr n1)) n2 rfl dX8_isBarredBehind_5 ?_
  refine g_istore F rfl (Nat.le_of_ble_eq_true rfl) (ls' := [(4, (0, (v 62 (v 8 a0 22) a1))), (0, (18, a0)), (1, (0, a1)), (2, (0, a2)), (3, (0, a3))]) rfl dX8_isBarredBehind_6 ?_
  refine g_aload_n F rfl 1 rfl dX8_isBarredBehind_8 ?_
  refine g_get F (t := 60) (sI := 10) fl_RX8_30 rfl rfl (Int.not_lt.mp (Int.not_lt.mpr h0)) dX8_isBarredBehind_9 ?_
  refine g_iload F 0 rfl rfl dX8_isBarredBehind_12 ?_
  refine g_chk (fun n3 => ?_)
  refine g_chk (fun n4 => ?_)
  refine h_iald F (n := 12) ak_50 (Int.not_lt.mp (Int.not_lt.mpr n3)) n4 rfl dX8_isBarredBehind_14 ?_
  refine g_istore F rfl (Nat.le_of_ble_eq_true rfl) (ls' := [(5, (0, (v 50 (v 8 a0 10) (v 62 (v 8 a0 22) a1)))), (4, (0, (v 62 (v 8 a0 22) a1))), (0, (18, a0)), (1, (0, a1)), (2, (0, a2)), (3, (0, a3))]) rfl dX8_isBarredBehind_15 ?_
  refine g_aload_n F rfl 2 rfl dX8_isBarredBehind_17 ?_
  refine g_iload F 1 rfl rfl dX8_isBarredBehind_18 ?_
  refine g_callV F (by decide) (K := 8) (b := a0) [(0, (v 62 (v 8 a0 22) a1))] [0] ml_RX8_167 wi_X8_leftOf ws_X8_leftOf (c_X8_leftOf a0 (v 62 (v 8 a0 22) a1) (Int.not_lt.mp (Int.not_lt.mpr h0))) mi_X8_leftOf (by decide) ⟨_, rfl, rfl⟩ (Int.not_lt.mp (Int.not_lt.mpr h0)) rfl rfl rfl (Nat.le_of_ble_eq_true rfl) (Nat.le_of_ble_eq_true rfl) (Nat.le_of_ble_eq_true rfl) (Nat.le_of_ble_eq_true rfl) (Nat.le_of_ble_eq_true rfl) dX8_isBarredBehind_20 (fun z5 v5 hz5 => ?_)
  refine g_if_le F rfl (tgt := 54) rfl dX8_isBarredBehind_23 (fun n6 => ?_) (fun n6 => ?_)
  · refine g_aload_n F rfl 2 rfl dX8_isBarredBehind_54 ?_
    refine g_get F (t := 53) (sI := 3) fl_RX8_7 rfl rfl (Int.not_lt.mp (Int.not_lt.mpr h0)) dX8_isBarredBehind_55 ?_
    refine g_iload_n F rfl 4 rfl rfl dX8_isBarredBehind_58 ?_
    refine g_chk (fun n7 => ?_)
    refine g_chk (fun n8 => ?_)
    refine h_lald F (n := 10) ak_43 (Int.not_lt.mp (Int.not_lt.mpr n7)) n8 rfl dX8_isBarredBehind_59 ?_
    refine g_iload_n F rfl 5 rfl rfl dX8_isBarredBehind_60 ?_
    refine g_i2l F rfl dX8_isBarredBehind_61 ?_
    refine g_lcmp F dX8_isBarredBehind_62 ?_
    refine g_if_ge F rfl (tgt := 82) rfl dX8_isBarredBehind_63 (fun n9 => ?_) (fun n9 => ?_)
    · refine g_aload_n F rfl 2 rfl dX8_isBarredBehind_82 ?_
      refine g_get F (t := 73) (sI := 23) fl_RX8_66 rfl rfl (Int.not_lt.mp (Int.not_lt.mpr h0)) dX8_isBarredBehind_83 ?_
      refine g_iload_n F rfl 3 rfl rfl dX8_isBarredBehind_86 ?_
      refine g_chk (fun n10 => ?_)
      refine h_iald F (n := 60) ak_63 (Int.not_lt.mp (Int.not_lt.mpr n10)) n2 rfl dX8_isBarredBehind_87 ?_
      refine g_iload F 0 rfl rfl dX8_isBarredBehind_88 ?_
      refine g_icmp_ne F rfl rfl (tgt := 117) rfl dX8_isBarredBehind_90 (fun n11 => ?_) (fun n11 => ?_)
      · refine g_aload_n F rfl 2 rfl dX8_isBarredBehind_117 ?_
        refine g_get F (t := 0) (sI := 21) fl_RX8_140 rfl rfl (Int.not_lt.mp (Int.not_lt.mpr h0)) dX8_isBarredBehind_118 ?_
        refine g_bipush F rfl (by decide) dX8_isBarredBehind_121 ?_
        refine g_icmp_ne F rfl rfl (tgt := 141) rfl dX8_isBarredBehind_123 (fun n12 => ?_) (fun n12 => ?_)
        · refine g_iconst F 2 rfl dX8_isBarredBehind_141 ?_
          exact g_ireturn F rfl rfl rfl rfl (Nat.le_of_ble_eq_true rfl) (Nat.le_of_ble_eq_true rfl) dX8_isBarredBehind_142
        · refine g_aload_n F rfl 2 rfl dX8_isBarredBehind_126 ?_
          refine g_bipush F rfl (by decide) dX8_isBarredBehind_127 ?_
          refine g_bipush F rfl (by decide) dX8_isBarredBehind_129 ?_
          refine g_callV F (by decide) (K := 8) (b := a0) [(0, 7), (0, 60)] [0, 0] ml_RX8_184 wi_X8_isBarred ws_X8_isBarred (c_X8_isBarred a0 7 60 (Int.not_lt.mp (Int.not_lt.mpr h0))) mi_X8_isBarred (by decide) ⟨_, rfl, rfl⟩ (Int.not_lt.mp (Int.not_lt.mpr h0)) rfl rfl rfl (Nat.le_of_ble_eq_true rfl) (Nat.le_of_ble_eq_true rfl) (Nat.le_of_ble_eq_true rfl) (Nat.le_of_ble_eq_true rfl) (Nat.le_of_ble_eq_true rfl) dX8_isBarredBehind_131 (fun z13 v13 hz13 => ?_)
          refine g_if_eq F rfl (tgt := 141) rfl dX8_isBarredBehind_134 (fun n14 => ?_) (fun n14 => ?_)
          · refine g_iconst F 2 rfl dX8_isBarredBehind_141 ?_
            exact g_ireturn F rfl rfl rfl rfl (Nat.le_of_ble_eq_true rfl) (Nat.le_of_ble_eq_true rfl) dX8_isBarredBehind_142
          · refine g_iconst F 2 rfl dX8_isBarredBehind_137 ?_
            refine g_goto F (tgt := 142) rfl dX8_isBarredBehind_138 ?_
            exact g_ireturn F rfl rfl rfl rfl (Nat.le_of_ble_eq_true rfl) (Nat.le_of_ble_eq_true rfl) dX8_isBarredBehind_142
      · refine g_aload_n F rfl 2 rfl dX8_isBarredBehind_93 ?_
        refine g_get F (t := 57) (sI := 7) fl_RX8_24 rfl rfl (Int.not_lt.mp (Int.not_lt.mpr h0)) dX8_isBarredBehind_94 ?_
        refine g_bipush F rfl (by decide) dX8_isBarredBehind_97 ?_
        refine g_iload F 0 rfl rfl dX8_isBarredBehind_99 ?_
        refine g_imul F rfl rfl dX8_isBarredBehind_101 ?_
        refine g_iload_n F rfl 4 rfl rfl dX8_isBarredBehind_102 ?_
        refine g_iadd F rfl rfl dX8_isBarredBehind_103 ?_
        refine g_chk (fun n15 => ?_)
        refine g_chk (fun n16 => ?_)
        refine h_zald F (n := 100) ak_47 (Int.not_lt.mp (Int.not_lt.mpr n15)) n16 rfl dX8_isBarredBehind_104 ?_
        refine g_if_eq F rfl (tgt := 117) rfl dX8_isBarredBehind_105 (fun n17 => ?_) (fun n17 => ?_)
        · refine g_aload_n F rfl 2 rfl dX8_isBarredBehind_117 ?_
          refine g_get F (t := 0) (sI := 21) fl_RX8_140 rfl rfl (Int.not_lt.mp (Int.not_lt.mpr h0)) dX8_isBarredBehind_118 ?_
          refine g_bipush F rfl (by decide) dX8_isBarredBehind_121 ?_
          refine g_icmp_ne F rfl rfl (tgt := 141) rfl dX8_isBarredBehind_123 (fun n18 => ?_) (fun n18 => ?_)
          · refine g_iconst F 2 rfl dX8_isBarredBehind_141 ?_
            exact g_ireturn F rfl rfl rfl rfl (Nat.le_of_ble_eq_true rfl) (Nat.le_of_ble_eq_true rfl) dX8_isBarredBehind_142
          · refine g_aload_n F rfl 2 rfl dX8_isBarredBehind_126 ?_
            refine g_bipush F rfl (by decide) dX8_isBarredBehind_127 ?_
            refine g_bipush F rfl (by decide) dX8_isBarredBehind_129 ?_
            refine g_callV F (by decide) (K := 8) (b := a0) [(0, 7), (0, 60)] [0, 0] ml_RX8_184 wi_X8_isBarred ws_X8_isBarred (c_X8_isBarred a0 7 60 (Int.not_lt.mp (Int.not_lt.mpr h0))) mi_X8_isBarred (by decide) ⟨_, rfl, rfl⟩ (Int.not_lt.mp (Int.not_lt.mpr h0)) rfl rfl rfl (Nat.le_of_ble_eq_true rfl) (Nat.le_of_ble_eq_true rfl) (Nat.le_of_ble_eq_true rfl) (Nat.le_of_ble_eq_true rfl) (Nat.le_of_ble_eq_true rfl) dX8_isBarredBehind_131 (fun z19 v19 hz19 => ?_)
            refine g_if_eq F rfl (tgt := 141) rfl dX8_isBarredBehind_134 (fun n20 => ?_) (fun n20 => ?_)
            · refine g_iconst F 2 rfl dX8_isBarredBehind_141 ?_
              exact g_ireturn F rfl rfl rfl rfl (Nat.le_of_ble_eq_true rfl) (Nat.le_of_ble_eq_true rfl) dX8_isBarredBehind_142
            · refine g_iconst F 2 rfl dX8_isBarredBehind_137 ?_
              refine g_goto F (tgt := 142) rfl dX8_isBarredBehind_138 ?_
              exact g_ireturn F rfl rfl rfl rfl (Nat.le_of_ble_eq_true rfl) (Nat.le_of_ble_eq_true rfl) dX8_isBarredBehind_142
        · refine g_aload_n F rfl 2 rfl dX8_isBarredBehind_108 ?_
          refine g_bipush F rfl (by decide) dX8_isBarredBehind_109 ?_
          refine g_iload F 0 rfl rfl dX8_isBarredBehind_111 ?_
          refine g_callV F (by decide) (K := 8) (b := a0) [(0, 6), (0, (v 50 (v 8 a0 10) (v 62 (v 8 a0 22) a1)))] [0, 0] ml_RX8_184 wi_X8_isBarred ws_X8_isBarred (c_X8_isBarred a0 6 (v 50 (v 8 a0 10) (v 62 (v 8 a0 22) a1)) (Int.not_lt.mp (Int.not_lt.mpr h0))) mi_X8_isBarred (by decide) ⟨_, rfl, rfl⟩ (Int.not_lt.mp (Int.not_lt.mpr h0)) rfl rfl rfl (Nat.le_of_ble_eq_true rfl) (Nat.le_of_ble_eq_true rfl) (Nat.le_of_ble_eq_true rfl) (Nat.le_of_ble_eq_true rfl) (Nat.le_of_ble_eq_true rfl) dX8_isBarredBehind_113 (fun z21 v21 hz21 => ?_)
          exact g_ireturn F rfl rfl rfl rfl (Nat.le_of_ble_eq_true rfl) (Nat.le_of_ble_eq_true rfl) dX8_isBarredBehind_116
    · refine g_aload_n F rfl 2 rfl dX8_isBarredBehind_66 ?_
      refine g_iconst F 0 rfl dX8_isBarredBehind_67 ?_
      refine g_iload_n F rfl 5 rfl rfl dX8_isBarredBehind_68 ?_
      refine g_i2l F rfl dX8_isBarredBehind_69 ?_
      refine g_aload_n F rfl 2 rfl dX8_isBarredBehind_70 ?_
      refine g_get F (t := 53) (sI := 3) fl_RX8_7 rfl rfl (Int.not_lt.mp (Int.not_lt.mpr h0)) dX8_isBarredBehind_71 ?_
      refine g_iload_n F rfl 4 rfl rfl dX8_isBarredBehind_74 ?_
      refine h_lald F (n := 10) ak_43 (Int.not_lt.mp (Int.not_lt.mpr n7)) n8 rfl dX8_isBarredBehind_75 ?_
      refine g_lsub F dX8_isBarredBehind_76 ?_
      refine g_l2i F dX8_isBarredBehind_77 ?_
      refine g_callV F (by decide) (K := 8) (b := a0) [(0, 5), (0, (w32 (w64 (a3 - (v5 43 (v5 8 a0 3) a2)))))] [0, 0] ml_RX8_184 wi_X8_isBarred ws_X8_isBarred (c_X8_isBarred a0 5 (w32 (w64 (a3 - (v5 43 (v5 8 a0 3) a2)))) (Int.not_lt.mp (Int.not_lt.mpr h0))) mi_X8_isBarred (by decide) ⟨_, rfl, rfl⟩ (Int.not_lt.mp (Int.not_lt.mpr h0)) rfl rfl rfl (Nat.le_of_ble_eq_true rfl) (Nat.le_of_ble_eq_true rfl) (Nat.le_of_ble_eq_true rfl) (Nat.le_of_ble_eq_true rfl) (Nat.le_of_ble_eq_true rfl) dX8_isBarredBehind_78 (fun z22 v22 hz22 => ?_)
      exact g_ireturn F rfl rfl rfl rfl (Nat.le_of_ble_eq_true rfl) (Nat.le_of_ble_eq_true rfl) dX8_isBarredBehind_81
  · refine g_aload_n F rfl 2 rfl dX8_isBarredBehind_26 ?_
    refine g_get F (t := 54) (sI := 4) fl_RX8_13 rfl rfl (Int.not_lt.mp (Int.not_lt.mpr h0)) dX8_isBarredBehind_27 ?_
    refine g_iload_n F rfl 4 rfl rfl dX8_isBarredBehind_30 ?_
    refine g_chk (fun n23 => ?_)
    refine g_chk (fun n24 => ?_)
    refine h_iald F (n := 10) ak_44 (Int.not_lt.mp (Int.not_lt.mpr n23)) n24 rfl dX8_isBarredBehind_31 ?_
    refine g_aload_n F rfl 2 rfl dX8_isBarredBehind_32 ?_
    refine g_get F (t := 62) (sI := 12) fl_RX8_36 rfl rfl (Int.not_lt.mp (Int.not_lt.mpr h0)) dX8_isBarredBehind_33 ?_
    refine g_iload F 1 rfl rfl dX8_isBarredBehind_36 ?_
    refine g_chk (fun n25 => ?_)
    refine h_iald F (n := 12) ak_52 (Int.not_lt.mp (Int.not_lt.mpr n25)) n4 rfl dX8_isBarredBehind_38 ?_
    refine g_icmp_eq F rfl rfl (tgt := 54) rfl dX8_isBarredBehind_39 (fun n26 => ?_) (fun n26 => ?_)
    · refine g_aload_n F rfl 2 rfl dX8_isBarredBehind_54 ?_
      refine g_get F (t := 53) (sI := 3) fl_RX8_7 rfl rfl (Int.not_lt.mp (Int.not_lt.mpr h0)) dX8_isBarredBehind_55 ?_
      refine g_iload_n F rfl 4 rfl rfl dX8_isBarredBehind_58 ?_
      refine g_chk (fun n27 => ?_)
      refine h_lald F (n := 10) ak_43 (Int.not_lt.mp (Int.not_lt.mpr n27)) n24 rfl dX8_isBarredBehind_59 ?_
      refine g_iload_n F rfl 5 rfl rfl dX8_isBarredBehind_60 ?_
      refine g_i2l F rfl dX8_isBarredBehind_61 ?_
      refine g_lcmp F dX8_isBarredBehind_62 ?_
      refine g_if_ge F rfl (tgt := 82) rfl dX8_isBarredBehind_63 (fun n28 => ?_) (fun n28 => ?_)
      · refine g_aload_n F rfl 2 rfl dX8_isBarredBehind_82 ?_
        refine g_get F (t := 73) (sI := 23) fl_RX8_66 rfl rfl (Int.not_lt.mp (Int.not_lt.mpr h0)) dX8_isBarredBehind_83 ?_
        refine g_iload_n F rfl 3 rfl rfl dX8_isBarredBehind_86 ?_
        refine g_chk (fun n29 => ?_)
        refine h_iald F (n := 60) ak_63 (Int.not_lt.mp (Int.not_lt.mpr n29)) n2 rfl dX8_isBarredBehind_87 ?_
        refine g_iload F 0 rfl rfl dX8_isBarredBehind_88 ?_
        refine g_icmp_ne F rfl rfl (tgt := 117) rfl dX8_isBarredBehind_90 (fun n30 => ?_) (fun n30 => ?_)
        · refine g_aload_n F rfl 2 rfl dX8_isBarredBehind_117 ?_
          refine g_get F (t := 0) (sI := 21) fl_RX8_140 rfl rfl (Int.not_lt.mp (Int.not_lt.mpr h0)) dX8_isBarredBehind_118 ?_
          refine g_bipush F rfl (by decide) dX8_isBarredBehind_121 ?_
          refine g_icmp_ne F rfl rfl (tgt := 141) rfl dX8_isBarredBehind_123 (fun n31 => ?_) (fun n31 => ?_)
          · refine g_iconst F 2 rfl dX8_isBarredBehind_141 ?_
            exact g_ireturn F rfl rfl rfl rfl (Nat.le_of_ble_eq_true rfl) (Nat.le_of_ble_eq_true rfl) dX8_isBarredBehind_142
          · refine g_aload_n F rfl 2 rfl dX8_isBarredBehind_126 ?_
            refine g_bipush F rfl (by decide) dX8_isBarredBehind_127 ?_
            refine g_bipush F rfl (by decide) dX8_isBarredBehind_129 ?_
            refine g_callV F (by decide) (K := 8) (b := a0) [(0, 7), (0, 60)] [0, 0] ml_RX8_184 wi_X8_isBarred ws_X8_isBarred (c_X8_isBarred a0 7 60 (Int.not_lt.mp (Int.not_lt.mpr h0))) mi_X8_isBarred (by decide) ⟨_, rfl, rfl⟩ (Int.not_lt.mp (Int.not_lt.mpr h0)) rfl rfl rfl (Nat.le_of_ble_eq_true rfl) (Nat.le_of_ble_eq_true rfl) (Nat.le_of_ble_eq_true rfl) (Nat.le_of_ble_eq_true rfl) (Nat.le_of_ble_eq_true rfl) dX8_isBarredBehind_131 (fun z32 v32 hz32 => ?_)
            refine g_if_eq F rfl (tgt := 141) rfl dX8_isBarredBehind_134 (fun n33 => ?_) (fun n33 => ?_)
            · refine g_iconst F 2 rfl dX8_isBarredBehind_141 ?_
              exact g_ireturn F rfl rfl rfl rfl (Nat.le_of_ble_eq_true rfl) (Nat.le_of_ble_eq_true rfl) dX8_isBarredBehind_142
            · refine g_iconst F 2 rfl dX8_isBarredBehind_137 ?_
              refine g_goto F (tgt := 142) rfl dX8_isBarredBehind_138 ?_
              exact g_ireturn F rfl rfl rfl rfl (Nat.le_of_ble_eq_true rfl) (Nat.le_of_ble_eq_true rfl) dX8_isBarredBehind_142
        · refine g_aload_n F rfl 2 rfl dX8_isBarredBehind_93 ?_
          refine g_get F (t := 57) (sI := 7) fl_RX8_24 rfl rfl (Int.not_lt.mp (Int.not_lt.mpr h0)) dX8_isBarredBehind_94 ?_
          refine g_bipush F rfl (by decide) dX8_isBarredBehind_97 ?_
          refine g_iload F 0 rfl rfl dX8_isBarredBehind_99 ?_
          refine g_imul F rfl rfl dX8_isBarredBehind_101 ?_
          refine g_iload_n F rfl 4 rfl rfl dX8_isBarredBehind_102 ?_
          refine g_iadd F rfl rfl dX8_isBarredBehind_103 ?_
          refine g_chk (fun n34 => ?_)
          refine g_chk (fun n35 => ?_)
          refine h_zald F (n := 100) ak_47 (Int.not_lt.mp (Int.not_lt.mpr n34)) n35 rfl dX8_isBarredBehind_104 ?_
          refine g_if_eq F rfl (tgt := 117) rfl dX8_isBarredBehind_105 (fun n36 => ?_) (fun n36 => ?_)
          · refine g_aload_n F rfl 2 rfl dX8_isBarredBehind_117 ?_
            refine g_get F (t := 0) (sI := 21) fl_RX8_140 rfl rfl (Int.not_lt.mp (Int.not_lt.mpr h0)) dX8_isBarredBehind_118 ?_
            refine g_bipush F rfl (by decide) dX8_isBarredBehind_121 ?_
            refine g_icmp_ne F rfl rfl (tgt := 141) rfl dX8_isBarredBehind_123 (fun n37 => ?_) (fun n37 => ?_)
            · refine g_iconst F 2 rfl dX8_isBarredBehind_141 ?_
              exact g_ireturn F rfl rfl rfl rfl (Nat.le_of_ble_eq_true rfl) (Nat.le_of_ble_eq_true rfl) dX8_isBarredBehind_142
            · refine g_aload_n F rfl 2 rfl dX8_isBarredBehind_126 ?_
              refine g_bipush F rfl (by decide) dX8_isBarredBehind_127 ?_
              refine g_bipush F rfl (by decide) dX8_isBarredBehind_129 ?_
              refine g_callV F (by decide) (K := 8) (b := a0) [(0, 7), (0, 60)] [0, 0] ml_RX8_184 wi_X8_isBarred ws_X8_isBarred (c_X8_isBarred a0 7 60 (Int.not_lt.mp (Int.not_lt.mpr h0))) mi_X8_isBarred (by decide) ⟨_, rfl, rfl⟩ (Int.not_lt.mp (Int.not_lt.mpr h0)) rfl rfl rfl (Nat.le_of_ble_eq_true rfl) (Nat.le_of_ble_eq_true rfl) (Nat.le_of_ble_eq_true rfl) (Nat.le_of_ble_eq_true rfl) (Nat.le_of_ble_eq_true rfl) dX8_isBarredBehind_131 (fun z38 v38 hz38 => ?_)
              refine g_if_eq F rfl (tgt := 141) rfl dX8_isBarredBehind_134 (fun n39 => ?_) (fun n39 => ?_)
              · refine g_iconst F 2 rfl dX8_isBarredBehind_141 ?_
                exact g_ireturn F rfl rfl rfl rfl (Nat.le_of_ble_eq_true rfl) (Nat.le_of_ble_eq_true rfl) dX8_isBarredBehind_142
              · refine g_iconst F 2 rfl dX8_isBarredBehind_137 ?_
                refine g_goto F (tgt := 142) rfl dX8_isBarredBehind_138 ?_
                exact g_ireturn F rfl rfl rfl rfl (Nat.le_of_ble_eq_true rfl) (Nat.le_of_ble_eq_true rfl) dX8_isBarredBehind_142
          · refine g_aload_n F rfl 2 rfl dX8_isBarredBehind_108 ?_
            refine g_bipush F rfl (by decide) dX8_isBarredBehind_109 ?_
            refine g_iload F 0 rfl rfl dX8_isBarredBehind_111 ?_
            refine g_callV F (by decide) (K := 8) (b := a0) [(0, 6), (0, (v 50 (v 8 a0 10) (v 62 (v 8 a0 22) a1)))] [0, 0] ml_RX8_184 wi_X8_isBarred ws_X8_isBarred (c_X8_isBarred a0 6 (v 50 (v 8 a0 10) (v 62 (v 8 a0 22) a1)) (Int.not_lt.mp (Int.not_lt.mpr h0))) mi_X8_isBarred (by decide) ⟨_, rfl, rfl⟩ (Int.not_lt.mp (Int.not_lt.mpr h0)) rfl rfl rfl (Nat.le_of_ble_eq_true rfl) (Nat.le_of_ble_eq_true rfl) (Nat.le_of_ble_eq_true rfl) (Nat.le_of_ble_eq_true rfl) (Nat.le_of_ble_eq_true rfl) dX8_isBarredBehind_113 (fun z40 v40 hz40 => ?_)
            exact g_ireturn F rfl rfl rfl rfl (Nat.le_of_ble_eq_true rfl) (Nat.le_of_ble_eq_true rfl) dX8_isBarredBehind_116
      · refine g_aload_n F rfl 2 rfl dX8_isBarredBehind_66 ?_
        refine g_iconst F 0 rfl dX8_isBarredBehind_67 ?_
        refine g_iload_n F rfl 5 rfl rfl dX8_isBarredBehind_68 ?_
        refine g_i2l F rfl dX8_isBarredBehind_69 ?_
        refine g_aload_n F rfl 2 rfl dX8_isBarredBehind_70 ?_
        refine g_get F (t := 53) (sI := 3) fl_RX8_7 rfl rfl (Int.not_lt.mp (Int.not_lt.mpr h0)) dX8_isBarredBehind_71 ?_
        refine g_iload_n F rfl 4 rfl rfl dX8_isBarredBehind_74 ?_
        refine h_lald F (n := 10) ak_43 (Int.not_lt.mp (Int.not_lt.mpr n27)) n24 rfl dX8_isBarredBehind_75 ?_
        refine g_lsub F dX8_isBarredBehind_76 ?_
        refine g_l2i F dX8_isBarredBehind_77 ?_
        refine g_callV F (by decide) (K := 8) (b := a0) [(0, 5), (0, (w32 (w64 (a3 - (v5 43 (v5 8 a0 3) a2)))))] [0, 0] ml_RX8_184 wi_X8_isBarred ws_X8_isBarred (c_X8_isBarred a0 5 (w32 (w64 (a3 - (v5 43 (v5 8 a0 3) a2)))) (Int.not_lt.mp (Int.not_lt.mpr h0))) mi_X8_isBarred (by decide) ⟨_, rfl, rfl⟩ (Int.not_lt.mp (Int.not_lt.mpr h0)) rfl rfl rfl (Nat.le_of_ble_eq_true rfl) (Nat.le_of_ble_eq_true rfl) (Nat.le_of_ble_eq_true rfl) (Nat.le_of_ble_eq_true rfl) (Nat.le_of_ble_eq_true rfl) dX8_isBarredBehind_78 (fun z41 v41 hz41 => ?_)
        exact g_ireturn F rfl rfl rfl rfl (Nat.le_of_ble_eq_true rfl) (Nat.le_of_ble_eq_true rfl) dX8_isBarredBehind_81
    · refine g_aload_n F rfl 2 rfl dX8_isBarredBehind_42 ?_
      refine g_iconst F 0 rfl dX8_isBarredBehind_43 ?_
      refine g_aload_n F rfl 2 rfl dX8_isBarredBehind_44 ?_
      refine g_iload F 1 rfl rfl dX8_isBarredBehind_45 ?_
      refine g_callV F (by decide) (K := 8) (b := a0) [(0, (v 62 (v 8 a0 22) a1))] [0] ml_RX8_167 wi_X8_leftOf ws_X8_leftOf (c_X8_leftOf a0 (v 62 (v 8 a0 22) a1) (Int.not_lt.mp (Int.not_lt.mpr h0))) mi_X8_leftOf (by decide) ⟨_, rfl, rfl⟩ (Int.not_lt.mp (Int.not_lt.mpr h0)) rfl rfl rfl (Nat.le_of_ble_eq_true rfl) (Nat.le_of_ble_eq_true rfl) (Nat.le_of_ble_eq_true rfl) (Nat.le_of_ble_eq_true rfl) (Nat.le_of_ble_eq_true rfl) dX8_isBarredBehind_47 (fun z42 v42 hz42 => ?_)
      refine g_callV F (by decide) (K := 8) (b := a0) [(0, 4), (0, z42)] [0, 0] ml_RX8_184 wi_X8_isBarred ws_X8_isBarred (c_X8_isBarred a0 4 z42 (Int.not_lt.mp (Int.not_lt.mpr h0))) mi_X8_isBarred (by decide) ⟨_, rfl, rfl⟩ (Int.not_lt.mp (Int.not_lt.mpr h0)) rfl rfl rfl (Nat.le_of_ble_eq_true rfl) (Nat.le_of_ble_eq_true rfl) (Nat.le_of_ble_eq_true rfl) (Nat.le_of_ble_eq_true rfl) (Nat.le_of_ble_eq_true rfl) dX8_isBarredBehind_50 (fun z43 v43 hz43 => ?_)
      exact g_ireturn F rfl rfl rfl rfl (Nat.le_of_ble_eq_true rfl) (Nat.le_of_ble_eq_true rfl) dX8_isBarredBehind_53
theorem c_X8_isBarredBehind (a0 a1 a2 a3 : Int) (h0 : 0 ≤ a0) : ∀ l, Ct l yX8_isBarredBehind cX8_isBarredBehind 6 (some .boolean) ({ frames := 1, cells := 0, slots := 0, locals := 22 }) (some 2) [(18, a0), (0, a1), (0, a2), (0, a3)] (sp_X8_isBarredBehind a0 a1 a2 a3) := g_method (by decide +kernel) (Nat.le_of_ble_eq_true rfl) (fun x v F ho => k_X8_isBarredBehind a0 a1 a2 a3 h0 x v F ho)
def sp_X8_isSaleBarred (a0 a1 a2 a3 a4 : Int) (v : V) : Res := (rLet (up v 8 a0 44 0) (fun v1 => (rLet (up v1 8 a0 45 (-1)) (fun v2 => (chk (0 ≤ (v2 8 a0 23)) (chk (0 ≤ a1 ∧ a1 < 60) (chk (0 ≤ (v2 8 a0 5)) (chk (0 ≤ (v2 63 (v2 8 a0 23) a1) ∧ (v2 63 (v2 8 a0 23) a1) < 10) (if ¬ (v2 45 (v2 8 a0 5) (v2 63 (v2 8 a0 23) a1)) = 0 then (rB (sp_X8_isBarred a0 1 (v2 63 (v2 8 a0 23) a1) v2) (fun z8 v8 => (rOk z8 v8)))
   else (chk (0 ≤ a3 ∧ a3 < 10) (if (v2 45 (v2 8 a0 5) a3) = 0 then (chk (0 ≤ (v2 8 a0 24)) (if a2 ≤ (v2 64 (v2 8 a0 24) a1) then (chk (0 ≤ (v2 8 a0 26)) (if (v2 66 (v2 8 a0 26) a1) = (-1) then (rB (sp_X8_isBarredBehind a0 a1 a3 a4 v2) (fun z15 v15 => (rOk z15 v15)))
   else (rB (sp_X8_isBarred a0 3 (v2 66 (v2 8 a0 26) a1) v2) (fun z16 v16 => (rOk z16 v16)))))
   else (rB (sp_X8_isBarred a0 2 (w32 (a2 - (v2 64 (v2 8 a0 24) a1))) v2) (fun z17 v17 => (rOk z17 v17)))))
   else (rB (sp_X8_isBarred a0 1 a3 v2) (fun z18 v18 => (rOk z18 v18))))))))))))))
set_option maxRecDepth 100000 in
set_option maxHeartbeats 4000000 in
theorem k_X8_isSaleBarred (a0 a1 a2 a3 a4 : Int) (h0 : 0 ≤ a0) (x : Cx) (v : V) (F : Fx x cX8_isSaleBarred RX8 "isSaleBarred" ({ frames := 2, cells := 0, slots := 0, locals := 47 }) 5 (some 2) (some .boolean) 0) (ho : ∀ a ∈ [(18, a0), (0, a1), (0, a2), (0, a3), (0, a4)], okv v a) : Gs x (sp_X8_isSaleBarred a0 a1 a2 a3 a4 v) v 0 0 0 (avArgs 0 [(18, a0), (0, a1), (0, a2), (0, a3), (0, a4)]) [] := by
  show Gs x _ v 0 0 0 [(0, (18, a0)), (1, (0, a1)), (2, (0, a2)), (3, (0, a3)), (4, (0, a4))] []
  unfold sp_X8_isSaleBarred
  refine g_aload_n F rfl 0 rfl dX8_isSaleBarred_0 ?_
  refine g_iconst F 2 rfl dX8_isSaleBarred_1 ?_
  refine h_put F (sI := 44) fl_RX8_178 ⟨_, rfl, Or.inl rfl⟩ rfl rfl (Int.not_lt.mp (Int.not_lt.mpr h0)) dX8_isSaleBarred_2 (fun v1 => ?_)
  refine g_aload_n F rfl 0 rfl dX8_isSaleBarred_5 ?_
  refine g_iconst F 0 rfl dX8_isSaleBarred_6 ?_
  refine h_put F (sI := 45) fl_RX8_181 ⟨_, rfl, Or.inl rfl⟩ rfl rfl (Int.not_lt.mp (Int.not_lt.mpr h0)) dX8_isSaleBarred_7 (fun v2 => ?_)
  refine g_aload_n F rfl 0 rfl dX8_isSaleBarred_10 ?_
  refine g_get F (t := 55) (sI := 5) fl_RX8_17 rfl rfl (Int.not_lt.mp (Int.not_lt.mpr h0)) dX8_isSaleBarred_11 ?_
  refine g_aload_n F rfl 0 rfl dX8_isSaleBarred_14 ?_
  refine g_get F (t := 73) (sI := 23) fl_RX8_66 rfl rfl (Int.not_lt.mp (Int.not_lt.mpr h0)) dX8_isSaleBarred_15 ?_
  refine g_iload_n F rfl 1 rfl rfl dX8_isSaleBarred_18 ?_
  refine g_chk (fun n3 => ?_)
  refine g_chk (fun n4 => ?_)
  refine h_iald F (n := 60) ak_63 (Int.not_lt.mp (Int.not_lt.mpr n3)) n4 rfl dX8_isSaleBarred_19 ?_
  refine g_chk (fun n5 => ?_)
  refine g_chk (fun n6 => ?_)
  refine h_zald F (n := 10) ak_45 (Int.not_lt.mp (Int.not_lt.mpr n5)) n6 rfl dX8_isSaleBarred_20 ?_
  refine g_if_ne F rfl (tgt := 33) rfl dX8_isSaleBarred_21 (fun n7 => ?_) (fun n7 => ?_)
  · refine g_aload_n F rfl 0 rfl dX8_isSaleBarred_33 ?_
    refine g_iconst F 2 rfl dX8_isSaleBarred_34 ?_
    refine g_aload_n F rfl 0 rfl dX8_isSaleBarred_35 ?_
    refine g_get F (t := 55) (sI := 5) fl_RX8_17 rfl rfl (Int.not_lt.mp (Int.not_lt.mpr h0)) dX8_isSaleBarred_36 ?_
    refine g_aload_n F rfl 0 rfl dX8_isSaleBarred_39 ?_
    refine g_get F (t := 73) (sI := 23) fl_RX8_66 rfl rfl (Int.not_lt.mp (Int.not_lt.mpr h0)) dX8_isSaleBarred_40 ?_
    refine g_iload_n F rfl 1 rfl rfl dX8_isSaleBarred_43 ?_
    refine h_iald F (n := 60) ak_63 (Int.not_lt.mp (Int.not_lt.mpr n3)) n4 rfl dX8_isSaleBarred_44 ?_
    refine h_zald F (n := 10) ak_45 (Int.not_lt.mp (Int.not_lt.mpr n5)) n6 rfl dX8_isSaleBarred_45 ?_
    refine g_if_eq_f F rfl n7 (tgt := 58) rfl dX8_isSaleBarred_46 ?_
    refine g_aload_n F rfl 0 rfl dX8_isSaleBarred_49 ?_
    refine g_get F (t := 73) (sI := 23) fl_RX8_66 rfl rfl (Int.not_lt.mp (Int.not_lt.mpr h0)) dX8_isSaleBarred_50 ?_
    refine g_iload_n F rfl 1 rfl rfl dX8_isSaleBarred_53 ?_
    refine h_iald F (n := 60) ak_63 (Int.not_lt.mp (Int.not_lt.mpr n3)) n4 rfl dX8_isSaleBarred_54 ?_
    refine g_goto F (tgt := 59) rfl dX8_isSaleBarred_55 ?_
    refine g_callV F (by decide) (K := 8) (b := a0) [(2, 1), (0, (v2 63 (v2 8 a0 23) a1))] [0, 0] ml_RX8_184 wi_X8_isBarred ws_X8_isBarred (c_X8_isBarred a0 1 (v2 63 (v2 8 a0 23) a1) (Int.not_lt.mp (Int.not_lt.mpr h0))) mi_X8_isBarred (by decide) ⟨_, rfl, rfl⟩ (Int.not_lt.mp (Int.not_lt.mpr h0)) rfl rfl rfl (Nat.le_of_ble_eq_true rfl) (Nat.le_of_ble_eq_true rfl) (Nat.le_of_ble_eq_true rfl) (Nat.le_of_ble_eq_true rfl) (Nat.le_of_ble_eq_true rfl) dX8_isSaleBarred_59 (fun z8 v8 hz8 => ?_)
    exact g_ireturn F rfl rfl rfl rfl (Nat.le_of_ble_eq_true rfl) (Nat.le_of_ble_eq_true rfl) dX8_isSaleBarred_62
  · refine g_aload_n F rfl 0 rfl dX8_isSaleBarred_24 ?_
    refine g_get F (t := 55) (sI := 5) fl_RX8_17 rfl rfl (Int.not_lt.mp (Int.not_lt.mpr h0)) dX8_isSaleBarred_25 ?_
    refine g_iload_n F rfl 3 rfl rfl dX8_isSaleBarred_28 ?_
    refine g_chk (fun n9 => ?_)
    refine h_zald F (n := 10) ak_45 (Int.not_lt.mp (Int.not_lt.mpr n5)) n9 rfl dX8_isSaleBarred_29 ?_
    refine g_if_eq F rfl (tgt := 63) rfl dX8_isSaleBarred_30 (fun n10 => ?_) (fun n10 => ?_)
    · refine g_aload_n F rfl 0 rfl dX8_isSaleBarred_63 ?_
      refine g_get F (t := 74) (sI := 24) fl_RX8_69 rfl rfl (Int.not_lt.mp (Int.not_lt.mpr h0)) dX8_isSaleBarred_64 ?_
      refine g_iload_n F rfl 1 rfl rfl dX8_isSaleBarred_67 ?_
      refine g_chk (fun n11 => ?_)
      refine h_iald F (n := 60) ak_64 (Int.not_lt.mp (Int.not_lt.mpr n11)) n4 rfl dX8_isSaleBarred_68 ?_
      refine g_iload_n F rfl 2 rfl rfl dX8_isSaleBarred_69 ?_
      refine g_icmp_ge F rfl rfl (tgt := 87) rfl dX8_isSaleBarred_70 (fun n12 => ?_) (fun n12 => ?_)
      · refine g_aload_n F rfl 0 rfl dX8_isSaleBarred_87 ?_
        refine g_get F (t := 76) (sI := 26) fl_RX8_75 rfl rfl (Int.not_lt.mp (Int.not_lt.mpr h0)) dX8_isSaleBarred_88 ?_
        refine g_iload_n F rfl 1 rfl rfl dX8_isSaleBarred_91 ?_
        refine g_chk (fun n13 => ?_)
        refine h_iald F (n := 60) ak_66 (Int.not_lt.mp (Int.not_lt.mpr n13)) n4 rfl dX8_isSaleBarred_92 ?_
        refine g_iconst F 0 rfl dX8_isSaleBarred_93 ?_
        refine g_icmp_eq F rfl rfl (tgt := 111) rfl dX8_isSaleBarred_94 (fun n14 => ?_) (fun n14 => ?_)
        · refine g_aload_n F rfl 0 rfl dX8_isSaleBarred_111 ?_
          refine g_iload_n F rfl 1 rfl rfl dX8_isSaleBarred_112 ?_
          refine g_iload_n F rfl 3 rfl rfl dX8_isSaleBarred_113 ?_
          refine g_iload F 4 rfl rfl dX8_isSaleBarred_114 ?_
          refine g_callV F (by decide) (K := 8) (b := a0) [(0, a1), (0, a3), (0, a4)] [0, 0, 0] ml_RX8_188 wi_X8_isBarredBehind ws_X8_isBarredBehind (c_X8_isBarredBehind a0 a1 a3 a4 (Int.not_lt.mp (Int.not_lt.mpr h0))) mi_X8_isBarredBehind (by decide) ⟨_, rfl, rfl⟩ (Int.not_lt.mp (Int.not_lt.mpr h0)) rfl rfl rfl (Nat.le_of_ble_eq_true rfl) (Nat.le_of_ble_eq_true rfl) (Nat.le_of_ble_eq_true rfl) (Nat.le_of_ble_eq_true rfl) (Nat.le_of_ble_eq_true rfl) dX8_isSaleBarred_116 (fun z15 v15 hz15 => ?_)
          exact g_ireturn F rfl rfl rfl rfl (Nat.le_of_ble_eq_true rfl) (Nat.le_of_ble_eq_true rfl) dX8_isSaleBarred_119
        · refine g_aload_n F rfl 0 rfl dX8_isSaleBarred_97 ?_
          refine g_iconst F 0 rfl dX8_isSaleBarred_98 ?_
          refine g_aload_n F rfl 0 rfl dX8_isSaleBarred_99 ?_
          refine g_get F (t := 76) (sI := 26) fl_RX8_75 rfl rfl (Int.not_lt.mp (Int.not_lt.mpr h0)) dX8_isSaleBarred_100 ?_
          refine g_iload_n F rfl 1 rfl rfl dX8_isSaleBarred_103 ?_
          refine h_iald F (n := 60) ak_66 (Int.not_lt.mp (Int.not_lt.mpr n13)) n4 rfl dX8_isSaleBarred_104 ?_
          refine g_callV F (by decide) (K := 8) (b := a0) [(0, 3), (0, (v2 66 (v2 8 a0 26) a1))] [0, 0] ml_RX8_184 wi_X8_isBarred ws_X8_isBarred (c_X8_isBarred a0 3 (v2 66 (v2 8 a0 26) a1) (Int.not_lt.mp (Int.not_lt.mpr h0))) mi_X8_isBarred (by decide) ⟨_, rfl, rfl⟩ (Int.not_lt.mp (Int.not_lt.mpr h0)) rfl rfl rfl (Nat.le_of_ble_eq_true rfl) (Nat.le_of_ble_eq_true rfl) (Nat.le_of_ble_eq_true rfl) (Nat.le_of_ble_eq_true rfl) (Nat.le_of_ble_eq_true rfl) dX8_isSaleBarred_105 (fun z16 v16 hz16 => ?_)
          refine g_goto F (tgt := 119) rfl dX8_isSaleBarred_108 ?_
          exact g_ireturn F rfl rfl rfl rfl (Nat.le_of_ble_eq_true rfl) (Nat.le_of_ble_eq_true rfl) dX8_isSaleBarred_119
      · refine g_aload_n F rfl 0 rfl dX8_isSaleBarred_73 ?_
        refine g_iconst F 0 rfl dX8_isSaleBarred_74 ?_
        refine g_iload_n F rfl 2 rfl rfl dX8_isSaleBarred_75 ?_
        refine g_aload_n F rfl 0 rfl dX8_isSaleBarred_76 ?_
        refine g_get F (t := 74) (sI := 24) fl_RX8_69 rfl rfl (Int.not_lt.mp (Int.not_lt.mpr h0)) dX8_isSaleBarred_77 ?_
        refine g_iload_n F rfl 1 rfl rfl dX8_isSaleBarred_80 ?_
        refine h_iald F (n := 60) ak_64 (Int.not_lt.mp (Int.not_lt.mpr n11)) n4 rfl dX8_isSaleBarred_81 ?_
        refine g_isub F rfl rfl dX8_isSaleBarred_82 ?_
        refine g_callV F (by decide) (K := 8) (b := a0) [(0, 2), (0, (w32 (a2 - (v2 64 (v2 8 a0 24) a1))))] [0, 0] ml_RX8_184 wi_X8_isBarred ws_X8_isBarred (c_X8_isBarred a0 2 (w32 (a2 - (v2 64 (v2 8 a0 24) a1))) (Int.not_lt.mp (Int.not_lt.mpr h0))) mi_X8_isBarred (by decide) ⟨_, rfl, rfl⟩ (Int.not_lt.mp (Int.not_lt.mpr h0)) rfl rfl rfl (Nat.le_of_ble_eq_true rfl) (Nat.le_of_ble_eq_true rfl) (Nat.le_of_ble_eq_true rfl) (Nat.le_of_ble_eq_true rfl) (Nat.le_of_ble_eq_true rfl) dX8_isSaleBarred_83 (fun z17 v17 hz17 => ?_)
        exact g_ireturn F rfl rfl rfl rfl (Nat.le_of_ble_eq_true rfl) (Nat.le_of_ble_eq_true rfl) dX8_isSaleBarred_86
    · refine g_aload_n F rfl 0 rfl dX8_isSaleBarred_33 ?_
      refine g_iconst F 2 rfl dX8_isSaleBarred_34 ?_
      refine g_aload_n F rfl 0 rfl dX8_isSaleBarred_35 ?_
      refine g_get F (t := 55) (sI := 5) fl_RX8_17 rfl rfl (Int.not_lt.mp (Int.not_lt.mpr h0)) dX8_isSaleBarred_36 ?_
      refine g_aload_n F rfl 0 rfl dX8_isSaleBarred_39 ?_
      refine g_get F (t := 73) (sI := 23) fl_RX8_66 rfl rfl (Int.not_lt.mp (Int.not_lt.mpr h0)) dX8_isSaleBarred_40 ?_
      refine g_iload_n F rfl 1 rfl rfl dX8_isSaleBarred_43 ?_
      refine h_iald F (n := 60) ak_63 (Int.not_lt.mp (Int.not_lt.mpr n3)) n4 rfl dX8_isSaleBarred_44 ?_
      refine h_zald F (n := 10) ak_45 (Int.not_lt.mp (Int.not_lt.mpr n5)) n6 rfl dX8_isSaleBarred_45 ?_
      refine g_if_eq_t F rfl (Decidable.not_not.mp n7) (tgt := 58) rfl dX8_isSaleBarred_46 ?_
      refine g_iload_n F rfl 3 rfl rfl dX8_isSaleBarred_58 ?_
      refine g_callV F (by decide) (K := 8) (b := a0) [(2, 1), (0, a3)] [0, 0] ml_RX8_184 wi_X8_isBarred ws_X8_isBarred (c_X8_isBarred a0 1 a3 (Int.not_lt.mp (Int.not_lt.mpr h0))) mi_X8_isBarred (by decide) ⟨_, rfl, rfl⟩ (Int.not_lt.mp (Int.not_lt.mpr h0)) rfl rfl rfl (Nat.le_of_ble_eq_true rfl) (Nat.le_of_ble_eq_true rfl) (Nat.le_of_ble_eq_true rfl) (Nat.le_of_ble_eq_true rfl) (Nat.le_of_ble_eq_true rfl) dX8_isSaleBarred_59 (fun z18 v18 hz18 => ?_)
      exact g_ireturn F rfl rfl rfl rfl (Nat.le_of_ble_eq_true rfl) (Nat.le_of_ble_eq_true rfl) dX8_isSaleBarred_62
theorem c_X8_isSaleBarred (a0 a1 a2 a3 a4 : Int) (h0 : 0 ≤ a0) : ∀ l, Ct l yX8_isSaleBarred cX8_isSaleBarred 5 (some .boolean) ({ frames := 2, cells := 0, slots := 0, locals := 47 }) (some 2) [(18, a0), (0, a1), (0, a2), (0, a3), (0, a4)] (sp_X8_isSaleBarred a0 a1 a2 a3 a4) := g_method (by decide +kernel) (Nat.le_of_ble_eq_true rfl) (fun x v F ho => k_X8_isSaleBarred a0 a1 a2 a3 a4 h0 x v F ho)
def cp_X8_goes_179 (l0 l1 l2 l3 l4 l5 l6 l7 l8 l9 : Int) (v : V) : Res := (chk (0 ≤ (v 8 l0 22)) (chk (0 ≤ l1 ∧ l1 < 60) (chk (0 ≤ (v 8 l0 25)) (rB (sp_X8_lays l0 (v 62 (v 8 l0 22) l1) l3 l2 (v 65 (v 8 l0 25) l1) l1 v) (fun z26 v26 => (chk (0 ≤ (v26 8 l0 24)) (rLet (up v26 64 (v26 8 l0 24) l1 (w32 ((v26 64 (v26 8 l0 24) l1) - l2))) (fun v28 => (chk (0 ≤ (v28 8 l0 26)) (rLet (up v28 66 (v28 8 l0 26) l1 (-1)) (fun v30 => (chk (0 ≤ (v30 8 l0 31)) (chk (0 ≤ z26 ∧ z26 < 60) (rLet (up v30 71 (v30 8 l0 31) z26 (v30 8 l0 1)) (fun v33 => (chk (0 ≤ (v33 8 l0 32)) (rLet (up v33 72 (v33 8 l0 32) z26 l4) (fun v35 => (chk (0 ≤ (v35 8 l0 33)) (rLet (up v35 73 (v35 8 l0 33) z26 l2) (fun v37 => (if ¬ l6 = l7 then (chk (0 ≤ (v37 8 l0 34)) (rLet (up v37 74 (v37 8 l0 34) z26 0) (fun v40 => (if l8 = (-1) then (chk (0 ≤ (v40 8 l0 35)) (rLet (up v40 75 (v40 8 l0 35) z26 (or32 (shl32 1 l3) (shl32 1 l6))) (fun v43 => (rOk z26 v43))))
   else (chk (0 ≤ (v40 8 l0 35)) (rLet (up v40 75 (v40 8 l0 35) z26 (or32 (shl32 1 l3) (shl32 1 l8))) (fun v45 => (rOk z26 v45))))))))
   else (chk (0 ≤ (v37 8 l0 34)) (rLet (up v37 74 (v37 8 l0 34) z26 1) (fun v47 => (if l8 = (-1) then (chk (0 ≤ (v47 8 l0 35)) (rLet (up v47 75 (v47 8 l0 35) z26 (or32 (shl32 1 l3) (shl32 1 l6))) (fun v50 => (rOk z26 v50))))
   else (chk (0 ≤ (v47 8 l0 35)) (rLet (up v47 75 (v47 8 l0 35) z26 (or32 (shl32 1 l3) (shl32 1 l8))) (fun v52 => (rOk z26 v52))))))))))))))))))))))))))))))
set_option maxRecDepth 100000 in
set_option maxHeartbeats 4000000 in
theorem kc_X8_goes_179 {l0 l1 l2 l3 l4 l5 l6 l7 l8 l9 : Int} (h0 : 0 ≤ l0) {x : Cx} (F : Fx x cX8_goes RX8 "goes" ({ frames := 1, cells := 0, slots := 0, locals := 25 }) 11 (some 0) (some .int) 0) (v : V) : Gs x (cp_X8_goes_179 l0 l1 l2 l3 l4 l5 l6 l7 l8 l9 v) v 0 0 179 [(0, (18, l0)), (1, (0, l1)), (2, (0, l2)), (3, (0, l3)), (4, (0, l4)), (5, (0, l5)), (6, (0, l6)), (7, (0, l7)), (8, (0, l8)), (9, (0, l9))] [] := by
  unfold cp_X8_goes_179
  refine g_aload_n F rfl 0 rfl dX8_goes_179 ?_
  refine g_aload_n F rfl 0 rfl dX8_goes_180 ?_
  refine g_get F (t := 72) (sI := 22) fl_RX8_63 rfl rfl (Int.not_lt.mp (Int.not_lt.mpr h0)) dX8_goes_181 ?_
  refine g_iload_n F rfl 1 rfl rfl dX8_goes_184 ?_
  refine g_chk (fun n23 => ?_)
  refine g_chk (fun n24 => ?_)
  refine h_iald F (n := 60) ak_62 (Int.not_lt.mp (Int.not_lt.mpr n23)) n24 rfl dX8_goes_185 ?_
  refine g_iload_n F rfl 3 rfl rfl dX8_goes_186 ?_
  refine g_iload_n F rfl 2 rfl rfl dX8_goes_187 ?_
  refine g_aload_n F rfl 0 rfl dX8_goes_188 ?_
  refine g_get F (t := 75) (sI := 25) fl_RX8_72 rfl rfl (Int.not_lt.mp (Int.not_lt.mpr h0)) dX8_goes_189 ?_
  refine g_iload_n F rfl 1 rfl rfl dX8_goes_192 ?_
  refine g_chk (fun n25 => ?_)
  refine h_iald F (n := 60) ak_65 (Int.not_lt.mp (Int.not_lt.mpr n25)) n24 rfl dX8_goes_193 ?_
  refine g_iload_n F rfl 1 rfl rfl dX8_goes_194 ?_
  refine g_callV F (by decide) (K := 8) (b := l0) [(0, (v 62 (v 8 l0 22) l1)), (0, l3), (0, l2), (0, (v 65 (v 8 l0 25) l1)), (0, l1)] [0, 0, 0, 0, 0] ml_RX8_157 wi_X8_lays ws_X8_lays (c_X8_lays l0 (v 62 (v 8 l0 22) l1) l3 l2 (v 65 (v 8 l0 25) l1) l1 (Int.not_lt.mp (Int.not_lt.mpr h0))) mi_X8_lays (by decide) ⟨_, rfl, rfl⟩ (Int.not_lt.mp (Int.not_lt.mpr h0)) rfl rfl rfl (Nat.le_of_ble_eq_true rfl) (Nat.le_of_ble_eq_true rfl) (Nat.le_of_ble_eq_true rfl) (Nat.le_of_ble_eq_true rfl) (Nat.le_of_ble_eq_true rfl) dX8_goes_195 (fun z26 v26 hz26 => ?_)
  refine g_istore F rfl (Nat.le_of_ble_eq_true rfl) (ls' := [(10, (0, z26)), (0, (18, l0)), (1, (0, l1)), (2, (0, l2)), (3, (0, l3)), (4, (0, l4)), (5, (0, l5)), (6, (0, l6)), (7, (0, l7)), (8, (0, l8)), (9, (0, l9))]) rfl dX8_goes_198 ?_
  refine g_aload_n F rfl 1 rfl dX8_goes_200 ?_
  refine g_get F (t := 74) (sI := 24) fl_RX8_69 rfl rfl (Int.not_lt.mp (Int.not_lt.mpr h0)) dX8_goes_201 ?_
  refine g_iload_n F rfl 2 rfl rfl dX8_goes_204 ?_
  refine g_dup2 F rfl rfl dX8_goes_205 ?_
  refine g_chk (fun n27 => ?_)
  refine h_iald F (n := 60) ak_64 (Int.not_lt.mp (Int.not_lt.mpr n27)) n24 rfl dX8_goes_206 ?_
  refine g_iload_n F rfl 3 rfl rfl dX8_goes_207 ?_
  refine g_isub F rfl rfl dX8_goes_208 ?_
  refine h_iast F (n := 60) ak_64 rfl (Int.not_lt.mp (Int.not_lt.mpr n27)) n24 rfl dX8_goes_209 (fun v28 => ?_)
  refine g_aload_n F rfl 1 rfl dX8_goes_210 ?_
  refine g_get F (t := 76) (sI := 26) fl_RX8_75 rfl rfl (Int.not_lt.mp (Int.not_lt.mpr h0)) dX8_goes_211 ?_
  refine g_iload_n F rfl 2 rfl rfl dX8_goes_214 ?_
  refine g_iconst F 0 rfl dX8_goes_215 ?_
  refine g_chk (fun n29 => ?_)
  refine h_iast F (n := 60) ak_66 rfl (Int.not_lt.mp (Int.not_lt.mpr n29)) n24 rfl dX8_goes_216 (fun v30 => ?_)
  refine g_aload_n F rfl 1 rfl dX8_goes_217 ?_
  refine g_get F (t := 81) (sI := 31) fl_RX8_90 rfl rfl (Int.not_lt.mp (Int.not_lt.mpr h0)) dX8_goes_218 ?_
  refine g_iload F 0 rfl rfl dX8_goes_221 ?_
  refine g_aload_n F rfl 1 rfl dX8_goes_223 ?_
  refine g_get F (t := 0) (sI := 1) fl_RX8_164 rfl rfl (Int.not_lt.mp (Int.not_lt.mpr h0)) dX8_goes_224 ?_
  refine g_chk (fun n31 => ?_)
  refine g_chk (fun n32 => ?_)
  refine h_iast F (n := 60) ak_71 rfl (Int.not_lt.mp (Int.not_lt.mpr n31)) n32 rfl dX8_goes_227 (fun v33 => ?_)
  refine g_aload_n F rfl 1 rfl dX8_goes_228 ?_
  refine g_get F (t := 82) (sI := 32) fl_RX8_93 rfl rfl (Int.not_lt.mp (Int.not_lt.mpr h0)) dX8_goes_229 ?_
  refine g_iload F 0 rfl rfl dX8_goes_232 ?_
  refine g_iload F 5 rfl rfl dX8_goes_234 ?_
  refine g_chk (fun n34 => ?_)
  refine h_iast F (n := 60) ak_72 rfl (Int.not_lt.mp (Int.not_lt.mpr n34)) n32 rfl dX8_goes_236 (fun v35 => ?_)
  refine g_aload_n F rfl 1 rfl dX8_goes_237 ?_
  refine g_get F (t := 83) (sI := 33) fl_RX8_96 rfl rfl (Int.not_lt.mp (Int.not_lt.mpr h0)) dX8_goes_238 ?_
  refine g_iload F 0 rfl rfl dX8_goes_241 ?_
  refine g_iload_n F rfl 3 rfl rfl dX8_goes_243 ?_
  refine g_chk (fun n36 => ?_)
  refine h_iast F (n := 60) ak_73 rfl (Int.not_lt.mp (Int.not_lt.mpr n36)) n32 rfl dX8_goes_244 (fun v37 => ?_)
  refine g_aload_n F rfl 1 rfl dX8_goes_245 ?_
  refine g_get F (t := 84) (sI := 34) fl_RX8_99 rfl rfl (Int.not_lt.mp (Int.not_lt.mpr h0)) dX8_goes_246 ?_
  refine g_iload F 0 rfl rfl dX8_goes_249 ?_
  refine g_iload F 7 rfl rfl dX8_goes_251 ?_
  refine g_iload F 8 rfl rfl dX8_goes_253 ?_
  refine g_icmp_ne F rfl rfl (tgt := 262) rfl dX8_goes_255 (fun n38 => ?_) (fun n38 => ?_)
  · refine g_iconst F 2 rfl dX8_goes_262 ?_
    refine g_chk (fun n39 => ?_)
    refine h_zast F (n := 60) ak_74 rfl (Int.not_lt.mp (Int.not_lt.mpr n39)) n32 rfl dX8_goes_263 (fun v40 => ?_)
    refine g_aload_n F rfl 1 rfl dX8_goes_264 ?_
    refine g_get F (t := 85) (sI := 35) fl_RX8_102 rfl rfl (Int.not_lt.mp (Int.not_lt.mpr h0)) dX8_goes_265 ?_
    refine g_iload F 0 rfl rfl dX8_goes_268 ?_
    refine g_iconst F 2 rfl dX8_goes_270 ?_
    refine g_iload_n F rfl 4 rfl rfl dX8_goes_271 ?_
    refine g_ishl F rfl rfl dX8_goes_272 ?_
    refine g_iconst F 2 rfl dX8_goes_273 ?_
    refine g_iload F 9 rfl rfl dX8_goes_274 ?_
    refine g_iconst F 0 rfl dX8_goes_276 ?_
    refine g_icmp_eq F rfl rfl (tgt := 285) rfl dX8_goes_277 (fun n41 => ?_) (fun n41 => ?_)
    · refine g_iload F 7 rfl rfl dX8_goes_285 ?_
      refine g_ishl F rfl rfl dX8_goes_287 ?_
      refine g_ior F rfl rfl dX8_goes_288 ?_
      refine g_chk (fun n42 => ?_)
      refine h_iast F (n := 60) ak_75 rfl (Int.not_lt.mp (Int.not_lt.mpr n42)) n32 rfl dX8_goes_289 (fun v43 => ?_)
      refine g_iload F 0 rfl rfl dX8_goes_290 ?_
      exact g_ireturn F rfl rfl rfl rfl (Nat.le_of_ble_eq_true rfl) (Nat.le_of_ble_eq_true rfl) dX8_goes_292
    · refine g_iload F 9 rfl rfl dX8_goes_280 ?_
      refine g_goto F (tgt := 287) rfl dX8_goes_282 ?_
      refine g_ishl F rfl rfl dX8_goes_287 ?_
      refine g_ior F rfl rfl dX8_goes_288 ?_
      refine g_chk (fun n44 => ?_)
      refine h_iast F (n := 60) ak_75 rfl (Int.not_lt.mp (Int.not_lt.mpr n44)) n32 rfl dX8_goes_289 (fun v45 => ?_)
      refine g_iload F 0 rfl rfl dX8_goes_290 ?_
      exact g_ireturn F rfl rfl rfl rfl (Nat.le_of_ble_eq_true rfl) (Nat.le_of_ble_eq_true rfl) dX8_goes_292
  · refine g_iconst F 2 rfl dX8_goes_258 ?_
    refine g_goto F (tgt := 263) rfl dX8_goes_259 ?_
    refine g_chk (fun n46 => ?_)
    refine h_zast F (n := 60) ak_74 rfl (Int.not_lt.mp (Int.not_lt.mpr n46)) n32 rfl dX8_goes_263 (fun v47 => ?_)
    refine g_aload_n F rfl 1 rfl dX8_goes_264 ?_
    refine g_get F (t := 85) (sI := 35) fl_RX8_102 rfl rfl (Int.not_lt.mp (Int.not_lt.mpr h0)) dX8_goes_265 ?_
    refine g_iload F 0 rfl rfl dX8_goes_268 ?_
    refine g_iconst F 2 rfl dX8_goes_270 ?_
    refine g_iload_n F rfl 4 rfl rfl dX8_goes_271 ?_
    refine g_ishl F rfl rfl dX8_goes_272 ?_
    refine g_iconst F 2 rfl dX8_goes_273 ?_
    refine g_iload F 9 rfl rfl dX8_goes_274 ?_
    refine g_iconst F 0 rfl dX8_goes_276 ?_
    refine g_icmp_eq F rfl rfl (tgt := 285) rfl dX8_goes_277 (fun n48 => ?_) (fun n48 => ?_)
    · refine g_iload F 7 rfl rfl dX8_goes_285 ?_
      refine g_ishl F rfl rfl dX8_goes_287 ?_
      refine g_ior F rfl rfl dX8_goes_288 ?_
      refine g_chk (fun n49 => ?_)
      refine h_iast F (n := 60) ak_75 rfl (Int.not_lt.mp (Int.not_lt.mpr n49)) n32 rfl dX8_goes_289 (fun v50 => ?_)
      refine g_iload F 0 rfl rfl dX8_goes_290 ?_
      exact g_ireturn F rfl rfl rfl rfl (Nat.le_of_ble_eq_true rfl) (Nat.le_of_ble_eq_true rfl) dX8_goes_292
    · refine g_iload F 9 rfl rfl dX8_goes_280 ?_
      refine g_goto F (tgt := 287) rfl dX8_goes_282 ?_
      refine g_ishl F rfl rfl dX8_goes_287 ?_
      refine g_ior F rfl rfl dX8_goes_288 ?_
      refine g_chk (fun n51 => ?_)
      refine h_iast F (n := 60) ak_75 rfl (Int.not_lt.mp (Int.not_lt.mpr n51)) n32 rfl dX8_goes_289 (fun v52 => ?_)
      refine g_iload F 0 rfl rfl dX8_goes_290 ?_
      exact g_ireturn F rfl rfl rfl rfl (Nat.le_of_ble_eq_true rfl) (Nat.le_of_ble_eq_true rfl) dX8_goes_292
def sp_X8_goes (a0 a1 a2 a3 a4 a5 : Int) (v : V) : Res := (chk (0 ≤ (v 8 a0 23)) (chk (0 ≤ a1 ∧ a1 < 60) (chk (0 ≤ (v 8 a0 22)) (chk (0 ≤ (v 8 a0 10)) (chk (0 ≤ (v 62 (v 8 a0 22) a1) ∧ (v 62 (v 8 a0 22) a1) < 12) (chk (0 ≤ (v 8 a0 26)) (if ¬ (v 63 (v 8 a0 23) a1) = (v 50 (v 8 a0 10) (v 62 (v 8 a0 22) a1)) then (chk (0 ≤ (v 8 a0 4)) (chk (0 ≤ (v 63 (v 8 a0 23) a1) ∧ (v 63 (v 8 a0 23) a1) < 10) (chk (0 ≤ (v 8 a0 8)) (chk (0 ≤ (v 44 (v 8 a0 4) (v 63 (v 8 a0 23) a1)) ∧ (v 44 (v 8 a0 4) (v 63 (v 8 a0 23) a1)) < 4) (chk (0 ≤ (v 8 a0 3)) (chk (0 ≤ a3 ∧ a3 < 10) (rLet (up v 43 (v 8 a0 3) a3 (w64 ((v 43 (v 8 a0 3) a3) - a4))) (fun v14 => (chk (0 ≤ (v14 8 a0 3)) (chk (0 ≤ (v 50 (v 8 a0 10) (v 62 (v 8 a0 22) a1)) ∧ (v 50 (v 8 a0 10) (v 62 (v 8 a0 22) a1)) < 10) (rLet (up v14 43 (v14 8 a0 3) (v 50 (v 8 a0 10) (v 62 (v 8 a0 22) a1)) (w64 ((v14 43 (v14 8 a0 3) (v 50 (v 8 a0 10) (v 62 (v 8 a0 22) a1))) + (w32 ((w32 (a4 * (v 48 (v 8 a0 8) (v 44 (v 8 a0 4) (v 63 (v 8 a0 23) a1))))).tdiv 100))))) (fun v17 => (chk (0 ≤ (v17 8 a0 3)) (rLet (up v17 43 (v17 8 a0 3) (v 63 (v 8 a0 23) a1) (w64 ((v17 43 (v17 8 a0 3) (v 63 (v 8 a0 23) a1)) + (w32 ((w32 (a4 - (w32 ((w32 (a4 * (v 48 (v 8 a0 8) (v 44 (v 8 a0 4) (v 63 (v 8 a0 23) a1))))).tdiv 100)))) - a5))))) (fun v19 => (if (v 66 (v 8 a0 26) a1) = (-1) then (chk (0 ≤ (v19 8 a0 31)) (if (v19 71 (v19 8 a0 31) a1) = (-1) then (cp_X8_goes_179 a0 a1 a2 a3 a4 a5 (v 63 (v 8 a0 23) a1) (v 50 (v 8 a0 10) (v 62 (v 8 a0 22) a1)) (v 66 (v 8 a0 26) a1) (w32 ((w32 (a4 * (v 48 (v 8 a0 8) (v 44 (v 8 a0 4) (v 63 (v 8 a0 23) a1))))).tdiv 100)) v19)
   else (chk (0 ≤ (v19 8 a0 34)) (if (v19 74 (v19 8 a0 34) a1) = 0 then (cp_X8_goes_179 a0 a1 a2 a3 a4 a5 (v 63 (v 8 a0 23) a1) (v 50 (v 8 a0 10) (v 62 (v 8 a0 22) a1)) (v 66 (v 8 a0 26) a1) (w32 ((w32 (a4 * (v 48 (v 8 a0 8) (v 44 (v 8 a0 4) (v 63 (v 8 a0 23) a1))))).tdiv 100)) v19)
   else (if 100 < (w32 ((v19 8 a0 1) - (v19 71 (v19 8 a0 31) a1))) then (cp_X8_goes_179 a0 a1 a2 a3 a4 a5 (v 63 (v 8 a0 23) a1) (v 50 (v 8 a0 10) (v 62 (v 8 a0 22) a1)) (v 66 (v 8 a0 26) a1) (w32 ((w32 (a4 * (v 48 (v 8 a0 8) (v 44 (v 8 a0 4) (v 63 (v 8 a0 23) a1))))).tdiv 100)) v19)
   else (chk (0 ≤ (v19 8 a0 7)) (chk (0 ≤ (w32 ((w32 (10 * (v 50 (v 8 a0 10) (v 62 (v 8 a0 22) a1)))) + (v 63 (v 8 a0 23) a1))) ∧ (w32 ((w32 (10 * (v 50 (v 8 a0 10) (v 62 (v 8 a0 22) a1)))) + (v 63 (v 8 a0 23) a1))) < 100) (rLet (up v19 47 (v19 8 a0 7) (w32 ((w32 (10 * (v 50 (v 8 a0 10) (v 62 (v 8 a0 22) a1)))) + (v 63 (v 8 a0 23) a1))) 1) (fun v58 => (cp_X8_goes_179 a0 a1 a2 a3 a4 a5 (v 63 (v 8 a0 23) a1) (v 50 (v 8 a0 10) (v 62 (v 8 a0 22) a1)) (v 66 (v 8 a0 26) a1) (w32 ((w32 (a4 * (v 48 (v 8 a0 8) (v 44 (v 8 a0 4) (v 63 (v 8 a0 23) a1))))).tdiv 100)) v58))))))))))
   else (chk (0 ≤ (v19 8 a0 3)) (chk (0 ≤ (v 66 (v 8 a0 26) a1) ∧ (v 66 (v 8 a0 26) a1) < 10) (rLet (up v19 43 (v19 8 a0 3) (v 66 (v 8 a0 26) a1) (w64 ((v19 43 (v19 8 a0 3) (v 66 (v 8 a0 26) a1)) + a5))) (fun v61 => (chk (0 ≤ (v61 8 a0 31)) (if (v61 71 (v61 8 a0 31) a1) = (-1) then (cp_X8_goes_179 a0 a1 a2 a3 a4 a5 (v 63 (v 8 a0 23) a1) (v 50 (v 8 a0 10) (v 62 (v 8 a0 22) a1)) (v 66 (v 8 a0 26) a1) (w32 ((w32 (a4 * (v 48 (v 8 a0 8) (v 44 (v 8 a0 4) (v 63 (v 8 a0 23) a1))))).tdiv 100)) v61)
   else (chk (0 ≤ (v61 8 a0 34)) (if (v61 74 (v61 8 a0 34) a1) = 0 then (cp_X8_goes_179 a0 a1 a2 a3 a4 a5 (v 63 (v 8 a0 23) a1) (v 50 (v 8 a0 10) (v 62 (v 8 a0 22) a1)) (v 66 (v 8 a0 26) a1) (w32 ((w32 (a4 * (v 48 (v 8 a0 8) (v 44 (v 8 a0 4) (v 63 (v 8 a0 23) a1))))).tdiv 100)) v61)
   else (if 100 < (w32 ((v61 8 a0 1) - (v61 71 (v61 8 a0 31) a1))) then (cp_X8_goes_179 a0 a1 a2 a3 a4 a5 (v 63 (v 8 a0 23) a1) (v 50 (v 8 a0 10) (v 62 (v 8 a0 22) a1)) (v 66 (v 8 a0 26) a1) (w32 ((w32 (a4 * (v 48 (v 8 a0 8) (v 44 (v 8 a0 4) (v 63 (v 8 a0 23) a1))))).tdiv 100)) v61)
   else (chk (0 ≤ (v61 8 a0 7)) (chk (0 ≤ (w32 ((w32 (10 * (v 50 (v 8 a0 10) (v 62 (v 8 a0 22) a1)))) + (v 63 (v 8 a0 23) a1))) ∧ (w32 ((w32 (10 * (v 50 (v 8 a0 10) (v 62 (v 8 a0 22) a1)))) + (v 63 (v 8 a0 23) a1))) < 100) (rLet (up v61 47 (v61 8 a0 7) (w32 ((w32 (10 * (v 50 (v 8 a0 10) (v 62 (v 8 a0 22) a1)))) + (v 63 (v 8 a0 23) a1))) 1) (fun v69 => (cp_X8_goes_179 a0 a1 a2 a3 a4 a5 (v 63 (v 8 a0 23) a1) (v 50 (v 8 a0 10) (v 62 (v 8 a0 22) a1)) (v 66 (v 8 a0 26) a1) (w32 ((w32 (a4 * (v 48 (v 8 a0 8) (v 44 (v 8 a0 4) (v 63 (v 8 a0 23) a1))))).tdiv 100)) v69))))))))))))))))))))))))))))))
   else (chk (0 ≤ (v 8 a0 3)) (chk (0 ≤ a3 ∧ a3 < 10) (rLet (up v 43 (v 8 a0 3) a3 (w64 ((v 43 (v 8 a0 3) a3) - a4))) (fun v72 => (chk (0 ≤ (v72 8 a0 3)) (chk (0 ≤ (v 50 (v 8 a0 10) (v 62 (v 8 a0 22) a1)) ∧ (v 50 (v 8 a0 10) (v 62 (v 8 a0 22) a1)) < 10) (rLet (up v72 43 (v72 8 a0 3) (v 50 (v 8 a0 10) (v 62 (v 8 a0 22) a1)) (w64 ((v72 43 (v72 8 a0 3) (v 50 (v 8 a0 10) (v 62 (v 8 a0 22) a1))) + 0))) (fun v75 => (chk (0 ≤ (v75 8 a0 3)) (chk (0 ≤ (v 63 (v 8 a0 23) a1) ∧ (v 63 (v 8 a0 23) a1) < 10) (rLet (up v75 43 (v75 8 a0 3) (v 63 (v 8 a0 23) a1) (w64 ((v75 43 (v75 8 a0 3) (v 63 (v 8 a0 23) a1)) + (w32 ((w32 (a4 - 0)) - a5))))) (fun v78 => (if (v 66 (v 8 a0 26) a1) = (-1) then (cp_X8_goes_179 a0 a1 a2 a3 a4 a5 (v 63 (v 8 a0 23) a1) (v 50 (v 8 a0 10) (v 62 (v 8 a0 22) a1)) (v 66 (v 8 a0 26) a1) 0 v78)
   else (chk (0 ≤ (v78 8 a0 3)) (chk (0 ≤ (v 66 (v 8 a0 26) a1) ∧ (v 66 (v 8 a0 26) a1) < 10) (rLet (up v78 43 (v78 8 a0 3) (v 66 (v 8 a0 26) a1) (w64 ((v78 43 (v78 8 a0 3) (v 66 (v 8 a0 26) a1)) + a5))) (fun v82 => (cp_X8_goes_179 a0 a1 a2 a3 a4 a5 (v 63 (v 8 a0 23) a1) (v 50 (v 8 a0 10) (v 62 (v 8 a0 22) a1)) (v 66 (v 8 a0 26) a1) 0 v82)))))))))))))))))))))))))
set_option maxRecDepth 100000 in
set_option maxHeartbeats 4000000 in
theorem k_X8_goes (a0 a1 a2 a3 a4 a5 : Int) (h0 : 0 ≤ a0) (x : Cx) (v : V) (F : Fx x cX8_goes RX8 "goes" ({ frames := 1, cells := 0, slots := 0, locals := 25 }) 11 (some 0) (some .int) 0) (ho : ∀ a ∈ [(18, a0), (0, a1), (0, a2), (0, a3), (0, a4), (0, a5)], okv v a) : Gs x (sp_X8_goes a0 a1 a2 a3 a4 a5 v) v 0 0 0 (avArgs 0 [(18, a0), (0, a1), (0, a2), (0, a3), (0, a4), (0, a5)]) [] := by
  show Gs x _ v 0 0 0 [(0, (18, a0)), (1, (0, a1)), (2, (0, a2)), (3, (0, a3)), (4, (0, a4)), (5, (0, a5))] []
  unfold sp_X8_goes
  refine g_aload_n F rfl 0 rfl dX8_goes_0 ?_
  refine g_get F (t := 73) (sI := 23) fl_RX8_66 rfl rfl (Int.not_lt.mp (Int.not_lt.mpr h0)) dX8_goes_1 ?_
  refine g_iload_n F rfl 1 rfl rfl dX8_goes_4 ?_
  refine g_chk (fun n1 => ?_)
  refine g_chk (fun n2 => ?_)
  refine h_iald F (n := 60) ak_63 (Int.not_lt.mp (Int.not_lt.mpr n1)) n2 rfl dX8_goes_5 ?_
  refine g_istore F rfl (Nat.le_of_ble_eq_true rfl) (ls' := [(6, (0, (v 63 (v 8 a0 23) a1))), (0, (18, a0)), (1, (0, a1)), (2, (0, a2)), (3, (0, a3)), (4, (0, a4)), (5, (0, a5))]) rfl dX8_goes_6 ?_
  refine g_aload_n F rfl 1 rfl dX8_goes_8 ?_
  refine g_get F (t := 60) (sI := 10) fl_RX8_30 rfl rfl (Int.not_lt.mp (Int.not_lt.mpr h0)) dX8_goes_9 ?_
  refine g_aload_n F rfl 1 rfl dX8_goes_12 ?_
  refine g_get F (t := 72) (sI := 22) fl_RX8_63 rfl rfl (Int.not_lt.mp (Int.not_lt.mpr h0)) dX8_goes_13 ?_
  refine g_iload_n F rfl 2 rfl rfl dX8_goes_16 ?_
  refine g_chk (fun n3 => ?_)
  refine h_iald F (n := 60) ak_62 (Int.not_lt.mp (Int.not_lt.mpr n3)) n2 rfl dX8_goes_17 ?_
  refine g_chk (fun n4 => ?_)
  refine g_chk (fun n5 => ?_)
  refine h_iald F (n := 12) ak_50 (Int.not_lt.mp (Int.not_lt.mpr n4)) n5 rfl dX8_goes_18 ?_
  refine g_istore F rfl (Nat.le_of_ble_eq_true rfl) (ls' := [(7, (0, (v 50 (v 8 a0 10) (v 62 (v 8 a0 22) a1)))), (6, (0, (v 63 (v 8 a0 23) a1))), (0, (18, a0)), (1, (0, a1)), (2, (0, a2)), (3, (0, a3)), (4, (0, a4)), (5, (0, a5))]) rfl dX8_goes_19 ?_
  refine g_aload_n F rfl 2 rfl dX8_goes_21 ?_
  refine g_get F (t := 76) (sI := 26) fl_RX8_75 rfl rfl (Int.not_lt.mp (Int.not_lt.mpr h0)) dX8_goes_22 ?_
  refine g_iload_n F rfl 3 rfl rfl dX8_goes_25 ?_
  refine g_chk (fun n6 => ?_)
  refine h_iald F (n := 60) ak_66 (Int.not_lt.mp (Int.not_lt.mpr n6)) n2 rfl dX8_goes_26 ?_
  refine g_istore F rfl (Nat.le_of_ble_eq_true rfl) (ls' := [(8, (0, (v 66 (v 8 a0 26) a1))), (7, (0, (v 50 (v 8 a0 10) (v 62 (v 8 a0 22) a1)))), (6, (0, (v 63 (v 8 a0 23) a1))), (0, (18, a0)), (1, (0, a1)), (2, (0, a2)), (3, (0, a3)), (4, (0, a4)), (5, (0, a5))]) rfl dX8_goes_27 ?_
  refine g_iload F 2 rfl rfl dX8_goes_29 ?_
  refine g_iload F 1 rfl rfl dX8_goes_31 ?_
  refine g_icmp_ne F rfl rfl (tgt := 40) rfl dX8_goes_33 (fun n7 => ?_) (fun n7 => ?_)
  · refine g_iload F 7 rfl rfl dX8_goes_40 ?_
    refine g_aload_n F rfl 3 rfl dX8_goes_42 ?_
    refine g_get F (t := 58) (sI := 8) fl_RX8_27 rfl rfl (Int.not_lt.mp (Int.not_lt.mpr h0)) dX8_goes_43 ?_
    refine g_aload_n F rfl 3 rfl dX8_goes_46 ?_
    refine g_get F (t := 54) (sI := 4) fl_RX8_13 rfl rfl (Int.not_lt.mp (Int.not_lt.mpr h0)) dX8_goes_47 ?_
    refine g_iload F 2 rfl rfl dX8_goes_50 ?_
    refine g_chk (fun n8 => ?_)
    refine g_chk (fun n9 => ?_)
    refine h_iald F (n := 10) ak_44 (Int.not_lt.mp (Int.not_lt.mpr n8)) n9 rfl dX8_goes_52 ?_
    refine g_chk (fun n10 => ?_)
    refine g_chk (fun n11 => ?_)
    refine h_iald F (n := 4) ak_48 (Int.not_lt.mp (Int.not_lt.mpr n10)) n11 rfl dX8_goes_53 ?_
    refine g_imul F rfl rfl dX8_goes_54 ?_
    refine g_bipush F rfl (by decide) dX8_goes_55 ?_
    refine g_idiv F (by decide) rfl rfl dX8_goes_57 ?_
    refine g_istore F rfl (Nat.le_of_ble_eq_true rfl) (ls' := [(9, (0, (w32 ((w32 (a4 * (v 48 (v 8 a0 8) (v 44 (v 8 a0 4) (v 63 (v 8 a0 23) a1))))).tdiv 100)))), (8, (0, (v 66 (v 8 a0 26) a1))), (7, (0, (v 50 (v 8 a0 10) (v 62 (v 8 a0 22) a1)))), (6, (0, (v 63 (v 8 a0 23) a1))), (0, (18, a0)), (1, (0, a1)), (2, (0, a2)), (3, (0, a3)), (4, (0, a4)), (5, (0, a5))]) rfl dX8_goes_58 ?_
    refine g_aload_n F rfl 4 rfl dX8_goes_60 ?_
    refine g_get F (t := 53) (sI := 3) fl_RX8_7 rfl rfl (Int.not_lt.mp (Int.not_lt.mpr h0)) dX8_goes_61 ?_
    refine g_iload_n F rfl 7 rfl rfl dX8_goes_64 ?_
    refine g_dup2 F rfl rfl dX8_goes_65 ?_
    refine g_chk (fun n12 => ?_)
    refine g_chk (fun n13 => ?_)
    refine h_lald F (n := 10) ak_43 (Int.not_lt.mp (Int.not_lt.mpr n12)) n13 rfl dX8_goes_66 ?_
    refine g_iload F 8 rfl rfl dX8_goes_67 ?_
    refine g_i2l F rfl dX8_goes_69 ?_
    refine g_lsub F dX8_goes_70 ?_
    refine h_last F (n := 10) ak_43 rfl (Int.not_lt.mp (Int.not_lt.mpr n12)) n13 rfl dX8_goes_71 (fun v14 => ?_)
    refine g_aload_n F rfl 4 rfl dX8_goes_72 ?_
    refine g_get F (t := 53) (sI := 3) fl_RX8_7 rfl rfl (Int.not_lt.mp (Int.not_lt.mpr h0)) dX8_goes_73 ?_
    refine g_iload F 2 rfl rfl dX8_goes_76 ?_
    refine g_dup2 F rfl rfl dX8_goes_78 ?_
    refine g_chk (fun n15 => ?_)
    refine g_chk (fun n16 => ?_)
    refine h_lald F (n := 10) ak_43 (Int.not_lt.mp (Int.not_lt.mpr n15)) n16 rfl dX8_goes_79 ?_
    refine g_iload F 0 rfl rfl dX8_goes_80 ?_
    refine g_i2l F rfl dX8_goes_82 ?_
    refine g_ladd F dX8_goes_83 ?_
    refine h_last F (n := 10) ak_43 rfl (Int.not_lt.mp (Int.not_lt.mpr n15)) n16 rfl dX8_goes_84 (fun v17 => ?_)
    refine g_aload_n F rfl 4 rfl dX8_goes_85 ?_
    refine g_get F (t := 53) (sI := 3) fl_RX8_7 rfl rfl (Int.not_lt.mp (Int.not_lt.mpr h0)) dX8_goes_86 ?_
    refine g_iload F 3 rfl rfl dX8_goes_89 ?_
    refine g_dup2 F rfl rfl dX8_goes_91 ?_
    refine g_chk (fun n18 => ?_)
    refine h_lald F (n := 10) ak_43 (Int.not_lt.mp (Int.not_lt.mpr n18)) n9 rfl dX8_goes_92 ?_
    refine g_iload F 8 rfl rfl dX8_goes_93 ?_
    refine g_iload F 0 rfl rfl dX8_goes_95 ?_
    refine g_isub F rfl rfl dX8_goes_97 ?_
    refine g_iload F 9 rfl rfl dX8_goes_98 ?_
    refine g_isub F rfl rfl dX8_goes_100 ?_
    refine g_i2l F rfl dX8_goes_101 ?_
    refine g_ladd F dX8_goes_102 ?_
    refine h_last F (n := 10) ak_43 rfl (Int.not_lt.mp (Int.not_lt.mpr n18)) n9 rfl dX8_goes_103 (fun v19 => ?_)
    refine g_iload F 1 rfl rfl dX8_goes_104 ?_
    refine g_iconst F 0 rfl dX8_goes_106 ?_
    refine g_icmp_eq F rfl rfl (tgt := 123) rfl dX8_goes_107 (fun n20 => ?_) (fun n20 => ?_)
    · refine g_iload F 3 rfl rfl dX8_goes_123 ?_
      refine g_iload F 2 rfl rfl dX8_goes_125 ?_
      refine g_icmp_eq_f F rfl rfl n7 (tgt := 179) rfl dX8_goes_127 ?_
      refine g_aload_n F rfl 4 rfl dX8_goes_130 ?_
      refine g_get F (t := 81) (sI := 31) fl_RX8_90 rfl rfl (Int.not_lt.mp (Int.not_lt.mpr h0)) dX8_goes_131 ?_
      refine g_iload_n F rfl 5 rfl rfl dX8_goes_134 ?_
      refine g_chk (fun n21 => ?_)
      refine h_iald F (n := 60) ak_71 (Int.not_lt.mp (Int.not_lt.mpr n21)) n2 rfl dX8_goes_135 ?_
      refine g_iconst F 0 rfl dX8_goes_136 ?_
      refine g_icmp_eq F rfl rfl (tgt := 179) rfl dX8_goes_137 (fun n22 => ?_) (fun n22 => ?_)
      · refine g_loc [(4, 18), (5, 0), (6, 0), (7, 0), (8, 0), (9, 0), (3, 0), (2, 0), (1, 0), (0, 0)] rfl ?_
        exact kc_X8_goes_179 (Int.not_lt.mp (Int.not_lt.mpr h0)) F v19
      · refine g_aload_n F rfl 4 rfl dX8_goes_140 ?_
        refine g_get F (t := 84) (sI := 34) fl_RX8_99 rfl rfl (Int.not_lt.mp (Int.not_lt.mpr h0)) dX8_goes_141 ?_
        refine g_iload_n F rfl 5 rfl rfl dX8_goes_144 ?_
        refine g_chk (fun n53 => ?_)
        refine h_zald F (n := 60) ak_74 (Int.not_lt.mp (Int.not_lt.mpr n53)) n2 rfl dX8_goes_145 ?_
        refine g_if_eq F rfl (tgt := 179) rfl dX8_goes_146 (fun n54 => ?_) (fun n54 => ?_)
        · refine g_loc [(4, 18), (5, 0), (6, 0), (7, 0), (8, 0), (9, 0), (3, 0), (2, 0), (1, 0), (0, 0)] rfl ?_
          exact kc_X8_goes_179 (Int.not_lt.mp (Int.not_lt.mpr h0)) F v19
        · refine g_aload_n F rfl 4 rfl dX8_goes_149 ?_
          refine g_get F (t := 0) (sI := 1) fl_RX8_164 rfl rfl (Int.not_lt.mp (Int.not_lt.mpr h0)) dX8_goes_150 ?_
          refine g_aload_n F rfl 4 rfl dX8_goes_153 ?_
          refine g_get F (t := 81) (sI := 31) fl_RX8_90 rfl rfl (Int.not_lt.mp (Int.not_lt.mpr h0)) dX8_goes_154 ?_
          refine g_iload_n F rfl 5 rfl rfl dX8_goes_157 ?_
          refine h_iald F (n := 60) ak_71 (Int.not_lt.mp (Int.not_lt.mpr n21)) n2 rfl dX8_goes_158 ?_
          refine g_isub F rfl rfl dX8_goes_159 ?_
          refine g_bipush F rfl (by decide) dX8_goes_160 ?_
          refine g_icmp_gt F rfl rfl (tgt := 179) rfl dX8_goes_162 (fun n55 => ?_) (fun n55 => ?_)
          · refine g_loc [(4, 18), (5, 0), (6, 0), (7, 0), (8, 0), (9, 0), (3, 0), (2, 0), (1, 0), (0, 0)] rfl ?_
            exact kc_X8_goes_179 (Int.not_lt.mp (Int.not_lt.mpr h0)) F v19
          · refine g_aload_n F rfl 4 rfl dX8_goes_165 ?_
            refine g_get F (t := 57) (sI := 7) fl_RX8_24 rfl rfl (Int.not_lt.mp (Int.not_lt.mpr h0)) dX8_goes_166 ?_
            refine g_bipush F rfl (by decide) dX8_goes_169 ?_
            refine g_iload F 2 rfl rfl dX8_goes_171 ?_
            refine g_imul F rfl rfl dX8_goes_173 ?_
            refine g_iload F 3 rfl rfl dX8_goes_174 ?_
            refine g_iadd F rfl rfl dX8_goes_176 ?_
            refine g_iconst F 2 rfl dX8_goes_177 ?_
            refine g_chk (fun n56 => ?_)
            refine g_chk (fun n57 => ?_)
            refine h_zast F (n := 100) ak_47 rfl (Int.not_lt.mp (Int.not_lt.mpr n56)) n57 rfl dX8_goes_178 (fun v58 => ?_)
            refine g_loc [(4, 18), (5, 0), (6, 0), (7, 0), (8, 0), (9, 0), (3, 0), (2, 0), (1, 0), (0, 0)] rfl ?_
            exact kc_X8_goes_179 (Int.not_lt.mp (Int.not_lt.mpr h0)) F v58
    · refine g_aload_n F rfl 4 rfl dX8_goes_110 ?_
      refine g_get F (t := 53) (sI := 3) fl_RX8_7 rfl rfl (Int.not_lt.mp (Int.not_lt.mpr h0)) dX8_goes_111 ?_
      refine g_iload F 1 rfl rfl dX8_goes_114 ?_
      refine g_dup2 F rfl rfl dX8_goes_116 ?_
      refine g_chk (fun n59 => ?_)
      refine g_chk (fun n60 => ?_)
      refine h_lald F (n := 10) ak_43 (Int.not_lt.mp (Int.not_lt.mpr n59)) n60 rfl dX8_goes_117 ?_
      refine g_iload F 9 rfl rfl dX8_goes_118 ?_
      refine g_i2l F rfl dX8_goes_120 ?_
      refine g_ladd F dX8_goes_121 ?_
      refine h_last F (n := 10) ak_43 rfl (Int.not_lt.mp (Int.not_lt.mpr n59)) n60 rfl dX8_goes_122 (fun v61 => ?_)
      refine g_iload F 3 rfl rfl dX8_goes_123 ?_
      refine g_iload F 2 rfl rfl dX8_goes_125 ?_
      refine g_icmp_eq_f F rfl rfl n7 (tgt := 179) rfl dX8_goes_127 ?_
      refine g_aload_n F rfl 4 rfl dX8_goes_130 ?_
      refine g_get F (t := 81) (sI := 31) fl_RX8_90 rfl rfl (Int.not_lt.mp (Int.not_lt.mpr h0)) dX8_goes_131 ?_
      refine g_iload_n F rfl 5 rfl rfl dX8_goes_134 ?_
      refine g_chk (fun n62 => ?_)
      refine h_iald F (n := 60) ak_71 (Int.not_lt.mp (Int.not_lt.mpr n62)) n2 rfl dX8_goes_135 ?_
      refine g_iconst F 0 rfl dX8_goes_136 ?_
      refine g_icmp_eq F rfl rfl (tgt := 179) rfl dX8_goes_137 (fun n63 => ?_) (fun n63 => ?_)
      · refine g_loc [(4, 18), (5, 0), (6, 0), (7, 0), (8, 0), (9, 0), (3, 0), (2, 0), (1, 0), (0, 0)] rfl ?_
        exact kc_X8_goes_179 (Int.not_lt.mp (Int.not_lt.mpr h0)) F v61
      · refine g_aload_n F rfl 4 rfl dX8_goes_140 ?_
        refine g_get F (t := 84) (sI := 34) fl_RX8_99 rfl rfl (Int.not_lt.mp (Int.not_lt.mpr h0)) dX8_goes_141 ?_
        refine g_iload_n F rfl 5 rfl rfl dX8_goes_144 ?_
        refine g_chk (fun n64 => ?_)
        refine h_zald F (n := 60) ak_74 (Int.not_lt.mp (Int.not_lt.mpr n64)) n2 rfl dX8_goes_145 ?_
        refine g_if_eq F rfl (tgt := 179) rfl dX8_goes_146 (fun n65 => ?_) (fun n65 => ?_)
        · refine g_loc [(4, 18), (5, 0), (6, 0), (7, 0), (8, 0), (9, 0), (3, 0), (2, 0), (1, 0), (0, 0)] rfl ?_
          exact kc_X8_goes_179 (Int.not_lt.mp (Int.not_lt.mpr h0)) F v61
        · refine g_aload_n F rfl 4 rfl dX8_goes_149 ?_
          refine g_get F (t := 0) (sI := 1) fl_RX8_164 rfl rfl (Int.not_lt.mp (Int.not_lt.mpr h0)) dX8_goes_150 ?_
          refine g_aload_n F rfl 4 rfl dX8_goes_153 ?_
          refine g_get F (t := 81) (sI := 31) fl_RX8_90 rfl rfl (Int.not_lt.mp (Int.not_lt.mpr h0)) dX8_goes_154 ?_
          refine g_iload_n F rfl 5 rfl rfl dX8_goes_157 ?_
          refine h_iald F (n := 60) ak_71 (Int.not_lt.mp (Int.not_lt.mpr n62)) n2 rfl dX8_goes_158 ?_
          refine g_isub F rfl rfl dX8_goes_159 ?_
          refine g_bipush F rfl (by decide) dX8_goes_160 ?_
          refine g_icmp_gt F rfl rfl (tgt := 179) rfl dX8_goes_162 (fun n66 => ?_) (fun n66 => ?_)
          · refine g_loc [(4, 18), (5, 0), (6, 0), (7, 0), (8, 0), (9, 0), (3, 0), (2, 0), (1, 0), (0, 0)] rfl ?_
            exact kc_X8_goes_179 (Int.not_lt.mp (Int.not_lt.mpr h0)) F v61
          · refine g_aload_n F rfl 4 rfl dX8_goes_165 ?_
            refine g_get F (t := 57) (sI := 7) fl_RX8_24 rfl rfl (Int.not_lt.mp (Int.not_lt.mpr h0)) dX8_goes_166 ?_
            refine g_bipush F rfl (by decide) dX8_goes_169 ?_
            refine g_iload F 2 rfl rfl dX8_goes_171 ?_
            refine g_imul F rfl rfl dX8_goes_173 ?_
            refine g_iload F 3 rfl rfl dX8_goes_174 ?_
            refine g_iadd F rfl rfl dX8_goes_176 ?_
            refine g_iconst F 2 rfl dX8_goes_177 ?_
            refine g_chk (fun n67 => ?_)
            refine g_chk (fun n68 => ?_)
            refine h_zast F (n := 100) ak_47 rfl (Int.not_lt.mp (Int.not_lt.mpr n67)) n68 rfl dX8_goes_178 (fun v69 => ?_)
            refine g_loc [(4, 18), (5, 0), (6, 0), (7, 0), (8, 0), (9, 0), (3, 0), (2, 0), (1, 0), (0, 0)] rfl ?_
            exact kc_X8_goes_179 (Int.not_lt.mp (Int.not_lt.mpr h0)) F v69
  · refine g_iconst F 2 rfl dX8_goes_36 ?_
    refine g_goto F (tgt := 58) rfl dX8_goes_37 ?_
    refine g_istore F rfl (Nat.le_of_ble_eq_true rfl) (ls' := [(9, (2, 0)), (8, (0, (v 66 (v 8 a0 26) a1))), (7, (0, (v 50 (v 8 a0 10) (v 62 (v 8 a0 22) a1)))), (6, (0, (v 63 (v 8 a0 23) a1))), (0, (18, a0)), (1, (0, a1)), (2, (0, a2)), (3, (0, a3)), (4, (0, a4)), (5, (0, a5))]) rfl dX8_goes_58 ?_
    refine g_aload_n F rfl 4 rfl dX8_goes_60 ?_
    refine g_get F (t := 53) (sI := 3) fl_RX8_7 rfl rfl (Int.not_lt.mp (Int.not_lt.mpr h0)) dX8_goes_61 ?_
    refine g_iload_n F rfl 7 rfl rfl dX8_goes_64 ?_
    refine g_dup2 F rfl rfl dX8_goes_65 ?_
    refine g_chk (fun n70 => ?_)
    refine g_chk (fun n71 => ?_)
    refine h_lald F (n := 10) ak_43 (Int.not_lt.mp (Int.not_lt.mpr n70)) n71 rfl dX8_goes_66 ?_
    refine g_iload F 8 rfl rfl dX8_goes_67 ?_
    refine g_i2l F rfl dX8_goes_69 ?_
    refine g_lsub F dX8_goes_70 ?_
    refine h_last F (n := 10) ak_43 rfl (Int.not_lt.mp (Int.not_lt.mpr n70)) n71 rfl dX8_goes_71 (fun v72 => ?_)
    refine g_aload_n F rfl 4 rfl dX8_goes_72 ?_
    refine g_get F (t := 53) (sI := 3) fl_RX8_7 rfl rfl (Int.not_lt.mp (Int.not_lt.mpr h0)) dX8_goes_73 ?_
    refine g_iload F 2 rfl rfl dX8_goes_76 ?_
    refine g_dup2 F rfl rfl dX8_goes_78 ?_
    refine g_chk (fun n73 => ?_)
    refine g_chk (fun n74 => ?_)
    refine h_lald F (n := 10) ak_43 (Int.not_lt.mp (Int.not_lt.mpr n73)) n74 rfl dX8_goes_79 ?_
    refine g_iload F 0 rfl rfl dX8_goes_80 ?_
    refine g_i2l F rfl dX8_goes_82 ?_
    refine g_ladd F dX8_goes_83 ?_
    refine h_last F (n := 10) ak_43 rfl (Int.not_lt.mp (Int.not_lt.mpr n73)) n74 rfl dX8_goes_84 (fun v75 => ?_)
    refine g_aload_n F rfl 4 rfl dX8_goes_85 ?_
    refine g_get F (t := 53) (sI := 3) fl_RX8_7 rfl rfl (Int.not_lt.mp (Int.not_lt.mpr h0)) dX8_goes_86 ?_
    refine g_iload F 3 rfl rfl dX8_goes_89 ?_
    refine g_dup2 F rfl rfl dX8_goes_91 ?_
    refine g_chk (fun n76 => ?_)
    refine g_chk (fun n77 => ?_)
    refine h_lald F (n := 10) ak_43 (Int.not_lt.mp (Int.not_lt.mpr n76)) n77 rfl dX8_goes_92 ?_
    refine g_iload F 8 rfl rfl dX8_goes_93 ?_
    refine g_iload F 0 rfl rfl dX8_goes_95 ?_
    refine g_isub F rfl rfl dX8_goes_97 ?_
    refine g_iload F 9 rfl rfl dX8_goes_98 ?_
    refine g_isub F rfl rfl dX8_goes_100 ?_
    refine g_i2l F rfl dX8_goes_101 ?_
    refine g_ladd F dX8_goes_102 ?_
    refine h_last F (n := 10) ak_43 rfl (Int.not_lt.mp (Int.not_lt.mpr n76)) n77 rfl dX8_goes_103 (fun v78 => ?_)
    refine g_iload F 1 rfl rfl dX8_goes_104 ?_
    refine g_iconst F 0 rfl dX8_goes_106 ?_
    refine g_icmp_eq F rfl rfl (tgt := 123) rfl dX8_goes_107 (fun n79 => ?_) (fun n79 => ?_)
    · refine g_iload F 3 rfl rfl dX8_goes_123 ?_
      refine g_iload F 2 rfl rfl dX8_goes_125 ?_
      refine g_icmp_eq_t F rfl rfl (Decidable.not_not.mp n7) (tgt := 179) rfl dX8_goes_127 ?_
      refine g_loc [(4, 18), (5, 0), (6, 0), (7, 0), (8, 0), (9, 0), (3, 0), (2, 0), (1, 0), (0, 0)] rfl ?_
      exact kc_X8_goes_179 (Int.not_lt.mp (Int.not_lt.mpr h0)) F v78
    · refine g_aload_n F rfl 4 rfl dX8_goes_110 ?_
      refine g_get F (t := 53) (sI := 3) fl_RX8_7 rfl rfl (Int.not_lt.mp (Int.not_lt.mpr h0)) dX8_goes_111 ?_
      refine g_iload F 1 rfl rfl dX8_goes_114 ?_
      refine g_dup2 F rfl rfl dX8_goes_116 ?_
      refine g_chk (fun n80 => ?_)
      refine g_chk (fun n81 => ?_)
      refine h_lald F (n := 10) ak_43 (Int.not_lt.mp (Int.not_lt.mpr n80)) n81 rfl dX8_goes_117 ?_
      refine g_iload F 9 rfl rfl dX8_goes_118 ?_
      refine g_i2l F rfl dX8_goes_120 ?_
      refine g_ladd F dX8_goes_121 ?_
      refine h_last F (n := 10) ak_43 rfl (Int.not_lt.mp (Int.not_lt.mpr n80)) n81 rfl dX8_goes_122 (fun v82 => ?_)
      refine g_iload F 3 rfl rfl dX8_goes_123 ?_
      refine g_iload F 2 rfl rfl dX8_goes_125 ?_
      refine g_icmp_eq_t F rfl rfl (Decidable.not_not.mp n7) (tgt := 179) rfl dX8_goes_127 ?_
      refine g_loc [(4, 18), (5, 0), (6, 0), (7, 0), (8, 0), (9, 0), (3, 0), (2, 0), (1, 0), (0, 0)] rfl ?_
      exact kc_X8_goes_179 (Int.not_lt.mp (Int.not_lt.mpr h0)) F v82
theorem c_X8_goes (a0 a1 a2 a3 a4 a5 : Int) (h0 : 0 ≤ a0) : ∀ l, Ct l yX8_goes cX8_goes 11 (some .int) ({ frames := 1, cells := 0, slots := 0, locals := 25 }) (some 0) [(18, a0), (0, a1), (0, a2), (0, a3), (0, a4), (0, a5)] (sp_X8_goes a0 a1 a2 a3 a4 a5) := g_method (by decide +kernel) (Nat.le_of_ble_eq_true rfl) (fun x v F ho => k_X8_goes a0 a1 a2 a3 a4 a5 h0 x v F ho)
def sp_X8_placeOf (a0 a1 a2 a3 a4 : Int) (v : V) : Res := (rB (sp_X8_isLot a0 a1 v) (fun z1 v1 => (if z1 = 0 then (rOk 1 v1)
   else (rB (sp_X8_isParty a0 a3 v1) (fun z3 v3 => (if ¬ z3 = 0 then (rB (sp_X8_in a2 1 60 v3) (fun z5 v5 => (if z5 = 0 then (rOk 2 v5)
   else (rB (sp_X8_in a4 0 1000000 v5) (fun z7 v7 => (if z7 = 0 then (rOk 2 v7)
   else (chk (0 ≤ (v7 8 a0 23)) (chk (0 ≤ a1 ∧ a1 < 60) (if a3 = (v7 63 (v7 8 a0 23) a1) then (rOk 2 v7)
   else (rOk 0 v7))))))))))
   else (rOk 1 v3)))))))
set_option maxRecDepth 100000 in
set_option maxHeartbeats 4000000 in
theorem k_X8_placeOf (a0 a1 a2 a3 a4 : Int) (h0 : 0 ≤ a0) (x : Cx) (v : V) (F : Fx x cX8_placeOf RX8 "placeOf" ({ frames := 2, cells := 0, slots := 0, locals := 43 }) 5 (some 0) (some .int) 0) (ho : ∀ a ∈ [(18, a0), (0, a1), (0, a2), (0, a3), (0, a4)], okv v a) : Gs x (sp_X8_placeOf a0 a1 a2 a3 a4 v) v 0 0 0 (avArgs 0 [(18, a0), (0, a1), (0, a2), (0, a3), (0, a4)]) [] := by
  show Gs x _ v 0 0 0 [(0, (18, a0)), (1, (0, a1)), (2, (0, a2)), (3, (0, a3)), (4, (0, a4))] []
  unfold sp_X8_placeOf
  refine g_aload_n F rfl 0 rfl dX8_placeOf_0 ?_
  refine g_iload_n F rfl 1 rfl rfl dX8_placeOf_1 ?_
  refine g_callV F (by decide) (K := 8) (b := a0) [(0, a1)] [0] ml_RX8_191 wi_X8_isLot ws_X8_isLot (c_X8_isLot a0 a1 (Int.not_lt.mp (Int.not_lt.mpr h0))) mi_X8_isLot (by decide) ⟨_, rfl, rfl⟩ (Int.not_lt.mp (Int.not_lt.mpr h0)) rfl rfl rfl (Nat.le_of_ble_eq_true rfl) (Nat.le_of_ble_eq_true rfl) (Nat.le_of_ble_eq_true rfl) (Nat.le_of_ble_eq_true rfl) (Nat.le_of_ble_eq_true rfl) dX8_placeOf_2 (fun z1 v1 hz1 => ?_)
  refine g_if_eq F rfl (tgt := 16) rfl dX8_placeOf_5 (fun n2 => ?_) (fun n2 => ?_)
  · refine g_iconst F 2 rfl dX8_placeOf_16 ?_
    exact g_ireturn F rfl rfl rfl rfl (Nat.le_of_ble_eq_true rfl) (Nat.le_of_ble_eq_true rfl) dX8_placeOf_17
  · refine g_aload_n F rfl 0 rfl dX8_placeOf_8 ?_
    refine g_iload_n F rfl 3 rfl rfl dX8_placeOf_9 ?_
    refine g_callV F (by decide) (K := 8) (b := a0) [(0, a3)] [0] ml_RX8_154 wi_X8_isParty ws_X8_isParty (c_X8_isParty a0 a3 (Int.not_lt.mp (Int.not_lt.mpr h0))) mi_X8_isParty (by decide) ⟨_, rfl, rfl⟩ (Int.not_lt.mp (Int.not_lt.mpr h0)) rfl rfl rfl (Nat.le_of_ble_eq_true rfl) (Nat.le_of_ble_eq_true rfl) (Nat.le_of_ble_eq_true rfl) (Nat.le_of_ble_eq_true rfl) (Nat.le_of_ble_eq_true rfl) dX8_placeOf_10 (fun z3 v3 hz3 => ?_)
    refine g_if_ne F rfl (tgt := 18) rfl dX8_placeOf_13 (fun n4 => ?_) (fun n4 => ?_)
    · refine g_iload_n F rfl 2 rfl rfl dX8_placeOf_18 ?_
      refine g_iconst F 2 rfl dX8_placeOf_19 ?_
      refine g_bipush F rfl (by decide) dX8_placeOf_20 ?_
      refine g_callS F (by decide) [(0, a2), (2, 1), (0, 60)] [0, 0, 0] ml_RX8_133 wt_X8_in (c_X8_in a2 1 60) mi_X8_in rfl rfl rfl (Nat.le_of_ble_eq_true rfl) (Nat.le_of_ble_eq_true rfl) (Nat.le_of_ble_eq_true rfl) (Nat.le_of_ble_eq_true rfl) (Nat.le_of_ble_eq_true rfl) dX8_placeOf_22 (fun z5 v5 hz5 => ?_)
      refine g_if_eq F rfl (tgt := 53) rfl dX8_placeOf_25 (fun n6 => ?_) (fun n6 => ?_)
      · refine g_iconst F 0 rfl dX8_placeOf_53 ?_
        exact g_ireturn F rfl rfl rfl rfl (Nat.le_of_ble_eq_true rfl) (Nat.le_of_ble_eq_true rfl) dX8_placeOf_54
      · refine g_iload F 4 rfl rfl dX8_placeOf_28 ?_
        refine g_iconst F 2 rfl dX8_placeOf_30 ?_
        refine g_ldc F rfl cn_RX8_150 dX8_placeOf_31 ?_
        refine g_callS F (by decide) [(0, a4), (2, 0), (0, 1000000)] [0, 0, 0] ml_RX8_133 wt_X8_in (c_X8_in a4 0 1000000) mi_X8_in rfl rfl rfl (Nat.le_of_ble_eq_true rfl) (Nat.le_of_ble_eq_true rfl) (Nat.le_of_ble_eq_true rfl) (Nat.le_of_ble_eq_true rfl) (Nat.le_of_ble_eq_true rfl) dX8_placeOf_33 (fun z7 v7 hz7 => ?_)
        refine g_if_eq F rfl (tgt := 53) rfl dX8_placeOf_36 (fun n8 => ?_) (fun n8 => ?_)
        · refine g_iconst F 0 rfl dX8_placeOf_53 ?_
          exact g_ireturn F rfl rfl rfl rfl (Nat.le_of_ble_eq_true rfl) (Nat.le_of_ble_eq_true rfl) dX8_placeOf_54
        · refine g_iload_n F rfl 3 rfl rfl dX8_placeOf_39 ?_
          refine g_aload_n F rfl 0 rfl dX8_placeOf_40 ?_
          refine g_get F (t := 73) (sI := 23) fl_RX8_66 rfl rfl (Int.not_lt.mp (Int.not_lt.mpr h0)) dX8_placeOf_41 ?_
          refine g_iload_n F rfl 1 rfl rfl dX8_placeOf_44 ?_
          refine g_chk (fun n9 => ?_)
          refine g_chk (fun n10 => ?_)
          refine h_iald F (n := 60) ak_63 (Int.not_lt.mp (Int.not_lt.mpr n9)) n10 rfl dX8_placeOf_45 ?_
          refine g_icmp_eq F rfl rfl (tgt := 53) rfl dX8_placeOf_46 (fun n11 => ?_) (fun n11 => ?_)
          · refine g_iconst F 0 rfl dX8_placeOf_53 ?_
            exact g_ireturn F rfl rfl rfl rfl (Nat.le_of_ble_eq_true rfl) (Nat.le_of_ble_eq_true rfl) dX8_placeOf_54
          · refine g_iconst F 2 rfl dX8_placeOf_49 ?_
            refine g_goto F (tgt := 54) rfl dX8_placeOf_50 ?_
            exact g_ireturn F rfl rfl rfl rfl (Nat.le_of_ble_eq_true rfl) (Nat.le_of_ble_eq_true rfl) dX8_placeOf_54
    · refine g_iconst F 2 rfl dX8_placeOf_16 ?_
      exact g_ireturn F rfl rfl rfl rfl (Nat.le_of_ble_eq_true rfl) (Nat.le_of_ble_eq_true rfl) dX8_placeOf_17
theorem c_X8_placeOf (a0 a1 a2 a3 a4 : Int) (h0 : 0 ≤ a0) : ∀ l, Ct l yX8_placeOf cX8_placeOf 5 (some .int) ({ frames := 2, cells := 0, slots := 0, locals := 43 }) (some 0) [(18, a0), (0, a1), (0, a2), (0, a3), (0, a4)] (sp_X8_placeOf a0 a1 a2 a3 a4) := g_method (by decide +kernel) (Nat.le_of_ble_eq_true rfl) (fun x v F ho => k_X8_placeOf a0 a1 a2 a3 a4 h0 x v F ho)

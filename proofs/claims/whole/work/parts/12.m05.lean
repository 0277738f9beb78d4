/-! methods, by the walker -/
def sp_X8_sell (a0 a1 a2 a3 a4 : Int) (v : V) : Res := (rB (sp_X8_placeOf a0 a1 a2 a3 a4 v) (fun z1 v1 => (if z1 ≤ 0 then (rB (sp_X8_isSaleBarred a0 a1 a2 a3 a4 v1) (fun z3 v3 => (if z3 = 0 then (rB (sp_X8_holds a0 0 v3) (fun z5 v5 => (if ¬ z5 = 0 then (rB (sp_X8_goes a0 a1 a2 a3 a4 0 v5) (fun z7 v7 => (rOk z7 v7)))
   else none)))
   else (rB (sp_X8_holds a0 3 v3) (fun z8 v8 => (if ¬ z8 = 0 then none
   else (rOk 0 v8)))))))
   else (rB (sp_X8_holds a0 z1 v1) (fun z10 v10 => (if ¬ z10 = 0 then (rB (sp_X8_goes a0 a1 a2 a3 a4 0 v10) (fun z12 v12 => (rOk z12 v12)))
   else (rOk 0 v10)))))))
set_option maxRecDepth 100000 in
set_option maxHeartbeats 4000000 in
theorem k_X8_sell (a0 a1 a2 a3 a4 : Int) (h0 : 0 ≤ a0) (x : Cx) (v : V) (F : Fx x cX8_sell RX8 "sell" ({ frames := 3, cells := 0, slots := 0, locals := 71 }) 6 (some 0) (some .int) 0) (ho : ∀ a ∈ [(18, a0), (0, a1), (0, a2), (0, a3), (0, a4)], okv v a) : Gs x (sp_X8_sell a0 a1 a2 a3 a4 v) v 0 0 0 (avArgs 0 [(18, a0), (0, a1), (0, a2), (0, a3), (0, a4)]) [] := by
  show Gs x _ v 0 0 0 [(0, (18, a0)), (1, (0, a1)), (2, (0, a2)), (3, (0, a3)), (4, (0, a4))] []
  unfold sp_X8_sell
  refine g_aload_n F rfl 0 rfl dX8_sell_0 ?_
  refine g_iload_n F rfl 1 rfl rfl dX8_sell_1 ?_
  refine g_iload_n F rfl 2 rfl rfl dX8_sell_2 ?_
  refine g_iload_n F rfl 3 rfl rfl dX8_sell_3 ?_
  refine g_iload F 4 rfl rfl dX8_sell_4 ?_
  refine g_callV F (by decide) (K := 8) (b := a0) [(0, a1), (0, a2), (0, a3), (0, a4)] [0, 0, 0, 0] ml_RX8_194 wi_X8_placeOf ws_X8_placeOf (c_X8_placeOf a0 a1 a2 a3 a4 (Int.not_lt.mp (Int.not_lt.mpr h0))) mi_X8_placeOf (by decide) ⟨_, rfl, rfl⟩ (Int.not_lt.mp (Int.not_lt.mpr h0)) rfl rfl rfl (Nat.le_of_ble_eq_true rfl) (Nat.le_of_ble_eq_true rfl) (Nat.le_of_ble_eq_true rfl) (Nat.le_of_ble_eq_true rfl) (Nat.le_of_ble_eq_true rfl) dX8_sell_6 (fun z1 v1 hz1 => ?_)
  refine g_istore F rfl (Nat.le_of_ble_eq_true rfl) (ls' := [(5, (0, z1)), (0, (18, a0)), (1, (0, a1)), (2, (0, a2)), (3, (0, a3)), (4, (0, a4))]) rfl dX8_sell_9 ?_
  refine g_aload_n F rfl 1 rfl dX8_sell_11 ?_
  refine g_iload F 0 rfl rfl dX8_sell_12 ?_
  refine g_if_le F rfl (tgt := 22) rfl dX8_sell_14 (fun n2 => ?_) (fun n2 => ?_)
  · refine g_aload_n F rfl 1 rfl dX8_sell_22 ?_
    refine g_iload_n F rfl 2 rfl rfl dX8_sell_23 ?_
    refine g_iload_n F rfl 3 rfl rfl dX8_sell_24 ?_
    refine g_iload_n F rfl 4 rfl rfl dX8_sell_25 ?_
    refine g_iload F 5 rfl rfl dX8_sell_26 ?_
    refine g_callV F (by decide) (K := 8) (b := a0) [(0, a1), (0, a2), (0, a3), (0, a4)] [0, 0, 0, 0] ml_RX8_198 wi_X8_isSaleBarred ws_X8_isSaleBarred (c_X8_isSaleBarred a0 a1 a2 a3 a4 (Int.not_lt.mp (Int.not_lt.mpr h0))) mi_X8_isSaleBarred (by decide) ⟨_, rfl, rfl⟩ (Int.not_lt.mp (Int.not_lt.mpr h0)) rfl rfl rfl (Nat.le_of_ble_eq_true rfl) (Nat.le_of_ble_eq_true rfl) (Nat.le_of_ble_eq_true rfl) (Nat.le_of_ble_eq_true rfl) (Nat.le_of_ble_eq_true rfl) dX8_sell_28 (fun z3 v3 hz3 => ?_)
    refine g_if_eq F rfl (tgt := 38) rfl dX8_sell_31 (fun n4 => ?_) (fun n4 => ?_)
    · refine g_iconst F 2 rfl dX8_sell_38 ?_
      refine g_callV F (by decide) (K := 8) (b := a0) [(2, 0)] [0] ml_RX8_151 wi_X8_holds ws_X8_holds (c_X8_holds a0 0 (Int.not_lt.mp (Int.not_lt.mpr h0))) mi_X8_holds (by decide) ⟨_, rfl, rfl⟩ (Int.not_lt.mp (Int.not_lt.mpr h0)) rfl rfl rfl (Nat.le_of_ble_eq_true rfl) (Nat.le_of_ble_eq_true rfl) (Nat.le_of_ble_eq_true rfl) (Nat.le_of_ble_eq_true rfl) (Nat.le_of_ble_eq_true rfl) dX8_sell_39 (fun z5 v5 hz5 => ?_)
      refine g_if_ne F rfl (tgt := 47) rfl dX8_sell_42 (fun n6 => ?_) (fun n6 => ?_)
      · refine g_aload_n F rfl 1 rfl dX8_sell_47 ?_
        refine g_iload_n F rfl 2 rfl rfl dX8_sell_48 ?_
        refine g_iload_n F rfl 3 rfl rfl dX8_sell_49 ?_
        refine g_iload_n F rfl 4 rfl rfl dX8_sell_50 ?_
        refine g_iload F 5 rfl rfl dX8_sell_51 ?_
        refine g_iconst F 2 rfl dX8_sell_53 ?_
        refine g_callV F (by decide) (K := 8) (b := a0) [(0, a1), (0, a2), (0, a3), (0, a4), (2, 0)] [0, 0, 0, 0, 0] ml_RX8_202 wi_X8_goes ws_X8_goes (c_X8_goes a0 a1 a2 a3 a4 0 (Int.not_lt.mp (Int.not_lt.mpr h0))) mi_X8_goes (by decide) ⟨_, rfl, rfl⟩ (Int.not_lt.mp (Int.not_lt.mpr h0)) rfl rfl rfl (Nat.le_of_ble_eq_true rfl) (Nat.le_of_ble_eq_true rfl) (Nat.le_of_ble_eq_true rfl) (Nat.le_of_ble_eq_true rfl) (Nat.le_of_ble_eq_true rfl) dX8_sell_54 (fun z7 v7 hz7 => ?_)
        exact g_ireturn F rfl rfl rfl rfl (Nat.le_of_ble_eq_true rfl) (Nat.le_of_ble_eq_true rfl) dX8_sell_57
      · exact g_none
    · refine g_iconst F 0 rfl dX8_sell_34 ?_
      refine g_goto F (tgt := 39) rfl dX8_sell_35 ?_
      refine g_callV F (by decide) (K := 8) (b := a0) [(0, 3)] [0] ml_RX8_151 wi_X8_holds ws_X8_holds (c_X8_holds a0 3 (Int.not_lt.mp (Int.not_lt.mpr h0))) mi_X8_holds (by decide) ⟨_, rfl, rfl⟩ (Int.not_lt.mp (Int.not_lt.mpr h0)) rfl rfl rfl (Nat.le_of_ble_eq_true rfl) (Nat.le_of_ble_eq_true rfl) (Nat.le_of_ble_eq_true rfl) (Nat.le_of_ble_eq_true rfl) (Nat.le_of_ble_eq_true rfl) dX8_sell_39 (fun z8 v8 hz8 => ?_)
      refine g_if_ne F rfl (tgt := 47) rfl dX8_sell_42 (fun n9 => ?_) (fun n9 => ?_)
      · exact g_none
      · refine g_iconst F 2 rfl dX8_sell_45 ?_
        exact g_ireturn F rfl rfl rfl rfl (Nat.le_of_ble_eq_true rfl) (Nat.le_of_ble_eq_true rfl) dX8_sell_46
  · refine g_iload F 0 rfl rfl dX8_sell_17 ?_
    refine g_goto F (tgt := 39) rfl dX8_sell_19 ?_
    refine g_callV F (by decide) (K := 8) (b := a0) [(0, z1)] [0] ml_RX8_151 wi_X8_holds ws_X8_holds (c_X8_holds a0 z1 (Int.not_lt.mp (Int.not_lt.mpr h0))) mi_X8_holds (by decide) ⟨_, rfl, rfl⟩ (Int.not_lt.mp (Int.not_lt.mpr h0)) rfl rfl rfl (Nat.le_of_ble_eq_true rfl) (Nat.le_of_ble_eq_true rfl) (Nat.le_of_ble_eq_true rfl) (Nat.le_of_ble_eq_true rfl) (Nat.le_of_ble_eq_true rfl) dX8_sell_39 (fun z10 v10 hz10 => ?_)
    refine g_if_ne F rfl (tgt := 47) rfl dX8_sell_42 (fun n11 => ?_) (fun n11 => ?_)
    · refine g_aload_n F rfl 1 rfl dX8_sell_47 ?_
      refine g_iload_n F rfl 2 rfl rfl dX8_sell_48 ?_
      refine g_iload_n F rfl 3 rfl rfl dX8_sell_49 ?_
      refine g_iload_n F rfl 4 rfl rfl dX8_sell_50 ?_
      refine g_iload F 5 rfl rfl dX8_sell_51 ?_
      refine g_iconst F 2 rfl dX8_sell_53 ?_
      refine g_callV F (by decide) (K := 8) (b := a0) [(0, a1), (0, a2), (0, a3), (0, a4), (2, 0)] [0, 0, 0, 0, 0] ml_RX8_202 wi_X8_goes ws_X8_goes (c_X8_goes a0 a1 a2 a3 a4 0 (Int.not_lt.mp (Int.not_lt.mpr h0))) mi_X8_goes (by decide) ⟨_, rfl, rfl⟩ (Int.not_lt.mp (Int.not_lt.mpr h0)) rfl rfl rfl (Nat.le_of_ble_eq_true rfl) (Nat.le_of_ble_eq_true rfl) (Nat.le_of_ble_eq_true rfl) (Nat.le_of_ble_eq_true rfl) (Nat.le_of_ble_eq_true rfl) dX8_sell_54 (fun z12 v12 hz12 => ?_)
      exact g_ireturn F rfl rfl rfl rfl (Nat.le_of_ble_eq_true rfl) (Nat.le_of_ble_eq_true rfl) dX8_sell_57
    · refine g_iconst F 2 rfl dX8_sell_45 ?_
      exact g_ireturn F rfl rfl rfl rfl (Nat.le_of_ble_eq_true rfl) (Nat.le_of_ble_eq_true rfl) dX8_sell_46
theorem c_X8_sell (a0 a1 a2 a3 a4 : Int) (h0 : 0 ≤ a0) : ∀ l, Ct l yX8_sell cX8_sell 6 (some .int) ({ frames := 3, cells := 0, slots := 0, locals := 71 }) (some 0) [(18, a0), (0, a1), (0, a2), (0, a3), (0, a4)] (sp_X8_sell a0 a1 a2 a3 a4) := g_method (by decide +kernel) (Nat.le_of_ble_eq_true rfl) (fun x v F ho => k_X8_sell a0 a1 a2 a3 a4 h0 x v F ho)
def sp_X8_bars (a0 a1 a2 a3 a4 : Int) (v : V) : Res := (rB (sp_X8_placeOf a0 a1 a2 a3 a4 v) (fun z1 v1 => (rB (sp_X8_holds a0 z1 v1) (fun z2 v2 => (if ¬ z2 = 0 then (rB (sp_X8_isSaleBarred a0 a1 a2 a3 a4 v2) (fun z4 v4 => (rOk (v4 8 a0 44) v4)))
   else (rOk 0 v2))))))
set_option maxRecDepth 100000 in
set_option maxHeartbeats 4000000 in
theorem k_X8_bars (a0 a1 a2 a3 a4 : Int) (h0 : 0 ≤ a0) (x : Cx) (v : V) (F : Fx x cX8_bars RX8 "bars" ({ frames := 3, cells := 0, slots := 0, locals := 71 }) 5 (some 0) (some .int) 0) (ho : ∀ a ∈ [(18, a0), (0, a1), (0, a2), (0, a3), (0, a4)], okv v a) : Gs x (sp_X8_bars a0 a1 a2 a3 a4 v) v 0 0 0 (avArgs 0 [(18, a0), (0, a1), (0, a2), (0, a3), (0, a4)]) [] := by
  show Gs x _ v 0 0 0 [(0, (18, a0)), (1, (0, a1)), (2, (0, a2)), (3, (0, a3)), (4, (0, a4))] []
  unfold sp_X8_bars
  refine g_aload_n F rfl 0 rfl dX8_bars_0 ?_
  refine g_aload_n F rfl 0 rfl dX8_bars_1 ?_
  refine g_iload_n F rfl 1 rfl rfl dX8_bars_2 ?_
  refine g_iload_n F rfl 2 rfl rfl dX8_bars_3 ?_
  refine g_iload_n F rfl 3 rfl rfl dX8_bars_4 ?_
  refine g_iload F 4 rfl rfl dX8_bars_5 ?_
  refine g_callV F (by decide) (K := 8) (b := a0) [(0, a1), (0, a2), (0, a3), (0, a4)] [0, 0, 0, 0] ml_RX8_194 wi_X8_placeOf ws_X8_placeOf (c_X8_placeOf a0 a1 a2 a3 a4 (Int.not_lt.mp (Int.not_lt.mpr h0))) mi_X8_placeOf (by decide) ⟨_, rfl, rfl⟩ (Int.not_lt.mp (Int.not_lt.mpr h0)) rfl rfl rfl (Nat.le_of_ble_eq_true rfl) (Nat.le_of_ble_eq_true rfl) (Nat.le_of_ble_eq_true rfl) (Nat.le_of_ble_eq_true rfl) (Nat.le_of_ble_eq_true rfl) dX8_bars_7 (fun z1 v1 hz1 => ?_)
  refine g_callV F (by decide) (K := 8) (b := a0) [(0, z1)] [0] ml_RX8_151 wi_X8_holds ws_X8_holds (c_X8_holds a0 z1 (Int.not_lt.mp (Int.not_lt.mpr h0))) mi_X8_holds (by decide) ⟨_, rfl, rfl⟩ (Int.not_lt.mp (Int.not_lt.mpr h0)) rfl rfl rfl (Nat.le_of_ble_eq_true rfl) (Nat.le_of_ble_eq_true rfl) (Nat.le_of_ble_eq_true rfl) (Nat.le_of_ble_eq_true rfl) (Nat.le_of_ble_eq_true rfl) dX8_bars_10 (fun z2 v2 hz2 => ?_)
  refine g_if_ne F rfl (tgt := 18) rfl dX8_bars_13 (fun n3 => ?_) (fun n3 => ?_)
  · refine g_aload_n F rfl 0 rfl dX8_bars_18 ?_
    refine g_iload_n F rfl 1 rfl rfl dX8_bars_19 ?_
    refine g_iload_n F rfl 2 rfl rfl dX8_bars_20 ?_
    refine g_iload_n F rfl 3 rfl rfl dX8_bars_21 ?_
    refine g_iload F 4 rfl rfl dX8_bars_22 ?_
    refine g_callV F (by decide) (K := 8) (b := a0) [(0, a1), (0, a2), (0, a3), (0, a4)] [0, 0, 0, 0] ml_RX8_198 wi_X8_isSaleBarred ws_X8_isSaleBarred (c_X8_isSaleBarred a0 a1 a2 a3 a4 (Int.not_lt.mp (Int.not_lt.mpr h0))) mi_X8_isSaleBarred (by decide) ⟨_, rfl, rfl⟩ (Int.not_lt.mp (Int.not_lt.mpr h0)) rfl rfl rfl (Nat.le_of_ble_eq_true rfl) (Nat.le_of_ble_eq_true rfl) (Nat.le_of_ble_eq_true rfl) (Nat.le_of_ble_eq_true rfl) (Nat.le_of_ble_eq_true rfl) dX8_bars_24 (fun z4 v4 hz4 => ?_)
    refine g_pop F rfl dX8_bars_27 ?_
    refine g_aload_n F rfl 0 rfl dX8_bars_28 ?_
    refine g_get F (t := 0) (sI := 44) fl_RX8_178 rfl rfl (Int.not_lt.mp (Int.not_lt.mpr h0)) dX8_bars_29 ?_
    exact g_ireturn F rfl rfl rfl rfl (Nat.le_of_ble_eq_true rfl) (Nat.le_of_ble_eq_true rfl) dX8_bars_32
  · refine g_iconst F 2 rfl dX8_bars_16 ?_
    exact g_ireturn F rfl rfl rfl rfl (Nat.le_of_ble_eq_true rfl) (Nat.le_of_ble_eq_true rfl) dX8_bars_17
theorem c_X8_bars (a0 a1 a2 a3 a4 : Int) (h0 : 0 ≤ a0) : ∀ l, Ct l yX8_bars cX8_bars 5 (some .int) ({ frames := 3, cells := 0, slots := 0, locals := 71 }) (some 0) [(18, a0), (0, a1), (0, a2), (0, a3), (0, a4)] (sp_X8_bars a0 a1 a2 a3 a4) := g_method (by decide +kernel) (Nat.le_of_ble_eq_true rfl) (fun x v F ho => k_X8_bars a0 a1 a2 a3 a4 h0 x v F ho)
def sp_X8_barredBy (a0 a1 a2 a3 a4 : Int) (v : V) : Res := (rB (sp_X8_placeOf a0 a1 a2 a3 a4 v) (fun z1 v1 => (rB (sp_X8_holds a0 z1 v1) (fun z2 v2 => (if ¬ z2 = 0 then (rB (sp_X8_isSaleBarred a0 a1 a2 a3 a4 v2) (fun z4 v4 => (rOk (v4 8 a0 45) v4)))
   else (rOk 0 v2))))))
set_option maxRecDepth 100000 in
set_option maxHeartbeats 4000000 in
theorem k_X8_barredBy (a0 a1 a2 a3 a4 : Int) (h0 : 0 ≤ a0) (x : Cx) (v : V) (F : Fx x cX8_barredBy RX8 "barredBy" ({ frames := 3, cells := 0, slots := 0, locals := 71 }) 5 (some 0) (some .int) 0) (ho : ∀ a ∈ [(18, a0), (0, a1), (0, a2), (0, a3), (0, a4)], okv v a) : Gs x (sp_X8_barredBy a0 a1 a2 a3 a4 v) v 0 0 0 (avArgs 0 [(18, a0), (0, a1), (0, a2), (0, a3), (0, a4)]) [] := by
  show Gs x _ v 0 0 0 [(0, (18, a0)), (1, (0, a1)), (2, (0, a2)), (3, (0, a3)), (4, (0, a4))] []
  unfold sp_X8_barredBy
  refine g_aload_n F rfl 0 rfl dX8_barredBy_0 ?_
  refine g_aload_n F rfl 0 rfl dX8_barredBy_1 ?_
  refine g_iload_n F rfl 1 rfl rfl dX8_barredBy_2 ?_
  refine g_iload_n F rfl 2 rfl rfl dX8_barredBy_3 ?_
  refine g_iload_n F rfl 3 rfl rfl dX8_barredBy_4 ?_
  refine g_iload F 4 rfl rfl dX8_barredBy_5 ?_
  refine g_callV F (by decide) (K := 8) (b := a0) [(0, a1), (0, a2), (0, a3), (0, a4)] [0, 0, 0, 0] ml_RX8_194 wi_X8_placeOf ws_X8_placeOf (c_X8_placeOf a0 a1 a2 a3 a4 (Int.not_lt.mp (Int.not_lt.mpr h0))) mi_X8_placeOf (by decide) ⟨_, rfl, rfl⟩ (Int.not_lt.mp (Int.not_lt.mpr h0)) rfl rfl rfl (Nat.le_of_ble_eq_true rfl) (Nat.le_of_ble_eq_true rfl) (Nat.le_of_ble_eq_true rfl) (Nat.le_of_ble_eq_true rfl) (Nat.le_of_ble_eq_true rfl) dX8_barredBy_7 (fun z1 v1 hz1 => ?_)
  refine g_callV F (by decide) (K := 8) (b := a0) [(0, z1)] [0] ml_RX8_151 wi_X8_holds ws_X8_holds (c_X8_holds a0 z1 (Int.not_lt.mp (Int.not_lt.mpr h0))) mi_X8_holds (by decide) ⟨_, rfl, rfl⟩ (Int.not_lt.mp (Int.not_lt.mpr h0)) rfl rfl rfl (Nat.le_of_ble_eq_true rfl) (Nat.le_of_ble_eq_true rfl) (Nat.le_of_ble_eq_true rfl) (Nat.le_of_ble_eq_true rfl) (Nat.le_of_ble_eq_true rfl) dX8_barredBy_10 (fun z2 v2 hz2 => ?_)
  refine g_if_ne F rfl (tgt := 18) rfl dX8_barredBy_13 (fun n3 => ?_) (fun n3 => ?_)
  · refine g_aload_n F rfl 0 rfl dX8_barredBy_18 ?_
    refine g_iload_n F rfl 1 rfl rfl dX8_barredBy_19 ?_
    refine g_iload_n F rfl 2 rfl rfl dX8_barredBy_20 ?_
    refine g_iload_n F rfl 3 rfl rfl dX8_barredBy_21 ?_
    refine g_iload F 4 rfl rfl dX8_barredBy_22 ?_
    refine g_callV F (by decide) (K := 8) (b := a0) [(0, a1), (0, a2), (0, a3), (0, a4)] [0, 0, 0, 0] ml_RX8_198 wi_X8_isSaleBarred ws_X8_isSaleBarred (c_X8_isSaleBarred a0 a1 a2 a3 a4 (Int.not_lt.mp (Int.not_lt.mpr h0))) mi_X8_isSaleBarred (by decide) ⟨_, rfl, rfl⟩ (Int.not_lt.mp (Int.not_lt.mpr h0)) rfl rfl rfl (Nat.le_of_ble_eq_true rfl) (Nat.le_of_ble_eq_true rfl) (Nat.le_of_ble_eq_true rfl) (Nat.le_of_ble_eq_true rfl) (Nat.le_of_ble_eq_true rfl) dX8_barredBy_24 (fun z4 v4 hz4 => ?_)
    refine g_pop F rfl dX8_barredBy_27 ?_
    refine g_aload_n F rfl 0 rfl dX8_barredBy_28 ?_
    refine g_get F (t := 0) (sI := 45) fl_RX8_181 rfl rfl (Int.not_lt.mp (Int.not_lt.mpr h0)) dX8_barredBy_29 ?_
    exact g_ireturn F rfl rfl rfl rfl (Nat.le_of_ble_eq_true rfl) (Nat.le_of_ble_eq_true rfl) dX8_barredBy_32
  · refine g_iconst F 2 rfl dX8_barredBy_16 ?_
    exact g_ireturn F rfl rfl rfl rfl (Nat.le_of_ble_eq_true rfl) (Nat.le_of_ble_eq_true rfl) dX8_barredBy_17
theorem c_X8_barredBy (a0 a1 a2 a3 a4 : Int) (h0 : 0 ≤ a0) : ∀ l, Ct l yX8_barredBy cX8_barredBy 5 (some .int) ({ frames := 3, cells := 0, slots := 0, locals := 71 }) (some 0) [(18, a0), (0, a1), (0, a2), (0, a3), (0, a4)] (sp_X8_barredBy a0 a1 a2 a3 a4) := g_method (by decide +kernel) (Nat.le_of_ble_eq_true rfl) (fun x v F ho => k_X8_barredBy a0 a1 a2 a3 a4 h0 x v F ho)
def sp_X8_consign (a0 a1 a2 a3 a4 a5 : Int) (v : V) : Res := (rB (sp_X8_isLot a0 a1 v) (fun z1 v1 => (if z1 = 0 then (rB (sp_X8_holds a0 1 v1) (fun z3 v3 => (if z3 = 0 then (rOk 0 v3)
   else none)))
   else (rB (sp_X8_isParty a0 a2 v1) (fun z5 v5 => (if z5 = 0 then (rB (sp_X8_holds a0 1 v5) (fun z7 v7 => (if z7 = 0 then (rOk 0 v7)
   else none)))
   else (rB (sp_X8_in a3 0 1000000 v5) (fun z9 v9 => (if z9 = 0 then (rB (sp_X8_holds a0 2 v9) (fun z11 v11 => (if z11 = 0 then (rOk 0 v11)
   else none)))
   else (rB (sp_X8_in a4 0 50 v9) (fun z13 v13 => (if z13 = 0 then (rB (sp_X8_holds a0 2 v13) (fun z15 v15 => (if z15 = 0 then (rOk 0 v15)
   else none)))
   else (rB (sp_X8_in a5 0 1000 v13) (fun z17 v17 => (if z17 = 0 then (rB (sp_X8_holds a0 2 v17) (fun z19 v19 => (if z19 = 0 then (rOk 0 v19)
   else none)))
   else (chk (0 ≤ (v17 8 a0 23)) (chk (0 ≤ a1 ∧ a1 < 60) (if a2 = (v17 63 (v17 8 a0 23) a1) then (rB (sp_X8_holds a0 2 v17) (fun z24 v24 => (if z24 = 0 then (rOk 0 v24)
   else none)))
   else (chk (0 ≤ (v17 8 a0 24)) (if (v17 64 (v17 8 a0 24) a1) ≤ 0 then (rB (sp_X8_holds a0 3 v17) (fun z28 v28 => (if z28 = 0 then (rOk 0 v28)
   else none)))
   else (chk (0 ≤ (v17 8 a0 26)) (if ¬ (v17 66 (v17 8 a0 26) a1) = (-1) then (rB (sp_X8_holds a0 3 v17) (fun z32 v32 => (if z32 = 0 then (rOk 0 v32)
   else none)))
   else (chk (0 ≤ (v17 8 a0 5)) (chk (0 ≤ a2 ∧ a2 < 10) (if ¬ (v17 45 (v17 8 a0 5) a2) = 0 then (rB (sp_X8_holds a0 3 v17) (fun z37 v37 => (if z37 = 0 then (rOk 0 v37)
   else none)))
   else (chk (0 ≤ (v17 63 (v17 8 a0 23) a1) ∧ (v17 63 (v17 8 a0 23) a1) < 10) (if ¬ (v17 45 (v17 8 a0 5) (v17 63 (v17 8 a0 23) a1)) = 0 then (rB (sp_X8_holds a0 3 v17) (fun z41 v41 => (if z41 = 0 then (rOk 0 v41)
   else none)))
   else (rB (sp_X8_holds a0 0 v17) (fun z43 v43 => (if z43 = 0 then none
   else (chk (0 ≤ (v43 8 a0 26)) (rLet (up v43 66 (v43 8 a0 26) a1 a2) (fun v46 => (chk (0 ≤ (v46 8 a0 27)) (rLet (up v46 67 (v46 8 a0 27) a1 a3) (fun v48 => (chk (0 ≤ (v48 8 a0 28)) (rLet (up v48 68 (v48 8 a0 28) a1 a4) (fun v50 => (chk (0 ≤ (v50 8 a0 29)) (rLet (up v50 69 (v50 8 a0 29) a1 (w32 ((v50 8 a0 1) + a5))) (fun v52 => (rOk 0 v52)))))))))))))))))))))))))))))))))))))))))))
set_option maxRecDepth 100000 in
set_option maxHeartbeats 4000000 in
theorem k_X8_consign (a0 a1 a2 a3 a4 a5 : Int) (h0 : 0 ≤ a0) (x : Cx) (v : V) (F : Fx x cX8_consign RX8 "consign" ({ frames := 2, cells := 0, slots := 0, locals := 43 }) 9 none none 0) (ho : ∀ a ∈ [(18, a0), (0, a1), (0, a2), (0, a3), (0, a4), (0, a5)], okv v a) : Gs x (sp_X8_consign a0 a1 a2 a3 a4 a5 v) v 0 0 0 (avArgs 0 [(18, a0), (0, a1), (0, a2), (0, a3), (0, a4), (0, a5)]) [] := by
  show Gs x _ v 0 0 0 [(0, (18, a0)), (1, (0, a1)), (2, (0, a2)), (3, (0, a3)), (4, (0, a4)), (5, (0, a5))] []
  unfold sp_X8_consign
  refine g_aload_n F rfl 0 rfl dX8_consign_0 ?_
  refine g_iload_n F rfl 1 rfl rfl dX8_consign_1 ?_
  refine g_callV F (by decide) (K := 8) (b := a0) [(0, a1)] [0] ml_RX8_191 wi_X8_isLot ws_X8_isLot (c_X8_isLot a0 a1 (Int.not_lt.mp (Int.not_lt.mpr h0))) mi_X8_isLot (by decide) ⟨_, rfl, rfl⟩ (Int.not_lt.mp (Int.not_lt.mpr h0)) rfl rfl rfl (Nat.le_of_ble_eq_true rfl) (Nat.le_of_ble_eq_true rfl) (Nat.le_of_ble_eq_true rfl) (Nat.le_of_ble_eq_true rfl) (Nat.le_of_ble_eq_true rfl) dX8_consign_2 (fun z1 v1 hz1 => ?_)
  refine g_if_eq F rfl (tgt := 20) rfl dX8_consign_5 (fun n2 => ?_) (fun n2 => ?_)
  · refine g_iconst F 2 rfl dX8_consign_20 ?_
    refine g_istore F rfl (Nat.le_of_ble_eq_true rfl) (ls' := [(6, (2, 0)), (0, (18, a0)), (1, (0, a1)), (2, (0, a2)), (3, (0, a3)), (4, (0, a4)), (5, (0, a5))]) rfl dX8_consign_21 ?_
    refine g_iload F 0 rfl rfl dX8_consign_23 ?_
    refine g_if_eq_t F rfl (by decide) (tgt := 75) rfl dX8_consign_25 ?_
    refine g_iconst F 2 rfl dX8_consign_75 ?_
    refine g_istore F rfl (Nat.le_of_ble_eq_true rfl) (ls' := [(7, (2, 0)), (6, (2, 0)), (0, (18, a0)), (1, (0, a1)), (2, (0, a2)), (3, (0, a3)), (4, (0, a4)), (5, (0, a5))]) rfl dX8_consign_76 ?_
    refine g_iload F 0 rfl rfl dX8_consign_78 ?_
    refine g_if_eq_t F rfl (by decide) (tgt := 129) rfl dX8_consign_80 ?_
    refine g_iconst F 2 rfl dX8_consign_129 ?_
    refine g_istore F rfl (Nat.le_of_ble_eq_true rfl) (ls' := [(8, (2, 0)), (7, (2, 0)), (6, (2, 0)), (0, (18, a0)), (1, (0, a1)), (2, (0, a2)), (3, (0, a3)), (4, (0, a4)), (5, (0, a5))]) rfl dX8_consign_130 ?_
    refine g_aload_n F rfl 3 rfl dX8_consign_132 ?_
    refine g_iload F 2 rfl rfl dX8_consign_133 ?_
    refine g_if_ne_f F rfl (by decide) (tgt := 142) rfl dX8_consign_135 ?_
    refine g_iconst F 2 rfl dX8_consign_138 ?_
    refine g_goto F (tgt := 161) rfl dX8_consign_139 ?_
    refine g_callV F (by decide) (K := 8) (b := a0) [(2, 1)] [0] ml_RX8_151 wi_X8_holds ws_X8_holds (c_X8_holds a0 1 (Int.not_lt.mp (Int.not_lt.mpr h0))) mi_X8_holds (by decide) ⟨_, rfl, rfl⟩ (Int.not_lt.mp (Int.not_lt.mpr h0)) rfl rfl rfl (Nat.le_of_ble_eq_true rfl) (Nat.le_of_ble_eq_true rfl) (Nat.le_of_ble_eq_true rfl) (Nat.le_of_ble_eq_true rfl) (Nat.le_of_ble_eq_true rfl) dX8_consign_161 (fun z3 v3 hz3 => ?_)
    refine g_if_eq F rfl (tgt := 202) rfl dX8_consign_164 (fun n4 => ?_) (fun n4 => ?_)
    · exact g_return F rfl (Nat.le_of_ble_eq_true rfl) (Nat.le_of_ble_eq_true rfl) dX8_consign_202
    · exact g_none
  · refine g_aload_n F rfl 0 rfl dX8_consign_8 ?_
    refine g_iload_n F rfl 2 rfl rfl dX8_consign_9 ?_
    refine g_callV F (by decide) (K := 8) (b := a0) [(0, a2)] [0] ml_RX8_154 wi_X8_isParty ws_X8_isParty (c_X8_isParty a0 a2 (Int.not_lt.mp (Int.not_lt.mpr h0))) mi_X8_isParty (by decide) ⟨_, rfl, rfl⟩ (Int.not_lt.mp (Int.not_lt.mpr h0)) rfl rfl rfl (Nat.le_of_ble_eq_true rfl) (Nat.le_of_ble_eq_true rfl) (Nat.le_of_ble_eq_true rfl) (Nat.le_of_ble_eq_true rfl) (Nat.le_of_ble_eq_true rfl) dX8_consign_10 (fun z5 v5 hz5 => ?_)
    refine g_if_eq F rfl (tgt := 20) rfl dX8_consign_13 (fun n6 => ?_) (fun n6 => ?_)
    · refine g_iconst F 2 rfl dX8_consign_20 ?_
      refine g_istore F rfl (Nat.le_of_ble_eq_true rfl) (ls' := [(6, (2, 0)), (0, (18, a0)), (1, (0, a1)), (2, (0, a2)), (3, (0, a3)), (4, (0, a4)), (5, (0, a5))]) rfl dX8_consign_21 ?_
      refine g_iload F 0 rfl rfl dX8_consign_23 ?_
      refine g_if_eq_t F rfl (by decide) (tgt := 75) rfl dX8_consign_25 ?_
      refine g_iconst F 2 rfl dX8_consign_75 ?_
      refine g_istore F rfl (Nat.le_of_ble_eq_true rfl) (ls' := [(7, (2, 0)), (6, (2, 0)), (0, (18, a0)), (1, (0, a1)), (2, (0, a2)), (3, (0, a3)), (4, (0, a4)), (5, (0, a5))]) rfl dX8_consign_76 ?_
      refine g_iload F 0 rfl rfl dX8_consign_78 ?_
      refine g_if_eq_t F rfl (by decide) (tgt := 129) rfl dX8_consign_80 ?_
      refine g_iconst F 2 rfl dX8_consign_129 ?_
      refine g_istore F rfl (Nat.le_of_ble_eq_true rfl) (ls' := [(8, (2, 0)), (7, (2, 0)), (6, (2, 0)), (0, (18, a0)), (1, (0, a1)), (2, (0, a2)), (3, (0, a3)), (4, (0, a4)), (5, (0, a5))]) rfl dX8_consign_130 ?_
      refine g_aload_n F rfl 3 rfl dX8_consign_132 ?_
      refine g_iload F 2 rfl rfl dX8_consign_133 ?_
      refine g_if_ne_f F rfl (by decide) (tgt := 142) rfl dX8_consign_135 ?_
      refine g_iconst F 2 rfl dX8_consign_138 ?_
      refine g_goto F (tgt := 161) rfl dX8_consign_139 ?_
      refine g_callV F (by decide) (K := 8) (b := a0) [(2, 1)] [0] ml_RX8_151 wi_X8_holds ws_X8_holds (c_X8_holds a0 1 (Int.not_lt.mp (Int.not_lt.mpr h0))) mi_X8_holds (by decide) ⟨_, rfl, rfl⟩ (Int.not_lt.mp (Int.not_lt.mpr h0)) rfl rfl rfl (Nat.le_of_ble_eq_true rfl) (Nat.le_of_ble_eq_true rfl) (Nat.le_of_ble_eq_true rfl) (Nat.le_of_ble_eq_true rfl) (Nat.le_of_ble_eq_true rfl) dX8_consign_161 (fun z7 v7 hz7 => ?_)
      refine g_if_eq F rfl (tgt := 202) rfl dX8_consign_164 (fun n8 => ?_) (fun n8 => ?_)
      · exact g_return F rfl (Nat.le_of_ble_eq_true rfl) (Nat.le_of_ble_eq_true rfl) dX8_consign_202
      · exact g_none
    · refine g_iconst F 2 rfl dX8_consign_16 ?_
      refine g_goto F (tgt := 21) rfl dX8_consign_17 ?_
      refine g_istore F rfl (Nat.le_of_ble_eq_true rfl) (ls' := [(6, (2, 1)), (0, (18, a0)), (1, (0, a1)), (2, (0, a2)), (3, (0, a3)), (4, (0, a4)), (5, (0, a5))]) rfl dX8_consign_21 ?_
      refine g_iload F 0 rfl rfl dX8_consign_23 ?_
      refine g_if_eq_f F rfl (by decide) (tgt := 75) rfl dX8_consign_25 ?_
      refine g_iload_n F rfl 4 rfl rfl dX8_consign_28 ?_
      refine g_iconst F 2 rfl dX8_consign_29 ?_
      refine g_ldc F rfl cn_RX8_150 dX8_consign_30 ?_
      refine g_callS F (by decide) [(0, a3), (2, 0), (0, 1000000)] [0, 0, 0] ml_RX8_133 wt_X8_in (c_X8_in a3 0 1000000) mi_X8_in rfl rfl rfl (Nat.le_of_ble_eq_true rfl) (Nat.le_of_ble_eq_true rfl) (Nat.le_of_ble_eq_true rfl) (Nat.le_of_ble_eq_true rfl) (Nat.le_of_ble_eq_true rfl) dX8_consign_32 (fun z9 v9 hz9 => ?_)
      refine g_if_eq F rfl (tgt := 75) rfl dX8_consign_35 (fun n10 => ?_) (fun n10 => ?_)
      · refine g_iconst F 2 rfl dX8_consign_75 ?_
        refine g_istore F rfl (Nat.le_of_ble_eq_true rfl) (ls' := [(7, (2, 0)), (6, (2, 1)), (0, (18, a0)), (1, (0, a1)), (2, (0, a2)), (3, (0, a3)), (4, (0, a4)), (5, (0, a5))]) rfl dX8_consign_76 ?_
        refine g_iload F 0 rfl rfl dX8_consign_78 ?_
        refine g_if_eq_t F rfl (by decide) (tgt := 129) rfl dX8_consign_80 ?_
        refine g_iconst F 2 rfl dX8_consign_129 ?_
        refine g_istore F rfl (Nat.le_of_ble_eq_true rfl) (ls' := [(8, (2, 0)), (7, (2, 0)), (6, (2, 1)), (0, (18, a0)), (1, (0, a1)), (2, (0, a2)), (3, (0, a3)), (4, (0, a4)), (5, (0, a5))]) rfl dX8_consign_130 ?_
        refine g_aload_n F rfl 3 rfl dX8_consign_132 ?_
        refine g_iload F 2 rfl rfl dX8_consign_133 ?_
        refine g_if_ne_t F rfl (by decide) (tgt := 142) rfl dX8_consign_135 ?_
        refine g_iload F 1 rfl rfl dX8_consign_142 ?_
        refine g_if_ne_f F rfl (by decide) (tgt := 151) rfl dX8_consign_144 ?_
        refine g_iconst F 0 rfl dX8_consign_147 ?_
        refine g_goto F (tgt := 161) rfl dX8_consign_148 ?_
        refine g_callV F (by decide) (K := 8) (b := a0) [(0, 2)] [0] ml_RX8_151 wi_X8_holds ws_X8_holds (c_X8_holds a0 2 (Int.not_lt.mp (Int.not_lt.mpr h0))) mi_X8_holds (by decide) ⟨_, rfl, rfl⟩ (Int.not_lt.mp (Int.not_lt.mpr h0)) rfl rfl rfl (Nat.le_of_ble_eq_true rfl) (Nat.le_of_ble_eq_true rfl) (Nat.le_of_ble_eq_true rfl) (Nat.le_of_ble_eq_true rfl) (Nat.le_of_ble_eq_true rfl) dX8_consign_161 (fun z11 v11 hz11 => ?_)
        refine g_if_eq F rfl (tgt := 202) rfl dX8_consign_164 (fun n12 => ?_) (fun n12 => ?_)
        · exact g_return F rfl (Nat.le_of_ble_eq_true rfl) (Nat.le_of_ble_eq_true rfl) dX8_consign_202
        · exact g_none
      · refine g_iload F 5 rfl rfl dX8_consign_38 ?_
        refine g_iconst F 2 rfl dX8_consign_40 ?_
        refine g_bipush F rfl (by decide) dX8_consign_41 ?_
        refine g_callS F (by decide) [(0, a4), (2, 0), (0, 50)] [0, 0, 0] ml_RX8_133 wt_X8_in (c_X8_in a4 0 50) mi_X8_in rfl rfl rfl (Nat.le_of_ble_eq_true rfl) (Nat.le_of_ble_eq_true rfl) (Nat.le_of_ble_eq_true rfl) (Nat.le_of_ble_eq_true rfl) (Nat.le_of_ble_eq_true rfl) dX8_consign_43 (fun z13 v13 hz13 => ?_)
        refine g_if_eq F rfl (tgt := 75) rfl dX8_consign_46 (fun n14 => ?_) (fun n14 => ?_)
        · refine g_iconst F 2 rfl dX8_consign_75 ?_
          refine g_istore F rfl (Nat.le_of_ble_eq_true rfl) (ls' := [(7, (2, 0)), (6, (2, 1)), (0, (18, a0)), (1, (0, a1)), (2, (0, a2)), (3, (0, a3)), (4, (0, a4)), (5, (0, a5))]) rfl dX8_consign_76 ?_
          refine g_iload F 0 rfl rfl dX8_consign_78 ?_
          refine g_if_eq_t F rfl (by decide) (tgt := 129) rfl dX8_consign_80 ?_
          refine g_iconst F 2 rfl dX8_consign_129 ?_
          refine g_istore F rfl (Nat.le_of_ble_eq_true rfl) (ls' := [(8, (2, 0)), (7, (2, 0)), (6, (2, 1)), (0, (18, a0)), (1, (0, a1)), (2, (0, a2)), (3, (0, a3)), (4, (0, a4)), (5, (0, a5))]) rfl dX8_consign_130 ?_
          refine g_aload_n F rfl 3 rfl dX8_consign_132 ?_
          refine g_iload F 2 rfl rfl dX8_consign_133 ?_
          refine g_if_ne_t F rfl (by decide) (tgt := 142) rfl dX8_consign_135 ?_
          refine g_iload F 1 rfl rfl dX8_consign_142 ?_
          refine g_if_ne_f F rfl (by decide) (tgt := 151) rfl dX8_consign_144 ?_
          refine g_iconst F 0 rfl dX8_consign_147 ?_
          refine g_goto F (tgt := 161) rfl dX8_consign_148 ?_
          refine g_callV F (by decide) (K := 8) (b := a0) [(0, 2)] [0] ml_RX8_151 wi_X8_holds ws_X8_holds (c_X8_holds a0 2 (Int.not_lt.mp (Int.not_lt.mpr h0))) mi_X8_holds (by decide) ⟨_, rfl, rfl⟩ (Int.not_lt.mp (Int.not_lt.mpr h0)) rfl rfl rfl (Nat.le_of_ble_eq_true rfl) (Nat.le_of_ble_eq_true rfl) (Nat.le_of_ble_eq_true rfl) (Nat.le_of_ble_eq_true rfl) (Nat.le_of_ble_eq_true rfl) dX8_consign_161 (fun z15 v15 hz15 => ?_)
          refine g_if_eq F rfl (tgt := 202) rfl dX8_consign_164 (fun n16 => ?_) (fun n16 => ?_)
          · exact g_return F rfl (Nat.le_of_ble_eq_true rfl) (Nat.le_of_ble_eq_true rfl) dX8_consign_202
          · exact g_none
        · refine g_iload F 6 rfl rfl dX8_consign_49 ?_
          refine g_iconst F 2 rfl dX8_consign_51 ?_
          refine g_sipush F rfl (by decide) dX8_consign_52 ?_
          refine g_callS F (by decide) [(0, a5), (2, 0), (0, 1000)] [0, 0, 0] ml_RX8_133 wt_X8_in (c_X8_in a5 0 1000) mi_X8_in rfl rfl rfl (Nat.le_of_ble_eq_true rfl) (Nat.le_of_ble_eq_true rfl) (Nat.le_of_ble_eq_true rfl) (Nat.le_of_ble_eq_true rfl) (Nat.le_of_ble_eq_true rfl) dX8_consign_55 (fun z17 v17 hz17 => ?_)
          refine g_if_eq F rfl (tgt := 75) rfl dX8_consign_58 (fun n18 => ?_) (fun n18 => ?_)
          · refine g_iconst F 2 rfl dX8_consign_75 ?_
            refine g_istore F rfl (Nat.le_of_ble_eq_true rfl) (ls' := [(7, (2, 0)), (6, (2, 1)), (0, (18, a0)), (1, (0, a1)), (2, (0, a2)), (3, (0, a3)), (4, (0, a4)), (5, (0, a5))]) rfl dX8_consign_76 ?_
            refine g_iload F 0 rfl rfl dX8_consign_78 ?_
            refine g_if_eq_t F rfl (by decide) (tgt := 129) rfl dX8_consign_80 ?_
            refine g_iconst F 2 rfl dX8_consign_129 ?_
            refine g_istore F rfl (Nat.le_of_ble_eq_true rfl) (ls' := [(8, (2, 0)), (7, (2, 0)), (6, (2, 1)), (0, (18, a0)), (1, (0, a1)), (2, (0, a2)), (3, (0, a3)), (4, (0, a4)), (5, (0, a5))]) rfl dX8_consign_130 ?_
            refine g_aload_n F rfl 3 rfl dX8_consign_132 ?_
            refine g_iload F 2 rfl rfl dX8_consign_133 ?_
            refine g_if_ne_t F rfl (by decide) (tgt := 142) rfl dX8_consign_135 ?_
            refine g_iload F 1 rfl rfl dX8_consign_142 ?_
            refine g_if_ne_f F rfl (by decide) (tgt := 151) rfl dX8_consign_144 ?_
            refine g_iconst F 0 rfl dX8_consign_147 ?_
            refine g_goto F (tgt := 161) rfl dX8_consign_148 ?_
            refine g_callV F (by decide) (K := 8) (b := a0) [(0, 2)] [0] ml_RX8_151 wi_X8_holds ws_X8_holds (c_X8_holds a0 2 (Int.not_lt.mp (Int.not_lt.mpr h0))) mi_X8_holds (by decide) ⟨_, rfl, rfl⟩ (Int.not_lt.mp (Int.not_lt.mpr h0)) rfl rfl rfl (Nat.le_of_ble_eq_true rfl) (Nat.le_of_ble_eq_true rfl) (Nat.le_of_ble_eq_true rfl) (Nat.le_of_ble_eq_true rfl) (Nat.le_of_ble_eq_true rfl) dX8_consign_161 (fun z19 v19 hz19 => ?_)
            refine g_if_eq F rfl (tgt := 202) rfl dX8_consign_164 (fun n20 => ?_) (fun n20 => ?_)
            · exact g_return F rfl (Nat.le_of_ble_eq_true rfl) (Nat.le_of_ble_eq_true rfl) dX8_consign_202
            · exact g_none
          · refine g_iload_n F rfl 3 rfl rfl dX8_consign_61 ?_
            refine g_aload_n F rfl 1 rfl dX8_consign_62 ?_
            refine g_get F (t := 73) (sI := 23) fl_RX8_66 rfl rfl (Int.not_lt.mp (Int.not_lt.mpr h0)) dX8_consign_63 ?_
            refine g_iload_n F rfl 2 rfl rfl dX8_consign_66 ?_
            refine g_chk (fun n21 => ?_)
            refine g_chk (fun n22 => ?_)
            refine h_iald F (n := 60) ak_63 (Int.not_lt.mp (Int.not_lt.mpr n21)) n22 rfl dX8_consign_67 ?_
            refine g_icmp_eq F rfl rfl (tgt := 75) rfl dX8_consign_68 (fun n23 => ?_) (fun n23 => ?_)
            · refine g_iconst F 2 rfl dX8_consign_75 ?_
              refine g_istore F rfl (Nat.le_of_ble_eq_true rfl) (ls' := [(7, (2, 0)), (6, (2, 1)), (0, (18, a0)), (1, (0, a1)), (2, (0, a2)), (3, (0, a3)), (4, (0, a4)), (5, (0, a5))]) rfl dX8_consign_76 ?_
              refine g_iload F 0 rfl rfl dX8_consign_78 ?_
              refine g_if_eq_t F rfl (by decide) (tgt := 129) rfl dX8_consign_80 ?_
              refine g_iconst F 2 rfl dX8_consign_129 ?_
              refine g_istore F rfl (Nat.le_of_ble_eq_true rfl) (ls' := [(8, (2, 0)), (7, (2, 0)), (6, (2, 1)), (0, (18, a0)), (1, (0, a1)), (2, (0, a2)), (3, (0, a3)), (4, (0, a4)), (5, (0, a5))]) rfl dX8_consign_130 ?_
              refine g_aload_n F rfl 3 rfl dX8_consign_132 ?_
              refine g_iload F 2 rfl rfl dX8_consign_133 ?_
              refine g_if_ne_t F rfl (by decide) (tgt := 142) rfl dX8_consign_135 ?_
              refine g_iload F 1 rfl rfl dX8_consign_142 ?_
              refine g_if_ne_f F rfl (by decide) (tgt := 151) rfl dX8_consign_144 ?_
              refine g_iconst F 0 rfl dX8_consign_147 ?_
              refine g_goto F (tgt := 161) rfl dX8_consign_148 ?_
              refine g_callV F (by decide) (K := 8) (b := a0) [(0, 2)] [0] ml_RX8_151 wi_X8_holds ws_X8_holds (c_X8_holds a0 2 (Int.not_lt.mp (Int.not_lt.mpr h0))) mi_X8_holds (by decide) ⟨_, rfl, rfl⟩ (Int.not_lt.mp (Int.not_lt.mpr h0)) rfl rfl rfl (Nat.le_of_ble_eq_true rfl) (Nat.le_of_ble_eq_true rfl) (Nat.le_of_ble_eq_true rfl) (Nat.le_of_ble_eq_true rfl) (Nat.le_of_ble_eq_true rfl) dX8_consign_161 (fun z24 v24 hz24 => ?_)
              refine g_if_eq F rfl (tgt := 202) rfl dX8_consign_164 (fun n25 => ?_) (fun n25 => ?_)
              · exact g_return F rfl (Nat.le_of_ble_eq_true rfl) (Nat.le_of_ble_eq_true rfl) dX8_consign_202
              · exact g_none
            · refine g_iconst F 2 rfl dX8_consign_71 ?_
              refine g_goto F (tgt := 76) rfl dX8_consign_72 ?_
              refine g_istore F rfl (Nat.le_of_ble_eq_true rfl) (ls' := [(7, (2, 1)), (6, (2, 1)), (0, (18, a0)), (1, (0, a1)), (2, (0, a2)), (3, (0, a3)), (4, (0, a4)), (5, (0, a5))]) rfl dX8_consign_76 ?_
              refine g_iload F 0 rfl rfl dX8_consign_78 ?_
              refine g_if_eq_f F rfl (by decide) (tgt := 129) rfl dX8_consign_80 ?_
              refine g_aload_n F rfl 2 rfl dX8_consign_83 ?_
              refine g_get F (t := 74) (sI := 24) fl_RX8_69 rfl rfl (Int.not_lt.mp (Int.not_lt.mpr h0)) dX8_consign_84 ?_
              refine g_iload_n F rfl 3 rfl rfl dX8_consign_87 ?_
              refine g_chk (fun n26 => ?_)
              refine h_iald F (n := 60) ak_64 (Int.not_lt.mp (Int.not_lt.mpr n26)) n22 rfl dX8_consign_88 ?_
              refine g_if_le F rfl (tgt := 129) rfl dX8_consign_89 (fun n27 => ?_) (fun n27 => ?_)
              · refine g_iconst F 2 rfl dX8_consign_129 ?_
                refine g_istore F rfl (Nat.le_of_ble_eq_true rfl) (ls' := [(8, (2, 0)), (7, (2, 1)), (6, (2, 1)), (0, (18, a0)), (1, (0, a1)), (2, (0, a2)), (3, (0, a3)), (4, (0, a4)), (5, (0, a5))]) rfl dX8_consign_130 ?_
                refine g_aload_n F rfl 3 rfl dX8_consign_132 ?_
                refine g_iload F 2 rfl rfl dX8_consign_133 ?_
                refine g_if_ne_t F rfl (by decide) (tgt := 142) rfl dX8_consign_135 ?_
                refine g_iload F 1 rfl rfl dX8_consign_142 ?_
                refine g_if_ne_t F rfl (by decide) (tgt := 151) rfl dX8_consign_144 ?_
                refine g_iload F 0 rfl rfl dX8_consign_151 ?_
                refine g_if_eq_t F rfl (by decide) (tgt := 160) rfl dX8_consign_153 ?_
                refine g_iconst F 0 rfl dX8_consign_160 ?_
                refine g_callV F (by decide) (K := 8) (b := a0) [(0, 3)] [0] ml_RX8_151 wi_X8_holds ws_X8_holds (c_X8_holds a0 3 (Int.not_lt.mp (Int.not_lt.mpr h0))) mi_X8_holds (by decide) ⟨_, rfl, rfl⟩ (Int.not_lt.mp (Int.not_lt.mpr h0)) rfl rfl rfl (Nat.le_of_ble_eq_true rfl) (Nat.le_of_ble_eq_true rfl) (Nat.le_of_ble_eq_true rfl) (Nat.le_of_ble_eq_true rfl) (Nat.le_of_ble_eq_true rfl) dX8_consign_161 (fun z28 v28 hz28 => ?_)
                refine g_if_eq F rfl (tgt := 202) rfl dX8_consign_164 (fun n29 => ?_) (fun n29 => ?_)
                · exact g_return F rfl (Nat.le_of_ble_eq_true rfl) (Nat.le_of_ble_eq_true rfl) dX8_consign_202
                · exact g_none
              · refine g_aload_n F rfl 2 rfl dX8_consign_92 ?_
                refine g_get F (t := 76) (sI := 26) fl_RX8_75 rfl rfl (Int.not_lt.mp (Int.not_lt.mpr h0)) dX8_consign_93 ?_
                refine g_iload_n F rfl 3 rfl rfl dX8_consign_96 ?_
                refine g_chk (fun n30 => ?_)
                refine h_iald F (n := 60) ak_66 (Int.not_lt.mp (Int.not_lt.mpr n30)) n22 rfl dX8_consign_97 ?_
                refine g_iconst F 0 rfl dX8_consign_98 ?_
                refine g_icmp_ne F rfl rfl (tgt := 129) rfl dX8_consign_99 (fun n31 => ?_) (fun n31 => ?_)
                · refine g_iconst F 2 rfl dX8_consign_129 ?_
                  refine g_istore F rfl (Nat.le_of_ble_eq_true rfl) (ls' := [(8, (2, 0)), (7, (2, 1)), (6, (2, 1)), (0, (18, a0)), (1, (0, a1)), (2, (0, a2)), (3, (0, a3)), (4, (0, a4)), (5, (0, a5))]) rfl dX8_consign_130 ?_
                  refine g_aload_n F rfl 3 rfl dX8_consign_132 ?_
                  refine g_iload F 2 rfl rfl dX8_consign_133 ?_
                  refine g_if_ne_t F rfl (by decide) (tgt := 142) rfl dX8_consign_135 ?_
                  refine g_iload F 1 rfl rfl dX8_consign_142 ?_
                  refine g_if_ne_t F rfl (by decide) (tgt := 151) rfl dX8_consign_144 ?_
                  refine g_iload F 0 rfl rfl dX8_consign_151 ?_
                  refine g_if_eq_t F rfl (by decide) (tgt := 160) rfl dX8_consign_153 ?_
                  refine g_iconst F 0 rfl dX8_consign_160 ?_
                  refine g_callV F (by decide) (K := 8) (b := a0) [(0, 3)] [0] ml_RX8_151 wi_X8_holds ws_X8_holds (c_X8_holds a0 3 (Int.not_lt.mp (Int.not_lt.mpr h0))) mi_X8_holds (by decide) ⟨_, rfl, rfl⟩ (Int.not_lt.mp (Int.not_lt.mpr h0)) rfl rfl rfl (Nat.le_of_ble_eq_true rfl) (Nat.le_of_ble_eq_true rfl) (Nat.le_of_ble_eq_true rfl) (Nat.le_of_ble_eq_true rfl) (Nat.le_of_ble_eq_true rfl) dX8_consign_161 (fun z32 v32 hz32 => ?_)
                  refine g_if_eq F rfl (tgt := 202) rfl dX8_consign_164 (fun n33 => ?_) (fun n33 => ?_)
                  · exact g_return F rfl (Nat.le_of_ble_eq_true rfl) (Nat.le_of_ble_eq_true rfl) dX8_consign_202
                  · exact g_none
                · refine g_aload_n F rfl 2 rfl dX8_consign_102 ?_
                  refine g_get F (t := 55) (sI := 5) fl_RX8_17 rfl rfl (Int.not_lt.mp (Int.not_lt.mpr h0)) dX8_consign_103 ?_
                  refine g_iload_n F rfl 4 rfl rfl dX8_consign_106 ?_
                  refine g_chk (fun n34 => ?_)
                  refine g_chk (fun n35 => ?_)
                  refine h_zald F (n := 10) ak_45 (Int.not_lt.mp (Int.not_lt.mpr n34)) n35 rfl dX8_consign_107 ?_
                  refine g_if_ne F rfl (tgt := 129) rfl dX8_consign_108 (fun n36 => ?_) (fun n36 => ?_)
                  · refine g_iconst F 2 rfl dX8_consign_129 ?_
                    refine g_istore F rfl (Nat.le_of_ble_eq_true rfl) (ls' := [(8, (2, 0)), (7, (2, 1)), (6, (2, 1)), (0, (18, a0)), (1, (0, a1)), (2, (0, a2)), (3, (0, a3)), (4, (0, a4)), (5, (0, a5))]) rfl dX8_consign_130 ?_
                    refine g_aload_n F rfl 3 rfl dX8_consign_132 ?_
                    refine g_iload F 2 rfl rfl dX8_consign_133 ?_
                    refine g_if_ne_t F rfl (by decide) (tgt := 142) rfl dX8_consign_135 ?_
                    refine g_iload F 1 rfl rfl dX8_consign_142 ?_
                    refine g_if_ne_t F rfl (by decide) (tgt := 151) rfl dX8_consign_144 ?_
                    refine g_iload F 0 rfl rfl dX8_consign_151 ?_
                    refine g_if_eq_t F rfl (by decide) (tgt := 160) rfl dX8_consign_153 ?_
                    refine g_iconst F 0 rfl dX8_consign_160 ?_
                    refine g_callV F (by decide) (K := 8) (b := a0) [(0, 3)] [0] ml_RX8_151 wi_X8_holds ws_X8_holds (c_X8_holds a0 3 (Int.not_lt.mp (Int.not_lt.mpr h0))) mi_X8_holds (by decide) ⟨_, rfl, rfl⟩ (Int.not_lt.mp (Int.not_lt.mpr h0)) rfl rfl rfl (Nat.le_of_ble_eq_true rfl) (Nat.le_of_ble_eq_true rfl) (Nat.le_of_ble_eq_true rfl) (Nat.le_of_ble_eq_true rfl) (Nat.le_of_ble_eq_true rfl) dX8_consign_161 (fun z37 v37 hz37 => ?_)
                    refine g_if_eq F rfl (tgt := 202) rfl dX8_consign_164 (fun n38 => ?_) (fun n38 => ?_)
                    · exact g_return F rfl (Nat.le_of_ble_eq_true rfl) (Nat.le_of_ble_eq_true rfl) dX8_consign_202
                    · exact g_none
                  · refine g_aload_n F rfl 2 rfl dX8_consign_111 ?_
                    refine g_get F (t := 55) (sI := 5) fl_RX8_17 rfl rfl (Int.not_lt.mp (Int.not_lt.mpr h0)) dX8_consign_112 ?_
                    refine g_aload_n F rfl 2 rfl dX8_consign_115 ?_
                    refine g_get F (t := 73) (sI := 23) fl_RX8_66 rfl rfl (Int.not_lt.mp (Int.not_lt.mpr h0)) dX8_consign_116 ?_
                    refine g_iload_n F rfl 3 rfl rfl dX8_consign_119 ?_
                    refine h_iald F (n := 60) ak_63 (Int.not_lt.mp (Int.not_lt.mpr n21)) n22 rfl dX8_consign_120 ?_
                    refine g_chk (fun n39 => ?_)
                    refine h_zald F (n := 10) ak_45 (Int.not_lt.mp (Int.not_lt.mpr n34)) n39 rfl dX8_consign_121 ?_
                    refine g_if_ne F rfl (tgt := 129) rfl dX8_consign_122 (fun n40 => ?_) (fun n40 => ?_)
                    · refine g_iconst F 2 rfl dX8_consign_129 ?_
                      refine g_istore F rfl (Nat.le_of_ble_eq_true rfl) (ls' := [(8, (2, 0)), (7, (2, 1)), (6, (2, 1)), (0, (18, a0)), (1, (0, a1)), (2, (0, a2)), (3, (0, a3)), (4, (0, a4)), (5, (0, a5))]) rfl dX8_consign_130 ?_
                      refine g_aload_n F rfl 3 rfl dX8_consign_132 ?_
                      refine g_iload F 2 rfl rfl dX8_consign_133 ?_
                      refine g_if_ne_t F rfl (by decide) (tgt := 142) rfl dX8_consign_135 ?_
                      refine g_iload F 1 rfl rfl dX8_consign_142 ?_
                      refine g_if_ne_t F rfl (by decide) (tgt := 151) rfl dX8_consign_144 ?_
                      refine g_iload F 0 rfl rfl dX8_consign_151 ?_
                      refine g_if_eq_t F rfl (by decide) (tgt := 160) rfl dX8_consign_153 ?_
                      refine g_iconst F 0 rfl dX8_consign_160 ?_
                      refine g_callV F (by decide) (K := 8) (b := a0) [(0, 3)] [0] ml_RX8_151 wi_X8_holds ws_X8_holds (c_X8_holds a0 3 (Int.not_lt.mp (Int.not_lt.mpr h0))) mi_X8_holds (by decide) ⟨_, rfl, rfl⟩ (Int.not_lt.mp (Int.not_lt.mpr h0)) rfl rfl rfl (Nat.le_of_ble_eq_true rfl) (Nat.le_of_ble_eq_true rfl) (Nat.le_of_ble_eq_true rfl) (Nat.le_of_ble_eq_true rfl) (Nat.le_of_ble_eq_true rfl) dX8_consign_161 (fun z41 v41 hz41 => ?_)
                      refine g_if_eq F rfl (tgt := 202) rfl dX8_consign_164 (fun n42 => ?_) (fun n42 => ?_)
                      · exact g_return F rfl (Nat.le_of_ble_eq_true rfl) (Nat.le_of_ble_eq_true rfl) dX8_consign_202
                      · exact g_none
                    · refine g_iconst F 2 rfl dX8_consign_125 ?_
                      refine g_goto F (tgt := 130) rfl dX8_consign_126 ?_
                      refine g_istore F rfl (Nat.le_of_ble_eq_true rfl) (ls' := [(8, (2, 1)), (7, (2, 1)), (6, (2, 1)), (0, (18, a0)), (1, (0, a1)), (2, (0, a2)), (3, (0, a3)), (4, (0, a4)), (5, (0, a5))]) rfl dX8_consign_130 ?_
                      refine g_aload_n F rfl 3 rfl dX8_consign_132 ?_
                      refine g_iload F 2 rfl rfl dX8_consign_133 ?_
                      refine g_if_ne_t F rfl (by decide) (tgt := 142) rfl dX8_consign_135 ?_
                      refine g_iload F 1 rfl rfl dX8_consign_142 ?_
                      refine g_if_ne_t F rfl (by decide) (tgt := 151) rfl dX8_consign_144 ?_
                      refine g_iload F 0 rfl rfl dX8_consign_151 ?_
                      refine g_if_eq_f F rfl (by decide) (tgt := 160) rfl dX8_consign_153 ?_
                      refine g_iconst F 2 rfl dX8_consign_156 ?_
                      refine g_goto F (tgt := 161) rfl dX8_consign_157 ?_
                      refine g_callV F (by decide) (K := 8) (b := a0) [(2, 0)] [0] ml_RX8_151 wi_X8_holds ws_X8_holds (c_X8_holds a0 0 (Int.not_lt.mp (Int.not_lt.mpr h0))) mi_X8_holds (by decide) ⟨_, rfl, rfl⟩ (Int.not_lt.mp (Int.not_lt.mpr h0)) rfl rfl rfl (Nat.le_of_ble_eq_true rfl) (Nat.le_of_ble_eq_true rfl) (Nat.le_of_ble_eq_true rfl) (Nat.le_of_ble_eq_true rfl) (Nat.le_of_ble_eq_true rfl) dX8_consign_161 (fun z43 v43 hz43 => ?_)
                      refine g_if_eq F rfl (tgt := 202) rfl dX8_consign_164 (fun n44 => ?_) (fun n44 => ?_)
                      · exact g_none
                      · refine g_aload_n F rfl 3 rfl dX8_consign_167 ?_
                        refine g_get F (t := 76) (sI := 26) fl_RX8_75 rfl rfl (Int.not_lt.mp (Int.not_lt.mpr h0)) dX8_consign_168 ?_
                        refine g_iload_n F rfl 4 rfl rfl dX8_consign_171 ?_
                        refine g_iload_n F rfl 5 rfl rfl dX8_consign_172 ?_
                        refine g_chk (fun n45 => ?_)
                        refine h_iast F (n := 60) ak_66 rfl (Int.not_lt.mp (Int.not_lt.mpr n45)) n22 rfl dX8_consign_173 (fun v46 => ?_)
                        refine g_aload_n F rfl 3 rfl dX8_consign_174 ?_
                        refine g_get F (t := 77) (sI := 27) fl_RX8_78 rfl rfl (Int.not_lt.mp (Int.not_lt.mpr h0)) dX8_consign_175 ?_
                        refine g_iload_n F rfl 4 rfl rfl dX8_consign_178 ?_
                        refine g_iload_n F rfl 6 rfl rfl dX8_consign_179 ?_
                        refine g_chk (fun n47 => ?_)
                        refine h_iast F (n := 60) ak_67 rfl (Int.not_lt.mp (Int.not_lt.mpr n47)) n22 rfl dX8_consign_180 (fun v48 => ?_)
                        refine g_aload_n F rfl 3 rfl dX8_consign_181 ?_
                        refine g_get F (t := 78) (sI := 28) fl_RX8_81 rfl rfl (Int.not_lt.mp (Int.not_lt.mpr h0)) dX8_consign_182 ?_
                        refine g_iload_n F rfl 4 rfl rfl dX8_consign_185 ?_
                        refine g_iload F 7 rfl rfl dX8_consign_186 ?_
                        refine g_chk (fun n49 => ?_)
                        refine h_iast F (n := 60) ak_68 rfl (Int.not_lt.mp (Int.not_lt.mpr n49)) n22 rfl dX8_consign_188 (fun v50 => ?_)
                        refine g_aload_n F rfl 3 rfl dX8_consign_189 ?_
                        refine g_get F (t := 79) (sI := 29) fl_RX8_84 rfl rfl (Int.not_lt.mp (Int.not_lt.mpr h0)) dX8_consign_190 ?_
                        refine g_iload_n F rfl 4 rfl rfl dX8_consign_193 ?_
                        refine g_aload_n F rfl 3 rfl dX8_consign_194 ?_
                        refine g_get F (t := 0) (sI := 1) fl_RX8_164 rfl rfl (Int.not_lt.mp (Int.not_lt.mpr h0)) dX8_consign_195 ?_
                        refine g_iload F 8 rfl rfl dX8_consign_198 ?_
                        refine g_iadd F rfl rfl dX8_consign_200 ?_
                        refine g_chk (fun n51 => ?_)
                        refine h_iast F (n := 60) ak_69 rfl (Int.not_lt.mp (Int.not_lt.mpr n51)) n22 rfl dX8_consign_201 (fun v52 => ?_)
                        exact g_return F rfl (Nat.le_of_ble_eq_true rfl) (Nat.le_of_ble_eq_true rfl) dX8_consign_202
theorem c_X8_consign (a0 a1 a2 a3 a4 a5 : Int) (h0 : 0 ≤ a0) : ∀ l, Ct l yX8_consign cX8_consign 9 none ({ frames := 2, cells := 0, slots := 0, locals := 43 }) none [(18, a0), (0, a1), (0, a2), (0, a3), (0, a4), (0, a5)] (sp_X8_consign a0 a1 a2 a3 a4 a5) := g_method (by decide +kernel) (Nat.le_of_ble_eq_true rfl) (fun x v F ho => k_X8_consign a0 a1 a2 a3 a4 a5 h0 x v F ho)
def sp_X8_back (a0 a1 : Int) (v : V) : Res := (rB (sp_X8_isLot a0 a1 v) (fun z1 v1 => (if ¬ z1 = 0 then (chk (0 ≤ (v1 8 a0 26)) (chk (0 ≤ a1 ∧ a1 < 60) (if (v1 66 (v1 8 a0 26) a1) = (-1) then (rB (sp_X8_holds a0 2 v1) (fun z6 v6 => (if ¬ z6 = 0 then none
   else (rOk 0 v6))))
   else (chk (0 ≤ (v1 8 a0 29)) (if (v1 69 (v1 8 a0 29) a1) < (v1 8 a0 1) then (rB (sp_X8_holds a0 0 v1) (fun z10 v10 => (if ¬ z10 = 0 then (chk (0 ≤ (v10 8 a0 26)) (rLet (up v10 66 (v10 8 a0 26) a1 (-1)) (fun v13 => (rOk (v10 66 (v10 8 a0 26) a1) v13))))
   else none)))
   else (rB (sp_X8_holds a0 2 v1) (fun z14 v14 => (if ¬ z14 = 0 then none
   else (rOk 0 v14)))))))))
   else (rB (sp_X8_holds a0 1 v1) (fun z16 v16 => (if ¬ z16 = 0 then none
   else (rOk 0 v16)))))))
set_option maxRecDepth 100000 in
set_option maxHeartbeats 4000000 in
theorem k_X8_back (a0 a1 : Int) (h0 : 0 ≤ a0) (x : Cx) (v : V) (F : Fx x cX8_back RX8 "back" ({ frames := 2, cells := 0, slots := 0, locals := 43 }) 4 (some 0) (some .int) 0) (ho : ∀ a ∈ [(18, a0), (0, a1)], okv v a) : Gs x (sp_X8_back a0 a1 v) v 0 0 0 (avArgs 0 [(18, a0), (0, a1)]) [] := by
  show Gs x _ v 0 0 0 [(0, (18, a0)), (1, (0, a1))] []
  unfold sp_X8_back
  refine g_aload_n F rfl 0 rfl dX8_back_0 ?_
  refine g_iload_n F rfl 1 rfl rfl dX8_back_1 ?_
  refine g_callV F (by decide) (K := 8) (b := a0) [(0, a1)] [0] ml_RX8_191 wi_X8_isLot ws_X8_isLot (c_X8_isLot a0 a1 (Int.not_lt.mp (Int.not_lt.mpr h0))) mi_X8_isLot (by decide) ⟨_, rfl, rfl⟩ (Int.not_lt.mp (Int.not_lt.mpr h0)) rfl rfl rfl (Nat.le_of_ble_eq_true rfl) (Nat.le_of_ble_eq_true rfl) (Nat.le_of_ble_eq_true rfl) (Nat.le_of_ble_eq_true rfl) (Nat.le_of_ble_eq_true rfl) dX8_back_2 (fun z1 v1 hz1 => ?_)
  refine g_istore_n F rfl rfl (Nat.le_of_ble_eq_true rfl) (ls' := [(2, (2, z1)), (0, (18, a0)), (1, (0, a1))]) rfl dX8_back_5 ?_
  refine g_aload_n F rfl 1 rfl dX8_back_6 ?_
  refine g_iload_n F rfl 0 rfl rfl dX8_back_7 ?_
  refine g_if_ne F rfl (tgt := 15) rfl dX8_back_8 (fun n2 => ?_) (fun n2 => ?_)
  · refine g_aload_n F rfl 1 rfl dX8_back_15 ?_
    refine g_get F (t := 76) (sI := 26) fl_RX8_75 rfl rfl (Int.not_lt.mp (Int.not_lt.mpr h0)) dX8_back_16 ?_
    refine g_iload_n F rfl 2 rfl rfl dX8_back_19 ?_
    refine g_chk (fun n3 => ?_)
    refine g_chk (fun n4 => ?_)
    refine h_iald F (n := 60) ak_66 (Int.not_lt.mp (Int.not_lt.mpr n3)) n4 rfl dX8_back_20 ?_
    refine g_iconst F 0 rfl dX8_back_21 ?_
    refine g_icmp_eq F rfl rfl (tgt := 38) rfl dX8_back_22 (fun n5 => ?_) (fun n5 => ?_)
    · refine g_iconst F 0 rfl dX8_back_38 ?_
      refine g_goto F (tgt := 43) rfl dX8_back_39 ?_
      refine g_callV F (by decide) (K := 8) (b := a0) [(0, 2)] [0] ml_RX8_151 wi_X8_holds ws_X8_holds (c_X8_holds a0 2 (Int.not_lt.mp (Int.not_lt.mpr h0))) mi_X8_holds (by decide) ⟨_, rfl, rfl⟩ (Int.not_lt.mp (Int.not_lt.mpr h0)) rfl rfl rfl (Nat.le_of_ble_eq_true rfl) (Nat.le_of_ble_eq_true rfl) (Nat.le_of_ble_eq_true rfl) (Nat.le_of_ble_eq_true rfl) (Nat.le_of_ble_eq_true rfl) dX8_back_43 (fun z6 v6 hz6 => ?_)
      refine g_if_ne F rfl (tgt := 51) rfl dX8_back_46 (fun n7 => ?_) (fun n7 => ?_)
      · exact g_none
      · refine g_iconst F 2 rfl dX8_back_49 ?_
        exact g_ireturn F rfl rfl rfl rfl (Nat.le_of_ble_eq_true rfl) (Nat.le_of_ble_eq_true rfl) dX8_back_50
    · refine g_aload_n F rfl 1 rfl dX8_back_25 ?_
      refine g_get F (t := 0) (sI := 1) fl_RX8_164 rfl rfl (Int.not_lt.mp (Int.not_lt.mpr h0)) dX8_back_26 ?_
      refine g_aload_n F rfl 1 rfl dX8_back_29 ?_
      refine g_get F (t := 79) (sI := 29) fl_RX8_84 rfl rfl (Int.not_lt.mp (Int.not_lt.mpr h0)) dX8_back_30 ?_
      refine g_iload_n F rfl 2 rfl rfl dX8_back_33 ?_
      refine g_chk (fun n8 => ?_)
      refine h_iald F (n := 60) ak_69 (Int.not_lt.mp (Int.not_lt.mpr n8)) n4 rfl dX8_back_34 ?_
      refine g_icmp_gt F rfl rfl (tgt := 42) rfl dX8_back_35 (fun n9 => ?_) (fun n9 => ?_)
      · refine g_iconst F 2 rfl dX8_back_42 ?_
        refine g_callV F (by decide) (K := 8) (b := a0) [(2, 0)] [0] ml_RX8_151 wi_X8_holds ws_X8_holds (c_X8_holds a0 0 (Int.not_lt.mp (Int.not_lt.mpr h0))) mi_X8_holds (by decide) ⟨_, rfl, rfl⟩ (Int.not_lt.mp (Int.not_lt.mpr h0)) rfl rfl rfl (Nat.le_of_ble_eq_true rfl) (Nat.le_of_ble_eq_true rfl) (Nat.le_of_ble_eq_true rfl) (Nat.le_of_ble_eq_true rfl) (Nat.le_of_ble_eq_true rfl) dX8_back_43 (fun z10 v10 hz10 => ?_)
        refine g_if_ne F rfl (tgt := 51) rfl dX8_back_46 (fun n11 => ?_) (fun n11 => ?_)
        · refine g_aload_n F rfl 1 rfl dX8_back_51 ?_
          refine g_get F (t := 76) (sI := 26) fl_RX8_75 rfl rfl (Int.not_lt.mp (Int.not_lt.mpr h0)) dX8_back_52 ?_
          refine g_iload_n F rfl 2 rfl rfl dX8_back_55 ?_
          refine g_chk (fun n12 => ?_)
          refine h_iald F (n := 60) ak_66 (Int.not_lt.mp (Int.not_lt.mpr n12)) n4 rfl dX8_back_56 ?_
          refine g_istore_n F rfl rfl (Nat.le_of_ble_eq_true rfl) (ls' := [(3, (0, (v10 66 (v10 8 a0 26) a1))), (2, (2, z1)), (0, (18, a0)), (1, (0, a1))]) rfl dX8_back_57 ?_
          refine g_aload_n F rfl 2 rfl dX8_back_58 ?_
          refine g_get F (t := 76) (sI := 26) fl_RX8_75 rfl rfl (Int.not_lt.mp (Int.not_lt.mpr h0)) dX8_back_59 ?_
          refine g_iload_n F rfl 3 rfl rfl dX8_back_62 ?_
          refine g_iconst F 0 rfl dX8_back_63 ?_
          refine h_iast F (n := 60) ak_66 rfl (Int.not_lt.mp (Int.not_lt.mpr n12)) n4 rfl dX8_back_64 (fun v13 => ?_)
          refine g_iload_n F rfl 0 rfl rfl dX8_back_65 ?_
          exact g_ireturn F rfl rfl rfl rfl (Nat.le_of_ble_eq_true rfl) (Nat.le_of_ble_eq_true rfl) dX8_back_66
        · exact g_none
      · refine g_iconst F 0 rfl dX8_back_38 ?_
        refine g_goto F (tgt := 43) rfl dX8_back_39 ?_
        refine g_callV F (by decide) (K := 8) (b := a0) [(0, 2)] [0] ml_RX8_151 wi_X8_holds ws_X8_holds (c_X8_holds a0 2 (Int.not_lt.mp (Int.not_lt.mpr h0))) mi_X8_holds (by decide) ⟨_, rfl, rfl⟩ (Int.not_lt.mp (Int.not_lt.mpr h0)) rfl rfl rfl (Nat.le_of_ble_eq_true rfl) (Nat.le_of_ble_eq_true rfl) (Nat.le_of_ble_eq_true rfl) (Nat.le_of_ble_eq_true rfl) (Nat.le_of_ble_eq_true rfl) dX8_back_43 (fun z14 v14 hz14 => ?_)
        refine g_if_ne F rfl (tgt := 51) rfl dX8_back_46 (fun n15 => ?_) (fun n15 => ?_)
        · exact g_none
        · refine g_iconst F 2 rfl dX8_back_49 ?_
          exact g_ireturn F rfl rfl rfl rfl (Nat.le_of_ble_eq_true rfl) (Nat.le_of_ble_eq_true rfl) dX8_back_50
  · refine g_iconst F 2 rfl dX8_back_11 ?_
    refine g_goto F (tgt := 43) rfl dX8_back_12 ?_
    refine g_callV F (by decide) (K := 8) (b := a0) [(2, 1)] [0] ml_RX8_151 wi_X8_holds ws_X8_holds (c_X8_holds a0 1 (Int.not_lt.mp (Int.not_lt.mpr h0))) mi_X8_holds (by decide) ⟨_, rfl, rfl⟩ (Int.not_lt.mp (Int.not_lt.mpr h0)) rfl rfl rfl (Nat.le_of_ble_eq_true rfl) (Nat.le_of_ble_eq_true rfl) (Nat.le_of_ble_eq_true rfl) (Nat.le_of_ble_eq_true rfl) (Nat.le_of_ble_eq_true rfl) dX8_back_43 (fun z16 v16 hz16 => ?_)
    refine g_if_ne F rfl (tgt := 51) rfl dX8_back_46 (fun n17 => ?_) (fun n17 => ?_)
    · exact g_none
    · refine g_iconst F 2 rfl dX8_back_49 ?_
      exact g_ireturn F rfl rfl rfl rfl (Nat.le_of_ble_eq_true rfl) (Nat.le_of_ble_eq_true rfl) dX8_back_50
theorem c_X8_back (a0 a1 : Int) (h0 : 0 ≤ a0) : ∀ l, Ct l yX8_back cX8_back 4 (some .int) ({ frames := 2, cells := 0, slots := 0, locals := 43 }) (some 0) [(18, a0), (0, a1)] (sp_X8_back a0 a1) := g_method (by decide +kernel) (Nat.le_of_ble_eq_true rfl) (fun x v F ho => k_X8_back a0 a1 h0 x v F ho)
def sp_X8_deal (a0 a1 a2 a3 : Int) (v : V) : Res := (rB (sp_X8_isLot a0 a1 v) (fun z1 v1 => (if z1 = 0 then (rB (sp_X8_holds a0 1 v1) (fun z3 v3 => (if ¬ z3 = 0 then none
   else (rOk 0 v3))))
   else (rB (sp_X8_isParty a0 a2 v1) (fun z5 v5 => (if z5 = 0 then (rB (sp_X8_holds a0 1 v5) (fun z7 v7 => (if ¬ z7 = 0 then none
   else (rOk 0 v7))))
   else (rB (sp_X8_in a3 0 1000000 v5) (fun z9 v9 => (if z9 = 0 then (rB (sp_X8_holds a0 2 v9) (fun z11 v11 => (if ¬ z11 = 0 then none
   else (rOk 0 v11))))
   else (chk (0 ≤ (v9 8 a0 23)) (chk (0 ≤ a1 ∧ a1 < 60) (if a2 = (v9 63 (v9 8 a0 23) a1) then (rB (sp_X8_holds a0 2 v9) (fun z16 v16 => (if ¬ z16 = 0 then none
   else (rOk 0 v16))))
   else (chk (0 ≤ (v9 8 a0 26)) (if (v9 66 (v9 8 a0 26) a1) = (-1) then (rB (sp_X8_holds a0 3 v9) (fun z20 v20 => (if ¬ z20 = 0 then none
   else (rOk 0 v20))))
   else (chk (0 ≤ (v9 8 a0 27)) (if a3 < (v9 67 (v9 8 a0 27) a1) then (rB (sp_X8_holds a0 3 v9) (fun z24 v24 => (if ¬ z24 = 0 then none
   else (rOk 0 v24))))
   else (chk (0 ≤ (v9 8 a0 29)) (if (v9 69 (v9 8 a0 29) a1) < (v9 8 a0 1) then (rB (sp_X8_holds a0 3 v9) (fun z28 v28 => (if ¬ z28 = 0 then none
   else (rOk 0 v28))))
   else (chk (0 ≤ (v9 8 a0 5)) (chk (0 ≤ (v9 66 (v9 8 a0 26) a1) ∧ (v9 66 (v9 8 a0 26) a1) < 10) (if ¬ (v9 45 (v9 8 a0 5) (v9 66 (v9 8 a0 26) a1)) = 0 then (rB (sp_X8_holds a0 3 v9) (fun z33 v33 => (if ¬ z33 = 0 then none
   else (rOk 0 v33))))
   else (chk (0 ≤ (v9 63 (v9 8 a0 23) a1) ∧ (v9 63 (v9 8 a0 23) a1) < 10) (if ¬ (v9 45 (v9 8 a0 5) (v9 63 (v9 8 a0 23) a1)) = 0 then (rB (sp_X8_holds a0 3 v9) (fun z37 v37 => (if ¬ z37 = 0 then none
   else (rOk 0 v37))))
   else (chk (0 ≤ a2 ∧ a2 < 10) (if ¬ (v9 45 (v9 8 a0 5) a2) = 0 then (rB (sp_X8_holds a0 3 v9) (fun z41 v41 => (if ¬ z41 = 0 then none
   else (rOk 0 v41))))
   else (rB (sp_X8_isBarredBehind a0 a1 a2 a3 v9) (fun z43 v43 => (if z43 = 0 then (rB (sp_X8_holds a0 0 v43) (fun z45 v45 => (if ¬ z45 = 0 then (chk (0 ≤ (v45 8 a0 24)) (chk (0 ≤ (v45 8 a0 28)) (rB (sp_X8_goes a0 a1 (v45 64 (v45 8 a0 24) a1) a2 a3 (w32 ((w32 (a3 * (v45 68 (v45 8 a0 28) a1))).tdiv 100)) v45) (fun z49 v49 => (rOk z49 v49)))))
   else none)))
   else (rB (sp_X8_holds a0 3 v43) (fun z50 v50 => (if ¬ z50 = 0 then none
   else (rOk 0 v50))))))))))))))))))))))))))))))))
set_option maxRecDepth 100000 in
set_option maxHeartbeats 4000000 in
theorem k_X8_deal (a0 a1 a2 a3 : Int) (h0 : 0 ≤ a0) (x : Cx) (v : V) (F : Fx x cX8_deal RX8 "deal" ({ frames := 2, cells := 0, slots := 0, locals := 55 }) 7 (some 0) (some .int) 0) (ho : ∀ a ∈ [(18, a0), (0, a1), (0, a2), (0, a3)], okv v a) : Gs x (sp_X8_deal a0 a1 a2 a3 v) v 0 0 0 (avArgs 0 [(18, a0), (0, a1), (0, a2), (0, a3)]) [] := by
  show Gs x _ v 0 0 0 [(0, (18, a0)), (1, (0, a1)), (2, (0, a2)), (3, (0, a3))] []
  unfold sp_X8_deal
  refine g_aload_n F rfl 0 rfl dX8_deal_0 ?_
  refine g_iload_n F rfl 1 rfl rfl dX8_deal_1 ?_
  refine g_callV F (by decide) (K := 8) (b := a0) [(0, a1)] [0] ml_RX8_191 wi_X8_isLot ws_X8_isLot (c_X8_isLot a0 a1 (Int.not_lt.mp (Int.not_lt.mpr h0))) mi_X8_isLot (by decide) ⟨_, rfl, rfl⟩ (Int.not_lt.mp (Int.not_lt.mpr h0)) rfl rfl rfl (Nat.le_of_ble_eq_true rfl) (Nat.le_of_ble_eq_true rfl) (Nat.le_of_ble_eq_true rfl) (Nat.le_of_ble_eq_true rfl) (Nat.le_of_ble_eq_true rfl) dX8_deal_2 (fun z1 v1 hz1 => ?_)
  refine g_if_eq F rfl (tgt := 20) rfl dX8_deal_5 (fun n2 => ?_) (fun n2 => ?_)
  · refine g_iconst F 2 rfl dX8_deal_20 ?_
    refine g_istore F rfl (Nat.le_of_ble_eq_true rfl) (ls' := [(4, (2, 0)), (0, (18, a0)), (1, (0, a1)), (2, (0, a2)), (3, (0, a3))]) rfl dX8_deal_21 ?_
    refine g_iload F 0 rfl rfl dX8_deal_23 ?_
    refine g_if_eq_t F rfl (by decide) (tgt := 52) rfl dX8_deal_25 ?_
    refine g_iconst F 2 rfl dX8_deal_52 ?_
    refine g_istore F rfl (Nat.le_of_ble_eq_true rfl) (ls' := [(5, (2, 0)), (4, (2, 0)), (0, (18, a0)), (1, (0, a1)), (2, (0, a2)), (3, (0, a3))]) rfl dX8_deal_53 ?_
    refine g_iload F 0 rfl rfl dX8_deal_55 ?_
    refine g_if_eq_t F rfl (by decide) (tgt := 97) rfl dX8_deal_57 ?_
    refine g_iconst F 2 rfl dX8_deal_97 ?_
    refine g_istore F rfl (Nat.le_of_ble_eq_true rfl) (ls' := [(6, (2, 0)), (5, (2, 0)), (4, (2, 0)), (0, (18, a0)), (1, (0, a1)), (2, (0, a2)), (3, (0, a3))]) rfl dX8_deal_98 ?_
    refine g_iload F 0 rfl rfl dX8_deal_100 ?_
    refine g_if_eq_t F rfl (by decide) (tgt := 146) rfl dX8_deal_102 ?_
    refine g_iconst F 2 rfl dX8_deal_146 ?_
    refine g_istore F rfl (Nat.le_of_ble_eq_true rfl) (ls' := [(6, (2, 0)), (5, (2, 0)), (4, (2, 0)), (0, (18, a0)), (1, (0, a1)), (2, (0, a2)), (3, (0, a3))]) rfl dX8_deal_147 ?_
    refine g_aload_n F rfl 3 rfl dX8_deal_149 ?_
    refine g_iload F 2 rfl rfl dX8_deal_150 ?_
    refine g_if_ne_f F rfl (by decide) (tgt := 159) rfl dX8_deal_152 ?_
    refine g_iconst F 2 rfl dX8_deal_155 ?_
    refine g_goto F (tgt := 188) rfl dX8_deal_156 ?_
    refine g_callV F (by decide) (K := 8) (b := a0) [(2, 1)] [0] ml_RX8_151 wi_X8_holds ws_X8_holds (c_X8_holds a0 1 (Int.not_lt.mp (Int.not_lt.mpr h0))) mi_X8_holds (by decide) ⟨_, rfl, rfl⟩ (Int.not_lt.mp (Int.not_lt.mpr h0)) rfl rfl rfl (Nat.le_of_ble_eq_true rfl) (Nat.le_of_ble_eq_true rfl) (Nat.le_of_ble_eq_true rfl) (Nat.le_of_ble_eq_true rfl) (Nat.le_of_ble_eq_true rfl) dX8_deal_188 (fun z3 v3 hz3 => ?_)
    refine g_if_ne F rfl (tgt := 196) rfl dX8_deal_191 (fun n4 => ?_) (fun n4 => ?_)
    · exact g_none
    · refine g_iconst F 2 rfl dX8_deal_194 ?_
      exact g_ireturn F rfl rfl rfl rfl (Nat.le_of_ble_eq_true rfl) (Nat.le_of_ble_eq_true rfl) dX8_deal_195
  · refine g_aload_n F rfl 0 rfl dX8_deal_8 ?_
    refine g_iload_n F rfl 2 rfl rfl dX8_deal_9 ?_
    refine g_callV F (by decide) (K := 8) (b := a0) [(0, a2)] [0] ml_RX8_154 wi_X8_isParty ws_X8_isParty (c_X8_isParty a0 a2 (Int.not_lt.mp (Int.not_lt.mpr h0))) mi_X8_isParty (by decide) ⟨_, rfl, rfl⟩ (Int.not_lt.mp (Int.not_lt.mpr h0)) rfl rfl rfl (Nat.le_of_ble_eq_true rfl) (Nat.le_of_ble_eq_true rfl) (Nat.le_of_ble_eq_true rfl) (Nat.le_of_ble_eq_true rfl) (Nat.le_of_ble_eq_true rfl) dX8_deal_10 (fun z5 v5 hz5 => ?_)
    refine g_if_eq F rfl (tgt := 20) rfl dX8_deal_13 (fun n6 => ?_) (fun n6 => ?_)
    · refine g_iconst F 2 rfl dX8_deal_20 ?_
      refine g_istore F rfl (Nat.le_of_ble_eq_true rfl) (ls' := [(4, (2, 0)), (0, (18, a0)), (1, (0, a1)), (2, (0, a2)), (3, (0, a3))]) rfl dX8_deal_21 ?_
      refine g_iload F 0 rfl rfl dX8_deal_23 ?_
      refine g_if_eq_t F rfl (by decide) (tgt := 52) rfl dX8_deal_25 ?_
      refine g_iconst F 2 rfl dX8_deal_52 ?_
      refine g_istore F rfl (Nat.le_of_ble_eq_true rfl) (ls' := [(5, (2, 0)), (4, (2, 0)), (0, (18, a0)), (1, (0, a1)), (2, (0, a2)), (3, (0, a3))]) rfl dX8_deal_53 ?_
      refine g_iload F 0 rfl rfl dX8_deal_55 ?_
      refine g_if_eq_t F rfl (by decide) (tgt := 97) rfl dX8_deal_57 ?_
      refine g_iconst F 2 rfl dX8_deal_97 ?_
      refine g_istore F rfl (Nat.le_of_ble_eq_true rfl) (ls' := [(6, (2, 0)), (5, (2, 0)), (4, (2, 0)), (0, (18, a0)), (1, (0, a1)), (2, (0, a2)), (3, (0, a3))]) rfl dX8_deal_98 ?_
      refine g_iload F 0 rfl rfl dX8_deal_100 ?_
      refine g_if_eq_t F rfl (by decide) (tgt := 146) rfl dX8_deal_102 ?_
      refine g_iconst F 2 rfl dX8_deal_146 ?_
      refine g_istore F rfl (Nat.le_of_ble_eq_true rfl) (ls' := [(6, (2, 0)), (5, (2, 0)), (4, (2, 0)), (0, (18, a0)), (1, (0, a1)), (2, (0, a2)), (3, (0, a3))]) rfl dX8_deal_147 ?_
      refine g_aload_n F rfl 3 rfl dX8_deal_149 ?_
      refine g_iload F 2 rfl rfl dX8_deal_150 ?_
      refine g_if_ne_f F rfl (by decide) (tgt := 159) rfl dX8_deal_152 ?_
      refine g_iconst F 2 rfl dX8_deal_155 ?_
      refine g_goto F (tgt := 188) rfl dX8_deal_156 ?_
      refine g_callV F (by decide) (K := 8) (b := a0) [(2, 1)] [0] ml_RX8_151 wi_X8_holds ws_X8_holds (c_X8_holds a0 1 (Int.not_lt.mp (Int.not_lt.mpr h0))) mi_X8_holds (by decide) ⟨_, rfl, rfl⟩ (Int.not_lt.mp (Int.not_lt.mpr h0)) rfl rfl rfl (Nat.le_of_ble_eq_true rfl) (Nat.le_of_ble_eq_true rfl) (Nat.le_of_ble_eq_true rfl) (Nat.le_of_ble_eq_true rfl) (Nat.le_of_ble_eq_true rfl) dX8_deal_188 (fun z7 v7 hz7 => ?_)
      refine g_if_ne F rfl (tgt := 196) rfl dX8_deal_191 (fun n8 => ?_) (fun n8 => ?_)
      · exact g_none
      · refine g_iconst F 2 rfl dX8_deal_194 ?_
        exact g_ireturn F rfl rfl rfl rfl (Nat.le_of_ble_eq_true rfl) (Nat.le_of_ble_eq_true rfl) dX8_deal_195
    · refine g_iconst F 2 rfl dX8_deal_16 ?_
      refine g_goto F (tgt := 21) rfl dX8_deal_17 ?_
      refine g_istore F rfl (Nat.le_of_ble_eq_true rfl) (ls' := [(4, (2, 1)), (0, (18, a0)), (1, (0, a1)), (2, (0, a2)), (3, (0, a3))]) rfl dX8_deal_21 ?_
      refine g_iload F 0 rfl rfl dX8_deal_23 ?_
      refine g_if_eq_f F rfl (by decide) (tgt := 52) rfl dX8_deal_25 ?_
      refine g_iload_n F rfl 4 rfl rfl dX8_deal_28 ?_
      refine g_iconst F 2 rfl dX8_deal_29 ?_
      refine g_ldc F rfl cn_RX8_150 dX8_deal_30 ?_
      refine g_callS F (by decide) [(0, a3), (2, 0), (0, 1000000)] [0, 0, 0] ml_RX8_133 wt_X8_in (c_X8_in a3 0 1000000) mi_X8_in rfl rfl rfl (Nat.le_of_ble_eq_true rfl) (Nat.le_of_ble_eq_true rfl) (Nat.le_of_ble_eq_true rfl) (Nat.le_of_ble_eq_true rfl) (Nat.le_of_ble_eq_true rfl) dX8_deal_32 (fun z9 v9 hz9 => ?_)
      refine g_if_eq F rfl (tgt := 52) rfl dX8_deal_35 (fun n10 => ?_) (fun n10 => ?_)
      · refine g_iconst F 2 rfl dX8_deal_52 ?_
        refine g_istore F rfl (Nat.le_of_ble_eq_true rfl) (ls' := [(5, (2, 0)), (4, (2, 1)), (0, (18, a0)), (1, (0, a1)), (2, (0, a2)), (3, (0, a3))]) rfl dX8_deal_53 ?_
        refine g_iload F 0 rfl rfl dX8_deal_55 ?_
        refine g_if_eq_t F rfl (by decide) (tgt := 97) rfl dX8_deal_57 ?_
        refine g_iconst F 2 rfl dX8_deal_97 ?_
        refine g_istore F rfl (Nat.le_of_ble_eq_true rfl) (ls' := [(6, (2, 0)), (5, (2, 0)), (4, (2, 1)), (0, (18, a0)), (1, (0, a1)), (2, (0, a2)), (3, (0, a3))]) rfl dX8_deal_98 ?_
        refine g_iload F 0 rfl rfl dX8_deal_100 ?_
        refine g_if_eq_t F rfl (by decide) (tgt := 146) rfl dX8_deal_102 ?_
        refine g_iconst F 2 rfl dX8_deal_146 ?_
        refine g_istore F rfl (Nat.le_of_ble_eq_true rfl) (ls' := [(6, (2, 0)), (5, (2, 0)), (4, (2, 1)), (0, (18, a0)), (1, (0, a1)), (2, (0, a2)), (3, (0, a3))]) rfl dX8_deal_147 ?_
        refine g_aload_n F rfl 3 rfl dX8_deal_149 ?_
        refine g_iload F 2 rfl rfl dX8_deal_150 ?_
        refine g_if_ne_t F rfl (by decide) (tgt := 159) rfl dX8_deal_152 ?_
        refine g_iload F 1 rfl rfl dX8_deal_159 ?_
        refine g_if_ne_f F rfl (by decide) (tgt := 168) rfl dX8_deal_161 ?_
        refine g_iconst F 0 rfl dX8_deal_164 ?_
        refine g_goto F (tgt := 188) rfl dX8_deal_165 ?_
        refine g_callV F (by decide) (K := 8) (b := a0) [(0, 2)] [0] ml_RX8_151 wi_X8_holds ws_X8_holds (c_X8_holds a0 2 (Int.not_lt.mp (Int.not_lt.mpr h0))) mi_X8_holds (by decide) ⟨_, rfl, rfl⟩ (Int.not_lt.mp (Int.not_lt.mpr h0)) rfl rfl rfl (Nat.le_of_ble_eq_true rfl) (Nat.le_of_ble_eq_true rfl) (Nat.le_of_ble_eq_true rfl) (Nat.le_of_ble_eq_true rfl) (Nat.le_of_ble_eq_true rfl) dX8_deal_188 (fun z11 v11 hz11 => ?_)
        refine g_if_ne F rfl (tgt := 196) rfl dX8_deal_191 (fun n12 => ?_) (fun n12 => ?_)
        · exact g_none
        · refine g_iconst F 2 rfl dX8_deal_194 ?_
          exact g_ireturn F rfl rfl rfl rfl (Nat.le_of_ble_eq_true rfl) (Nat.le_of_ble_eq_true rfl) dX8_deal_195
      · refine g_iload_n F rfl 3 rfl rfl dX8_deal_38 ?_
        refine g_aload_n F rfl 1 rfl dX8_deal_39 ?_
        refine g_get F (t := 73) (sI := 23) fl_RX8_66 rfl rfl (Int.not_lt.mp (Int.not_lt.mpr h0)) dX8_deal_40 ?_
        refine g_iload_n F rfl 2 rfl rfl dX8_deal_43 ?_
        refine g_chk (fun n13 => ?_)
        refine g_chk (fun n14 => ?_)
        refine h_iald F (n := 60) ak_63 (Int.not_lt.mp (Int.not_lt.mpr n13)) n14 rfl dX8_deal_44 ?_
        refine g_icmp_eq F rfl rfl (tgt := 52) rfl dX8_deal_45 (fun n15 => ?_) (fun n15 => ?_)
        · refine g_iconst F 2 rfl dX8_deal_52 ?_
          refine g_istore F rfl (Nat.le_of_ble_eq_true rfl) (ls' := [(5, (2, 0)), (4, (2, 1)), (0, (18, a0)), (1, (0, a1)), (2, (0, a2)), (3, (0, a3))]) rfl dX8_deal_53 ?_
          refine g_iload F 0 rfl rfl dX8_deal_55 ?_
          refine g_if_eq_t F rfl (by decide) (tgt := 97) rfl dX8_deal_57 ?_
          refine g_iconst F 2 rfl dX8_deal_97 ?_
          refine g_istore F rfl (Nat.le_of_ble_eq_true rfl) (ls' := [(6, (2, 0)), (5, (2, 0)), (4, (2, 1)), (0, (18, a0)), (1, (0, a1)), (2, (0, a2)), (3, (0, a3))]) rfl dX8_deal_98 ?_
          refine g_iload F 0 rfl rfl dX8_deal_100 ?_
          refine g_if_eq_t F rfl (by decide) (tgt := 146) rfl dX8_deal_102 ?_
          refine g_iconst F 2 rfl dX8_deal_146 ?_
          refine g_istore F rfl (Nat.le_of_ble_eq_true rfl) (ls' := [(6, (2, 0)), (5, (2, 0)), (4, (2, 1)), (0, (18, a0)), (1, (0, a1)), (2, (0, a2)), (3, (0, a3))]) rfl dX8_deal_147 ?_
          refine g_aload_n F rfl 3 rfl dX8_deal_149 ?_
          refine g_iload F 2 rfl rfl dX8_deal_150 ?_
          refine g_if_ne_t F rfl (by decide) (tgt := 159) rfl dX8_deal_152 ?_
          refine g_iload F 1 rfl rfl dX8_deal_159 ?_
          refine g_if_ne_f F rfl (by decide) (tgt := 168) rfl dX8_deal_161 ?_
          refine g_iconst F 0 rfl dX8_deal_164 ?_
          refine g_goto F (tgt := 188) rfl dX8_deal_165 ?_
          refine g_callV F (by decide) (K := 8) (b := a0) [(0, 2)] [0] ml_RX8_151 wi_X8_holds ws_X8_holds (c_X8_holds a0 2 (Int.not_lt.mp (Int.not_lt.mpr h0))) mi_X8_holds (by decide) ⟨_, rfl, rfl⟩ (Int.not_lt.mp (Int.not_lt.mpr h0)) rfl rfl rfl (Nat.le_of_ble_eq_true rfl) (Nat.le_of_ble_eq_true rfl) (Nat.le_of_ble_eq_true rfl) (Nat.le_of_ble_eq_true rfl) (Nat.le_of_ble_eq_true rfl) dX8_deal_188 (fun z16 v16 hz16 => ?_)
          refine g_if_ne F rfl (tgt := 196) rfl dX8_deal_191 (fun n17 => ?_) (fun n17 => ?_)
          · exact g_none
          · refine g_iconst F 2 rfl dX8_deal_194 ?_
            exact g_ireturn F rfl rfl rfl rfl (Nat.le_of_ble_eq_true rfl) (Nat.le_of_ble_eq_true rfl) dX8_deal_195
        · refine g_iconst F 2 rfl dX8_deal_48 ?_
          refine g_goto F (tgt := 53) rfl dX8_deal_49 ?_
          refine g_istore F rfl (Nat.le_of_ble_eq_true rfl) (ls' := [(5, (2, 1)), (4, (2, 1)), (0, (18, a0)), (1, (0, a1)), (2, (0, a2)), (3, (0, a3))]) rfl dX8_deal_53 ?_
          refine g_iload F 0 rfl rfl dX8_deal_55 ?_
          refine g_if_eq_f F rfl (by decide) (tgt := 97) rfl dX8_deal_57 ?_
          refine g_aload_n F rfl 2 rfl dX8_deal_60 ?_
          refine g_get F (t := 76) (sI := 26) fl_RX8_75 rfl rfl (Int.not_lt.mp (Int.not_lt.mpr h0)) dX8_deal_61 ?_
          refine g_iload_n F rfl 3 rfl rfl dX8_deal_64 ?_
          refine g_chk (fun n18 => ?_)
          refine h_iald F (n := 60) ak_66 (Int.not_lt.mp (Int.not_lt.mpr n18)) n14 rfl dX8_deal_65 ?_
          refine g_iconst F 0 rfl dX8_deal_66 ?_
          refine g_icmp_eq F rfl rfl (tgt := 97) rfl dX8_deal_67 (fun n19 => ?_) (fun n19 => ?_)
          · refine g_iconst F 2 rfl dX8_deal_97 ?_
            refine g_istore F rfl (Nat.le_of_ble_eq_true rfl) (ls' := [(6, (2, 0)), (5, (2, 1)), (4, (2, 1)), (0, (18, a0)), (1, (0, a1)), (2, (0, a2)), (3, (0, a3))]) rfl dX8_deal_98 ?_
            refine g_iload F 0 rfl rfl dX8_deal_100 ?_
            refine g_if_eq_t F rfl (by decide) (tgt := 146) rfl dX8_deal_102 ?_
            refine g_iconst F 2 rfl dX8_deal_146 ?_
            refine g_istore F rfl (Nat.le_of_ble_eq_true rfl) (ls' := [(6, (2, 0)), (5, (2, 1)), (4, (2, 1)), (0, (18, a0)), (1, (0, a1)), (2, (0, a2)), (3, (0, a3))]) rfl dX8_deal_147 ?_
            refine g_aload_n F rfl 3 rfl dX8_deal_149 ?_
            refine g_iload F 2 rfl rfl dX8_deal_150 ?_
            refine g_if_ne_t F rfl (by decide) (tgt := 159) rfl dX8_deal_152 ?_
            refine g_iload F 1 rfl rfl dX8_deal_159 ?_
            refine g_if_ne_t F rfl (by decide) (tgt := 168) rfl dX8_deal_161 ?_
            refine g_iload F 0 rfl rfl dX8_deal_168 ?_
            refine g_if_eq_t F rfl (by decide) (tgt := 183) rfl dX8_deal_170 ?_
            refine g_iconst F 0 rfl dX8_deal_183 ?_
            refine g_goto F (tgt := 188) rfl dX8_deal_184 ?_
            refine g_callV F (by decide) (K := 8) (b := a0) [(0, 3)] [0] ml_RX8_151 wi_X8_holds ws_X8_holds (c_X8_holds a0 3 (Int.not_lt.mp (Int.not_lt.mpr h0))) mi_X8_holds (by decide) ⟨_, rfl, rfl⟩ (Int.not_lt.mp (Int.not_lt.mpr h0)) rfl rfl rfl (Nat.le_of_ble_eq_true rfl) (Nat.le_of_ble_eq_true rfl) (Nat.le_of_ble_eq_true rfl) (Nat.le_of_ble_eq_true rfl) (Nat.le_of_ble_eq_true rfl) dX8_deal_188 (fun z20 v20 hz20 => ?_)
            refine g_if_ne F rfl (tgt := 196) rfl dX8_deal_191 (fun n21 => ?_) (fun n21 => ?_)
            · exact g_none
            · refine g_iconst F 2 rfl dX8_deal_194 ?_
              exact g_ireturn F rfl rfl rfl rfl (Nat.le_of_ble_eq_true rfl) (Nat.le_of_ble_eq_true rfl) dX8_deal_195
          · refine g_iload_n F rfl 5 rfl rfl dX8_deal_70 ?_
            refine g_aload_n F rfl 2 rfl dX8_deal_71 ?_
            refine g_get F (t := 77) (sI := 27) fl_RX8_78 rfl rfl (Int.not_lt.mp (Int.not_lt.mpr h0)) dX8_deal_72 ?_
            refine g_iload_n F rfl 3 rfl rfl dX8_deal_75 ?_
            refine g_chk (fun n22 => ?_)
            refine h_iald F (n := 60) ak_67 (Int.not_lt.mp (Int.not_lt.mpr n22)) n14 rfl dX8_deal_76 ?_
            refine g_icmp_lt F rfl rfl (tgt := 97) rfl dX8_deal_77 (fun n23 => ?_) (fun n23 => ?_)
            · refine g_iconst F 2 rfl dX8_deal_97 ?_
              refine g_istore F rfl (Nat.le_of_ble_eq_true rfl) (ls' := [(6, (2, 0)), (5, (2, 1)), (4, (2, 1)), (0, (18, a0)), (1, (0, a1)), (2, (0, a2)), (3, (0, a3))]) rfl dX8_deal_98 ?_
              refine g_iload F 0 rfl rfl dX8_deal_100 ?_
              refine g_if_eq_t F rfl (by decide) (tgt := 146) rfl dX8_deal_102 ?_
              refine g_iconst F 2 rfl dX8_deal_146 ?_
              refine g_istore F rfl (Nat.le_of_ble_eq_true rfl) (ls' := [(6, (2, 0)), (5, (2, 1)), (4, (2, 1)), (0, (18, a0)), (1, (0, a1)), (2, (0, a2)), (3, (0, a3))]) rfl dX8_deal_147 ?_
              refine g_aload_n F rfl 3 rfl dX8_deal_149 ?_
              refine g_iload F 2 rfl rfl dX8_deal_150 ?_
              refine g_if_ne_t F rfl (by decide) (tgt := 159) rfl dX8_deal_152 ?_
              refine g_iload F 1 rfl rfl dX8_deal_159 ?_
              refine g_if_ne_t F rfl (by decide) (tgt := 168) rfl dX8_deal_161 ?_
              refine g_iload F 0 rfl rfl dX8_deal_168 ?_
              refine g_if_eq_t F rfl (by decide) (tgt := 183) rfl dX8_deal_170 ?_
              refine g_iconst F 0 rfl dX8_deal_183 ?_
              refine g_goto F (tgt := 188) rfl dX8_deal_184 ?_
              refine g_callV F (by decide) (K := 8) (b := a0) [(0, 3)] [0] ml_RX8_151 wi_X8_holds ws_X8_holds (c_X8_holds a0 3 (Int.not_lt.mp (Int.not_lt.mpr h0))) mi_X8_holds (by decide) ⟨_, rfl, rfl⟩ (Int.not_lt.mp (Int.not_lt.mpr h0)) rfl rfl rfl (Nat.le_of_ble_eq_true rfl) (Nat.le_of_ble_eq_true rfl) (Nat.le_of_ble_eq_true rfl) (Nat.le_of_ble_eq_true rfl) (Nat.le_of_ble_eq_true rfl) dX8_deal_188 (fun z24 v24 hz24 => ?_)
              refine g_if_ne F rfl (tgt := 196) rfl dX8_deal_191 (fun n25 => ?_) (fun n25 => ?_)
              · exact g_none
              · refine g_iconst F 2 rfl dX8_deal_194 ?_
                exact g_ireturn F rfl rfl rfl rfl (Nat.le_of_ble_eq_true rfl) (Nat.le_of_ble_eq_true rfl) dX8_deal_195
            · refine g_aload_n F rfl 2 rfl dX8_deal_80 ?_
              refine g_get F (t := 0) (sI := 1) fl_RX8_164 rfl rfl (Int.not_lt.mp (Int.not_lt.mpr h0)) dX8_deal_81 ?_
              refine g_aload_n F rfl 2 rfl dX8_deal_84 ?_
              refine g_get F (t := 79) (sI := 29) fl_RX8_84 rfl rfl (Int.not_lt.mp (Int.not_lt.mpr h0)) dX8_deal_85 ?_
              refine g_iload_n F rfl 3 rfl rfl dX8_deal_88 ?_
              refine g_chk (fun n26 => ?_)
              refine h_iald F (n := 60) ak_69 (Int.not_lt.mp (Int.not_lt.mpr n26)) n14 rfl dX8_deal_89 ?_
              refine g_icmp_gt F rfl rfl (tgt := 97) rfl dX8_deal_90 (fun n27 => ?_) (fun n27 => ?_)
              · refine g_iconst F 2 rfl dX8_deal_97 ?_
                refine g_istore F rfl (Nat.le_of_ble_eq_true rfl) (ls' := [(6, (2, 0)), (5, (2, 1)), (4, (2, 1)), (0, (18, a0)), (1, (0, a1)), (2, (0, a2)), (3, (0, a3))]) rfl dX8_deal_98 ?_
                refine g_iload F 0 rfl rfl dX8_deal_100 ?_
                refine g_if_eq_t F rfl (by decide) (tgt := 146) rfl dX8_deal_102 ?_
                refine g_iconst F 2 rfl dX8_deal_146 ?_
                refine g_istore F rfl (Nat.le_of_ble_eq_true rfl) (ls' := [(6, (2, 0)), (5, (2, 1)), (4, (2, 1)), (0, (18, a0)), (1, (0, a1)), (2, (0, a2)), (3, (0, a3))]) rfl dX8_deal_147 ?_
                refine g_aload_n F rfl 3 rfl dX8_deal_149 ?_
                refine g_iload F 2 rfl rfl dX8_deal_150 ?_
                refine g_if_ne_t F rfl (by decide) (tgt := 159) rfl dX8_deal_152 ?_
                refine g_iload F 1 rfl rfl dX8_deal_159 ?_
                refine g_if_ne_t F rfl (by decide) (tgt := 168) rfl dX8_deal_161 ?_
                refine g_iload F 0 rfl rfl dX8_deal_168 ?_
                refine g_if_eq_t F rfl (by decide) (tgt := 183) rfl dX8_deal_170 ?_
                refine g_iconst F 0 rfl dX8_deal_183 ?_
                refine g_goto F (tgt := 188) rfl dX8_deal_184 ?_
                refine g_callV F (by decide) (K := 8) (b := a0) [(0, 3)] [0] ml_RX8_151 wi_X8_holds ws_X8_holds (c_X8_holds a0 3 (Int.not_lt.mp (Int.not_lt.mpr h0))) mi_X8_holds (by decide) ⟨_, rfl, rfl⟩ (Int.not_lt.mp (Int.not_lt.mpr h0)) rfl rfl rfl (Nat.le_of_ble_eq_true rfl) (Nat.le_of_ble_eq_true rfl) (Nat.le_of_ble_eq_true rfl) (Nat.le_of_ble_eq_true rfl) (Nat.le_of_ble_eq_true rfl) dX8_deal_188 (fun z28 v28 hz28 => ?_)
                refine g_if_ne F rfl (tgt := 196) rfl dX8_deal_191 (fun n29 => ?_) (fun n29 => ?_)
                · exact g_none
                · refine g_iconst F 2 rfl dX8_deal_194 ?_
                  exact g_ireturn F rfl rfl rfl rfl (Nat.le_of_ble_eq_true rfl) (Nat.le_of_ble_eq_true rfl) dX8_deal_195
              · refine g_iconst F 2 rfl dX8_deal_93 ?_
                refine g_goto F (tgt := 98) rfl dX8_deal_94 ?_
                refine g_istore F rfl (Nat.le_of_ble_eq_true rfl) (ls' := [(6, (2, 1)), (5, (2, 1)), (4, (2, 1)), (0, (18, a0)), (1, (0, a1)), (2, (0, a2)), (3, (0, a3))]) rfl dX8_deal_98 ?_
                refine g_iload F 0 rfl rfl dX8_deal_100 ?_
                refine g_if_eq_f F rfl (by decide) (tgt := 146) rfl dX8_deal_102 ?_
                refine g_aload_n F rfl 3 rfl dX8_deal_105 ?_
                refine g_get F (t := 55) (sI := 5) fl_RX8_17 rfl rfl (Int.not_lt.mp (Int.not_lt.mpr h0)) dX8_deal_106 ?_
                refine g_aload_n F rfl 3 rfl dX8_deal_109 ?_
                refine g_get F (t := 76) (sI := 26) fl_RX8_75 rfl rfl (Int.not_lt.mp (Int.not_lt.mpr h0)) dX8_deal_110 ?_
                refine g_iload_n F rfl 4 rfl rfl dX8_deal_113 ?_
                refine h_iald F (n := 60) ak_66 (Int.not_lt.mp (Int.not_lt.mpr n18)) n14 rfl dX8_deal_114 ?_
                refine g_chk (fun n30 => ?_)
                refine g_chk (fun n31 => ?_)
                refine h_zald F (n := 10) ak_45 (Int.not_lt.mp (Int.not_lt.mpr n30)) n31 rfl dX8_deal_115 ?_
                refine g_if_ne F rfl (tgt := 146) rfl dX8_deal_116 (fun n32 => ?_) (fun n32 => ?_)
                · refine g_iconst F 2 rfl dX8_deal_146 ?_
                  refine g_istore F rfl (Nat.le_of_ble_eq_true rfl) (ls' := [(6, (2, 0)), (5, (2, 1)), (4, (2, 1)), (0, (18, a0)), (1, (0, a1)), (2, (0, a2)), (3, (0, a3))]) rfl dX8_deal_147 ?_
                  refine g_aload_n F rfl 3 rfl dX8_deal_149 ?_
                  refine g_iload F 2 rfl rfl dX8_deal_150 ?_
                  refine g_if_ne_t F rfl (by decide) (tgt := 159) rfl dX8_deal_152 ?_
                  refine g_iload F 1 rfl rfl dX8_deal_159 ?_
                  refine g_if_ne_t F rfl (by decide) (tgt := 168) rfl dX8_deal_161 ?_
                  refine g_iload F 0 rfl rfl dX8_deal_168 ?_
                  refine g_if_eq_t F rfl (by decide) (tgt := 183) rfl dX8_deal_170 ?_
                  refine g_iconst F 0 rfl dX8_deal_183 ?_
                  refine g_goto F (tgt := 188) rfl dX8_deal_184 ?_
                  refine g_callV F (by decide) (K := 8) (b := a0) [(0, 3)] [0] ml_RX8_151 wi_X8_holds ws_X8_holds (c_X8_holds a0 3 (Int.not_lt.mp (Int.not_lt.mpr h0))) mi_X8_holds (by decide) ⟨_, rfl, rfl⟩ (Int.not_lt.mp (Int.not_lt.mpr h0)) rfl rfl rfl (Nat.le_of_ble_eq_true rfl) (Nat.le_of_ble_eq_true rfl) (Nat.le_of_ble_eq_true rfl) (Nat.le_of_ble_eq_true rfl) (Nat.le_of_ble_eq_true rfl) dX8_deal_188 (fun z33 v33 hz33 => ?_)
                  refine g_if_ne F rfl (tgt := 196) rfl dX8_deal_191 (fun n34 => ?_) (fun n34 => ?_)
                  · exact g_none
                  · refine g_iconst F 2 rfl dX8_deal_194 ?_
                    exact g_ireturn F rfl rfl rfl rfl (Nat.le_of_ble_eq_true rfl) (Nat.le_of_ble_eq_true rfl) dX8_deal_195
                · refine g_aload_n F rfl 3 rfl dX8_deal_119 ?_
                  refine g_get F (t := 55) (sI := 5) fl_RX8_17 rfl rfl (Int.not_lt.mp (Int.not_lt.mpr h0)) dX8_deal_120 ?_
                  refine g_aload_n F rfl 3 rfl dX8_deal_123 ?_
                  refine g_get F (t := 73) (sI := 23) fl_RX8_66 rfl rfl (Int.not_lt.mp (Int.not_lt.mpr h0)) dX8_deal_124 ?_
                  refine g_iload_n F rfl 4 rfl rfl dX8_deal_127 ?_
                  refine h_iald F (n := 60) ak_63 (Int.not_lt.mp (Int.not_lt.mpr n13)) n14 rfl dX8_deal_128 ?_
                  refine g_chk (fun n35 => ?_)
                  refine h_zald F (n := 10) ak_45 (Int.not_lt.mp (Int.not_lt.mpr n30)) n35 rfl dX8_deal_129 ?_
                  refine g_if_ne F rfl (tgt := 146) rfl dX8_deal_130 (fun n36 => ?_) (fun n36 => ?_)
                  · refine g_iconst F 2 rfl dX8_deal_146 ?_
                    refine g_istore F rfl (Nat.le_of_ble_eq_true rfl) (ls' := [(6, (2, 0)), (5, (2, 1)), (4, (2, 1)), (0, (18, a0)), (1, (0, a1)), (2, (0, a2)), (3, (0, a3))]) rfl dX8_deal_147 ?_
                    refine g_aload_n F rfl 3 rfl dX8_deal_149 ?_
                    refine g_iload F 2 rfl rfl dX8_deal_150 ?_
                    refine g_if_ne_t F rfl (by decide) (tgt := 159) rfl dX8_deal_152 ?_
                    refine g_iload F 1 rfl rfl dX8_deal_159 ?_
                    refine g_if_ne_t F rfl (by decide) (tgt := 168) rfl dX8_deal_161 ?_
                    refine g_iload F 0 rfl rfl dX8_deal_168 ?_
                    refine g_if_eq_t F rfl (by decide) (tgt := 183) rfl dX8_deal_170 ?_
                    refine g_iconst F 0 rfl dX8_deal_183 ?_
                    refine g_goto F (tgt := 188) rfl dX8_deal_184 ?_
                    refine g_callV F (by decide) (K := 8) (b := a0) [(0, 3)] [0] ml_RX8_151 wi_X8_holds ws_X8_holds (c_X8_holds a0 3 (Int.not_lt.mp (Int.not_lt.mpr h0))) mi_X8_holds (by decide) ⟨_, rfl, rfl⟩ (Int.not_lt.mp (Int.not_lt.mpr h0)) rfl rfl rfl (Nat.le_of_ble_eq_true rfl) (Nat.le_of_ble_eq_true rfl) (Nat.le_of_ble_eq_true rfl) (Nat.le_of_ble_eq_true rfl) (Nat.le_of_ble_eq_true rfl) dX8_deal_188 (fun z37 v37 hz37 => ?_)
                    refine g_if_ne F rfl (tgt := 196) rfl dX8_deal_191 (fun n38 => ?_) (fun n38 => ?_)
                    · exact g_none
                    · refine g_iconst F 2 rfl dX8_deal_194 ?_
                      exact g_ireturn F rfl rfl rfl rfl (Nat.le_of_ble_eq_true rfl) (Nat.le_of_ble_eq_true rfl) dX8_deal_195
                  · refine g_aload_n F rfl 3 rfl dX8_deal_133 ?_
                    refine g_get F (t := 55) (sI := 5) fl_RX8_17 rfl rfl (Int.not_lt.mp (Int.not_lt.mpr h0)) dX8_deal_134 ?_
                    refine g_iload_n F rfl 5 rfl rfl dX8_deal_137 ?_
                    refine g_chk (fun n39 => ?_)
                    refine h_zald F (n := 10) ak_45 (Int.not_lt.mp (Int.not_lt.mpr n30)) n39 rfl dX8_deal_138 ?_
                    refine g_if_ne F rfl (tgt := 146) rfl dX8_deal_139 (fun n40 => ?_) (fun n40 => ?_)
                    · refine g_iconst F 2 rfl dX8_deal_146 ?_
                      refine g_istore F rfl (Nat.le_of_ble_eq_true rfl) (ls' := [(6, (2, 0)), (5, (2, 1)), (4, (2, 1)), (0, (18, a0)), (1, (0, a1)), (2, (0, a2)), (3, (0, a3))]) rfl dX8_deal_147 ?_
                      refine g_aload_n F rfl 3 rfl dX8_deal_149 ?_
                      refine g_iload F 2 rfl rfl dX8_deal_150 ?_
                      refine g_if_ne_t F rfl (by decide) (tgt := 159) rfl dX8_deal_152 ?_
                      refine g_iload F 1 rfl rfl dX8_deal_159 ?_
                      refine g_if_ne_t F rfl (by decide) (tgt := 168) rfl dX8_deal_161 ?_
                      refine g_iload F 0 rfl rfl dX8_deal_168 ?_
                      refine g_if_eq_t F rfl (by decide) (tgt := 183) rfl dX8_deal_170 ?_
                      refine g_iconst F 0 rfl dX8_deal_183 ?_
                      refine g_goto F (tgt := 188) rfl dX8_deal_184 ?_
                      refine g_callV F (by decide) (K := 8) (b := a0) [(0, 3)] [0] ml_RX8_151 wi_X8_holds ws_X8_holds (c_X8_holds a0 3 (Int.not_lt.mp (Int.not_lt.mpr h0))) mi_X8_holds (by decide) ⟨_, rfl, rfl⟩ (Int.not_lt.mp (Int.not_lt.mpr h0)) rfl rfl rfl (Nat.le_of_ble_eq_true rfl) (Nat.le_of_ble_eq_true rfl) (Nat.le_of_ble_eq_true rfl) (Nat.le_of_ble_eq_true rfl) (Nat.le_of_ble_eq_true rfl) dX8_deal_188 (fun z41 v41 hz41 => ?_)
                      refine g_if_ne F rfl (tgt := 196) rfl dX8_deal_191 (fun n42 => ?_) (fun n42 => ?_)
                      · exact g_none
                      · refine g_iconst F 2 rfl dX8_deal_194 ?_
                        exact g_ireturn F rfl rfl rfl rfl (Nat.le_of_ble_eq_true rfl) (Nat.le_of_ble_eq_true rfl) dX8_deal_195
                    · refine g_iconst F 2 rfl dX8_deal_142 ?_
                      refine g_goto F (tgt := 147) rfl dX8_deal_143 ?_
                      refine g_istore F rfl (Nat.le_of_ble_eq_true rfl) (ls' := [(6, (2, 1)), (5, (2, 1)), (4, (2, 1)), (0, (18, a0)), (1, (0, a1)), (2, (0, a2)), (3, (0, a3))]) rfl dX8_deal_147 ?_
                      refine g_aload_n F rfl 3 rfl dX8_deal_149 ?_
                      refine g_iload F 2 rfl rfl dX8_deal_150 ?_
                      refine g_if_ne_t F rfl (by decide) (tgt := 159) rfl dX8_deal_152 ?_
                      refine g_iload F 1 rfl rfl dX8_deal_159 ?_
                      refine g_if_ne_t F rfl (by decide) (tgt := 168) rfl dX8_deal_161 ?_
                      refine g_iload F 0 rfl rfl dX8_deal_168 ?_
                      refine g_if_eq_f F rfl (by decide) (tgt := 183) rfl dX8_deal_170 ?_
                      refine g_aload_n F rfl 3 rfl dX8_deal_173 ?_
                      refine g_iload_n F rfl 4 rfl rfl dX8_deal_174 ?_
                      refine g_iload_n F rfl 5 rfl rfl dX8_deal_175 ?_
                      refine g_iload_n F rfl 6 rfl rfl dX8_deal_176 ?_
                      refine g_callV F (by decide) (K := 8) (b := a0) [(0, a1), (0, a2), (0, a3)] [0, 0, 0] ml_RX8_188 wi_X8_isBarredBehind ws_X8_isBarredBehind (c_X8_isBarredBehind a0 a1 a2 a3 (Int.not_lt.mp (Int.not_lt.mpr h0))) mi_X8_isBarredBehind (by decide) ⟨_, rfl, rfl⟩ (Int.not_lt.mp (Int.not_lt.mpr h0)) rfl rfl rfl (Nat.le_of_ble_eq_true rfl) (Nat.le_of_ble_eq_true rfl) (Nat.le_of_ble_eq_true rfl) (Nat.le_of_ble_eq_true rfl) (Nat.le_of_ble_eq_true rfl) dX8_deal_177 (fun z43 v43 hz43 => ?_)
                      refine g_if_eq F rfl (tgt := 187) rfl dX8_deal_180 (fun n44 => ?_) (fun n44 => ?_)
                      · refine g_iconst F 2 rfl dX8_deal_187 ?_
                        refine g_callV F (by decide) (K := 8) (b := a0) [(2, 0)] [0] ml_RX8_151 wi_X8_holds ws_X8_holds (c_X8_holds a0 0 (Int.not_lt.mp (Int.not_lt.mpr h0))) mi_X8_holds (by decide) ⟨_, rfl, rfl⟩ (Int.not_lt.mp (Int.not_lt.mpr h0)) rfl rfl rfl (Nat.le_of_ble_eq_true rfl) (Nat.le_of_ble_eq_true rfl) (Nat.le_of_ble_eq_true rfl) (Nat.le_of_ble_eq_true rfl) (Nat.le_of_ble_eq_true rfl) dX8_deal_188 (fun z45 v45 hz45 => ?_)
                        refine g_if_ne F rfl (tgt := 196) rfl dX8_deal_191 (fun n46 => ?_) (fun n46 => ?_)
                        · refine g_aload_n F rfl 3 rfl dX8_deal_196 ?_
                          refine g_iload_n F rfl 4 rfl rfl dX8_deal_197 ?_
                          refine g_aload_n F rfl 3 rfl dX8_deal_198 ?_
                          refine g_get F (t := 74) (sI := 24) fl_RX8_69 rfl rfl (Int.not_lt.mp (Int.not_lt.mpr h0)) dX8_deal_199 ?_
                          refine g_iload_n F rfl 4 rfl rfl dX8_deal_202 ?_
                          refine g_chk (fun n47 => ?_)
                          refine h_iald F (n := 60) ak_64 (Int.not_lt.mp (Int.not_lt.mpr n47)) n14 rfl dX8_deal_203 ?_
                          refine g_iload_n F rfl 5 rfl rfl dX8_deal_204 ?_
                          refine g_iload_n F rfl 6 rfl rfl dX8_deal_205 ?_
                          refine g_iload_n F rfl 6 rfl rfl dX8_deal_206 ?_
                          refine g_aload_n F rfl 3 rfl dX8_deal_207 ?_
                          refine g_get F (t := 78) (sI := 28) fl_RX8_81 rfl rfl (Int.not_lt.mp (Int.not_lt.mpr h0)) dX8_deal_208 ?_
                          refine g_iload_n F rfl 4 rfl rfl dX8_deal_211 ?_
                          refine g_chk (fun n48 => ?_)
                          refine h_iald F (n := 60) ak_68 (Int.not_lt.mp (Int.not_lt.mpr n48)) n14 rfl dX8_deal_212 ?_
                          refine g_imul F rfl rfl dX8_deal_213 ?_
                          refine g_bipush F rfl (by decide) dX8_deal_214 ?_
                          refine g_idiv F (by decide) rfl rfl dX8_deal_216 ?_
                          refine g_callV F (by decide) (K := 8) (b := a0) [(0, a1), (0, (v45 64 (v45 8 a0 24) a1)), (0, a2), (0, a3), (0, (w32 ((w32 (a3 * (v45 68 (v45 8 a0 28) a1))).tdiv 100)))] [0, 0, 0, 0, 0] ml_RX8_202 wi_X8_goes ws_X8_goes (c_X8_goes a0 a1 (v45 64 (v45 8 a0 24) a1) a2 a3 (w32 ((w32 (a3 * (v45 68 (v45 8 a0 28) a1))).tdiv 100)) (Int.not_lt.mp (Int.not_lt.mpr h0))) mi_X8_goes (by decide) ⟨_, rfl, rfl⟩ (Int.not_lt.mp (Int.not_lt.mpr h0)) rfl rfl rfl (Nat.le_of_ble_eq_true rfl) (Nat.le_of_ble_eq_true rfl) (Nat.le_of_ble_eq_true rfl) (Nat.le_of_ble_eq_true rfl) (Nat.le_of_ble_eq_true rfl) dX8_deal_217 (fun z49 v49 hz49 => ?_)
                          exact g_ireturn F rfl rfl rfl rfl (Nat.le_of_ble_eq_true rfl) (Nat.le_of_ble_eq_true rfl) dX8_deal_220
                        · exact g_none
                      · refine g_iconst F 0 rfl dX8_deal_183 ?_
                        refine g_goto F (tgt := 188) rfl dX8_deal_184 ?_
                        refine g_callV F (by decide) (K := 8) (b := a0) [(0, 3)] [0] ml_RX8_151 wi_X8_holds ws_X8_holds (c_X8_holds a0 3 (Int.not_lt.mp (Int.not_lt.mpr h0))) mi_X8_holds (by decide) ⟨_, rfl, rfl⟩ (Int.not_lt.mp (Int.not_lt.mpr h0)) rfl rfl rfl (Nat.le_of_ble_eq_true rfl) (Nat.le_of_ble_eq_true rfl) (Nat.le_of_ble_eq_true rfl) (Nat.le_of_ble_eq_true rfl) (Nat.le_of_ble_eq_true rfl) dX8_deal_188 (fun z50 v50 hz50 => ?_)
                        refine g_if_ne F rfl (tgt := 196) rfl dX8_deal_191 (fun n51 => ?_) (fun n51 => ?_)
                        · exact g_none
                        · refine g_iconst F 2 rfl dX8_deal_194 ?_
                          exact g_ireturn F rfl rfl rfl rfl (Nat.le_of_ble_eq_true rfl) (Nat.le_of_ble_eq_true rfl) dX8_deal_195
theorem c_X8_deal (a0 a1 a2 a3 : Int) (h0 : 0 ≤ a0) : ∀ l, Ct l yX8_deal cX8_deal 7 (some .int) ({ frames := 2, cells := 0, slots := 0, locals := 55 }) (some 0) [(18, a0), (0, a1), (0, a2), (0, a3)] (sp_X8_deal a0 a1 a2 a3) := g_method (by decide +kernel) (Nat.le_of_ble_eq_true rfl) (fun x v F ho => k_X8_deal a0 a1 a2 a3 h0 x v F ho)
def sp_X8_knows (a0 a1 a2 : Int) (v : V) : Res := (chk (0 ≤ (v 8 a0 31)) (chk (0 ≤ a1 ∧ a1 < 60) (if (v 71 (v 8 a0 31) a1) = (-1) then (rOk 0 v)
   else (chk (0 ≤ (v 8 a0 35)) (if ¬ (and32 (shr32 (v 75 (v 8 a0 35) a1) a2) 1) = 1 then (rOk 0 v)
   else (rOk 1 v))))))
set_option maxRecDepth 100000 in
set_option maxHeartbeats 4000000 in
theorem k_X8_knows (a0 a1 a2 : Int) (h0 : 0 ≤ a0) (x : Cx) (v : V) (F : Fx x cX8_knows RX8 "knows" ({ frames := 0, cells := 0, slots := 0, locals := 0 }) 3 (some 2) (some .boolean) 0) (ho : ∀ a ∈ [(18, a0), (0, a1), (0, a2)], okv v a) : Gs x (sp_X8_knows a0 a1 a2 v) v 0 0 0 (avArgs 0 [(18, a0), (0, a1), (0, a2)]) [] := by
  show Gs x _ v 0 0 0 [(0, (18, a0)), (1, (0, a1)), (2, (0, a2))] []
  unfold sp_X8_knows
  refine g_aload_n F rfl 0 rfl dX8_knows_0 ?_
  refine g_get F (t := 81) (sI := 31) fl_RX8_90 rfl rfl (Int.not_lt.mp (Int.not_lt.mpr h0)) dX8_knows_1 ?_
  refine g_iload_n F rfl 1 rfl rfl dX8_knows_4 ?_
  refine g_chk (fun n1 => ?_)
  refine g_chk (fun n2 => ?_)
  refine h_iald F (n := 60) ak_71 (Int.not_lt.mp (Int.not_lt.mpr n1)) n2 rfl dX8_knows_5 ?_
  refine g_iconst F 0 rfl dX8_knows_6 ?_
  refine g_icmp_eq F rfl rfl (tgt := 28) rfl dX8_knows_7 (fun n3 => ?_) (fun n3 => ?_)
  · refine g_iconst F 2 rfl dX8_knows_28 ?_
    exact g_ireturn F rfl rfl rfl rfl (Nat.le_of_ble_eq_true rfl) (Nat.le_of_ble_eq_true rfl) dX8_knows_29
  · refine g_aload_n F rfl 0 rfl dX8_knows_10 ?_
    refine g_get F (t := 85) (sI := 35) fl_RX8_102 rfl rfl (Int.not_lt.mp (Int.not_lt.mpr h0)) dX8_knows_11 ?_
    refine g_iload_n F rfl 1 rfl rfl dX8_knows_14 ?_
    refine g_chk (fun n4 => ?_)
    refine h_iald F (n := 60) ak_75 (Int.not_lt.mp (Int.not_lt.mpr n4)) n2 rfl dX8_knows_15 ?_
    refine g_iload_n F rfl 2 rfl rfl dX8_knows_16 ?_
    refine g_ishr F rfl rfl dX8_knows_17 ?_
    refine g_iconst F 2 rfl dX8_knows_18 ?_
    refine g_iand F rfl rfl dX8_knows_19 ?_
    refine g_iconst F 2 rfl dX8_knows_20 ?_
    refine g_icmp_ne F rfl rfl (tgt := 28) rfl dX8_knows_21 (fun n5 => ?_) (fun n5 => ?_)
    · refine g_iconst F 2 rfl dX8_knows_28 ?_
      exact g_ireturn F rfl rfl rfl rfl (Nat.le_of_ble_eq_true rfl) (Nat.le_of_ble_eq_true rfl) dX8_knows_29
    · refine g_iconst F 2 rfl dX8_knows_24 ?_
      refine g_goto F (tgt := 29) rfl dX8_knows_25 ?_
      exact g_ireturn F rfl rfl rfl rfl (Nat.le_of_ble_eq_true rfl) (Nat.le_of_ble_eq_true rfl) dX8_knows_29
theorem c_X8_knows (a0 a1 a2 : Int) (h0 : 0 ≤ a0) : ∀ l, Ct l yX8_knows cX8_knows 3 (some .boolean) ({ frames := 0, cells := 0, slots := 0, locals := 0 }) (some 2) [(18, a0), (0, a1), (0, a2)] (sp_X8_knows a0 a1 a2) := g_method (by decide +kernel) (Nat.le_of_ble_eq_true rfl) (fun x v F ho => k_X8_knows a0 a1 a2 h0 x v F ho)
def sp_X8_tell (a0 a1 a2 a3 : Int) (v : V) : Res := (rB (sp_X8_isLot a0 a1 v) (fun z1 v1 => (if z1 = 0 then (rB (sp_X8_holds a0 1 v1) (fun z3 v3 => (if ¬ z3 = 0 then none
   else (rOk 0 v3))))
   else (rB (sp_X8_isParty a0 a2 v1) (fun z5 v5 => (if z5 = 0 then (rB (sp_X8_holds a0 1 v5) (fun z7 v7 => (if ¬ z7 = 0 then none
   else (rOk 0 v7))))
   else (rB (sp_X8_isParty a0 a3 v5) (fun z9 v9 => (if z9 = 0 then (rB (sp_X8_holds a0 1 v9) (fun z11 v11 => (if ¬ z11 = 0 then none
   else (rOk 0 v11))))
   else (rB (sp_X8_knows a0 a1 a2 v9) (fun z13 v13 => (if z13 = 0 then (rB (sp_X8_holds a0 2 v13) (fun z15 v15 => (if ¬ z15 = 0 then none
   else (rOk 0 v15))))
   else (rB (sp_X8_holds a0 0 v13) (fun z17 v17 => (if ¬ z17 = 0 then (rB (sp_X8_knows a0 a1 a3 v17) (fun z19 v19 => (chk (0 ≤ (v19 8 a0 35)) (chk (0 ≤ a1 ∧ a1 < 60) (rLet (up v19 75 (v19 8 a0 35) a1 (or32 (v19 75 (v19 8 a0 35) a1) (shl32 1 a3))) (fun v22 => (rOk z19 v22)))))))
   else none)))))))))))))))
set_option maxRecDepth 100000 in
set_option maxHeartbeats 4000000 in
theorem k_X8_tell (a0 a1 a2 a3 : Int) (h0 : 0 ≤ a0) (x : Cx) (v : V) (F : Fx x cX8_tell RX8 "tell" ({ frames := 2, cells := 0, slots := 0, locals := 43 }) 6 (some 2) (some .boolean) 0) (ho : ∀ a ∈ [(18, a0), (0, a1), (0, a2), (0, a3)], okv v a) : Gs x (sp_X8_tell a0 a1 a2 a3 v) v 0 0 0 (avArgs 0 [(18, a0), (0, a1), (0, a2), (0, a3)]) [] := by
  show Gs x _ v 0 0 0 [(0, (18, a0)), (1, (0, a1)), (2, (0, a2)), (3, (0, a3))] []
  unfold sp_X8_tell
  refine g_aload_n F rfl 0 rfl dX8_tell_0 ?_
  refine g_iload_n F rfl 1 rfl rfl dX8_tell_1 ?_
  refine g_callV F (by decide) (K := 8) (b := a0) [(0, a1)] [0] ml_RX8_191 wi_X8_isLot ws_X8_isLot (c_X8_isLot a0 a1 (Int.not_lt.mp (Int.not_lt.mpr h0))) mi_X8_isLot (by decide) ⟨_, rfl, rfl⟩ (Int.not_lt.mp (Int.not_lt.mpr h0)) rfl rfl rfl (Nat.le_of_ble_eq_true rfl) (Nat.le_of_ble_eq_true rfl) (Nat.le_of_ble_eq_true rfl) (Nat.le_of_ble_eq_true rfl) (Nat.le_of_ble_eq_true rfl) dX8_tell_2 (fun z1 v1 hz1 => ?_)
  refine g_if_eq F rfl (tgt := 28) rfl dX8_tell_5 (fun n2 => ?_) (fun n2 => ?_)
  · refine g_iconst F 2 rfl dX8_tell_28 ?_
    refine g_istore F rfl (Nat.le_of_ble_eq_true rfl) (ls' := [(4, (2, 0)), (0, (18, a0)), (1, (0, a1)), (2, (0, a2)), (3, (0, a3))]) rfl dX8_tell_29 ?_
    refine g_aload_n F rfl 1 rfl dX8_tell_31 ?_
    refine g_iload F 0 rfl rfl dX8_tell_32 ?_
    refine g_if_ne_f F rfl (by decide) (tgt := 41) rfl dX8_tell_34 ?_
    refine g_iconst F 2 rfl dX8_tell_37 ?_
    refine g_goto F (tgt := 55) rfl dX8_tell_38 ?_
    refine g_callV F (by decide) (K := 8) (b := a0) [(2, 1)] [0] ml_RX8_151 wi_X8_holds ws_X8_holds (c_X8_holds a0 1 (Int.not_lt.mp (Int.not_lt.mpr h0))) mi_X8_holds (by decide) ⟨_, rfl, rfl⟩ (Int.not_lt.mp (Int.not_lt.mpr h0)) rfl rfl rfl (Nat.le_of_ble_eq_true rfl) (Nat.le_of_ble_eq_true rfl) (Nat.le_of_ble_eq_true rfl) (Nat.le_of_ble_eq_true rfl) (Nat.le_of_ble_eq_true rfl) dX8_tell_55 (fun z3 v3 hz3 => ?_)
    refine g_if_ne F rfl (tgt := 63) rfl dX8_tell_58 (fun n4 => ?_) (fun n4 => ?_)
    · exact g_none
    · refine g_iconst F 2 rfl dX8_tell_61 ?_
      exact g_ireturn F rfl rfl rfl rfl (Nat.le_of_ble_eq_true rfl) (Nat.le_of_ble_eq_true rfl) dX8_tell_62
  · refine g_aload_n F rfl 0 rfl dX8_tell_8 ?_
    refine g_iload_n F rfl 2 rfl rfl dX8_tell_9 ?_
    refine g_callV F (by decide) (K := 8) (b := a0) [(0, a2)] [0] ml_RX8_154 wi_X8_isParty ws_X8_isParty (c_X8_isParty a0 a2 (Int.not_lt.mp (Int.not_lt.mpr h0))) mi_X8_isParty (by decide) ⟨_, rfl, rfl⟩ (Int.not_lt.mp (Int.not_lt.mpr h0)) rfl rfl rfl (Nat.le_of_ble_eq_true rfl) (Nat.le_of_ble_eq_true rfl) (Nat.le_of_ble_eq_true rfl) (Nat.le_of_ble_eq_true rfl) (Nat.le_of_ble_eq_true rfl) dX8_tell_10 (fun z5 v5 hz5 => ?_)
    refine g_if_eq F rfl (tgt := 28) rfl dX8_tell_13 (fun n6 => ?_) (fun n6 => ?_)
    · refine g_iconst F 2 rfl dX8_tell_28 ?_
      refine g_istore F rfl (Nat.le_of_ble_eq_true rfl) (ls' := [(4, (2, 0)), (0, (18, a0)), (1, (0, a1)), (2, (0, a2)), (3, (0, a3))]) rfl dX8_tell_29 ?_
      refine g_aload_n F rfl 1 rfl dX8_tell_31 ?_
      refine g_iload F 0 rfl rfl dX8_tell_32 ?_
      refine g_if_ne_f F rfl (by decide) (tgt := 41) rfl dX8_tell_34 ?_
      refine g_iconst F 2 rfl dX8_tell_37 ?_
      refine g_goto F (tgt := 55) rfl dX8_tell_38 ?_
      refine g_callV F (by decide) (K := 8) (b := a0) [(2, 1)] [0] ml_RX8_151 wi_X8_holds ws_X8_holds (c_X8_holds a0 1 (Int.not_lt.mp (Int.not_lt.mpr h0))) mi_X8_holds (by decide) ⟨_, rfl, rfl⟩ (Int.not_lt.mp (Int.not_lt.mpr h0)) rfl rfl rfl (Nat.le_of_ble_eq_true rfl) (Nat.le_of_ble_eq_true rfl) (Nat.le_of_ble_eq_true rfl) (Nat.le_of_ble_eq_true rfl) (Nat.le_of_ble_eq_true rfl) dX8_tell_55 (fun z7 v7 hz7 => ?_)
      refine g_if_ne F rfl (tgt := 63) rfl dX8_tell_58 (fun n8 => ?_) (fun n8 => ?_)
      · exact g_none
      · refine g_iconst F 2 rfl dX8_tell_61 ?_
        exact g_ireturn F rfl rfl rfl rfl (Nat.le_of_ble_eq_true rfl) (Nat.le_of_ble_eq_true rfl) dX8_tell_62
    · refine g_aload_n F rfl 0 rfl dX8_tell_16 ?_
      refine g_iload_n F rfl 3 rfl rfl dX8_tell_17 ?_
      refine g_callV F (by decide) (K := 8) (b := a0) [(0, a3)] [0] ml_RX8_154 wi_X8_isParty ws_X8_isParty (c_X8_isParty a0 a3 (Int.not_lt.mp (Int.not_lt.mpr h0))) mi_X8_isParty (by decide) ⟨_, rfl, rfl⟩ (Int.not_lt.mp (Int.not_lt.mpr h0)) rfl rfl rfl (Nat.le_of_ble_eq_true rfl) (Nat.le_of_ble_eq_true rfl) (Nat.le_of_ble_eq_true rfl) (Nat.le_of_ble_eq_true rfl) (Nat.le_of_ble_eq_true rfl) dX8_tell_18 (fun z9 v9 hz9 => ?_)
      refine g_if_eq F rfl (tgt := 28) rfl dX8_tell_21 (fun n10 => ?_) (fun n10 => ?_)
      · refine g_iconst F 2 rfl dX8_tell_28 ?_
        refine g_istore F rfl (Nat.le_of_ble_eq_true rfl) (ls' := [(4, (2, 0)), (0, (18, a0)), (1, (0, a1)), (2, (0, a2)), (3, (0, a3))]) rfl dX8_tell_29 ?_
        refine g_aload_n F rfl 1 rfl dX8_tell_31 ?_
        refine g_iload F 0 rfl rfl dX8_tell_32 ?_
        refine g_if_ne_f F rfl (by decide) (tgt := 41) rfl dX8_tell_34 ?_
        refine g_iconst F 2 rfl dX8_tell_37 ?_
        refine g_goto F (tgt := 55) rfl dX8_tell_38 ?_
        refine g_callV F (by decide) (K := 8) (b := a0) [(2, 1)] [0] ml_RX8_151 wi_X8_holds ws_X8_holds (c_X8_holds a0 1 (Int.not_lt.mp (Int.not_lt.mpr h0))) mi_X8_holds (by decide) ⟨_, rfl, rfl⟩ (Int.not_lt.mp (Int.not_lt.mpr h0)) rfl rfl rfl (Nat.le_of_ble_eq_true rfl) (Nat.le_of_ble_eq_true rfl) (Nat.le_of_ble_eq_true rfl) (Nat.le_of_ble_eq_true rfl) (Nat.le_of_ble_eq_true rfl) dX8_tell_55 (fun z11 v11 hz11 => ?_)
        refine g_if_ne F rfl (tgt := 63) rfl dX8_tell_58 (fun n12 => ?_) (fun n12 => ?_)
        · exact g_none
        · refine g_iconst F 2 rfl dX8_tell_61 ?_
          exact g_ireturn F rfl rfl rfl rfl (Nat.le_of_ble_eq_true rfl) (Nat.le_of_ble_eq_true rfl) dX8_tell_62
      · refine g_iconst F 2 rfl dX8_tell_24 ?_
        refine g_goto F (tgt := 29) rfl dX8_tell_25 ?_
        refine g_istore F rfl (Nat.le_of_ble_eq_true rfl) (ls' := [(4, (2, 1)), (0, (18, a0)), (1, (0, a1)), (2, (0, a2)), (3, (0, a3))]) rfl dX8_tell_29 ?_
        refine g_aload_n F rfl 1 rfl dX8_tell_31 ?_
        refine g_iload F 0 rfl rfl dX8_tell_32 ?_
        refine g_if_ne_t F rfl (by decide) (tgt := 41) rfl dX8_tell_34 ?_
        refine g_aload_n F rfl 1 rfl dX8_tell_41 ?_
        refine g_iload_n F rfl 2 rfl rfl dX8_tell_42 ?_
        refine g_iload_n F rfl 3 rfl rfl dX8_tell_43 ?_
        refine g_callV F (by decide) (K := 8) (b := a0) [(0, a1), (0, a2)] [0, 0] ml_RX8_205 wi_X8_knows ws_X8_knows (c_X8_knows a0 a1 a2 (Int.not_lt.mp (Int.not_lt.mpr h0))) mi_X8_knows (by decide) ⟨_, rfl, rfl⟩ (Int.not_lt.mp (Int.not_lt.mpr h0)) rfl rfl rfl (Nat.le_of_ble_eq_true rfl) (Nat.le_of_ble_eq_true rfl) (Nat.le_of_ble_eq_true rfl) (Nat.le_of_ble_eq_true rfl) (Nat.le_of_ble_eq_true rfl) dX8_tell_44 (fun z13 v13 hz13 => ?_)
        refine g_if_eq F rfl (tgt := 54) rfl dX8_tell_47 (fun n14 => ?_) (fun n14 => ?_)
        · refine g_iconst F 0 rfl dX8_tell_54 ?_
          refine g_callV F (by decide) (K := 8) (b := a0) [(0, 2)] [0] ml_RX8_151 wi_X8_holds ws_X8_holds (c_X8_holds a0 2 (Int.not_lt.mp (Int.not_lt.mpr h0))) mi_X8_holds (by decide) ⟨_, rfl, rfl⟩ (Int.not_lt.mp (Int.not_lt.mpr h0)) rfl rfl rfl (Nat.le_of_ble_eq_true rfl) (Nat.le_of_ble_eq_true rfl) (Nat.le_of_ble_eq_true rfl) (Nat.le_of_ble_eq_true rfl) (Nat.le_of_ble_eq_true rfl) dX8_tell_55 (fun z15 v15 hz15 => ?_)
          refine g_if_ne F rfl (tgt := 63) rfl dX8_tell_58 (fun n16 => ?_) (fun n16 => ?_)
          · exact g_none
          · refine g_iconst F 2 rfl dX8_tell_61 ?_
            exact g_ireturn F rfl rfl rfl rfl (Nat.le_of_ble_eq_true rfl) (Nat.le_of_ble_eq_true rfl) dX8_tell_62
        · refine g_iconst F 2 rfl dX8_tell_50 ?_
          refine g_goto F (tgt := 55) rfl dX8_tell_51 ?_
          refine g_callV F (by decide) (K := 8) (b := a0) [(2, 0)] [0] ml_RX8_151 wi_X8_holds ws_X8_holds (c_X8_holds a0 0 (Int.not_lt.mp (Int.not_lt.mpr h0))) mi_X8_holds (by decide) ⟨_, rfl, rfl⟩ (Int.not_lt.mp (Int.not_lt.mpr h0)) rfl rfl rfl (Nat.le_of_ble_eq_true rfl) (Nat.le_of_ble_eq_true rfl) (Nat.le_of_ble_eq_true rfl) (Nat.le_of_ble_eq_true rfl) (Nat.le_of_ble_eq_true rfl) dX8_tell_55 (fun z17 v17 hz17 => ?_)
          refine g_if_ne F rfl (tgt := 63) rfl dX8_tell_58 (fun n18 => ?_) (fun n18 => ?_)
          · refine g_aload_n F rfl 1 rfl dX8_tell_63 ?_
            refine g_iload_n F rfl 2 rfl rfl dX8_tell_64 ?_
            refine g_iload_n F rfl 4 rfl rfl dX8_tell_65 ?_
            refine g_callV F (by decide) (K := 8) (b := a0) [(0, a1), (0, a3)] [0, 0] ml_RX8_205 wi_X8_knows ws_X8_knows (c_X8_knows a0 a1 a3 (Int.not_lt.mp (Int.not_lt.mpr h0))) mi_X8_knows (by decide) ⟨_, rfl, rfl⟩ (Int.not_lt.mp (Int.not_lt.mpr h0)) rfl rfl rfl (Nat.le_of_ble_eq_true rfl) (Nat.le_of_ble_eq_true rfl) (Nat.le_of_ble_eq_true rfl) (Nat.le_of_ble_eq_true rfl) (Nat.le_of_ble_eq_true rfl) dX8_tell_66 (fun z19 v19 hz19 => ?_)
            refine g_istore F rfl (Nat.le_of_ble_eq_true rfl) (ls' := [(5, (2, z19)), (4, (2, 1)), (0, (18, a0)), (1, (0, a1)), (2, (0, a2)), (3, (0, a3))]) rfl dX8_tell_69 ?_
            refine g_aload_n F rfl 2 rfl dX8_tell_71 ?_
            refine g_get F (t := 85) (sI := 35) fl_RX8_102 rfl rfl (Int.not_lt.mp (Int.not_lt.mpr h0)) dX8_tell_72 ?_
            refine g_iload_n F rfl 3 rfl rfl dX8_tell_75 ?_
            refine g_dup2 F rfl rfl dX8_tell_76 ?_
            refine g_chk (fun n20 => ?_)
            refine g_chk (fun n21 => ?_)
            refine h_iald F (n := 60) ak_75 (Int.not_lt.mp (Int.not_lt.mpr n20)) n21 rfl dX8_tell_77 ?_
            refine g_iconst F 2 rfl dX8_tell_78 ?_
            refine g_iload_n F rfl 5 rfl rfl dX8_tell_79 ?_
            refine g_ishl F rfl rfl dX8_tell_80 ?_
            refine g_ior F rfl rfl dX8_tell_81 ?_
            refine h_iast F (n := 60) ak_75 rfl (Int.not_lt.mp (Int.not_lt.mpr n20)) n21 rfl dX8_tell_82 (fun v22 => ?_)
            refine g_iload F 0 rfl rfl dX8_tell_83 ?_
            exact g_ireturn F rfl rfl rfl rfl (Nat.le_of_ble_eq_true rfl) (Nat.le_of_ble_eq_true rfl) dX8_tell_85
          · exact g_none
theorem c_X8_tell (a0 a1 a2 a3 : Int) (h0 : 0 ≤ a0) : ∀ l, Ct l yX8_tell cX8_tell 6 (some .boolean) ({ frames := 2, cells := 0, slots := 0, locals := 43 }) (some 2) [(18, a0), (0, a1), (0, a2), (0, a3)] (sp_X8_tell a0 a1 a2 a3) := g_method (by decide +kernel) (Nat.le_of_ble_eq_true rfl) (fun x v F ho => k_X8_tell a0 a1 a2 a3 h0 x v F ho)
def sp_X8_takes (a0 a1 a2 : Int) (v : V) : Res := (chk (0 ≤ (v 8 a0 23)) (chk (0 ≤ a1 ∧ a1 < 60) (rLet (up v 63 (v 8 a0 23) a1 a2) (fun v3 => (chk (0 ≤ (v3 8 a0 26)) (rLet (up v3 66 (v3 8 a0 26) a1 (-1)) (fun v5 => (chk (0 ≤ (v5 8 a0 31)) (rLet (up v5 71 (v5 8 a0 31) a1 (-1)) (fun v7 => (rOk 0 v7)))))))))))
set_option maxRecDepth 100000 in
set_option maxHeartbeats 4000000 in
theorem k_X8_takes (a0 a1 a2 : Int) (h0 : 0 ≤ a0) (x : Cx) (v : V) (F : Fx x cX8_takes RX8 "takes" ({ frames := 0, cells := 0, slots := 0, locals := 0 }) 3 none none 0) (ho : ∀ a ∈ [(18, a0), (0, a1), (0, a2)], okv v a) : Gs x (sp_X8_takes a0 a1 a2 v) v 0 0 0 (avArgs 0 [(18, a0), (0, a1), (0, a2)]) [] := by
  show Gs x _ v 0 0 0 [(0, (18, a0)), (1, (0, a1)), (2, (0, a2))] []
  unfold sp_X8_takes
  refine g_aload_n F rfl 0 rfl dX8_takes_0 ?_
  refine g_get F (t := 73) (sI := 23) fl_RX8_66 rfl rfl (Int.not_lt.mp (Int.not_lt.mpr h0)) dX8_takes_1 ?_
  refine g_iload_n F rfl 1 rfl rfl dX8_takes_4 ?_
  refine g_iload_n F rfl 2 rfl rfl dX8_takes_5 ?_
  refine g_chk (fun n1 => ?_)
  refine g_chk (fun n2 => ?_)
  refine h_iast F (n := 60) ak_63 rfl (Int.not_lt.mp (Int.not_lt.mpr n1)) n2 rfl dX8_takes_6 (fun v3 => ?_)
  refine g_aload_n F rfl 0 rfl dX8_takes_7 ?_
  refine g_get F (t := 76) (sI := 26) fl_RX8_75 rfl rfl (Int.not_lt.mp (Int.not_lt.mpr h0)) dX8_takes_8 ?_
  refine g_iload_n F rfl 1 rfl rfl dX8_takes_11 ?_
  refine g_iconst F 0 rfl dX8_takes_12 ?_
  refine g_chk (fun n4 => ?_)
  refine h_iast F (n := 60) ak_66 rfl (Int.not_lt.mp (Int.not_lt.mpr n4)) n2 rfl dX8_takes_13 (fun v5 => ?_)
  refine g_aload_n F rfl 0 rfl dX8_takes_14 ?_
  refine g_get F (t := 81) (sI := 31) fl_RX8_90 rfl rfl (Int.not_lt.mp (Int.not_lt.mpr h0)) dX8_takes_15 ?_
  refine g_iload_n F rfl 1 rfl rfl dX8_takes_18 ?_
  refine g_iconst F 0 rfl dX8_takes_19 ?_
  refine g_chk (fun n6 => ?_)
  refine h_iast F (n := 60) ak_71 rfl (Int.not_lt.mp (Int.not_lt.mpr n6)) n2 rfl dX8_takes_20 (fun v7 => ?_)
  exact g_return F rfl (Nat.le_of_ble_eq_true rfl) (Nat.le_of_ble_eq_true rfl) dX8_takes_21
theorem c_X8_takes (a0 a1 a2 : Int) (h0 : 0 ≤ a0) : ∀ l, Ct l yX8_takes cX8_takes 3 none ({ frames := 0, cells := 0, slots := 0, locals := 0 }) none [(18, a0), (0, a1), (0, a2)] (sp_X8_takes a0 a1 a2) := g_method (by decide +kernel) (Nat.le_of_ble_eq_true rfl) (fun x v F ho => k_X8_takes a0 a1 a2 h0 x v F ho)
def sp_X8_restore (a0 a1 a2 : Int) (v : V) : Res := (rB (sp_X8_isLot a0 a1 v) (fun z1 v1 => (if z1 = 0 then (rB (sp_X8_holds a0 1 v1) (fun z3 v3 => (if ¬ z3 = 0 then none
   else (rOk 0 v3))))
   else (rB (sp_X8_isParty a0 a2 v1) (fun z5 v5 => (if z5 = 0 then (rB (sp_X8_holds a0 1 v5) (fun z7 v7 => (if ¬ z7 = 0 then none
   else (rOk 0 v7))))
   else (chk (0 ≤ (v5 8 a0 24)) (chk (0 ≤ a1 ∧ a1 < 60) (if (v5 64 (v5 8 a0 24) a1) ≤ 0 then (rB (sp_X8_holds a0 2 v5) (fun z12 v12 => (if ¬ z12 = 0 then none
   else (rOk 0 v12))))
   else (chk (0 ≤ (v5 8 a0 31)) (if (v5 71 (v5 8 a0 31) a1) = (-1) then (rB (sp_X8_holds a0 2 v5) (fun z16 v16 => (if ¬ z16 = 0 then none
   else (rOk 0 v16))))
   else (chk (0 ≤ (v5 8 a0 5)) (chk (0 ≤ a2 ∧ a2 < 10) (if ¬ (v5 45 (v5 8 a0 5) a2) = 0 then (rB (sp_X8_holds a0 2 v5) (fun z21 v21 => (if ¬ z21 = 0 then none
   else (rOk 0 v21))))
   else (chk (0 ≤ (v5 8 a0 22)) (chk (0 ≤ (v5 8 a0 15)) (chk (0 ≤ (v5 62 (v5 8 a0 22) a1) ∧ (v5 62 (v5 8 a0 22) a1) < 12) (if (v5 55 (v5 8 a0 15) (v5 62 (v5 8 a0 22) a1)) = (-1) then (rB (sp_X8_holds a0 2 v5) (fun z27 v27 => (if ¬ z27 = 0 then none
   else (rOk 0 v27))))
   else (if (v5 71 (v5 8 a0 31) a1) < (v5 55 (v5 8 a0 15) (v5 62 (v5 8 a0 22) a1)) then (rB (sp_X8_holds a0 2 v5) (fun z30 v30 => (if ¬ z30 = 0 then none
   else (rOk 0 v30))))
   else (rB (sp_X8_holds a0 0 v5) (fun z32 v32 => (if ¬ z32 = 0 then (chk (0 ≤ (v32 8 a0 23)) (rB (sp_X8_takes a0 a1 a2 v32) (fun z35 v35 => (rOk (v32 63 (v32 8 a0 23) a1) v35))))
   else none))))))))))))))))))))))
set_option maxRecDepth 100000 in
set_option maxHeartbeats 4000000 in
theorem k_X8_restore (a0 a1 a2 : Int) (h0 : 0 ≤ a0) (x : Cx) (v : V) (F : Fx x cX8_restore RX8 "restore" ({ frames := 2, cells := 0, slots := 0, locals := 43 }) 6 (some 0) (some .int) 0) (ho : ∀ a ∈ [(18, a0), (0, a1), (0, a2)], okv v a) : Gs x (sp_X8_restore a0 a1 a2 v) v 0 0 0 (avArgs 0 [(18, a0), (0, a1), (0, a2)]) [] := by
  show Gs x _ v 0 0 0 [(0, (18, a0)), (1, (0, a1)), (2, (0, a2))] []
  unfold sp_X8_restore
  refine g_aload_n F rfl 0 rfl dX8_restore_0 ?_
  refine g_iload_n F rfl 1 rfl rfl dX8_restore_1 ?_
  refine g_callV F (by decide) (K := 8) (b := a0) [(0, a1)] [0] ml_RX8_191 wi_X8_isLot ws_X8_isLot (c_X8_isLot a0 a1 (Int.not_lt.mp (Int.not_lt.mpr h0))) mi_X8_isLot (by decide) ⟨_, rfl, rfl⟩ (Int.not_lt.mp (Int.not_lt.mpr h0)) rfl rfl rfl (Nat.le_of_ble_eq_true rfl) (Nat.le_of_ble_eq_true rfl) (Nat.le_of_ble_eq_true rfl) (Nat.le_of_ble_eq_true rfl) (Nat.le_of_ble_eq_true rfl) dX8_restore_2 (fun z1 v1 hz1 => ?_)
  refine g_if_eq F rfl (tgt := 20) rfl dX8_restore_5 (fun n2 => ?_) (fun n2 => ?_)
  · refine g_iconst F 2 rfl dX8_restore_20 ?_
    refine g_istore_n F rfl rfl (Nat.le_of_ble_eq_true rfl) (ls' := [(3, (2, 0)), (0, (18, a0)), (1, (0, a1)), (2, (0, a2))]) rfl dX8_restore_21 ?_
    refine g_iload_n F rfl 0 rfl rfl dX8_restore_22 ?_
    refine g_if_eq_t F rfl (by decide) (tgt := 58) rfl dX8_restore_23 ?_
    refine g_iconst F 2 rfl dX8_restore_58 ?_
    refine g_istore F rfl (Nat.le_of_ble_eq_true rfl) (ls' := [(4, (2, 0)), (3, (2, 0)), (0, (18, a0)), (1, (0, a1)), (2, (0, a2))]) rfl dX8_restore_59 ?_
    refine g_iload F 0 rfl rfl dX8_restore_61 ?_
    refine g_if_eq_t F rfl (by decide) (tgt := 105) rfl dX8_restore_63 ?_
    refine g_iconst F 2 rfl dX8_restore_105 ?_
    refine g_istore F rfl (Nat.le_of_ble_eq_true rfl) (ls' := [(4, (2, 0)), (3, (2, 0)), (0, (18, a0)), (1, (0, a1)), (2, (0, a2))]) rfl dX8_restore_106 ?_
    refine g_aload_n F rfl 2 rfl dX8_restore_108 ?_
    refine g_iload_n F rfl 1 rfl rfl dX8_restore_109 ?_
    refine g_if_ne_f F rfl (by decide) (tgt := 117) rfl dX8_restore_110 ?_
    refine g_iconst F 2 rfl dX8_restore_113 ?_
    refine g_goto F (tgt := 127) rfl dX8_restore_114 ?_
    refine g_callV F (by decide) (K := 8) (b := a0) [(2, 1)] [0] ml_RX8_151 wi_X8_holds ws_X8_holds (c_X8_holds a0 1 (Int.not_lt.mp (Int.not_lt.mpr h0))) mi_X8_holds (by decide) ⟨_, rfl, rfl⟩ (Int.not_lt.mp (Int.not_lt.mpr h0)) rfl rfl rfl (Nat.le_of_ble_eq_true rfl) (Nat.le_of_ble_eq_true rfl) (Nat.le_of_ble_eq_true rfl) (Nat.le_of_ble_eq_true rfl) (Nat.le_of_ble_eq_true rfl) dX8_restore_127 (fun z3 v3 hz3 => ?_)
    refine g_if_ne F rfl (tgt := 135) rfl dX8_restore_130 (fun n4 => ?_) (fun n4 => ?_)
    · exact g_none
    · refine g_iconst F 2 rfl dX8_restore_133 ?_
      exact g_ireturn F rfl rfl rfl rfl (Nat.le_of_ble_eq_true rfl) (Nat.le_of_ble_eq_true rfl) dX8_restore_134
  · refine g_aload_n F rfl 0 rfl dX8_restore_8 ?_
    refine g_iload_n F rfl 2 rfl rfl dX8_restore_9 ?_
    refine g_callV F (by decide) (K := 8) (b := a0) [(0, a2)] [0] ml_RX8_154 wi_X8_isParty ws_X8_isParty (c_X8_isParty a0 a2 (Int.not_lt.mp (Int.not_lt.mpr h0))) mi_X8_isParty (by decide) ⟨_, rfl, rfl⟩ (Int.not_lt.mp (Int.not_lt.mpr h0)) rfl rfl rfl (Nat.le_of_ble_eq_true rfl) (Nat.le_of_ble_eq_true rfl) (Nat.le_of_ble_eq_true rfl) (Nat.le_of_ble_eq_true rfl) (Nat.le_of_ble_eq_true rfl) dX8_restore_10 (fun z5 v5 hz5 => ?_)
    refine g_if_eq F rfl (tgt := 20) rfl dX8_restore_13 (fun n6 => ?_) (fun n6 => ?_)
    · refine g_iconst F 2 rfl dX8_restore_20 ?_
      refine g_istore_n F rfl rfl (Nat.le_of_ble_eq_true rfl) (ls' := [(3, (2, 0)), (0, (18, a0)), (1, (0, a1)), (2, (0, a2))]) rfl dX8_restore_21 ?_
      refine g_iload_n F rfl 0 rfl rfl dX8_restore_22 ?_
      refine g_if_eq_t F rfl (by decide) (tgt := 58) rfl dX8_restore_23 ?_
      refine g_iconst F 2 rfl dX8_restore_58 ?_
      refine g_istore F rfl (Nat.le_of_ble_eq_true rfl) (ls' := [(4, (2, 0)), (3, (2, 0)), (0, (18, a0)), (1, (0, a1)), (2, (0, a2))]) rfl dX8_restore_59 ?_
      refine g_iload F 0 rfl rfl dX8_restore_61 ?_
      refine g_if_eq_t F rfl (by decide) (tgt := 105) rfl dX8_restore_63 ?_
      refine g_iconst F 2 rfl dX8_restore_105 ?_
      refine g_istore F rfl (Nat.le_of_ble_eq_true rfl) (ls' := [(4, (2, 0)), (3, (2, 0)), (0, (18, a0)), (1, (0, a1)), (2, (0, a2))]) rfl dX8_restore_106 ?_
      refine g_aload_n F rfl 2 rfl dX8_restore_108 ?_
      refine g_iload_n F rfl 1 rfl rfl dX8_restore_109 ?_
      refine g_if_ne_f F rfl (by decide) (tgt := 117) rfl dX8_restore_110 ?_
      refine g_iconst F 2 rfl dX8_restore_113 ?_
      refine g_goto F (tgt := 127) rfl dX8_restore_114 ?_
      refine g_callV F (by decide) (K := 8) (b := a0) [(2, 1)] [0] ml_RX8_151 wi_X8_holds ws_X8_holds (c_X8_holds a0 1 (Int.not_lt.mp (Int.not_lt.mpr h0))) mi_X8_holds (by decide) ⟨_, rfl, rfl⟩ (Int.not_lt.mp (Int.not_lt.mpr h0)) rfl rfl rfl (Nat.le_of_ble_eq_true rfl) (Nat.le_of_ble_eq_true rfl) (Nat.le_of_ble_eq_true rfl) (Nat.le_of_ble_eq_true rfl) (Nat.le_of_ble_eq_true rfl) dX8_restore_127 (fun z7 v7 hz7 => ?_)
      refine g_if_ne F rfl (tgt := 135) rfl dX8_restore_130 (fun n8 => ?_) (fun n8 => ?_)
      · exact g_none
      · refine g_iconst F 2 rfl dX8_restore_133 ?_
        exact g_ireturn F rfl rfl rfl rfl (Nat.le_of_ble_eq_true rfl) (Nat.le_of_ble_eq_true rfl) dX8_restore_134
    · refine g_iconst F 2 rfl dX8_restore_16 ?_
      refine g_goto F (tgt := 21) rfl dX8_restore_17 ?_
      refine g_istore_n F rfl rfl (Nat.le_of_ble_eq_true rfl) (ls' := [(3, (2, 1)), (0, (18, a0)), (1, (0, a1)), (2, (0, a2))]) rfl dX8_restore_21 ?_
      refine g_iload_n F rfl 0 rfl rfl dX8_restore_22 ?_
      refine g_if_eq_f F rfl (by decide) (tgt := 58) rfl dX8_restore_23 ?_
      refine g_aload_n F rfl 1 rfl dX8_restore_26 ?_
      refine g_get F (t := 74) (sI := 24) fl_RX8_69 rfl rfl (Int.not_lt.mp (Int.not_lt.mpr h0)) dX8_restore_27 ?_
      refine g_iload_n F rfl 2 rfl rfl dX8_restore_30 ?_
      refine g_chk (fun n9 => ?_)
      refine g_chk (fun n10 => ?_)
      refine h_iald F (n := 60) ak_64 (Int.not_lt.mp (Int.not_lt.mpr n9)) n10 rfl dX8_restore_31 ?_
      refine g_if_le F rfl (tgt := 58) rfl dX8_restore_32 (fun n11 => ?_) (fun n11 => ?_)
      · refine g_iconst F 2 rfl dX8_restore_58 ?_
        refine g_istore F rfl (Nat.le_of_ble_eq_true rfl) (ls' := [(4, (2, 0)), (3, (2, 1)), (0, (18, a0)), (1, (0, a1)), (2, (0, a2))]) rfl dX8_restore_59 ?_
        refine g_iload F 0 rfl rfl dX8_restore_61 ?_
        refine g_if_eq_t F rfl (by decide) (tgt := 105) rfl dX8_restore_63 ?_
        refine g_iconst F 2 rfl dX8_restore_105 ?_
        refine g_istore F rfl (Nat.le_of_ble_eq_true rfl) (ls' := [(4, (2, 0)), (3, (2, 1)), (0, (18, a0)), (1, (0, a1)), (2, (0, a2))]) rfl dX8_restore_106 ?_
        refine g_aload_n F rfl 2 rfl dX8_restore_108 ?_
        refine g_iload_n F rfl 1 rfl rfl dX8_restore_109 ?_
        refine g_if_ne_t F rfl (by decide) (tgt := 117) rfl dX8_restore_110 ?_
        refine g_iload F 0 rfl rfl dX8_restore_117 ?_
        refine g_if_eq_t F rfl (by decide) (tgt := 126) rfl dX8_restore_119 ?_
        refine g_iconst F 0 rfl dX8_restore_126 ?_
        refine g_callV F (by decide) (K := 8) (b := a0) [(0, 2)] [0] ml_RX8_151 wi_X8_holds ws_X8_holds (c_X8_holds a0 2 (Int.not_lt.mp (Int.not_lt.mpr h0))) mi_X8_holds (by decide) ⟨_, rfl, rfl⟩ (Int.not_lt.mp (Int.not_lt.mpr h0)) rfl rfl rfl (Nat.le_of_ble_eq_true rfl) (Nat.le_of_ble_eq_true rfl) (Nat.le_of_ble_eq_true rfl) (Nat.le_of_ble_eq_true rfl) (Nat.le_of_ble_eq_true rfl) dX8_restore_127 (fun z12 v12 hz12 => ?_)
        refine g_if_ne F rfl (tgt := 135) rfl dX8_restore_130 (fun n13 => ?_) (fun n13 => ?_)
        · exact g_none
        · refine g_iconst F 2 rfl dX8_restore_133 ?_
          exact g_ireturn F rfl rfl rfl rfl (Nat.le_of_ble_eq_true rfl) (Nat.le_of_ble_eq_true rfl) dX8_restore_134
      · refine g_aload_n F rfl 1 rfl dX8_restore_35 ?_
        refine g_get F (t := 81) (sI := 31) fl_RX8_90 rfl rfl (Int.not_lt.mp (Int.not_lt.mpr h0)) dX8_restore_36 ?_
        refine g_iload_n F rfl 2 rfl rfl dX8_restore_39 ?_
        refine g_chk (fun n14 => ?_)
        refine h_iald F (n := 60) ak_71 (Int.not_lt.mp (Int.not_lt.mpr n14)) n10 rfl dX8_restore_40 ?_
        refine g_iconst F 0 rfl dX8_restore_41 ?_
        refine g_icmp_eq F rfl rfl (tgt := 58) rfl dX8_restore_42 (fun n15 => ?_) (fun n15 => ?_)
        · refine g_iconst F 2 rfl dX8_restore_58 ?_
          refine g_istore F rfl (Nat.le_of_ble_eq_true rfl) (ls' := [(4, (2, 0)), (3, (2, 1)), (0, (18, a0)), (1, (0, a1)), (2, (0, a2))]) rfl dX8_restore_59 ?_
          refine g_iload F 0 rfl rfl dX8_restore_61 ?_
          refine g_if_eq_t F rfl (by decide) (tgt := 105) rfl dX8_restore_63 ?_
          refine g_iconst F 2 rfl dX8_restore_105 ?_
          refine g_istore F rfl (Nat.le_of_ble_eq_true rfl) (ls' := [(4, (2, 0)), (3, (2, 1)), (0, (18, a0)), (1, (0, a1)), (2, (0, a2))]) rfl dX8_restore_106 ?_
          refine g_aload_n F rfl 2 rfl dX8_restore_108 ?_
          refine g_iload_n F rfl 1 rfl rfl dX8_restore_109 ?_
          refine g_if_ne_t F rfl (by decide) (tgt := 117) rfl dX8_restore_110 ?_
          refine g_iload F 0 rfl rfl dX8_restore_117 ?_
          refine g_if_eq_t F rfl (by decide) (tgt := 126) rfl dX8_restore_119 ?_
          refine g_iconst F 0 rfl dX8_restore_126 ?_
          refine g_callV F (by decide) (K := 8) (b := a0) [(0, 2)] [0] ml_RX8_151 wi_X8_holds ws_X8_holds (c_X8_holds a0 2 (Int.not_lt.mp (Int.not_lt.mpr h0))) mi_X8_holds (by decide) ⟨_, rfl, rfl⟩ (Int.not_lt.mp (Int.not_lt.mpr h0)) rfl rfl rfl (Nat.le_of_ble_eq_true rfl) (Nat.le_of_ble_eq_true rfl) (Nat.le_of_ble_eq_true rfl) (Nat.le_of_ble_eq_true rfl) (Nat.le_of_ble_eq_true rfl) dX8_restore_127 (fun z16 v16 hz16 => ?_)
          refine g_if_ne F rfl (tgt := 135) rfl dX8_restore_130 (fun n17 => ?_) (fun n17 => ?_)
          · exact g_none
          · refine g_iconst F 2 rfl dX8_restore_133 ?_
            exact g_ireturn F rfl rfl rfl rfl (Nat.le_of_ble_eq_true rfl) (Nat.le_of_ble_eq_true rfl) dX8_restore_134
        · refine g_aload_n F rfl 1 rfl dX8_restore_45 ?_
          refine g_get F (t := 55) (sI := 5) fl_RX8_17 rfl rfl (Int.not_lt.mp (Int.not_lt.mpr h0)) dX8_restore_46 ?_
          refine g_iload_n F rfl 3 rfl rfl dX8_restore_49 ?_
          refine g_chk (fun n18 => ?_)
          refine g_chk (fun n19 => ?_)
          refine h_zald F (n := 10) ak_45 (Int.not_lt.mp (Int.not_lt.mpr n18)) n19 rfl dX8_restore_50 ?_
          refine g_if_ne F rfl (tgt := 58) rfl dX8_restore_51 (fun n20 => ?_) (fun n20 => ?_)
          · refine g_iconst F 2 rfl dX8_restore_58 ?_
            refine g_istore F rfl (Nat.le_of_ble_eq_true rfl) (ls' := [(4, (2, 0)), (3, (2, 1)), (0, (18, a0)), (1, (0, a1)), (2, (0, a2))]) rfl dX8_restore_59 ?_
            refine g_iload F 0 rfl rfl dX8_restore_61 ?_
            refine g_if_eq_t F rfl (by decide) (tgt := 105) rfl dX8_restore_63 ?_
            refine g_iconst F 2 rfl dX8_restore_105 ?_
            refine g_istore F rfl (Nat.le_of_ble_eq_true rfl) (ls' := [(4, (2, 0)), (3, (2, 1)), (0, (18, a0)), (1, (0, a1)), (2, (0, a2))]) rfl dX8_restore_106 ?_
            refine g_aload_n F rfl 2 rfl dX8_restore_108 ?_
            refine g_iload_n F rfl 1 rfl rfl dX8_restore_109 ?_
            refine g_if_ne_t F rfl (by decide) (tgt := 117) rfl dX8_restore_110 ?_
            refine g_iload F 0 rfl rfl dX8_restore_117 ?_
            refine g_if_eq_t F rfl (by decide) (tgt := 126) rfl dX8_restore_119 ?_
            refine g_iconst F 0 rfl dX8_restore_126 ?_
            refine g_callV F (by decide) (K := 8) (b := a0) [(0, 2)] [0] ml_RX8_151 wi_X8_holds ws_X8_holds (c_X8_holds a0 2 (Int.not_lt.mp (Int.not_lt.mpr h0))) mi_X8_holds (by decide) ⟨_, rfl, rfl⟩ (Int.not_lt.mp (Int.not_lt.mpr h0)) rfl rfl rfl (Nat.le_of_ble_eq_true rfl) (Nat.le_of_ble_eq_true rfl) (Nat.le_of_ble_eq_true rfl) (Nat.le_of_ble_eq_true rfl) (Nat.le_of_ble_eq_true rfl) dX8_restore_127 (fun z21 v21 hz21 => ?_)
            refine g_if_ne F rfl (tgt := 135) rfl dX8_restore_130 (fun n22 => ?_) (fun n22 => ?_)
            · exact g_none
            · refine g_iconst F 2 rfl dX8_restore_133 ?_
              exact g_ireturn F rfl rfl rfl rfl (Nat.le_of_ble_eq_true rfl) (Nat.le_of_ble_eq_true rfl) dX8_restore_134
          · refine g_iconst F 2 rfl dX8_restore_54 ?_
            refine g_goto F (tgt := 59) rfl dX8_restore_55 ?_
            refine g_istore F rfl (Nat.le_of_ble_eq_true rfl) (ls' := [(4, (2, 1)), (3, (2, 1)), (0, (18, a0)), (1, (0, a1)), (2, (0, a2))]) rfl dX8_restore_59 ?_
            refine g_iload F 0 rfl rfl dX8_restore_61 ?_
            refine g_if_eq_f F rfl (by decide) (tgt := 105) rfl dX8_restore_63 ?_
            refine g_aload_n F rfl 2 rfl dX8_restore_66 ?_
            refine g_get F (t := 65) (sI := 15) fl_RX8_45 rfl rfl (Int.not_lt.mp (Int.not_lt.mpr h0)) dX8_restore_67 ?_
            refine g_aload_n F rfl 2 rfl dX8_restore_70 ?_
            refine g_get F (t := 72) (sI := 22) fl_RX8_63 rfl rfl (Int.not_lt.mp (Int.not_lt.mpr h0)) dX8_restore_71 ?_
            refine g_iload_n F rfl 3 rfl rfl dX8_restore_74 ?_
            refine g_chk (fun n23 => ?_)
            refine h_iald F (n := 60) ak_62 (Int.not_lt.mp (Int.not_lt.mpr n23)) n10 rfl dX8_restore_75 ?_
            refine g_chk (fun n24 => ?_)
            refine g_chk (fun n25 => ?_)
            refine h_iald F (n := 12) ak_55 (Int.not_lt.mp (Int.not_lt.mpr n24)) n25 rfl dX8_restore_76 ?_
            refine g_iconst F 0 rfl dX8_restore_77 ?_
            refine g_icmp_eq F rfl rfl (tgt := 105) rfl dX8_restore_78 (fun n26 => ?_) (fun n26 => ?_)
            · refine g_iconst F 2 rfl dX8_restore_105 ?_
              refine g_istore F rfl (Nat.le_of_ble_eq_true rfl) (ls' := [(4, (2, 0)), (3, (2, 1)), (0, (18, a0)), (1, (0, a1)), (2, (0, a2))]) rfl dX8_restore_106 ?_
              refine g_aload_n F rfl 2 rfl dX8_restore_108 ?_
              refine g_iload_n F rfl 1 rfl rfl dX8_restore_109 ?_
              refine g_if_ne_t F rfl (by decide) (tgt := 117) rfl dX8_restore_110 ?_
              refine g_iload F 0 rfl rfl dX8_restore_117 ?_
              refine g_if_eq_t F rfl (by decide) (tgt := 126) rfl dX8_restore_119 ?_
              refine g_iconst F 0 rfl dX8_restore_126 ?_
              refine g_callV F (by decide) (K := 8) (b := a0) [(0, 2)] [0] ml_RX8_151 wi_X8_holds ws_X8_holds (c_X8_holds a0 2 (Int.not_lt.mp (Int.not_lt.mpr h0))) mi_X8_holds (by decide) ⟨_, rfl, rfl⟩ (Int.not_lt.mp (Int.not_lt.mpr h0)) rfl rfl rfl (Nat.le_of_ble_eq_true rfl) (Nat.le_of_ble_eq_true rfl) (Nat.le_of_ble_eq_true rfl) (Nat.le_of_ble_eq_true rfl) (Nat.le_of_ble_eq_true rfl) dX8_restore_127 (fun z27 v27 hz27 => ?_)
              refine g_if_ne F rfl (tgt := 135) rfl dX8_restore_130 (fun n28 => ?_) (fun n28 => ?_)
              · exact g_none
              · refine g_iconst F 2 rfl dX8_restore_133 ?_
                exact g_ireturn F rfl rfl rfl rfl (Nat.le_of_ble_eq_true rfl) (Nat.le_of_ble_eq_true rfl) dX8_restore_134
            · refine g_aload_n F rfl 2 rfl dX8_restore_81 ?_
              refine g_get F (t := 81) (sI := 31) fl_RX8_90 rfl rfl (Int.not_lt.mp (Int.not_lt.mpr h0)) dX8_restore_82 ?_
              refine g_iload_n F rfl 3 rfl rfl dX8_restore_85 ?_
              refine h_iald F (n := 60) ak_71 (Int.not_lt.mp (Int.not_lt.mpr n14)) n10 rfl dX8_restore_86 ?_
              refine g_aload_n F rfl 2 rfl dX8_restore_87 ?_
              refine g_get F (t := 65) (sI := 15) fl_RX8_45 rfl rfl (Int.not_lt.mp (Int.not_lt.mpr h0)) dX8_restore_88 ?_
              refine g_aload_n F rfl 2 rfl dX8_restore_91 ?_
              refine g_get F (t := 72) (sI := 22) fl_RX8_63 rfl rfl (Int.not_lt.mp (Int.not_lt.mpr h0)) dX8_restore_92 ?_
              refine g_iload_n F rfl 3 rfl rfl dX8_restore_95 ?_
              refine h_iald F (n := 60) ak_62 (Int.not_lt.mp (Int.not_lt.mpr n23)) n10 rfl dX8_restore_96 ?_
              refine h_iald F (n := 12) ak_55 (Int.not_lt.mp (Int.not_lt.mpr n24)) n25 rfl dX8_restore_97 ?_
              refine g_icmp_lt F rfl rfl (tgt := 105) rfl dX8_restore_98 (fun n29 => ?_) (fun n29 => ?_)
              · refine g_iconst F 2 rfl dX8_restore_105 ?_
                refine g_istore F rfl (Nat.le_of_ble_eq_true rfl) (ls' := [(4, (2, 0)), (3, (2, 1)), (0, (18, a0)), (1, (0, a1)), (2, (0, a2))]) rfl dX8_restore_106 ?_
                refine g_aload_n F rfl 2 rfl dX8_restore_108 ?_
                refine g_iload_n F rfl 1 rfl rfl dX8_restore_109 ?_
                refine g_if_ne_t F rfl (by decide) (tgt := 117) rfl dX8_restore_110 ?_
                refine g_iload F 0 rfl rfl dX8_restore_117 ?_
                refine g_if_eq_t F rfl (by decide) (tgt := 126) rfl dX8_restore_119 ?_
                refine g_iconst F 0 rfl dX8_restore_126 ?_
                refine g_callV F (by decide) (K := 8) (b := a0) [(0, 2)] [0] ml_RX8_151 wi_X8_holds ws_X8_holds (c_X8_holds a0 2 (Int.not_lt.mp (Int.not_lt.mpr h0))) mi_X8_holds (by decide) ⟨_, rfl, rfl⟩ (Int.not_lt.mp (Int.not_lt.mpr h0)) rfl rfl rfl (Nat.le_of_ble_eq_true rfl) (Nat.le_of_ble_eq_true rfl) (Nat.le_of_ble_eq_true rfl) (Nat.le_of_ble_eq_true rfl) (Nat.le_of_ble_eq_true rfl) dX8_restore_127 (fun z30 v30 hz30 => ?_)
                refine g_if_ne F rfl (tgt := 135) rfl dX8_restore_130 (fun n31 => ?_) (fun n31 => ?_)
                · exact g_none
                · refine g_iconst F 2 rfl dX8_restore_133 ?_
                  exact g_ireturn F rfl rfl rfl rfl (Nat.le_of_ble_eq_true rfl) (Nat.le_of_ble_eq_true rfl) dX8_restore_134
              · refine g_iconst F 2 rfl dX8_restore_101 ?_
                refine g_goto F (tgt := 106) rfl dX8_restore_102 ?_
                refine g_istore F rfl (Nat.le_of_ble_eq_true rfl) (ls' := [(4, (2, 1)), (3, (2, 1)), (0, (18, a0)), (1, (0, a1)), (2, (0, a2))]) rfl dX8_restore_106 ?_
                refine g_aload_n F rfl 2 rfl dX8_restore_108 ?_
                refine g_iload_n F rfl 1 rfl rfl dX8_restore_109 ?_
                refine g_if_ne_t F rfl (by decide) (tgt := 117) rfl dX8_restore_110 ?_
                refine g_iload F 0 rfl rfl dX8_restore_117 ?_
                refine g_if_eq_f F rfl (by decide) (tgt := 126) rfl dX8_restore_119 ?_
                refine g_iconst F 2 rfl dX8_restore_122 ?_
                refine g_goto F (tgt := 127) rfl dX8_restore_123 ?_
                refine g_callV F (by decide) (K := 8) (b := a0) [(2, 0)] [0] ml_RX8_151 wi_X8_holds ws_X8_holds (c_X8_holds a0 0 (Int.not_lt.mp (Int.not_lt.mpr h0))) mi_X8_holds (by decide) ⟨_, rfl, rfl⟩ (Int.not_lt.mp (Int.not_lt.mpr h0)) rfl rfl rfl (Nat.le_of_ble_eq_true rfl) (Nat.le_of_ble_eq_true rfl) (Nat.le_of_ble_eq_true rfl) (Nat.le_of_ble_eq_true rfl) (Nat.le_of_ble_eq_true rfl) dX8_restore_127 (fun z32 v32 hz32 => ?_)
                refine g_if_ne F rfl (tgt := 135) rfl dX8_restore_130 (fun n33 => ?_) (fun n33 => ?_)
                · refine g_aload_n F rfl 2 rfl dX8_restore_135 ?_
                  refine g_get F (t := 73) (sI := 23) fl_RX8_66 rfl rfl (Int.not_lt.mp (Int.not_lt.mpr h0)) dX8_restore_136 ?_
                  refine g_iload_n F rfl 3 rfl rfl dX8_restore_139 ?_
                  refine g_chk (fun n34 => ?_)
                  refine h_iald F (n := 60) ak_63 (Int.not_lt.mp (Int.not_lt.mpr n34)) n10 rfl dX8_restore_140 ?_
                  refine g_istore F rfl (Nat.le_of_ble_eq_true rfl) (ls' := [(5, (0, (v32 63 (v32 8 a0 23) a1))), (4, (2, 1)), (3, (2, 1)), (0, (18, a0)), (1, (0, a1)), (2, (0, a2))]) rfl dX8_restore_141 ?_
                  refine g_aload_n F rfl 3 rfl dX8_restore_143 ?_
                  refine g_iload_n F rfl 4 rfl rfl dX8_restore_144 ?_
                  refine g_iload_n F rfl 5 rfl rfl dX8_restore_145 ?_
                  refine g_callV F (by decide) (K := 8) (b := a0) [(0, a1), (0, a2)] [0, 0] ml_RX8_208 wi_X8_takes ws_X8_takes (c_X8_takes a0 a1 a2 (Int.not_lt.mp (Int.not_lt.mpr h0))) mi_X8_takes (by decide) ⟨_, rfl, rfl⟩ (Int.not_lt.mp (Int.not_lt.mpr h0)) rfl rfl rfl (Nat.le_of_ble_eq_true rfl) (Nat.le_of_ble_eq_true rfl) (Nat.le_of_ble_eq_true rfl) (Nat.le_of_ble_eq_true rfl) (Nat.le_of_ble_eq_true rfl) dX8_restore_146 (fun z35 v35 hz35 => ?_)
                  refine g_iload F 0 rfl rfl dX8_restore_149 ?_
                  exact g_ireturn F rfl rfl rfl rfl (Nat.le_of_ble_eq_true rfl) (Nat.le_of_ble_eq_true rfl) dX8_restore_151
                · exact g_none
theorem c_X8_restore (a0 a1 a2 : Int) (h0 : 0 ≤ a0) : ∀ l, Ct l yX8_restore cX8_restore 6 (some .int) ({ frames := 2, cells := 0, slots := 0, locals := 43 }) (some 0) [(18, a0), (0, a1), (0, a2)] (sp_X8_restore a0 a1 a2) := g_method (by decide +kernel) (Nat.le_of_ble_eq_true rfl) (fun x v F ho => k_X8_restore a0 a1 a2 h0 x v F ho)

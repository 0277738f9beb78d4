/-! methods, by the walker -/
def sp_X7_bring (a0 a1 a2 : Int) (v : V) : Res := (rB (sp_X7_workAt a0 a1 v) (fun z1 v1 => (rB (sp_X7_requireLand a2 v1) (fun z2 v2 => (chk (0 ≤ z1) (if ¬ (v2 6 z1 7) = 0 then (if a2 = (v2 6 z1 6) then (rB (sp_X7_requireState 1 v2) (fun z6 v6 => (rLet (up v6 6 z1 6 a2) (fun v7 => (rOk (v6 6 z1 6) v7)))))
   else (rB (sp_X7_requireState 0 v2) (fun z8 v8 => none)))
   else (rB (sp_X6_barDaysLeft z1 (v2 7 a0 9) v2) (fun z9 v9 => (if z9 ≤ 0 then (if a2 = (v9 6 z1 6) then (rB (sp_X7_requireState 1 v9) (fun z12 v12 => (rLet (up v12 6 z1 6 a2) (fun v13 => (rOk (v12 6 z1 6) v13)))))
   else (rB (sp_X7_requireState 1 v9) (fun z14 v14 => (rLet (up v14 6 z1 6 a2) (fun v15 => (rOk (v14 6 z1 6) v15))))))
   else (if a2 = (v9 6 z1 6) then (rB (sp_X7_requireState 1 v9) (fun z17 v17 => (rLet (up v17 6 z1 6 a2) (fun v18 => (rOk (v17 6 z1 6) v18)))))
   else (rB (sp_X7_requireState 0 v9) (fun z19 v19 => none))))))))))))
set_option maxRecDepth 100000 in
set_option maxHeartbeats 4000000 in
theorem k_X7_bring (a0 a1 a2 : Int) (h0 : 0 ≤ a0) (x : Cx) (v : V) (F : Fx x cX7_bring RX7 "bring" ({ frames := 7, cells := 3, slots := 18, locals := 103 }) 6 (some 0) (some .int) 0) (ho : ∀ a ∈ [(17, a0), (0, a1), (0, a2)], okv v a) : Gs x (sp_X7_bring a0 a1 a2 v) v 0 0 0 (avArgs 0 [(17, a0), (0, a1), (0, a2)]) [] := by
  show Gs x _ v 0 0 0 [(0, (17, a0)), (1, (0, a1)), (2, (0, a2))] []
  unfold sp_X7_bring
  refine g_aload_n F rfl 0 rfl dX7_bring_0 ?_
  refine g_iload_n F rfl 1 rfl rfl dX7_bring_1 ?_
  refine g_callV F (by decide) (K := 7) (b := a0) [(0, a1)] [0] ml_RX7_80 wi_X7_workAt ws_X7_workAt (c_X7_workAt a0 a1 (Int.not_lt.mp (Int.not_lt.mpr h0))) mi_X7_workAt (by decide) ⟨_, rfl, rfl⟩ (Int.not_lt.mp (Int.not_lt.mpr h0)) rfl rfl rfl (Nat.le_of_ble_eq_true rfl) (Nat.le_of_ble_eq_true rfl) (Nat.le_of_ble_eq_true rfl) (Nat.le_of_ble_eq_true rfl) (Nat.le_of_ble_eq_true rfl) dX7_bring_2 (fun z1 v1 hz1 => ?_)
  refine g_astore_n F rfl (Nat.le_of_ble_eq_true rfl) (ls' := [(3, (16, z1)), (0, (17, a0)), (1, (0, a1)), (2, (0, a2))]) rfl dX7_bring_5 ?_
  refine g_iload_n F rfl 3 rfl rfl dX7_bring_6 ?_
  refine g_callS F (by decide) [(0, a2)] [0] ml_RX7_37 wt_X7_requireLand (c_X7_requireLand a2) mi_X7_requireLand rfl rfl rfl (Nat.le_of_ble_eq_true rfl) (Nat.le_of_ble_eq_true rfl) (Nat.le_of_ble_eq_true rfl) (Nat.le_of_ble_eq_true rfl) (Nat.le_of_ble_eq_true rfl) dX7_bring_7 (fun z2 v2 hz2 => ?_)
  refine g_aload_n F rfl 0 rfl dX7_bring_10 ?_
  refine g_chk (fun n3 => ?_)
  refine g_get F (t := 2) (sI := 7) fl_RX7_123 rfl rfl (Int.not_lt.mp (Int.not_lt.mpr n3)) dX7_bring_11 ?_
  refine g_if_ne F rfl (tgt := 28) rfl dX7_bring_14 (fun n4 => ?_) (fun n4 => ?_)
  · refine g_iconst F 2 rfl dX7_bring_28 ?_
    refine g_goto F (tgt := 33) rfl dX7_bring_29 ?_
    refine g_istore F rfl (Nat.le_of_ble_eq_true rfl) (ls' := [(4, (2, 1)), (3, (16, z1)), (0, (17, a0)), (1, (0, a1)), (2, (0, a2))]) rfl dX7_bring_33 ?_
    refine g_iload_n F rfl 4 rfl rfl dX7_bring_35 ?_
    refine g_aload_n F rfl 1 rfl dX7_bring_36 ?_
    refine g_get F (t := 0) (sI := 6) fl_RX7_120 rfl rfl (Int.not_lt.mp (Int.not_lt.mpr n3)) dX7_bring_37 ?_
    refine g_icmp_eq F rfl rfl (tgt := 48) rfl dX7_bring_40 (fun n5 => ?_) (fun n5 => ?_)
    · refine g_iconst F 2 rfl dX7_bring_48 ?_
      refine g_goto F (tgt := 53) rfl dX7_bring_49 ?_
      refine g_callS F (by decide) [(2, 1)] [2] ml_RX7_50 wt_X7_requireState (c_X7_requireState 1) mi_X7_requireState rfl rfl rfl (Nat.le_of_ble_eq_true rfl) (Nat.le_of_ble_eq_true rfl) (Nat.le_of_ble_eq_true rfl) (Nat.le_of_ble_eq_true rfl) (Nat.le_of_ble_eq_true rfl) dX7_bring_53 (fun z6 v6 hz6 => ?_)
      refine g_aload_n F rfl 1 rfl dX7_bring_56 ?_
      refine g_get F (t := 0) (sI := 6) fl_RX7_120 rfl rfl (Int.not_lt.mp (Int.not_lt.mpr n3)) dX7_bring_57 ?_
      refine g_istore F rfl (Nat.le_of_ble_eq_true rfl) (ls' := [(5, (0, (v6 6 z1 6))), (4, (2, 1)), (3, (16, z1)), (0, (17, a0)), (1, (0, a1)), (2, (0, a2))]) rfl dX7_bring_60 ?_
      refine g_aload_n F rfl 2 rfl dX7_bring_62 ?_
      refine g_iload_n F rfl 5 rfl rfl dX7_bring_63 ?_
      refine h_put F (sI := 6) fl_RX7_120 ⟨_, rfl, Or.inl rfl⟩ rfl rfl (Int.not_lt.mp (Int.not_lt.mpr n3)) dX7_bring_64 (fun v7 => ?_)
      refine g_iload F 0 rfl rfl dX7_bring_67 ?_
      exact g_ireturn F rfl rfl rfl rfl (Nat.le_of_ble_eq_true rfl) (Nat.le_of_ble_eq_true rfl) dX7_bring_69
    · refine g_iload F 0 rfl rfl dX7_bring_43 ?_
      refine g_if_ne_t F rfl (by decide) (tgt := 52) rfl dX7_bring_45 ?_
      refine g_iconst F 2 rfl dX7_bring_52 ?_
      refine g_callS F (by decide) [(2, 0)] [2] ml_RX7_50 wt_X7_requireState (c_X7_requireState 0) mi_X7_requireState rfl rfl rfl (Nat.le_of_ble_eq_true rfl) (Nat.le_of_ble_eq_true rfl) (Nat.le_of_ble_eq_true rfl) (Nat.le_of_ble_eq_true rfl) (Nat.le_of_ble_eq_true rfl) dX7_bring_53 (fun z8 v8 hz8 => ?_)
      exact g_none
  · refine g_aload_n F rfl 0 rfl dX7_bring_17 ?_
    refine g_aload_n F rfl 1 rfl dX7_bring_18 ?_
    refine g_get F (t := 0) (sI := 9) fl_RX7_87 rfl rfl (Int.not_lt.mp (Int.not_lt.mpr h0)) dX7_bring_19 ?_
    refine g_callVN F (by decide) (K := 6) (b := z1) [(0, (v2 7 a0 9))] [0] ml_RX7_113 wi_X6_barDaysLeft ws_X6_barDaysLeft (c_X6_barDaysLeft z1 (v2 7 a0 9) (Int.not_lt.mp (Int.not_lt.mpr n3))) mi_X6_barDaysLeft (by decide) ⟨_, rfl, rfl⟩ (Int.not_lt.mp (Int.not_lt.mpr n3)) rfl rfl rfl (Nat.le_of_ble_eq_true rfl) (Nat.le_of_ble_eq_true rfl) (Nat.le_of_ble_eq_true rfl) (Nat.le_of_ble_eq_true rfl) (Nat.le_of_ble_eq_true rfl) dX7_bring_22 (fun z9 v9 hz9 => ?_)
    refine g_if_le F rfl (tgt := 32) rfl dX7_bring_25 (fun n10 => ?_) (fun n10 => ?_)
    · refine g_iconst F 2 rfl dX7_bring_32 ?_
      refine g_istore F rfl (Nat.le_of_ble_eq_true rfl) (ls' := [(4, (2, 0)), (3, (16, z1)), (0, (17, a0)), (1, (0, a1)), (2, (0, a2))]) rfl dX7_bring_33 ?_
      refine g_iload_n F rfl 4 rfl rfl dX7_bring_35 ?_
      refine g_aload_n F rfl 1 rfl dX7_bring_36 ?_
      refine g_get F (t := 0) (sI := 6) fl_RX7_120 rfl rfl (Int.not_lt.mp (Int.not_lt.mpr n3)) dX7_bring_37 ?_
      refine g_icmp_eq F rfl rfl (tgt := 48) rfl dX7_bring_40 (fun n11 => ?_) (fun n11 => ?_)
      · refine g_iconst F 2 rfl dX7_bring_48 ?_
        refine g_goto F (tgt := 53) rfl dX7_bring_49 ?_
        refine g_callS F (by decide) [(2, 1)] [2] ml_RX7_50 wt_X7_requireState (c_X7_requireState 1) mi_X7_requireState rfl rfl rfl (Nat.le_of_ble_eq_true rfl) (Nat.le_of_ble_eq_true rfl) (Nat.le_of_ble_eq_true rfl) (Nat.le_of_ble_eq_true rfl) (Nat.le_of_ble_eq_true rfl) dX7_bring_53 (fun z12 v12 hz12 => ?_)
        refine g_aload_n F rfl 1 rfl dX7_bring_56 ?_
        refine g_get F (t := 0) (sI := 6) fl_RX7_120 rfl rfl (Int.not_lt.mp (Int.not_lt.mpr n3)) dX7_bring_57 ?_
        refine g_istore F rfl (Nat.le_of_ble_eq_true rfl) (ls' := [(5, (0, (v12 6 z1 6))), (4, (2, 0)), (3, (16, z1)), (0, (17, a0)), (1, (0, a1)), (2, (0, a2))]) rfl dX7_bring_60 ?_
        refine g_aload_n F rfl 2 rfl dX7_bring_62 ?_
        refine g_iload_n F rfl 5 rfl rfl dX7_bring_63 ?_
        refine h_put F (sI := 6) fl_RX7_120 ⟨_, rfl, Or.inl rfl⟩ rfl rfl (Int.not_lt.mp (Int.not_lt.mpr n3)) dX7_bring_64 (fun v13 => ?_)
        refine g_iload F 0 rfl rfl dX7_bring_67 ?_
        exact g_ireturn F rfl rfl rfl rfl (Nat.le_of_ble_eq_true rfl) (Nat.le_of_ble_eq_true rfl) dX7_bring_69
      · refine g_iload F 0 rfl rfl dX7_bring_43 ?_
        refine g_if_ne_f F rfl (by decide) (tgt := 52) rfl dX7_bring_45 ?_
        refine g_iconst F 2 rfl dX7_bring_48 ?_
        refine g_goto F (tgt := 53) rfl dX7_bring_49 ?_
        refine g_callS F (by decide) [(2, 1)] [2] ml_RX7_50 wt_X7_requireState (c_X7_requireState 1) mi_X7_requireState rfl rfl rfl (Nat.le_of_ble_eq_true rfl) (Nat.le_of_ble_eq_true rfl) (Nat.le_of_ble_eq_true rfl) (Nat.le_of_ble_eq_true rfl) (Nat.le_of_ble_eq_true rfl) dX7_bring_53 (fun z14 v14 hz14 => ?_)
        refine g_aload_n F rfl 1 rfl dX7_bring_56 ?_
        refine g_get F (t := 0) (sI := 6) fl_RX7_120 rfl rfl (Int.not_lt.mp (Int.not_lt.mpr n3)) dX7_bring_57 ?_
        refine g_istore F rfl (Nat.le_of_ble_eq_true rfl) (ls' := [(5, (0, (v14 6 z1 6))), (4, (2, 0)), (3, (16, z1)), (0, (17, a0)), (1, (0, a1)), (2, (0, a2))]) rfl dX7_bring_60 ?_
        refine g_aload_n F rfl 2 rfl dX7_bring_62 ?_
        refine g_iload_n F rfl 5 rfl rfl dX7_bring_63 ?_
        refine h_put F (sI := 6) fl_RX7_120 ⟨_, rfl, Or.inl rfl⟩ rfl rfl (Int.not_lt.mp (Int.not_lt.mpr n3)) dX7_bring_64 (fun v15 => ?_)
        refine g_iload F 0 rfl rfl dX7_bring_67 ?_
        exact g_ireturn F rfl rfl rfl rfl (Nat.le_of_ble_eq_true rfl) (Nat.le_of_ble_eq_true rfl) dX7_bring_69
    · refine g_iconst F 2 rfl dX7_bring_28 ?_
      refine g_goto F (tgt := 33) rfl dX7_bring_29 ?_
      refine g_istore F rfl (Nat.le_of_ble_eq_true rfl) (ls' := [(4, (2, 1)), (3, (16, z1)), (0, (17, a0)), (1, (0, a1)), (2, (0, a2))]) rfl dX7_bring_33 ?_
      refine g_iload_n F rfl 4 rfl rfl dX7_bring_35 ?_
      refine g_aload_n F rfl 1 rfl dX7_bring_36 ?_
      refine g_get F (t := 0) (sI := 6) fl_RX7_120 rfl rfl (Int.not_lt.mp (Int.not_lt.mpr n3)) dX7_bring_37 ?_
      refine g_icmp_eq F rfl rfl (tgt := 48) rfl dX7_bring_40 (fun n16 => ?_) (fun n16 => ?_)
      · refine g_iconst F 2 rfl dX7_bring_48 ?_
        refine g_goto F (tgt := 53) rfl dX7_bring_49 ?_
        refine g_callS F (by decide) [(2, 1)] [2] ml_RX7_50 wt_X7_requireState (c_X7_requireState 1) mi_X7_requireState rfl rfl rfl (Nat.le_of_ble_eq_true rfl) (Nat.le_of_ble_eq_true rfl) (Nat.le_of_ble_eq_true rfl) (Nat.le_of_ble_eq_true rfl) (Nat.le_of_ble_eq_true rfl) dX7_bring_53 (fun z17 v17 hz17 => ?_)
        refine g_aload_n F rfl 1 rfl dX7_bring_56 ?_
        refine g_get F (t := 0) (sI := 6) fl_RX7_120 rfl rfl (Int.not_lt.mp (Int.not_lt.mpr n3)) dX7_bring_57 ?_
        refine g_istore F rfl (Nat.le_of_ble_eq_true rfl) (ls' := [(5, (0, (v17 6 z1 6))), (4, (2, 1)), (3, (16, z1)), (0, (17, a0)), (1, (0, a1)), (2, (0, a2))]) rfl dX7_bring_60 ?_
        refine g_aload_n F rfl 2 rfl dX7_bring_62 ?_
        refine g_iload_n F rfl 5 rfl rfl dX7_bring_63 ?_
        refine h_put F (sI := 6) fl_RX7_120 ⟨_, rfl, Or.inl rfl⟩ rfl rfl (Int.not_lt.mp (Int.not_lt.mpr n3)) dX7_bring_64 (fun v18 => ?_)
        refine g_iload F 0 rfl rfl dX7_bring_67 ?_
        exact g_ireturn F rfl rfl rfl rfl (Nat.le_of_ble_eq_true rfl) (Nat.le_of_ble_eq_true rfl) dX7_bring_69
      · refine g_iload F 0 rfl rfl dX7_bring_43 ?_
        refine g_if_ne_t F rfl (by decide) (tgt := 52) rfl dX7_bring_45 ?_
        refine g_iconst F 2 rfl dX7_bring_52 ?_
        refine g_callS F (by decide) [(2, 0)] [2] ml_RX7_50 wt_X7_requireState (c_X7_requireState 0) mi_X7_requireState rfl rfl rfl (Nat.le_of_ble_eq_true rfl) (Nat.le_of_ble_eq_true rfl) (Nat.le_of_ble_eq_true rfl) (Nat.le_of_ble_eq_true rfl) (Nat.le_of_ble_eq_true rfl) dX7_bring_53 (fun z19 v19 hz19 => ?_)
        exact g_none
theorem c_X7_bring (a0 a1 a2 : Int) (h0 : 0 ≤ a0) : ∀ l, Ct l yX7_bring cX7_bring 6 (some .int) ({ frames := 7, cells := 3, slots := 18, locals := 103 }) (some 0) [(17, a0), (0, a1), (0, a2)] (sp_X7_bring a0 a1 a2) := g_method (by decide +kernel) (Nat.le_of_ble_eq_true rfl) (fun x v F ho => k_X7_bring a0 a1 a2 h0 x v F ho)
def sp_X7_list (a0 a1 : Int) (v : V) : Res := (rB (sp_X7_workAt a0 a1 v) (fun z1 v1 => (chk (0 ≤ z1) (if ¬ (v1 6 z1 9) = (-1) then (rB (sp_X7_requireState 0 v1) (fun z4 v4 => none))
   else (rB (sp_X7_requireState 1 v1) (fun z5 v5 => (rLet (up v5 6 z1 9 (v5 7 a0 9)) (fun v6 => (rOk 0 v6)))))))))
set_option maxRecDepth 100000 in
set_option maxHeartbeats 4000000 in
theorem k_X7_list (a0 a1 : Int) (h0 : 0 ≤ a0) (x : Cx) (v : V) (F : Fx x cX7_list RX7 "list" ({ frames := 7, cells := 2, slots := 12, locals := 103 }) 3 none none 0) (ho : ∀ a ∈ [(17, a0), (0, a1)], okv v a) : Gs x (sp_X7_list a0 a1 v) v 0 0 0 (avArgs 0 [(17, a0), (0, a1)]) [] := by
  show Gs x _ v 0 0 0 [(0, (17, a0)), (1, (0, a1))] []
  unfold sp_X7_list
  refine g_aload_n F rfl 0 rfl dX7_list_0 ?_
  refine g_iload_n F rfl 1 rfl rfl dX7_list_1 ?_
  refine g_callV F (by decide) (K := 7) (b := a0) [(0, a1)] [0] ml_RX7_80 wi_X7_workAt ws_X7_workAt (c_X7_workAt a0 a1 (Int.not_lt.mp (Int.not_lt.mpr h0))) mi_X7_workAt (by decide) ⟨_, rfl, rfl⟩ (Int.not_lt.mp (Int.not_lt.mpr h0)) rfl rfl rfl (Nat.le_of_ble_eq_true rfl) (Nat.le_of_ble_eq_true rfl) (Nat.le_of_ble_eq_true rfl) (Nat.le_of_ble_eq_true rfl) (Nat.le_of_ble_eq_true rfl) dX7_list_2 (fun z1 v1 hz1 => ?_)
  refine g_astore_n F rfl (Nat.le_of_ble_eq_true rfl) (ls' := [(2, (16, z1)), (0, (17, a0)), (1, (0, a1))]) rfl dX7_list_5 ?_
  refine g_aload_n F rfl 0 rfl dX7_list_6 ?_
  refine g_chk (fun n2 => ?_)
  refine g_get F (t := 0) (sI := 9) fl_RX7_127 rfl rfl (Int.not_lt.mp (Int.not_lt.mpr n2)) dX7_list_7 ?_
  refine g_iconst F 0 rfl dX7_list_10 ?_
  refine g_icmp_ne F rfl rfl (tgt := 18) rfl dX7_list_11 (fun n3 => ?_) (fun n3 => ?_)
  · refine g_iconst F 2 rfl dX7_list_18 ?_
    refine g_callS F (by decide) [(2, 0)] [2] ml_RX7_50 wt_X7_requireState (c_X7_requireState 0) mi_X7_requireState rfl rfl rfl (Nat.le_of_ble_eq_true rfl) (Nat.le_of_ble_eq_true rfl) (Nat.le_of_ble_eq_true rfl) (Nat.le_of_ble_eq_true rfl) (Nat.le_of_ble_eq_true rfl) dX7_list_19 (fun z4 v4 hz4 => ?_)
    exact g_none
  · refine g_iconst F 2 rfl dX7_list_14 ?_
    refine g_goto F (tgt := 19) rfl dX7_list_15 ?_
    refine g_callS F (by decide) [(2, 1)] [2] ml_RX7_50 wt_X7_requireState (c_X7_requireState 1) mi_X7_requireState rfl rfl rfl (Nat.le_of_ble_eq_true rfl) (Nat.le_of_ble_eq_true rfl) (Nat.le_of_ble_eq_true rfl) (Nat.le_of_ble_eq_true rfl) (Nat.le_of_ble_eq_true rfl) dX7_list_19 (fun z5 v5 hz5 => ?_)
    refine g_aload_n F rfl 0 rfl dX7_list_22 ?_
    refine g_aload_n F rfl 1 rfl dX7_list_23 ?_
    refine g_get F (t := 0) (sI := 9) fl_RX7_87 rfl rfl (Int.not_lt.mp (Int.not_lt.mpr h0)) dX7_list_24 ?_
    refine h_put F (sI := 9) fl_RX7_127 ⟨_, rfl, Or.inl rfl⟩ rfl rfl (Int.not_lt.mp (Int.not_lt.mpr n2)) dX7_list_27 (fun v6 => ?_)
    exact g_return F rfl (Nat.le_of_ble_eq_true rfl) (Nat.le_of_ble_eq_true rfl) dX7_list_30
theorem c_X7_list (a0 a1 : Int) (h0 : 0 ≤ a0) : ∀ l, Ct l yX7_list cX7_list 3 none ({ frames := 7, cells := 2, slots := 12, locals := 103 }) none [(17, a0), (0, a1)] (sp_X7_list a0 a1) := g_method (by decide +kernel) (Nat.le_of_ble_eq_true rfl) (fun x v F ho => k_X7_list a0 a1 h0 x v F ho)
def lp_X7_fail_31 (l0 l1 l2 : Int) (k : V → Int → Int → Res) : Nat → V → Int → Int → Res
  | 0, _, _, _ => none
  | n + 1, v, l3, l4 => (if (v 7 l0 7) ≤ l4 then (k v l3 l4)
   else (chk (0 ≤ (v 7 l0 2)) (chk (0 ≤ l4 ∧ l4 < 60) (chk (0 ≤ (v 12 (v 7 l0 2) l4)) (rB (sp_X2_dealer (v 12 (v 7 l0 2) l4)  v) (fun z10 v10 => (if z10 = l2 then (chk (0 ≤ (v10 7 l0 2)) (chk (0 ≤ (v10 12 (v10 7 l0 2) l4)) (rLet (up v10 2 (v10 12 (v10 7 l0 2) l4) 6 (-1)) (fun v15 => (lp_X7_fail_31 l0 l1 l2 k n v15 (w32 (l3 + 1)) (w32 (l4 + 1)))))))
   else (lp_X7_fail_31 l0 l1 l2 k n v10 l3 (w32 (l4 + 1))))))))))
set_option maxRecDepth 100000 in
set_option maxHeartbeats 4000000 in
theorem kl_X7_fail_31 {l0 l1 l2 : Int} (h0 : 0 ≤ l0) {x : Cx} (F : Fx x cX7_fail RX7 "fail" ({ frames := 7, cells := 2, slots := 12, locals := 103 }) 5 (some 0) (some .int) 0) {k : V → Int → Int → Res} (hk : ∀ (v : V) (l3 l4 : Int), Gs x (k v l3 l4) v 2 12 74 [(0, (17, l0)), (1, (0, l1)), (2, (13, l2)), (3, (0, l3)), (4, (0, l4))] []) : ∀ (n : Nat) (v : V) (l3 l4 : Int), Gs x (lp_X7_fail_31 l0 l1 l2 k n v l3 l4) v 2 12 31 [(0, (17, l0)), (1, (0, l1)), (2, (13, l2)), (3, (0, l3)), (4, (0, l4))] [] := by
  intro n
  induction n with
  | zero => intro v l3 l4; exact g_none
  | succ n ih =>
    intro v l3 l4
    rw [lp_X7_fail_31]
    refine g_iload F 4 rfl rfl dX7_fail_31 ?_
    refine g_aload_n F rfl 0 rfl dX7_fail_33 ?_
    refine g_get F (t := 0) (sI := 7) fl_RX7_66 rfl rfl (Int.not_lt.mp (Int.not_lt.mpr h0)) dX7_fail_34 ?_
    refine g_icmp_ge F rfl rfl (tgt := 74) rfl dX7_fail_37 (fun n7 => ?_) (fun n7 => ?_)
    · refine g_loc [(0, 17), (1, 0), (2, 13), (3, 0), (4, 0)] rfl ?_
      exact hk v l3 l4
    · refine g_aload_n F rfl 0 rfl dX7_fail_40 ?_
      refine g_get F (t := 22) (sI := 2) fl_RX7_23 rfl rfl (Int.not_lt.mp (Int.not_lt.mpr h0)) dX7_fail_41 ?_
      refine g_iload F 4 rfl rfl dX7_fail_44 ?_
      refine g_chk (fun n8 => ?_)
      refine g_chk (fun n9 => ?_)
      refine h_aald F (n := 60) ak_12 (Int.not_lt.mp (Int.not_lt.mpr n8)) n9 rfl dX7_fail_46 ?_
      refine g_chk (fun n11 => ?_)
      refine g_callVN F (by decide) (K := 2) (b := (v 12 (v 7 l0 2) l4)) [] [] ml_RX7_133 wi_X2_dealer ws_X2_dealer (c_X2_dealer (v 12 (v 7 l0 2) l4)  (Int.not_lt.mp (Int.not_lt.mpr n11))) mi_X2_dealer (by decide) ⟨_, rfl, rfl⟩ (Int.not_lt.mp (Int.not_lt.mpr n11)) rfl rfl rfl (Nat.le_of_ble_eq_true rfl) (Nat.le_of_ble_eq_true rfl) (Nat.le_of_ble_eq_true rfl) (Nat.le_of_ble_eq_true rfl) (Nat.le_of_ble_eq_true rfl) dX7_fail_47 (fun z10 v10 hz10 => ?_)
      refine g_aload_n F rfl 2 rfl dX7_fail_50 ?_
      refine g_acmp_ne F (by decide) (tgt := 68) rfl dX7_fail_51 (fun n12 => ?_) (fun n12 => ?_)
      · refine g_aload_n F rfl 0 rfl dX7_fail_54 ?_
        refine g_get F (t := 22) (sI := 2) fl_RX7_23 rfl rfl (Int.not_lt.mp (Int.not_lt.mpr h0)) dX7_fail_55 ?_
        refine g_iload F 4 rfl rfl dX7_fail_58 ?_
        refine g_chk (fun n13 => ?_)
        refine h_aald F (n := 60) ak_12 (Int.not_lt.mp (Int.not_lt.mpr n13)) n9 rfl dX7_fail_60 ?_
        refine g_null F 0 dX7_fail_61 ?_
        refine g_chk (fun n14 => ?_)
        refine h_put F (sI := 6) fl_RX7_137 ⟨_, rfl, Or.inl rfl⟩ rfl rfl (Int.not_lt.mp (Int.not_lt.mpr n14)) dX7_fail_62 (fun v15 => ?_)
        refine g_iinc F 3 rfl rfl (Nat.le_of_ble_eq_true rfl) (ls' := [(3, (0, (w32 (l3 + 1)))), (0, (17, l0)), (1, (0, l1)), (2, (13, l2)), (4, (0, l4))]) rfl dX7_fail_65 ?_
        refine g_iinc F 4 rfl rfl (Nat.le_of_ble_eq_true rfl) (ls' := [(4, (0, (w32 (l4 + 1)))), (3, (0, (w32 (l3 + 1)))), (0, (17, l0)), (1, (0, l1)), (2, (13, l2))]) rfl dX7_fail_68 ?_
        refine g_goto F (tgt := 31) rfl dX7_fail_71 ?_
        refine g_loc [(2, 17), (3, 0), (4, 13), (1, 0), (0, 0)] rfl ?_
        exact ih v15 (w32 (l3 + 1)) (w32 (l4 + 1))
      · refine g_iinc F 4 rfl rfl (Nat.le_of_ble_eq_true rfl) (ls' := [(4, (0, (w32 (l4 + 1)))), (0, (17, l0)), (1, (0, l1)), (2, (13, l2)), (3, (0, l3))]) rfl dX7_fail_68 ?_
        refine g_goto F (tgt := 31) rfl dX7_fail_71 ?_
        refine g_loc [(1, 17), (2, 0), (3, 13), (4, 0), (0, 0)] rfl ?_
        exact ih v10 l3 (w32 (l4 + 1))
def sp_X7_fail (a0 a1 : Int) (v : V) : Res := (rB (sp_X7_partyAt a0 a1 v) (fun z1 v1 => (chk (0 ≤ z1) (if ¬ (v1 3 z1 4) = 0 then (rB (sp_X7_requireState 0 v1) (fun z4 v4 => none))
   else (rB (sp_X7_requireState 1 v1) (fun z5 v5 => (rLet (up v5 3 z1 4 1) (fun v6 => (lp_X7_fail_31 a0 a1 z1 (fun v16 u16_3 u16_4 => (rOk u16_3 v16)) 200 v6 0 0)))))))))
set_option maxRecDepth 100000 in
set_option maxHeartbeats 4000000 in
theorem k_X7_fail (a0 a1 : Int) (h0 : 0 ≤ a0) (x : Cx) (v : V) (F : Fx x cX7_fail RX7 "fail" ({ frames := 7, cells := 2, slots := 12, locals := 103 }) 5 (some 0) (some .int) 0) (ho : ∀ a ∈ [(17, a0), (0, a1)], okv v a) : Gs x (sp_X7_fail a0 a1 v) v 0 0 0 (avArgs 0 [(17, a0), (0, a1)]) [] := by
  show Gs x _ v 0 0 0 [(0, (17, a0)), (1, (0, a1))] []
  unfold sp_X7_fail
  refine g_aload_n F rfl 0 rfl dX7_fail_0 ?_
  refine g_iload_n F rfl 1 rfl rfl dX7_fail_1 ?_
  refine g_callV F (by decide) (K := 7) (b := a0) [(0, a1)] [0] ml_RX7_59 wi_X7_partyAt ws_X7_partyAt (c_X7_partyAt a0 a1 (Int.not_lt.mp (Int.not_lt.mpr h0))) mi_X7_partyAt (by decide) ⟨_, rfl, rfl⟩ (Int.not_lt.mp (Int.not_lt.mpr h0)) rfl rfl rfl (Nat.le_of_ble_eq_true rfl) (Nat.le_of_ble_eq_true rfl) (Nat.le_of_ble_eq_true rfl) (Nat.le_of_ble_eq_true rfl) (Nat.le_of_ble_eq_true rfl) dX7_fail_2 (fun z1 v1 hz1 => ?_)
  refine g_astore_n F rfl (Nat.le_of_ble_eq_true rfl) (ls' := [(2, (13, z1)), (0, (17, a0)), (1, (0, a1))]) rfl dX7_fail_5 ?_
  refine g_aload_n F rfl 0 rfl dX7_fail_6 ?_
  refine g_chk (fun n2 => ?_)
  refine g_get F (t := 2) (sI := 4) fl_RX7_130 rfl rfl (Int.not_lt.mp (Int.not_lt.mpr n2)) dX7_fail_7 ?_
  refine g_if_ne F rfl (tgt := 17) rfl dX7_fail_10 (fun n3 => ?_) (fun n3 => ?_)
  · refine g_iconst F 2 rfl dX7_fail_17 ?_
    refine g_callS F (by decide) [(2, 0)] [2] ml_RX7_50 wt_X7_requireState (c_X7_requireState 0) mi_X7_requireState rfl rfl rfl (Nat.le_of_ble_eq_true rfl) (Nat.le_of_ble_eq_true rfl) (Nat.le_of_ble_eq_true rfl) (Nat.le_of_ble_eq_true rfl) (Nat.le_of_ble_eq_true rfl) dX7_fail_18 (fun z4 v4 hz4 => ?_)
    exact g_none
  · refine g_iconst F 2 rfl dX7_fail_13 ?_
    refine g_goto F (tgt := 18) rfl dX7_fail_14 ?_
    refine g_callS F (by decide) [(2, 1)] [2] ml_RX7_50 wt_X7_requireState (c_X7_requireState 1) mi_X7_requireState rfl rfl rfl (Nat.le_of_ble_eq_true rfl) (Nat.le_of_ble_eq_true rfl) (Nat.le_of_ble_eq_true rfl) (Nat.le_of_ble_eq_true rfl) (Nat.le_of_ble_eq_true rfl) dX7_fail_18 (fun z5 v5 hz5 => ?_)
    refine g_aload_n F rfl 0 rfl dX7_fail_21 ?_
    refine g_iconst F 2 rfl dX7_fail_22 ?_
    refine h_put F (sI := 4) fl_RX7_130 ⟨_, rfl, Or.inl rfl⟩ rfl rfl (Int.not_lt.mp (Int.not_lt.mpr n2)) dX7_fail_23 (fun v6 => ?_)
    refine g_iconst F 2 rfl dX7_fail_26 ?_
    refine g_istore_n F rfl rfl (Nat.le_of_ble_eq_true rfl) (ls' := [(3, (2, 0)), (2, (13, z1)), (0, (17, a0)), (1, (0, a1))]) rfl dX7_fail_27 ?_
    refine g_iconst F 2 rfl dX7_fail_28 ?_
    refine g_istore F rfl (Nat.le_of_ble_eq_true rfl) (ls' := [(4, (2, 0)), (3, (2, 0)), (2, (13, z1)), (0, (17, a0)), (1, (0, a1))]) rfl dX7_fail_29 ?_
    refine g_loc [(3, 17), (4, 0), (2, 13), (1, 0), (0, 0)] rfl ?_
    refine kl_X7_fail_31 (Int.not_lt.mp (Int.not_lt.mpr h0)) F (fun v16 u16_3 u16_4 => ?_) 200 v6 0 0
    refine g_iload_n F rfl 3 rfl rfl dX7_fail_74 ?_
    exact g_ireturn F rfl rfl rfl rfl (Nat.le_of_ble_eq_true rfl) (Nat.le_of_ble_eq_true rfl) dX7_fail_75
theorem c_X7_fail (a0 a1 : Int) (h0 : 0 ≤ a0) : ∀ l, Ct l yX7_fail cX7_fail 5 (some .int) ({ frames := 7, cells := 2, slots := 12, locals := 103 }) (some 0) [(17, a0), (0, a1)] (sp_X7_fail a0 a1) := g_method (by decide +kernel) (Nat.le_of_ble_eq_true rfl) (fun x v F ho => k_X7_fail a0 a1 h0 x v F ho)
def sp_X7_lotAt (a0 a1 : Int) (v : V) : Res := (if a1 < 0 then (rEx 1 v)
   else (if a1 < (v 7 a0 7) then (chk (0 ≤ (v 7 a0 2)) (chk (0 ≤ a1 ∧ a1 < 60) (rOk (v 12 (v 7 a0 2) a1) v)))
   else (rEx 1 v)))
set_option maxRecDepth 100000 in
set_option maxHeartbeats 4000000 in
theorem k_X7_lotAt (a0 a1 : Int) (h0 : 0 ≤ a0) (x : Cx) (v : V) (F : Fx x cX7_lotAt RX7 "lotAt" ({ frames := 6, cells := 1, slots := 6, locals := 82 }) 2 (some 12) (some (.object "FreePort$Lot")) 0) (ho : ∀ a ∈ [(17, a0), (0, a1)], okv v a) : Gs x (sp_X7_lotAt a0 a1 v) v 0 0 0 (avArgs 0 [(17, a0), (0, a1)]) [] := by
  show Gs x _ v 0 0 0 [(0, (17, a0)), (1, (0, a1))] []
  unfold sp_X7_lotAt
  refine g_iload_n F rfl 1 rfl rfl dX7_lotAt_0 ?_
  refine g_if_lt F rfl (tgt := 12) rfl dX7_lotAt_1 (fun n1 => ?_) (fun n1 => ?_)
  · exact g_throwW F th_RX7_343 (Nat.le_of_ble_eq_true rfl) (Nat.le_of_ble_eq_true rfl) (Nat.le_of_ble_eq_true rfl) (Nat.le_of_ble_eq_true rfl) dX7_lotAt_12 dX7_lotAt_15 dX7_lotAt_16 dX7_lotAt_19 dX7_lotAt_22
  · refine g_iload_n F rfl 1 rfl rfl dX7_lotAt_4 ?_
    refine g_aload_n F rfl 0 rfl dX7_lotAt_5 ?_
    refine g_get F (t := 0) (sI := 7) fl_RX7_66 rfl rfl (Int.not_lt.mp (Int.not_lt.mpr h0)) dX7_lotAt_6 ?_
    refine g_icmp_lt F rfl rfl (tgt := 23) rfl dX7_lotAt_9 (fun n2 => ?_) (fun n2 => ?_)
    · refine g_aload_n F rfl 0 rfl dX7_lotAt_23 ?_
      refine g_get F (t := 22) (sI := 2) fl_RX7_23 rfl rfl (Int.not_lt.mp (Int.not_lt.mpr h0)) dX7_lotAt_24 ?_
      refine g_iload_n F rfl 1 rfl rfl dX7_lotAt_27 ?_
      refine g_chk (fun n3 => ?_)
      refine g_chk (fun n4 => ?_)
      refine h_aald F (n := 60) ak_12 (Int.not_lt.mp (Int.not_lt.mpr n3)) n4 rfl dX7_lotAt_28 ?_
      exact g_areturn F rfl (Or.inl ⟨_, rfl⟩) (Nat.le_of_ble_eq_true rfl) (Nat.le_of_ble_eq_true rfl) dX7_lotAt_29
    · exact g_throwW F th_RX7_343 (Nat.le_of_ble_eq_true rfl) (Nat.le_of_ble_eq_true rfl) (Nat.le_of_ble_eq_true rfl) (Nat.le_of_ble_eq_true rfl) dX7_lotAt_12 dX7_lotAt_15 dX7_lotAt_16 dX7_lotAt_19 dX7_lotAt_22
theorem c_X7_lotAt (a0 a1 : Int) (h0 : 0 ≤ a0) : ∀ l, Ct l yX7_lotAt cX7_lotAt 2 (some (.object "FreePort$Lot")) ({ frames := 6, cells := 1, slots := 6, locals := 82 }) (some 12) [(17, a0), (0, a1)] (sp_X7_lotAt a0 a1) := g_method (by decide +kernel) (Nat.le_of_ble_eq_true rfl) (fun x v F ho => k_X7_lotAt a0 a1 h0 x v F ho)
def sp_X7_requireOther (a0 a1 : Int) (v : V) : Res := (if a0 = a1 then (rEx 2 v)
   else (rOk 0 v))
set_option maxRecDepth 100000 in
set_option maxHeartbeats 4000000 in
theorem k_X7_requireOther (a0 a1 : Int) (x : Cx) (v : V) (F : Fx x cX7_requireOther RX7 "requireOther" ({ frames := 6, cells := 1, slots := 6, locals := 82 }) 2 none none 0) (ho : ∀ a ∈ [(13, a0), (13, a1)], okv v a) : Gs x (sp_X7_requireOther a0 a1 v) v 0 0 0 (avArgs 0 [(13, a0), (13, a1)]) [] := by
  show Gs x _ v 0 0 0 [(0, (13, a0)), (1, (13, a1))] []
  unfold sp_X7_requireOther
  refine g_aload_n F rfl 0 rfl dX7_requireOther_0 ?_
  refine g_aload_n F rfl 1 rfl dX7_requireOther_1 ?_
  refine g_acmp_ne F (by decide) (tgt := 16) rfl dX7_requireOther_2 (fun n1 => ?_) (fun n1 => ?_)
  · exact g_throwW F th_RX7_354 (Nat.le_of_ble_eq_true rfl) (Nat.le_of_ble_eq_true rfl) (Nat.le_of_ble_eq_true rfl) (Nat.le_of_ble_eq_true rfl) dX7_requireOther_5 dX7_requireOther_8 dX7_requireOther_9 dX7_requireOther_12 dX7_requireOther_15
  · exact g_return F rfl (Nat.le_of_ble_eq_true rfl) (Nat.le_of_ble_eq_true rfl) dX7_requireOther_16
theorem c_X7_requireOther (a0 a1 : Int) : ∀ l, Ct l yX7_requireOther cX7_requireOther 2 none ({ frames := 6, cells := 1, slots := 6, locals := 82 }) none [(13, a0), (13, a1)] (sp_X7_requireOther a0 a1) := g_method (by decide +kernel) (Nat.le_of_ble_eq_true rfl) (fun x v F ho => k_X7_requireOther a0 a1 x v F ho)
def sp_X7_requireOffer (a0 a1 a2 a3 : Int) (v : V) : Res := (rB (sp_X7_requireRange a1 1 60 v) (fun z1 v1 => (rB (sp_X7_requireRange a3 0 1000000 v1) (fun z2 v2 => (chk (0 ≤ a0) (rB (sp_X7_requireOther a2 (v2 2 a0 3) v2) (fun z4 v4 => (rOk 0 v4))))))))
set_option maxRecDepth 100000 in
set_option maxHeartbeats 4000000 in
theorem k_X7_requireOffer (a0 a1 a2 a3 : Int) (x : Cx) (v : V) (F : Fx x cX7_requireOffer RX7 "requireOffer" ({ frames := 7, cells := 3, slots := 18, locals := 104 }) 4 none none 0) (ho : ∀ a ∈ [(12, a0), (0, a1), (13, a2), (0, a3)], okv v a) : Gs x (sp_X7_requireOffer a0 a1 a2 a3 v) v 0 0 0 (avArgs 0 [(12, a0), (0, a1), (13, a2), (0, a3)]) [] := by
  show Gs x _ v 0 0 0 [(0, (12, a0)), (1, (0, a1)), (2, (13, a2)), (3, (0, a3))] []
  unfold sp_X7_requireOffer
  refine g_iload_n F rfl 1 rfl rfl dX7_requireOffer_0 ?_
  refine g_iconst F 2 rfl dX7_requireOffer_1 ?_
  refine g_bipush F rfl (by decide) dX7_requireOffer_2 ?_
  refine g_callS F (by decide) [(0, a1), (2, 1), (0, 60)] [0, 0, 0] ml_RX7_42 wt_X7_requireRange (c_X7_requireRange a1 1 60) mi_X7_requireRange rfl rfl rfl (Nat.le_of_ble_eq_true rfl) (Nat.le_of_ble_eq_true rfl) (Nat.le_of_ble_eq_true rfl) (Nat.le_of_ble_eq_true rfl) (Nat.le_of_ble_eq_true rfl) dX7_requireOffer_4 (fun z1 v1 hz1 => ?_)
  refine g_iload_n F rfl 3 rfl rfl dX7_requireOffer_7 ?_
  refine g_iconst F 2 rfl dX7_requireOffer_8 ?_
  refine g_ldc F rfl cn_RX7_41 dX7_requireOffer_9 ?_
  refine g_callS F (by decide) [(0, a3), (2, 0), (0, 1000000)] [0, 0, 0] ml_RX7_42 wt_X7_requireRange (c_X7_requireRange a3 0 1000000) mi_X7_requireRange rfl rfl rfl (Nat.le_of_ble_eq_true rfl) (Nat.le_of_ble_eq_true rfl) (Nat.le_of_ble_eq_true rfl) (Nat.le_of_ble_eq_true rfl) (Nat.le_of_ble_eq_true rfl) dX7_requireOffer_11 (fun z2 v2 hz2 => ?_)
  refine g_aload_n F rfl 2 rfl dX7_requireOffer_14 ?_
  refine g_aload_n F rfl 0 rfl dX7_requireOffer_15 ?_
  refine g_chk (fun n3 => ?_)
  refine g_get F (t := 13) (sI := 3) fl_RX7_153 rfl rfl (Int.not_lt.mp (Int.not_lt.mpr n3)) dX7_requireOffer_16 ?_
  refine g_callS F (by decide) [(13, a2), (13, (v2 2 a0 3))] [13, 13] ml_RX7_161 wt_X7_requireOther (c_X7_requireOther a2 (v2 2 a0 3)) mi_X7_requireOther rfl rfl rfl (Nat.le_of_ble_eq_true rfl) (Nat.le_of_ble_eq_true rfl) (Nat.le_of_ble_eq_true rfl) (Nat.le_of_ble_eq_true rfl) (Nat.le_of_ble_eq_true rfl) dX7_requireOffer_19 (fun z4 v4 hz4 => ?_)
  exact g_return F rfl (Nat.le_of_ble_eq_true rfl) (Nat.le_of_ble_eq_true rfl) dX7_requireOffer_22
theorem c_X7_requireOffer (a0 a1 a2 a3 : Int) : ∀ l, Ct l yX7_requireOffer cX7_requireOffer 4 none ({ frames := 7, cells := 3, slots := 18, locals := 104 }) none [(12, a0), (0, a1), (13, a2), (0, a3)] (sp_X7_requireOffer a0 a1 a2 a3) := g_method (by decide +kernel) (Nat.le_of_ble_eq_true rfl) (fun x v F ho => k_X7_requireOffer a0 a1 a2 a3 x v F ho)
def sp_X7_barOfAnySale (a0 a1 a2 a3 : Int) (v : V) : Res := (chk (0 ≤ a1) (chk (0 ≤ (v 2 a1 1)) (rB (sp_X6_barDaysLeft (v 2 a1 1) (v 7 a0 9) v) (fun z2 v2 => (if z2 ≤ 0 then (chk (0 ≤ a2) (if a3 ≤ (v2 3 a2 2) then (rB (sp_X2_isHeldByArtist a1  v2) (fun z7 v7 => (if z7 = 0 then (if 60 ≤ (v7 7 a0 7) then (rOk 7 v7)
   else (rOk 0 v7))
   else (rB (sp_X3_isPunishedBy a2 (v7 6 (v 2 a1 1) 1) v7) (fun z10 v10 => (if z10 = 0 then (if 60 ≤ (v10 7 a0 7) then (rOk 7 v10)
   else (rOk 0 v10))
   else (rOk 6 v10)))))))
   else (rOk 5 v2)))
   else (chk (0 ≤ a2) (if (v2 3 a2 1) = (v2 6 (v 2 a1 1) 6) then (if a3 ≤ (v2 3 a2 2) then (rB (sp_X2_isHeldByArtist a1  v2) (fun z16 v16 => (if z16 = 0 then (if 60 ≤ (v16 7 a0 7) then (rOk 7 v16)
   else (rOk 0 v16))
   else (rB (sp_X3_isPunishedBy a2 (v16 6 (v 2 a1 1) 1) v16) (fun z19 v19 => (if z19 = 0 then (if 60 ≤ (v19 7 a0 7) then (rOk 7 v19)
   else (rOk 0 v19))
   else (rOk 6 v19)))))))
   else (rOk 5 v2))
   else (rOk 4 v2))))))))
set_option maxRecDepth 100000 in
set_option maxHeartbeats 4000000 in
theorem k_X7_barOfAnySale (a0 a1 a2 a3 : Int) (h0 : 0 ≤ a0) (x : Cx) (v : V) (F : Fx x cX7_barOfAnySale RX7 "barOfAnySale" ({ frames := 2, cells := 0, slots := 0, locals := 42 }) 5 (some 0) (some .int) 0) (ho : ∀ a ∈ [(17, a0), (12, a1), (13, a2), (0, a3)], okv v a) : Gs x (sp_X7_barOfAnySale a0 a1 a2 a3 v) v 0 0 0 (avArgs 0 [(17, a0), (12, a1), (13, a2), (0, a3)]) [] := by
  show Gs x _ v 0 0 0 [(0, (17, a0)), (1, (12, a1)), (2, (13, a2)), (3, (0, a3))] []
  unfold sp_X7_barOfAnySale
  refine g_aload_n F rfl 1 rfl dX7_barOfAnySale_0 ?_
  refine g_chk (fun n1 => ?_)
  refine g_get F (t := 16) (sI := 1) fl_RX7_267 rfl rfl (Int.not_lt.mp (Int.not_lt.mpr n1)) dX7_barOfAnySale_1 ?_
  refine g_astore F (Nat.le_of_ble_eq_true rfl) (ls' := [(4, (16, (v 2 a1 1))), (0, (17, a0)), (1, (12, a1)), (2, (13, a2)), (3, (0, a3))]) rfl dX7_barOfAnySale_4 ?_
  refine g_aload F 0 rfl dX7_barOfAnySale_6 ?_
  refine g_aload_n F rfl 1 rfl dX7_barOfAnySale_8 ?_
  refine g_get F (t := 0) (sI := 9) fl_RX7_87 rfl rfl (Int.not_lt.mp (Int.not_lt.mpr h0)) dX7_barOfAnySale_9 ?_
  refine g_chk (fun n3 => ?_)
  refine g_callVN F (by decide) (K := 6) (b := (v 2 a1 1)) [(0, (v 7 a0 9))] [0] ml_RX7_113 wi_X6_barDaysLeft ws_X6_barDaysLeft (c_X6_barDaysLeft (v 2 a1 1) (v 7 a0 9) (Int.not_lt.mp (Int.not_lt.mpr n3))) mi_X6_barDaysLeft (by decide) ⟨_, rfl, rfl⟩ (Int.not_lt.mp (Int.not_lt.mpr n3)) rfl rfl rfl (Nat.le_of_ble_eq_true rfl) (Nat.le_of_ble_eq_true rfl) (Nat.le_of_ble_eq_true rfl) (Nat.le_of_ble_eq_true rfl) (Nat.le_of_ble_eq_true rfl) dX7_barOfAnySale_12 (fun z2 v2 hz2 => ?_)
  refine g_if_le F rfl (tgt := 32) rfl dX7_barOfAnySale_15 (fun n4 => ?_) (fun n4 => ?_)
  · refine g_aload_n F rfl 3 rfl dX7_barOfAnySale_32 ?_
    refine g_chk (fun n5 => ?_)
    refine g_get F (t := 0) (sI := 2) fl_RX7_222 rfl rfl (Int.not_lt.mp (Int.not_lt.mpr n5)) dX7_barOfAnySale_33 ?_
    refine g_iload_n F rfl 4 rfl rfl dX7_barOfAnySale_36 ?_
    refine g_icmp_ge F rfl rfl (tgt := 42) rfl dX7_barOfAnySale_37 (fun n6 => ?_) (fun n6 => ?_)
    · refine g_aload_n F rfl 2 rfl dX7_barOfAnySale_42 ?_
      refine g_callVN F (by decide) (K := 2) (b := a1) [] [] ml_RX7_363 wi_X2_isHeldByArtist ws_X2_isHeldByArtist (c_X2_isHeldByArtist a1  (Int.not_lt.mp (Int.not_lt.mpr n1))) mi_X2_isHeldByArtist (by decide) ⟨_, rfl, rfl⟩ (Int.not_lt.mp (Int.not_lt.mpr n1)) rfl rfl rfl (Nat.le_of_ble_eq_true rfl) (Nat.le_of_ble_eq_true rfl) (Nat.le_of_ble_eq_true rfl) (Nat.le_of_ble_eq_true rfl) (Nat.le_of_ble_eq_true rfl) dX7_barOfAnySale_43 (fun z7 v7 hz7 => ?_)
      refine g_if_eq F rfl (tgt := 64) rfl dX7_barOfAnySale_46 (fun n8 => ?_) (fun n8 => ?_)
      · refine g_aload_n F rfl 1 rfl dX7_barOfAnySale_64 ?_
        refine g_get F (t := 0) (sI := 7) fl_RX7_66 rfl rfl (Int.not_lt.mp (Int.not_lt.mpr h0)) dX7_barOfAnySale_65 ?_
        refine g_bipush F rfl (by decide) dX7_barOfAnySale_68 ?_
        refine g_icmp_ge F rfl rfl (tgt := 77) rfl dX7_barOfAnySale_70 (fun n9 => ?_) (fun n9 => ?_)
        · refine g_bipush F rfl (by decide) dX7_barOfAnySale_77 ?_
          exact g_ireturn F rfl rfl rfl rfl (Nat.le_of_ble_eq_true rfl) (Nat.le_of_ble_eq_true rfl) dX7_barOfAnySale_79
        · refine g_iconst F 2 rfl dX7_barOfAnySale_73 ?_
          refine g_goto F (tgt := 79) rfl dX7_barOfAnySale_74 ?_
          exact g_ireturn F rfl rfl rfl rfl (Nat.le_of_ble_eq_true rfl) (Nat.le_of_ble_eq_true rfl) dX7_barOfAnySale_79
      · refine g_aload_n F rfl 3 rfl dX7_barOfAnySale_49 ?_
        refine g_aload F 0 rfl dX7_barOfAnySale_50 ?_
        refine g_get F (t := 13) (sI := 1) fl_RX7_271 rfl rfl (Int.not_lt.mp (Int.not_lt.mpr n3)) dX7_barOfAnySale_52 ?_
        refine g_callVN F (by decide) (K := 3) (b := a2) [(13, (v7 6 (v 2 a1 1) 1))] [13] ml_RX7_367 wi_X3_isPunishedBy ws_X3_isPunishedBy (c_X3_isPunishedBy a2 (v7 6 (v 2 a1 1) 1) (Int.not_lt.mp (Int.not_lt.mpr n5))) mi_X3_isPunishedBy (by decide) ⟨_, rfl, rfl⟩ (Int.not_lt.mp (Int.not_lt.mpr n5)) rfl rfl rfl (Nat.le_of_ble_eq_true rfl) (Nat.le_of_ble_eq_true rfl) (Nat.le_of_ble_eq_true rfl) (Nat.le_of_ble_eq_true rfl) (Nat.le_of_ble_eq_true rfl) dX7_barOfAnySale_55 (fun z10 v10 hz10 => ?_)
        refine g_if_eq F rfl (tgt := 64) rfl dX7_barOfAnySale_58 (fun n11 => ?_) (fun n11 => ?_)
        · refine g_aload_n F rfl 1 rfl dX7_barOfAnySale_64 ?_
          refine g_get F (t := 0) (sI := 7) fl_RX7_66 rfl rfl (Int.not_lt.mp (Int.not_lt.mpr h0)) dX7_barOfAnySale_65 ?_
          refine g_bipush F rfl (by decide) dX7_barOfAnySale_68 ?_
          refine g_icmp_ge F rfl rfl (tgt := 77) rfl dX7_barOfAnySale_70 (fun n12 => ?_) (fun n12 => ?_)
          · refine g_bipush F rfl (by decide) dX7_barOfAnySale_77 ?_
            exact g_ireturn F rfl rfl rfl rfl (Nat.le_of_ble_eq_true rfl) (Nat.le_of_ble_eq_true rfl) dX7_barOfAnySale_79
          · refine g_iconst F 2 rfl dX7_barOfAnySale_73 ?_
            refine g_goto F (tgt := 79) rfl dX7_barOfAnySale_74 ?_
            exact g_ireturn F rfl rfl rfl rfl (Nat.le_of_ble_eq_true rfl) (Nat.le_of_ble_eq_true rfl) dX7_barOfAnySale_79
        · refine g_bipush F rfl (by decide) dX7_barOfAnySale_61 ?_
          exact g_ireturn F rfl rfl rfl rfl (Nat.le_of_ble_eq_true rfl) (Nat.le_of_ble_eq_true rfl) dX7_barOfAnySale_63
    · refine g_iconst F 0 rfl dX7_barOfAnySale_40 ?_
      exact g_ireturn F rfl rfl rfl rfl (Nat.le_of_ble_eq_true rfl) (Nat.le_of_ble_eq_true rfl) dX7_barOfAnySale_41
  · refine g_aload_n F rfl 3 rfl dX7_barOfAnySale_18 ?_
    refine g_chk (fun n13 => ?_)
    refine g_get F (t := 0) (sI := 1) fl_RX7_362 rfl rfl (Int.not_lt.mp (Int.not_lt.mpr n13)) dX7_barOfAnySale_19 ?_
    refine g_aload F 0 rfl dX7_barOfAnySale_22 ?_
    refine g_get F (t := 0) (sI := 6) fl_RX7_120 rfl rfl (Int.not_lt.mp (Int.not_lt.mpr n3)) dX7_barOfAnySale_24 ?_
    refine g_icmp_eq F rfl rfl (tgt := 32) rfl dX7_barOfAnySale_27 (fun n14 => ?_) (fun n14 => ?_)
    · refine g_aload_n F rfl 3 rfl dX7_barOfAnySale_32 ?_
      refine g_get F (t := 0) (sI := 2) fl_RX7_222 rfl rfl (Int.not_lt.mp (Int.not_lt.mpr n13)) dX7_barOfAnySale_33 ?_
      refine g_iload_n F rfl 4 rfl rfl dX7_barOfAnySale_36 ?_
      refine g_icmp_ge F rfl rfl (tgt := 42) rfl dX7_barOfAnySale_37 (fun n15 => ?_) (fun n15 => ?_)
      · refine g_aload_n F rfl 2 rfl dX7_barOfAnySale_42 ?_
        refine g_callVN F (by decide) (K := 2) (b := a1) [] [] ml_RX7_363 wi_X2_isHeldByArtist ws_X2_isHeldByArtist (c_X2_isHeldByArtist a1  (Int.not_lt.mp (Int.not_lt.mpr n1))) mi_X2_isHeldByArtist (by decide) ⟨_, rfl, rfl⟩ (Int.not_lt.mp (Int.not_lt.mpr n1)) rfl rfl rfl (Nat.le_of_ble_eq_true rfl) (Nat.le_of_ble_eq_true rfl) (Nat.le_of_ble_eq_true rfl) (Nat.le_of_ble_eq_true rfl) (Nat.le_of_ble_eq_true rfl) dX7_barOfAnySale_43 (fun z16 v16 hz16 => ?_)
        refine g_if_eq F rfl (tgt := 64) rfl dX7_barOfAnySale_46 (fun n17 => ?_) (fun n17 => ?_)
        · refine g_aload_n F rfl 1 rfl dX7_barOfAnySale_64 ?_
          refine g_get F (t := 0) (sI := 7) fl_RX7_66 rfl rfl (Int.not_lt.mp (Int.not_lt.mpr h0)) dX7_barOfAnySale_65 ?_
          refine g_bipush F rfl (by decide) dX7_barOfAnySale_68 ?_
          refine g_icmp_ge F rfl rfl (tgt := 77) rfl dX7_barOfAnySale_70 (fun n18 => ?_) (fun n18 => ?_)
          · refine g_bipush F rfl (by decide) dX7_barOfAnySale_77 ?_
            exact g_ireturn F rfl rfl rfl rfl (Nat.le_of_ble_eq_true rfl) (Nat.le_of_ble_eq_true rfl) dX7_barOfAnySale_79
          · refine g_iconst F 2 rfl dX7_barOfAnySale_73 ?_
            refine g_goto F (tgt := 79) rfl dX7_barOfAnySale_74 ?_
            exact g_ireturn F rfl rfl rfl rfl (Nat.le_of_ble_eq_true rfl) (Nat.le_of_ble_eq_true rfl) dX7_barOfAnySale_79
        · refine g_aload_n F rfl 3 rfl dX7_barOfAnySale_49 ?_
          refine g_aload F 0 rfl dX7_barOfAnySale_50 ?_
          refine g_get F (t := 13) (sI := 1) fl_RX7_271 rfl rfl (Int.not_lt.mp (Int.not_lt.mpr n3)) dX7_barOfAnySale_52 ?_
          refine g_callVN F (by decide) (K := 3) (b := a2) [(13, (v16 6 (v 2 a1 1) 1))] [13] ml_RX7_367 wi_X3_isPunishedBy ws_X3_isPunishedBy (c_X3_isPunishedBy a2 (v16 6 (v 2 a1 1) 1) (Int.not_lt.mp (Int.not_lt.mpr n13))) mi_X3_isPunishedBy (by decide) ⟨_, rfl, rfl⟩ (Int.not_lt.mp (Int.not_lt.mpr n13)) rfl rfl rfl (Nat.le_of_ble_eq_true rfl) (Nat.le_of_ble_eq_true rfl) (Nat.le_of_ble_eq_true rfl) (Nat.le_of_ble_eq_true rfl) (Nat.le_of_ble_eq_true rfl) dX7_barOfAnySale_55 (fun z19 v19 hz19 => ?_)
          refine g_if_eq F rfl (tgt := 64) rfl dX7_barOfAnySale_58 (fun n20 => ?_) (fun n20 => ?_)
          · refine g_aload_n F rfl 1 rfl dX7_barOfAnySale_64 ?_
            refine g_get F (t := 0) (sI := 7) fl_RX7_66 rfl rfl (Int.not_lt.mp (Int.not_lt.mpr h0)) dX7_barOfAnySale_65 ?_
            refine g_bipush F rfl (by decide) dX7_barOfAnySale_68 ?_
            refine g_icmp_ge F rfl rfl (tgt := 77) rfl dX7_barOfAnySale_70 (fun n21 => ?_) (fun n21 => ?_)
            · refine g_bipush F rfl (by decide) dX7_barOfAnySale_77 ?_
              exact g_ireturn F rfl rfl rfl rfl (Nat.le_of_ble_eq_true rfl) (Nat.le_of_ble_eq_true rfl) dX7_barOfAnySale_79
            · refine g_iconst F 2 rfl dX7_barOfAnySale_73 ?_
              refine g_goto F (tgt := 79) rfl dX7_barOfAnySale_74 ?_
              exact g_ireturn F rfl rfl rfl rfl (Nat.le_of_ble_eq_true rfl) (Nat.le_of_ble_eq_true rfl) dX7_barOfAnySale_79
          · refine g_bipush F rfl (by decide) dX7_barOfAnySale_61 ?_
            exact g_ireturn F rfl rfl rfl rfl (Nat.le_of_ble_eq_true rfl) (Nat.le_of_ble_eq_true rfl) dX7_barOfAnySale_63
      · refine g_iconst F 0 rfl dX7_barOfAnySale_40 ?_
        exact g_ireturn F rfl rfl rfl rfl (Nat.le_of_ble_eq_true rfl) (Nat.le_of_ble_eq_true rfl) dX7_barOfAnySale_41
    · refine g_iconst F 0 rfl dX7_barOfAnySale_30 ?_
      exact g_ireturn F rfl rfl rfl rfl (Nat.le_of_ble_eq_true rfl) (Nat.le_of_ble_eq_true rfl) dX7_barOfAnySale_31
theorem c_X7_barOfAnySale (a0 a1 a2 a3 : Int) (h0 : 0 ≤ a0) : ∀ l, Ct l yX7_barOfAnySale cX7_barOfAnySale 5 (some .int) ({ frames := 2, cells := 0, slots := 0, locals := 42 }) (some 0) [(17, a0), (12, a1), (13, a2), (0, a3)] (sp_X7_barOfAnySale a0 a1 a2 a3) := g_method (by decide +kernel) (Nat.le_of_ble_eq_true rfl) (fun x v F ho => k_X7_barOfAnySale a0 a1 a2 a3 h0 x v F ho)
def sp_X7_barOfSale (a0 a1 a2 a3 a4 : Int) (v : V) : Res := (chk (0 ≤ a1) (chk (0 ≤ (v 2 a1 3)) (if ¬ (v 3 (v 2 a1 3) 4) = 0 then (rOk 1 v)
   else (chk (0 ≤ a3) (if (v 3 a3 4) = 0 then (if a2 ≤ (v 2 a1 4) then (if (v 2 a1 6) < 0 then (rB (sp_X7_barOfAnySale a0 a1 a3 a4 v) (fun z8 v8 => (rOk z8 v8)))
   else (rOk 3 v))
   else (rOk 2 v))
   else (rOk 1 v))))))
set_option maxRecDepth 100000 in
set_option maxHeartbeats 4000000 in
theorem k_X7_barOfSale (a0 a1 a2 a3 a4 : Int) (h0 : 0 ≤ a0) (x : Cx) (v : V) (F : Fx x cX7_barOfSale RX7 "barOfSale" ({ frames := 3, cells := 0, slots := 0, locals := 66 }) 5 (some 0) (some .int) 0) (ho : ∀ a ∈ [(17, a0), (12, a1), (0, a2), (13, a3), (0, a4)], okv v a) : Gs x (sp_X7_barOfSale a0 a1 a2 a3 a4 v) v 0 0 0 (avArgs 0 [(17, a0), (12, a1), (0, a2), (13, a3), (0, a4)]) [] := by
  show Gs x _ v 0 0 0 [(0, (17, a0)), (1, (12, a1)), (2, (0, a2)), (3, (13, a3)), (4, (0, a4))] []
  unfold sp_X7_barOfSale
  refine g_aload_n F rfl 1 rfl dX7_barOfSale_0 ?_
  refine g_chk (fun n1 => ?_)
  refine g_get F (t := 13) (sI := 3) fl_RX7_153 rfl rfl (Int.not_lt.mp (Int.not_lt.mpr n1)) dX7_barOfSale_1 ?_
  refine g_chk (fun n2 => ?_)
  refine g_get F (t := 2) (sI := 4) fl_RX7_130 rfl rfl (Int.not_lt.mp (Int.not_lt.mpr n2)) dX7_barOfSale_4 ?_
  refine g_if_ne F rfl (tgt := 17) rfl dX7_barOfSale_7 (fun n3 => ?_) (fun n3 => ?_)
  · refine g_iconst F 2 rfl dX7_barOfSale_17 ?_
    exact g_ireturn F rfl rfl rfl rfl (Nat.le_of_ble_eq_true rfl) (Nat.le_of_ble_eq_true rfl) dX7_barOfSale_18
  · refine g_aload_n F rfl 3 rfl dX7_barOfSale_10 ?_
    refine g_chk (fun n4 => ?_)
    refine g_get F (t := 2) (sI := 4) fl_RX7_130 rfl rfl (Int.not_lt.mp (Int.not_lt.mpr n4)) dX7_barOfSale_11 ?_
    refine g_if_eq F rfl (tgt := 19) rfl dX7_barOfSale_14 (fun n5 => ?_) (fun n5 => ?_)
    · refine g_aload_n F rfl 1 rfl dX7_barOfSale_19 ?_
      refine g_get F (t := 0) (sI := 4) fl_RX7_165 rfl rfl (Int.not_lt.mp (Int.not_lt.mpr n1)) dX7_barOfSale_20 ?_
      refine g_iload_n F rfl 2 rfl rfl dX7_barOfSale_23 ?_
      refine g_icmp_ge F rfl rfl (tgt := 29) rfl dX7_barOfSale_24 (fun n6 => ?_) (fun n6 => ?_)
      · refine g_aload_n F rfl 1 rfl dX7_barOfSale_29 ?_
        refine g_get F (t := 10) (sI := 6) fl_RX7_137 rfl rfl (Int.not_lt.mp (Int.not_lt.mpr n1)) dX7_barOfSale_30 ?_
        refine g_ifnull F (tgt := 38) rfl dX7_barOfSale_33 (fun n7 => ?_) (fun n7 => ?_)
        · refine g_aload_n F rfl 0 rfl dX7_barOfSale_38 ?_
          refine g_aload_n F rfl 1 rfl dX7_barOfSale_39 ?_
          refine g_aload_n F rfl 3 rfl dX7_barOfSale_40 ?_
          refine g_iload F 4 rfl rfl dX7_barOfSale_41 ?_
          refine g_callV F (by decide) (K := 7) (b := a0) [(12, a1), (13, a3), (0, a4)] [12, 13, 0] ml_RX7_358 wi_X7_barOfAnySale ws_X7_barOfAnySale (c_X7_barOfAnySale a0 a1 a3 a4 (Int.not_lt.mp (Int.not_lt.mpr h0))) mi_X7_barOfAnySale (by decide) ⟨_, rfl, rfl⟩ (Int.not_lt.mp (Int.not_lt.mpr h0)) rfl rfl rfl (Nat.le_of_ble_eq_true rfl) (Nat.le_of_ble_eq_true rfl) (Nat.le_of_ble_eq_true rfl) (Nat.le_of_ble_eq_true rfl) (Nat.le_of_ble_eq_true rfl) dX7_barOfSale_43 (fun z8 v8 hz8 => ?_)
          exact g_ireturn F rfl rfl rfl rfl (Nat.le_of_ble_eq_true rfl) (Nat.le_of_ble_eq_true rfl) dX7_barOfSale_46
        · refine g_iconst F 0 rfl dX7_barOfSale_36 ?_
          exact g_ireturn F rfl rfl rfl rfl (Nat.le_of_ble_eq_true rfl) (Nat.le_of_ble_eq_true rfl) dX7_barOfSale_37
      · refine g_iconst F 0 rfl dX7_barOfSale_27 ?_
        exact g_ireturn F rfl rfl rfl rfl (Nat.le_of_ble_eq_true rfl) (Nat.le_of_ble_eq_true rfl) dX7_barOfSale_28
    · refine g_iconst F 2 rfl dX7_barOfSale_17 ?_
      exact g_ireturn F rfl rfl rfl rfl (Nat.le_of_ble_eq_true rfl) (Nat.le_of_ble_eq_true rfl) dX7_barOfSale_18
theorem c_X7_barOfSale (a0 a1 a2 a3 a4 : Int) (h0 : 0 ≤ a0) : ∀ l, Ct l yX7_barOfSale cX7_barOfSale 5 (some .int) ({ frames := 3, cells := 0, slots := 0, locals := 66 }) (some 0) [(17, a0), (12, a1), (0, a2), (13, a3), (0, a4)] (sp_X7_barOfSale a0 a1 a2 a3 a4) := g_method (by decide +kernel) (Nat.le_of_ble_eq_true rfl) (fun x v F ho => k_X7_barOfSale a0 a1 a2 a3 a4 h0 x v F ho)
def sp_X7_rightOf (a0 a1 : Int) (v : V) : Res := (if a1 < 0 then (rOk 0 v)
   else (if 4 ≤ a1 then (rOk 0 v)
   else (chk (0 ≤ (v 7 a0 4)) (chk (0 ≤ a1 ∧ a1 < 4) (rOk (v 14 (v 7 a0 4) a1) v)))))
set_option maxRecDepth 100000 in
set_option maxHeartbeats 4000000 in
theorem k_X7_rightOf (a0 a1 : Int) (h0 : 0 ≤ a0) (x : Cx) (v : V) (F : Fx x cX7_rightOf RX7 "rightOf" ({ frames := 0, cells := 0, slots := 0, locals := 0 }) 2 (some 0) (some .int) 0) (ho : ∀ a ∈ [(17, a0), (0, a1)], okv v a) : Gs x (sp_X7_rightOf a0 a1 v) v 0 0 0 (avArgs 0 [(17, a0), (0, a1)]) [] := by
  show Gs x _ v 0 0 0 [(0, (17, a0)), (1, (0, a1))] []
  unfold sp_X7_rightOf
  refine g_iload_n F rfl 1 rfl rfl dX7_rightOf_0 ?_
  refine g_if_lt F rfl (tgt := 18) rfl dX7_rightOf_1 (fun n1 => ?_) (fun n1 => ?_)
  · refine g_iconst F 2 rfl dX7_rightOf_18 ?_
    exact g_ireturn F rfl rfl rfl rfl (Nat.le_of_ble_eq_true rfl) (Nat.le_of_ble_eq_true rfl) dX7_rightOf_19
  · refine g_iload_n F rfl 1 rfl rfl dX7_rightOf_4 ?_
    refine g_iconst F 0 rfl dX7_rightOf_5 ?_
    refine g_icmp_ge F rfl rfl (tgt := 18) rfl dX7_rightOf_6 (fun n2 => ?_) (fun n2 => ?_)
    · refine g_iconst F 2 rfl dX7_rightOf_18 ?_
      exact g_ireturn F rfl rfl rfl rfl (Nat.le_of_ble_eq_true rfl) (Nat.le_of_ble_eq_true rfl) dX7_rightOf_19
    · refine g_aload_n F rfl 0 rfl dX7_rightOf_9 ?_
      refine g_get F (t := 24) (sI := 4) fl_RX7_33 rfl rfl (Int.not_lt.mp (Int.not_lt.mpr h0)) dX7_rightOf_10 ?_
      refine g_iload_n F rfl 1 rfl rfl dX7_rightOf_13 ?_
      refine g_chk (fun n3 => ?_)
      refine g_chk (fun n4 => ?_)
      refine h_iald F (n := 4) ak_14 (Int.not_lt.mp (Int.not_lt.mpr n3)) n4 rfl dX7_rightOf_14 ?_
      refine g_goto F (tgt := 19) rfl dX7_rightOf_15 ?_
      exact g_ireturn F rfl rfl rfl rfl (Nat.le_of_ble_eq_true rfl) (Nat.le_of_ble_eq_true rfl) dX7_rightOf_19
theorem c_X7_rightOf (a0 a1 : Int) (h0 : 0 ≤ a0) : ∀ l, Ct l yX7_rightOf cX7_rightOf 2 (some .int) ({ frames := 0, cells := 0, slots := 0, locals := 0 }) (some 0) [(17, a0), (0, a1)] (sp_X7_rightOf a0 a1) := g_method (by decide +kernel) (Nat.le_of_ble_eq_true rfl) (fun x v F ho => k_X7_rightOf a0 a1 h0 x v F ho)
def sp_X7_shareOfArtist (a0 a1 a2 : Int) (v : V) : Res := (chk (0 ≤ a1) (rB (sp_X2_isHeldByArtist a1  v) (fun z1 v1 => (if z1 = 0 then (chk (0 ≤ (v1 2 a1 3)) (rB (sp_X7_rightOf a0 (v1 3 (v1 2 a1 3) 1) v1) (fun z5 v5 => (rOk (w32 ((w32 (a2 * z5)).tdiv 100)) v5))))
   else (rOk 0 v1)))))
set_option maxRecDepth 100000 in
set_option maxHeartbeats 4000000 in
theorem k_X7_shareOfArtist (a0 a1 a2 : Int) (h0 : 0 ≤ a0) (x : Cx) (v : V) (F : Fx x cX7_shareOfArtist RX7 "shareOfArtist" ({ frames := 1, cells := 0, slots := 0, locals := 21 }) 3 (some 0) (some .int) 0) (ho : ∀ a ∈ [(17, a0), (12, a1), (0, a2)], okv v a) : Gs x (sp_X7_shareOfArtist a0 a1 a2 v) v 0 0 0 (avArgs 0 [(17, a0), (12, a1), (0, a2)]) [] := by
  show Gs x _ v 0 0 0 [(0, (17, a0)), (1, (12, a1)), (2, (0, a2))] []
  unfold sp_X7_shareOfArtist
  refine g_aload_n F rfl 1 rfl dX7_shareOfArtist_0 ?_
  refine g_chk (fun n2 => ?_)
  refine g_callVN F (by decide) (K := 2) (b := a1) [] [] ml_RX7_363 wi_X2_isHeldByArtist ws_X2_isHeldByArtist (c_X2_isHeldByArtist a1  (Int.not_lt.mp (Int.not_lt.mpr n2))) mi_X2_isHeldByArtist (by decide) ⟨_, rfl, rfl⟩ (Int.not_lt.mp (Int.not_lt.mpr n2)) rfl rfl rfl (Nat.le_of_ble_eq_true rfl) (Nat.le_of_ble_eq_true rfl) (Nat.le_of_ble_eq_true rfl) (Nat.le_of_ble_eq_true rfl) (Nat.le_of_ble_eq_true rfl) dX7_shareOfArtist_1 (fun z1 v1 hz1 => ?_)
  refine g_if_eq F rfl (tgt := 11) rfl dX7_shareOfArtist_4 (fun n3 => ?_) (fun n3 => ?_)
  · refine g_iload_n F rfl 2 rfl rfl dX7_shareOfArtist_11 ?_
    refine g_aload_n F rfl 0 rfl dX7_shareOfArtist_12 ?_
    refine g_aload_n F rfl 1 rfl dX7_shareOfArtist_13 ?_
    refine g_get F (t := 13) (sI := 3) fl_RX7_153 rfl rfl (Int.not_lt.mp (Int.not_lt.mpr n2)) dX7_shareOfArtist_14 ?_
    refine g_chk (fun n4 => ?_)
    refine g_get F (t := 0) (sI := 1) fl_RX7_362 rfl rfl (Int.not_lt.mp (Int.not_lt.mpr n4)) dX7_shareOfArtist_17 ?_
    refine g_callV F (by decide) (K := 7) (b := a0) [(0, (v1 3 (v1 2 a1 3) 1))] [0] ml_RX7_384 wi_X7_rightOf ws_X7_rightOf (c_X7_rightOf a0 (v1 3 (v1 2 a1 3) 1) (Int.not_lt.mp (Int.not_lt.mpr h0))) mi_X7_rightOf (by decide) ⟨_, rfl, rfl⟩ (Int.not_lt.mp (Int.not_lt.mpr h0)) rfl rfl rfl (Nat.le_of_ble_eq_true rfl) (Nat.le_of_ble_eq_true rfl) (Nat.le_of_ble_eq_true rfl) (Nat.le_of_ble_eq_true rfl) (Nat.le_of_ble_eq_true rfl) dX7_shareOfArtist_20 (fun z5 v5 hz5 => ?_)
    refine g_imul F rfl rfl dX7_shareOfArtist_23 ?_
    refine g_bipush F rfl (by decide) dX7_shareOfArtist_24 ?_
    refine g_idiv F (by decide) rfl rfl dX7_shareOfArtist_26 ?_
    exact g_ireturn F rfl rfl rfl rfl (Nat.le_of_ble_eq_true rfl) (Nat.le_of_ble_eq_true rfl) dX7_shareOfArtist_27
  · refine g_iconst F 2 rfl dX7_shareOfArtist_7 ?_
    refine g_goto F (tgt := 27) rfl dX7_shareOfArtist_8 ?_
    exact g_ireturn F rfl rfl rfl rfl (Nat.le_of_ble_eq_true rfl) (Nat.le_of_ble_eq_true rfl) dX7_shareOfArtist_27
theorem c_X7_shareOfArtist (a0 a1 a2 : Int) (h0 : 0 ≤ a0) : ∀ l, Ct l yX7_shareOfArtist cX7_shareOfArtist 3 (some .int) ({ frames := 1, cells := 0, slots := 0, locals := 21 }) (some 0) [(17, a0), (12, a1), (0, a2)] (sp_X7_shareOfArtist a0 a1 a2) := g_method (by decide +kernel) (Nat.le_of_ble_eq_true rfl) (fun x v F ho => k_X7_shareOfArtist a0 a1 a2 h0 x v F ho)
def sp_X7_pay (a0 a1 a2 : Int) (v : V) : Res := (chk (0 ≤ a0) (rLet (up v 3 a0 2 (w32 ((v 3 a0 2) - a2))) (fun v2 => (chk (0 ≤ a1) (rLet (up v2 3 a1 2 (w32 ((v2 3 a1 2) + a2))) (fun v4 => (rOk 0 v4)))))))
set_option maxRecDepth 100000 in
set_option maxHeartbeats 4000000 in
theorem k_X7_pay (a0 a1 a2 : Int) (x : Cx) (v : V) (F : Fx x cX7_pay RX7 "pay" ({ frames := 0, cells := 0, slots := 0, locals := 0 }) 3 none none 0) (ho : ∀ a ∈ [(13, a0), (13, a1), (0, a2)], okv v a) : Gs x (sp_X7_pay a0 a1 a2 v) v 0 0 0 (avArgs 0 [(13, a0), (13, a1), (0, a2)]) [] := by
  show Gs x _ v 0 0 0 [(0, (13, a0)), (1, (13, a1)), (2, (0, a2))] []
  unfold sp_X7_pay
  refine g_aload_n F rfl 0 rfl dX7_pay_0 ?_
  refine g_dup F rfl dX7_pay_1 ?_
  refine g_chk (fun n1 => ?_)
  refine g_get F (t := 0) (sI := 2) fl_RX7_222 rfl rfl (Int.not_lt.mp (Int.not_lt.mpr n1)) dX7_pay_2 ?_
  refine g_iload_n F rfl 2 rfl rfl dX7_pay_5 ?_
  refine g_isub F rfl rfl dX7_pay_6 ?_
  refine h_put F (sI := 2) fl_RX7_222 ⟨_, rfl, Or.inl rfl⟩ rfl rfl (Int.not_lt.mp (Int.not_lt.mpr n1)) dX7_pay_7 (fun v2 => ?_)
  refine g_aload_n F rfl 1 rfl dX7_pay_10 ?_
  refine g_dup F rfl dX7_pay_11 ?_
  refine g_chk (fun n3 => ?_)
  refine g_get F (t := 0) (sI := 2) fl_RX7_222 rfl rfl (Int.not_lt.mp (Int.not_lt.mpr n3)) dX7_pay_12 ?_
  refine g_iload_n F rfl 2 rfl rfl dX7_pay_15 ?_
  refine g_iadd F rfl rfl dX7_pay_16 ?_
  refine h_put F (sI := 2) fl_RX7_222 ⟨_, rfl, Or.inl rfl⟩ rfl rfl (Int.not_lt.mp (Int.not_lt.mpr n3)) dX7_pay_17 (fun v4 => ?_)
  exact g_return F rfl (Nat.le_of_ble_eq_true rfl) (Nat.le_of_ble_eq_true rfl) dX7_pay_20
theorem c_X7_pay (a0 a1 a2 : Int) : ∀ l, Ct l yX7_pay cX7_pay 3 none ({ frames := 0, cells := 0, slots := 0, locals := 0 }) none [(13, a0), (13, a1), (0, a2)] (sp_X7_pay a0 a1 a2) := g_method (by decide +kernel) (Nat.le_of_ble_eq_true rfl) (fun x v F ho => k_X7_pay a0 a1 a2 x v F ho)
def sp_X7_carryOut (a0 a1 a2 a3 a4 a5 a6 : Int) (v : V) : Res := (rB (sp_X7_shareOfArtist a0 a1 a4 v) (fun z1 v1 => (chk (0 ≤ a1) (chk (0 ≤ (v1 2 a1 1)) (rB (sp_X7_pay a3 (v1 6 (v1 2 a1 1) 1) z1 v1) (fun z4 v4 => (rB (sp_X7_pay a3 a5 a6 v4) (fun z5 v5 => (rB (sp_X7_pay a3 (v5 2 a1 3) (w32 ((w32 (a4 - z1)) - a6)) v5) (fun z6 v6 => (rB (sp_X2_isFlippedOn a1 (v6 7 a0 9) v6) (fun z7 v7 => (if z7 = 0 then (chk ((0 : Int) ≤ (v7 7 a0 7) ∧ ¬ v7 99 4 (v7 7 a0 7) = 1) (rLet (nw v7 4 (v7 7 a0 7)) (fun v9 => (rB (sp_X2_isHeldByArtist a1  v9) (fun z11 v11 => (rB (sp_X4_init (v7 7 a0 7) (v9 7 a0 9) a4 a2 z11 v11) (fun z12 v12 => (rB (sp_X4_learn (v7 7 a0 7) a3 v12) (fun z13 v13 => (rB (sp_X4_learn (v7 7 a0 7) a5 v13) (fun z14 v14 => (rLet (up v14 2 a1 4 (w32 ((v14 2 a1 4) - a2))) (fun v15 => (chk ((0 : Int) ≤ (v15 7 a0 7) ∧ ¬ v15 99 2 (v15 7 a0 7) = 1) (rLet (nw v15 2 (v15 7 a0 7)) (fun v16 => (rB (sp_X2_init (v15 7 a0 7) (v16 7 a0 7) (v16 2 a1 1) a3 a2 (v16 2 a1 5) a1 (v7 7 a0 7) v16) (fun z18 v18 => (rB (sp_X7_keepLot a0 (v15 7 a0 7) v18) (fun z19 v19 => (rOk z19 v19)))))))))))))))))))))
   else (chk (0 ≤ (v7 2 a1 1)) (chk (0 ≤ (v7 2 a1 3)) (rB (sp_X3_punishBy (v7 2 a1 3) (v7 6 (v7 2 a1 1) 1) v7) (fun z21 v21 => (chk ((0 : Int) ≤ (v21 7 a0 7) ∧ ¬ v21 99 4 (v21 7 a0 7) = 1) (rLet (nw v21 4 (v21 7 a0 7)) (fun v23 => (rB (sp_X2_isHeldByArtist a1  v23) (fun z25 v25 => (rB (sp_X4_init (v21 7 a0 7) (v23 7 a0 9) a4 a2 z25 v25) (fun z26 v26 => (rB (sp_X4_learn (v21 7 a0 7) a3 v26) (fun z27 v27 => (rB (sp_X4_learn (v21 7 a0 7) a5 v27) (fun z28 v28 => (rLet (up v28 2 a1 4 (w32 ((v28 2 a1 4) - a2))) (fun v29 => (chk ((0 : Int) ≤ (v29 7 a0 7) ∧ ¬ v29 99 2 (v29 7 a0 7) = 1) (rLet (nw v29 2 (v29 7 a0 7)) (fun v30 => (rB (sp_X2_init (v29 7 a0 7) (v30 7 a0 7) (v30 2 a1 1) a3 a2 (v30 2 a1 5) a1 (v21 7 a0 7) v30) (fun z32 v32 => (rB (sp_X7_keepLot a0 (v29 7 a0 7) v32) (fun z33 v33 => (rOk z33 v33))))))))))))))))))))))))))))))))))))))
set_option maxRecDepth 100000 in
set_option maxHeartbeats 4000000 in
theorem k_X7_carryOut (a0 a1 a2 a3 a4 a5 a6 : Int) (h0 : 0 ≤ a0) (x : Cx) (v : V) (F : Fx x cX7_carryOut RX7 "carryOut" ({ frames := 2, cells := 2, slots := 13, locals := 43 }) 9 (some 0) (some .int) 0) (ho : ∀ a ∈ [(17, a0), (12, a1), (0, a2), (13, a3), (0, a4), (13, a5), (0, a6)], okv v a) : Gs x (sp_X7_carryOut a0 a1 a2 a3 a4 a5 a6 v) v 0 0 0 (avArgs 0 [(17, a0), (12, a1), (0, a2), (13, a3), (0, a4), (13, a5), (0, a6)]) [] := by
  show Gs x _ v 0 0 0 [(0, (17, a0)), (1, (12, a1)), (2, (0, a2)), (3, (13, a3)), (4, (0, a4)), (5, (13, a5)), (6, (0, a6))] []
  unfold sp_X7_carryOut
  refine g_aload_n F rfl 0 rfl dX7_carryOut_0 ?_
  refine g_aload_n F rfl 1 rfl dX7_carryOut_1 ?_
  refine g_iload F 4 rfl rfl dX7_carryOut_2 ?_
  refine g_callV F (by decide) (K := 7) (b := a0) [(12, a1), (0, a4)] [12, 0] ml_RX7_370 wi_X7_shareOfArtist ws_X7_shareOfArtist (c_X7_shareOfArtist a0 a1 a4 (Int.not_lt.mp (Int.not_lt.mpr h0))) mi_X7_shareOfArtist (by decide) ⟨_, rfl, rfl⟩ (Int.not_lt.mp (Int.not_lt.mpr h0)) rfl rfl rfl (Nat.le_of_ble_eq_true rfl) (Nat.le_of_ble_eq_true rfl) (Nat.le_of_ble_eq_true rfl) (Nat.le_of_ble_eq_true rfl) (Nat.le_of_ble_eq_true rfl) dX7_carryOut_4 (fun z1 v1 hz1 => ?_)
  refine g_istore F rfl (Nat.le_of_ble_eq_true rfl) (ls' := [(7, (0, z1)), (0, (17, a0)), (1, (12, a1)), (2, (0, a2)), (3, (13, a3)), (4, (0, a4)), (5, (13, a5)), (6, (0, a6))]) rfl dX7_carryOut_7 ?_
  refine g_aload_n F rfl 4 rfl dX7_carryOut_9 ?_
  refine g_aload_n F rfl 2 rfl dX7_carryOut_10 ?_
  refine g_chk (fun n2 => ?_)
  refine g_get F (t := 16) (sI := 1) fl_RX7_267 rfl rfl (Int.not_lt.mp (Int.not_lt.mpr n2)) dX7_carryOut_11 ?_
  refine g_chk (fun n3 => ?_)
  refine g_get F (t := 13) (sI := 1) fl_RX7_271 rfl rfl (Int.not_lt.mp (Int.not_lt.mpr n3)) dX7_carryOut_14 ?_
  refine g_iload F 0 rfl rfl dX7_carryOut_17 ?_
  refine g_callS F (by decide) [(13, a3), (13, (v1 6 (v1 2 a1 1) 1)), (0, z1)] [13, 13, 0] ml_RX7_234 wt_X7_pay (c_X7_pay a3 (v1 6 (v1 2 a1 1) 1) z1) mi_X7_pay rfl rfl rfl (Nat.le_of_ble_eq_true rfl) (Nat.le_of_ble_eq_true rfl) (Nat.le_of_ble_eq_true rfl) (Nat.le_of_ble_eq_true rfl) (Nat.le_of_ble_eq_true rfl) dX7_carryOut_19 (fun z4 v4 hz4 => ?_)
  refine g_aload_n F rfl 4 rfl dX7_carryOut_22 ?_
  refine g_aload F 6 rfl dX7_carryOut_23 ?_
  refine g_iload F 7 rfl rfl dX7_carryOut_25 ?_
  refine g_callS F (by decide) [(13, a3), (13, a5), (0, a6)] [13, 13, 0] ml_RX7_234 wt_X7_pay (c_X7_pay a3 a5 a6) mi_X7_pay rfl rfl rfl (Nat.le_of_ble_eq_true rfl) (Nat.le_of_ble_eq_true rfl) (Nat.le_of_ble_eq_true rfl) (Nat.le_of_ble_eq_true rfl) (Nat.le_of_ble_eq_true rfl) dX7_carryOut_27 (fun z5 v5 hz5 => ?_)
  refine g_aload_n F rfl 4 rfl dX7_carryOut_30 ?_
  refine g_aload_n F rfl 2 rfl dX7_carryOut_31 ?_
  refine g_get F (t := 13) (sI := 3) fl_RX7_153 rfl rfl (Int.not_lt.mp (Int.not_lt.mpr n2)) dX7_carryOut_32 ?_
  refine g_iload F 5 rfl rfl dX7_carryOut_35 ?_
  refine g_iload F 0 rfl rfl dX7_carryOut_37 ?_
  refine g_isub F rfl rfl dX7_carryOut_39 ?_
  refine g_iload F 7 rfl rfl dX7_carryOut_40 ?_
  refine g_isub F rfl rfl dX7_carryOut_42 ?_
  refine g_callS F (by decide) [(13, a3), (13, (v5 2 a1 3)), (0, (w32 ((w32 (a4 - z1)) - a6)))] [13, 13, 0] ml_RX7_234 wt_X7_pay (c_X7_pay a3 (v5 2 a1 3) (w32 ((w32 (a4 - z1)) - a6))) mi_X7_pay rfl rfl rfl (Nat.le_of_ble_eq_true rfl) (Nat.le_of_ble_eq_true rfl) (Nat.le_of_ble_eq_true rfl) (Nat.le_of_ble_eq_true rfl) (Nat.le_of_ble_eq_true rfl) dX7_carryOut_43 (fun z6 v6 hz6 => ?_)
  refine g_aload_n F rfl 2 rfl dX7_carryOut_46 ?_
  refine g_aload_n F rfl 1 rfl dX7_carryOut_47 ?_
  refine g_get F (t := 0) (sI := 9) fl_RX7_87 rfl rfl (Int.not_lt.mp (Int.not_lt.mpr h0)) dX7_carryOut_48 ?_
  refine g_callVN F (by decide) (K := 2) (b := a1) [(0, (v6 7 a0 9))] [0] ml_RX7_374 wi_X2_isFlippedOn ws_X2_isFlippedOn (c_X2_isFlippedOn a1 (v6 7 a0 9) (Int.not_lt.mp (Int.not_lt.mpr n2))) mi_X2_isFlippedOn (by decide) ⟨_, rfl, rfl⟩ (Int.not_lt.mp (Int.not_lt.mpr n2)) rfl rfl rfl (Nat.le_of_ble_eq_true rfl) (Nat.le_of_ble_eq_true rfl) (Nat.le_of_ble_eq_true rfl) (Nat.le_of_ble_eq_true rfl) (Nat.le_of_ble_eq_true rfl) dX7_carryOut_51 (fun z7 v7 hz7 => ?_)
  refine g_if_eq F rfl (tgt := 71) rfl dX7_carryOut_54 (fun n8 => ?_) (fun n8 => ?_)
  · refine g_chk (fun n10 => ?_)
    refine h_new F (n := 5) (Kz := 4) (v7 7 a0 7) fn_RX7_202 rfl rfl n10 (Nat.le_of_ble_eq_true rfl) (Nat.le_of_ble_eq_true rfl) dX7_carryOut_71 (fun v9 => ?_)
    refine g_dup F rfl dX7_carryOut_74 ?_
    refine g_aload_n F rfl 1 rfl dX7_carryOut_75 ?_
    refine g_get F (t := 0) (sI := 9) fl_RX7_87 rfl rfl (Int.not_lt.mp (Int.not_lt.mpr h0)) dX7_carryOut_76 ?_
    refine g_iload F 5 rfl rfl dX7_carryOut_79 ?_
    refine g_iload_n F rfl 3 rfl rfl dX7_carryOut_81 ?_
    refine g_aload_n F rfl 2 rfl dX7_carryOut_82 ?_
    refine g_callVN F (by decide) (K := 2) (b := a1) [] [] ml_RX7_363 wi_X2_isHeldByArtist ws_X2_isHeldByArtist (c_X2_isHeldByArtist a1  (Int.not_lt.mp (Int.not_lt.mpr n2))) mi_X2_isHeldByArtist (by decide) ⟨_, rfl, rfl⟩ (Int.not_lt.mp (Int.not_lt.mpr n2)) rfl rfl rfl (Nat.le_of_ble_eq_true rfl) (Nat.le_of_ble_eq_true rfl) (Nat.le_of_ble_eq_true rfl) (Nat.le_of_ble_eq_true rfl) (Nat.le_of_ble_eq_true rfl) dX7_carryOut_83 (fun z11 v11 hz11 => ?_)
    refine g_callIN F (by decide) (K := 4) (b := (v7 7 a0 7)) [(0, (v9 7 a0 9)), (0, a4), (0, a2), (2, z11)] [0, 0, 0, 2] ml_RX7_381 wi_X4_init rfl (c_X4_init (v7 7 a0 7) (v9 7 a0 9) a4 a2 z11 (Int.not_lt.mp (Int.not_lt.mpr n10.1))) mi_X4_init (Int.not_lt.mp (Int.not_lt.mpr n10.1)) rfl rfl rfl (Nat.le_of_ble_eq_true rfl) (Nat.le_of_ble_eq_true rfl) (Nat.le_of_ble_eq_true rfl) (Nat.le_of_ble_eq_true rfl) (Nat.le_of_ble_eq_true rfl) dX7_carryOut_86 (fun z12 v12 hz12 => ?_)
    refine g_astore F (Nat.le_of_ble_eq_true rfl) (ls' := [(8, (14, (v7 7 a0 7))), (7, (0, z1)), (0, (17, a0)), (1, (12, a1)), (2, (0, a2)), (3, (13, a3)), (4, (0, a4)), (5, (13, a5)), (6, (0, a6))]) rfl dX7_carryOut_89 ?_
    refine g_aload F 0 rfl dX7_carryOut_91 ?_
    refine g_aload_n F rfl 5 rfl dX7_carryOut_93 ?_
    refine g_callVN F (by decide) (K := 4) (b := (v7 7 a0 7)) [(13, a3)] [13] ml_RX7_207 wi_X4_learn ws_X4_learn (c_X4_learn (v7 7 a0 7) a3 (Int.not_lt.mp (Int.not_lt.mpr n10.1))) mi_X4_learn (by decide) ⟨_, rfl, rfl⟩ (Int.not_lt.mp (Int.not_lt.mpr n10.1)) rfl rfl rfl (Nat.le_of_ble_eq_true rfl) (Nat.le_of_ble_eq_true rfl) (Nat.le_of_ble_eq_true rfl) (Nat.le_of_ble_eq_true rfl) (Nat.le_of_ble_eq_true rfl) dX7_carryOut_94 (fun z13 v13 hz13 => ?_)
    refine g_aload F 0 rfl dX7_carryOut_97 ?_
    refine g_aload F 7 rfl dX7_carryOut_99 ?_
    refine g_callVN F (by decide) (K := 4) (b := (v7 7 a0 7)) [(13, a5)] [13] ml_RX7_207 wi_X4_learn ws_X4_learn (c_X4_learn (v7 7 a0 7) a5 (Int.not_lt.mp (Int.not_lt.mpr n10.1))) mi_X4_learn (by decide) ⟨_, rfl, rfl⟩ (Int.not_lt.mp (Int.not_lt.mpr n10.1)) rfl rfl rfl (Nat.le_of_ble_eq_true rfl) (Nat.le_of_ble_eq_true rfl) (Nat.le_of_ble_eq_true rfl) (Nat.le_of_ble_eq_true rfl) (Nat.le_of_ble_eq_true rfl) dX7_carryOut_101 (fun z14 v14 hz14 => ?_)
    refine g_aload_n F rfl 3 rfl dX7_carryOut_104 ?_
    refine g_dup F rfl dX7_carryOut_105 ?_
    refine g_get F (t := 0) (sI := 4) fl_RX7_165 rfl rfl (Int.not_lt.mp (Int.not_lt.mpr n2)) dX7_carryOut_106 ?_
    refine g_iload_n F rfl 4 rfl rfl dX7_carryOut_109 ?_
    refine g_isub F rfl rfl dX7_carryOut_110 ?_
    refine h_put F (sI := 4) fl_RX7_165 ⟨_, rfl, Or.inl rfl⟩ rfl rfl (Int.not_lt.mp (Int.not_lt.mpr n2)) dX7_carryOut_111 (fun v15 => ?_)
    refine g_aload_n F rfl 2 rfl dX7_carryOut_114 ?_
    refine g_chk (fun n17 => ?_)
    refine h_new F (n := 8) (Kz := 2) (v15 7 a0 7) fn_RX7_21 rfl rfl n17 (Nat.le_of_ble_eq_true rfl) (Nat.le_of_ble_eq_true rfl) dX7_carryOut_115 (fun v16 => ?_)
    refine g_dup F rfl dX7_carryOut_118 ?_
    refine g_aload_n F rfl 2 rfl dX7_carryOut_119 ?_
    refine g_get F (t := 0) (sI := 7) fl_RX7_66 rfl rfl (Int.not_lt.mp (Int.not_lt.mpr h0)) dX7_carryOut_120 ?_
    refine g_aload_n F rfl 3 rfl dX7_carryOut_123 ?_
    refine g_get F (t := 16) (sI := 1) fl_RX7_267 rfl rfl (Int.not_lt.mp (Int.not_lt.mpr n2)) dX7_carryOut_124 ?_
    refine g_aload_n F rfl 5 rfl dX7_carryOut_127 ?_
    refine g_iload_n F rfl 4 rfl rfl dX7_carryOut_128 ?_
    refine g_aload_n F rfl 3 rfl dX7_carryOut_129 ?_
    refine g_get F (t := 11) (sI := 5) fl_RX7_218 rfl rfl (Int.not_lt.mp (Int.not_lt.mpr n2)) dX7_carryOut_130 ?_
    refine g_aload_n F rfl 3 rfl dX7_carryOut_133 ?_
    refine g_aload F 0 rfl dX7_carryOut_134 ?_
    refine g_callIN F (by decide) (K := 2) (b := (v15 7 a0 7)) [(0, (v16 7 a0 7)), (16, (v16 2 a1 1)), (13, a3), (0, a2), (11, (v16 2 a1 5)), (12, a1), (14, (v7 7 a0 7))] [0, 16, 13, 0, 11, 12, 14] ml_RX7_72 wi_X2_init rfl (c_X2_init (v15 7 a0 7) (v16 7 a0 7) (v16 2 a1 1) a3 a2 (v16 2 a1 5) a1 (v7 7 a0 7) (Int.not_lt.mp (Int.not_lt.mpr n17.1))) mi_X2_init (Int.not_lt.mp (Int.not_lt.mpr n17.1)) rfl rfl rfl (Nat.le_of_ble_eq_true rfl) (Nat.le_of_ble_eq_true rfl) (Nat.le_of_ble_eq_true rfl) (Nat.le_of_ble_eq_true rfl) (Nat.le_of_ble_eq_true rfl) dX7_carryOut_136 (fun z18 v18 hz18 => ?_)
    refine g_callV F (by decide) (K := 7) (b := a0) [(12, (v15 7 a0 7))] [12] ml_RX7_75 wi_X7_keepLot ws_X7_keepLot (c_X7_keepLot a0 (v15 7 a0 7) (Int.not_lt.mp (Int.not_lt.mpr h0))) mi_X7_keepLot (by decide) ⟨_, rfl, rfl⟩ (Int.not_lt.mp (Int.not_lt.mpr h0)) rfl rfl rfl (Nat.le_of_ble_eq_true rfl) (Nat.le_of_ble_eq_true rfl) (Nat.le_of_ble_eq_true rfl) (Nat.le_of_ble_eq_true rfl) (Nat.le_of_ble_eq_true rfl) dX7_carryOut_139 (fun z19 v19 hz19 => ?_)
    exact g_ireturn F rfl rfl rfl rfl (Nat.le_of_ble_eq_true rfl) (Nat.le_of_ble_eq_true rfl) dX7_carryOut_142
  · refine g_aload_n F rfl 2 rfl dX7_carryOut_57 ?_
    refine g_get F (t := 13) (sI := 3) fl_RX7_153 rfl rfl (Int.not_lt.mp (Int.not_lt.mpr n2)) dX7_carryOut_58 ?_
    refine g_aload_n F rfl 2 rfl dX7_carryOut_61 ?_
    refine g_get F (t := 16) (sI := 1) fl_RX7_267 rfl rfl (Int.not_lt.mp (Int.not_lt.mpr n2)) dX7_carryOut_62 ?_
    refine g_chk (fun n20 => ?_)
    refine g_get F (t := 13) (sI := 1) fl_RX7_271 rfl rfl (Int.not_lt.mp (Int.not_lt.mpr n20)) dX7_carryOut_65 ?_
    refine g_chk (fun n22 => ?_)
    refine g_callVN F (by decide) (K := 3) (b := (v7 2 a1 3)) [(13, (v7 6 (v7 2 a1 1) 1))] [13] ml_RX7_378 wi_X3_punishBy ws_X3_punishBy (c_X3_punishBy (v7 2 a1 3) (v7 6 (v7 2 a1 1) 1) (Int.not_lt.mp (Int.not_lt.mpr n22))) mi_X3_punishBy (by decide) ⟨_, rfl, rfl⟩ (Int.not_lt.mp (Int.not_lt.mpr n22)) rfl rfl rfl (Nat.le_of_ble_eq_true rfl) (Nat.le_of_ble_eq_true rfl) (Nat.le_of_ble_eq_true rfl) (Nat.le_of_ble_eq_true rfl) (Nat.le_of_ble_eq_true rfl) dX7_carryOut_68 (fun z21 v21 hz21 => ?_)
    refine g_chk (fun n24 => ?_)
    refine h_new F (n := 5) (Kz := 4) (v21 7 a0 7) fn_RX7_202 rfl rfl n24 (Nat.le_of_ble_eq_true rfl) (Nat.le_of_ble_eq_true rfl) dX7_carryOut_71 (fun v23 => ?_)
    refine g_dup F rfl dX7_carryOut_74 ?_
    refine g_aload_n F rfl 1 rfl dX7_carryOut_75 ?_
    refine g_get F (t := 0) (sI := 9) fl_RX7_87 rfl rfl (Int.not_lt.mp (Int.not_lt.mpr h0)) dX7_carryOut_76 ?_
    refine g_iload F 5 rfl rfl dX7_carryOut_79 ?_
    refine g_iload_n F rfl 3 rfl rfl dX7_carryOut_81 ?_
    refine g_aload_n F rfl 2 rfl dX7_carryOut_82 ?_
    refine g_callVN F (by decide) (K := 2) (b := a1) [] [] ml_RX7_363 wi_X2_isHeldByArtist ws_X2_isHeldByArtist (c_X2_isHeldByArtist a1  (Int.not_lt.mp (Int.not_lt.mpr n2))) mi_X2_isHeldByArtist (by decide) ⟨_, rfl, rfl⟩ (Int.not_lt.mp (Int.not_lt.mpr n2)) rfl rfl rfl (Nat.le_of_ble_eq_true rfl) (Nat.le_of_ble_eq_true rfl) (Nat.le_of_ble_eq_true rfl) (Nat.le_of_ble_eq_true rfl) (Nat.le_of_ble_eq_true rfl) dX7_carryOut_83 (fun z25 v25 hz25 => ?_)
    refine g_callIN F (by decide) (K := 4) (b := (v21 7 a0 7)) [(0, (v23 7 a0 9)), (0, a4), (0, a2), (2, z25)] [0, 0, 0, 2] ml_RX7_381 wi_X4_init rfl (c_X4_init (v21 7 a0 7) (v23 7 a0 9) a4 a2 z25 (Int.not_lt.mp (Int.not_lt.mpr n24.1))) mi_X4_init (Int.not_lt.mp (Int.not_lt.mpr n24.1)) rfl rfl rfl (Nat.le_of_ble_eq_true rfl) (Nat.le_of_ble_eq_true rfl) (Nat.le_of_ble_eq_true rfl) (Nat.le_of_ble_eq_true rfl) (Nat.le_of_ble_eq_true rfl) dX7_carryOut_86 (fun z26 v26 hz26 => ?_)
    refine g_astore F (Nat.le_of_ble_eq_true rfl) (ls' := [(8, (14, (v21 7 a0 7))), (7, (0, z1)), (0, (17, a0)), (1, (12, a1)), (2, (0, a2)), (3, (13, a3)), (4, (0, a4)), (5, (13, a5)), (6, (0, a6))]) rfl dX7_carryOut_89 ?_
    refine g_aload F 0 rfl dX7_carryOut_91 ?_
    refine g_aload_n F rfl 5 rfl dX7_carryOut_93 ?_
    refine g_callVN F (by decide) (K := 4) (b := (v21 7 a0 7)) [(13, a3)] [13] ml_RX7_207 wi_X4_learn ws_X4_learn (c_X4_learn (v21 7 a0 7) a3 (Int.not_lt.mp (Int.not_lt.mpr n24.1))) mi_X4_learn (by decide) ⟨_, rfl, rfl⟩ (Int.not_lt.mp (Int.not_lt.mpr n24.1)) rfl rfl rfl (Nat.le_of_ble_eq_true rfl) (Nat.le_of_ble_eq_true rfl) (Nat.le_of_ble_eq_true rfl) (Nat.le_of_ble_eq_true rfl) (Nat.le_of_ble_eq_true rfl) dX7_carryOut_94 (fun z27 v27 hz27 => ?_)
    refine g_aload F 0 rfl dX7_carryOut_97 ?_
    refine g_aload F 7 rfl dX7_carryOut_99 ?_
    refine g_callVN F (by decide) (K := 4) (b := (v21 7 a0 7)) [(13, a5)] [13] ml_RX7_207 wi_X4_learn ws_X4_learn (c_X4_learn (v21 7 a0 7) a5 (Int.not_lt.mp (Int.not_lt.mpr n24.1))) mi_X4_learn (by decide) ⟨_, rfl, rfl⟩ (Int.not_lt.mp (Int.not_lt.mpr n24.1)) rfl rfl rfl (Nat.le_of_ble_eq_true rfl) (Nat.le_of_ble_eq_true rfl) (Nat.le_of_ble_eq_true rfl) (Nat.le_of_ble_eq_true rfl) (Nat.le_of_ble_eq_true rfl) dX7_carryOut_101 (fun z28 v28 hz28 => ?_)
    refine g_aload_n F rfl 3 rfl dX7_carryOut_104 ?_
    refine g_dup F rfl dX7_carryOut_105 ?_
    refine g_get F (t := 0) (sI := 4) fl_RX7_165 rfl rfl (Int.not_lt.mp (Int.not_lt.mpr n2)) dX7_carryOut_106 ?_
    refine g_iload_n F rfl 4 rfl rfl dX7_carryOut_109 ?_
    refine g_isub F rfl rfl dX7_carryOut_110 ?_
    refine h_put F (sI := 4) fl_RX7_165 ⟨_, rfl, Or.inl rfl⟩ rfl rfl (Int.not_lt.mp (Int.not_lt.mpr n2)) dX7_carryOut_111 (fun v29 => ?_)
    refine g_aload_n F rfl 2 rfl dX7_carryOut_114 ?_
    refine g_chk (fun n31 => ?_)
    refine h_new F (n := 8) (Kz := 2) (v29 7 a0 7) fn_RX7_21 rfl rfl n31 (Nat.le_of_ble_eq_true rfl) (Nat.le_of_ble_eq_true rfl) dX7_carryOut_115 (fun v30 => ?_)
    refine g_dup F rfl dX7_carryOut_118 ?_
    refine g_aload_n F rfl 2 rfl dX7_carryOut_119 ?_
    refine g_get F (t := 0) (sI := 7) fl_RX7_66 rfl rfl (Int.not_lt.mp (Int.not_lt.mpr h0)) dX7_carryOut_120 ?_
    refine g_aload_n F rfl 3 rfl dX7_carryOut_123 ?_
    refine g_get F (t := 16) (sI := 1) fl_RX7_267 rfl rfl (Int.not_lt.mp (Int.not_lt.mpr n2)) dX7_carryOut_124 ?_
    refine g_aload_n F rfl 5 rfl dX7_carryOut_127 ?_
    refine g_iload_n F rfl 4 rfl rfl dX7_carryOut_128 ?_
    refine g_aload_n F rfl 3 rfl dX7_carryOut_129 ?_
    refine g_get F (t := 11) (sI := 5) fl_RX7_218 rfl rfl (Int.not_lt.mp (Int.not_lt.mpr n2)) dX7_carryOut_130 ?_
    refine g_aload_n F rfl 3 rfl dX7_carryOut_133 ?_
    refine g_aload F 0 rfl dX7_carryOut_134 ?_
    refine g_callIN F (by decide) (K := 2) (b := (v29 7 a0 7)) [(0, (v30 7 a0 7)), (16, (v30 2 a1 1)), (13, a3), (0, a2), (11, (v30 2 a1 5)), (12, a1), (14, (v21 7 a0 7))] [0, 16, 13, 0, 11, 12, 14] ml_RX7_72 wi_X2_init rfl (c_X2_init (v29 7 a0 7) (v30 7 a0 7) (v30 2 a1 1) a3 a2 (v30 2 a1 5) a1 (v21 7 a0 7) (Int.not_lt.mp (Int.not_lt.mpr n31.1))) mi_X2_init (Int.not_lt.mp (Int.not_lt.mpr n31.1)) rfl rfl rfl (Nat.le_of_ble_eq_true rfl) (Nat.le_of_ble_eq_true rfl) (Nat.le_of_ble_eq_true rfl) (Nat.le_of_ble_eq_true rfl) (Nat.le_of_ble_eq_true rfl) dX7_carryOut_136 (fun z32 v32 hz32 => ?_)
    refine g_callV F (by decide) (K := 7) (b := a0) [(12, (v29 7 a0 7))] [12] ml_RX7_75 wi_X7_keepLot ws_X7_keepLot (c_X7_keepLot a0 (v29 7 a0 7) (Int.not_lt.mp (Int.not_lt.mpr h0))) mi_X7_keepLot (by decide) ⟨_, rfl, rfl⟩ (Int.not_lt.mp (Int.not_lt.mpr h0)) rfl rfl rfl (Nat.le_of_ble_eq_true rfl) (Nat.le_of_ble_eq_true rfl) (Nat.le_of_ble_eq_true rfl) (Nat.le_of_ble_eq_true rfl) (Nat.le_of_ble_eq_true rfl) dX7_carryOut_139 (fun z33 v33 hz33 => ?_)
    exact g_ireturn F rfl rfl rfl rfl (Nat.le_of_ble_eq_true rfl) (Nat.le_of_ble_eq_true rfl) dX7_carryOut_142
theorem c_X7_carryOut (a0 a1 a2 a3 a4 a5 a6 : Int) (h0 : 0 ≤ a0) : ∀ l, Ct l yX7_carryOut cX7_carryOut 9 (some .int) ({ frames := 2, cells := 2, slots := 13, locals := 43 }) (some 0) [(17, a0), (12, a1), (0, a2), (13, a3), (0, a4), (13, a5), (0, a6)] (sp_X7_carryOut a0 a1 a2 a3 a4 a5 a6) := g_method (by decide +kernel) (Nat.le_of_ble_eq_true rfl) (fun x v F ho => k_X7_carryOut a0 a1 a2 a3 a4 a5 a6 h0 x v F ho)
def sp_X7_sell (a0 a1 a2 a3 a4 : Int) (v : V) : Res := (rB (sp_X7_lotAt a0 a1 v) (fun z1 v1 => (rB (sp_X7_partyAt a0 a3 v1) (fun z2 v2 => (rB (sp_X7_requireOffer z1 a2 z2 a4 v2) (fun z3 v3 => (rB (sp_X7_barOfSale a0 z1 a2 z2 a4 v3) (fun z4 v4 => (if ¬ z4 = 0 then (rB (sp_X7_requireState 0 v4) (fun z6 v6 => none))
   else (rB (sp_X7_requireState 1 v4) (fun z7 v7 => (chk (0 ≤ z1) (rB (sp_X7_carryOut a0 z1 a2 z2 a4 (v7 2 z1 3) 0 v7) (fun z9 v9 => (rOk z9 v9)))))))))))))))
set_option maxRecDepth 100000 in
set_option maxHeartbeats 4000000 in
theorem k_X7_sell (a0 a1 a2 a3 a4 : Int) (h0 : 0 ≤ a0) (x : Cx) (v : V) (F : Fx x cX7_sell RX7 "sell" ({ frames := 8, cells := 8, slots := 49, locals := 127 }) 7 (some 0) (some .int) 0) (ho : ∀ a ∈ [(17, a0), (0, a1), (0, a2), (0, a3), (0, a4)], okv v a) : Gs x (sp_X7_sell a0 a1 a2 a3 a4 v) v 0 0 0 (avArgs 0 [(17, a0), (0, a1), (0, a2), (0, a3), (0, a4)]) [] := by
  show Gs x _ v 0 0 0 [(0, (17, a0)), (1, (0, a1)), (2, (0, a2)), (3, (0, a3)), (4, (0, a4))] []
  unfold sp_X7_sell
  refine g_aload_n F rfl 0 rfl dX7_sell_0 ?_
  refine g_iload_n F rfl 1 rfl rfl dX7_sell_1 ?_
  refine g_callV F (by decide) (K := 7) (b := a0) [(0, a1)] [0] ml_RX7_141 wi_X7_lotAt ws_X7_lotAt (c_X7_lotAt a0 a1 (Int.not_lt.mp (Int.not_lt.mpr h0))) mi_X7_lotAt (by decide) ⟨_, rfl, rfl⟩ (Int.not_lt.mp (Int.not_lt.mpr h0)) rfl rfl rfl (Nat.le_of_ble_eq_true rfl) (Nat.le_of_ble_eq_true rfl) (Nat.le_of_ble_eq_true rfl) (Nat.le_of_ble_eq_true rfl) (Nat.le_of_ble_eq_true rfl) dX7_sell_2 (fun z1 v1 hz1 => ?_)
  refine g_astore F (Nat.le_of_ble_eq_true rfl) (ls' := [(5, (12, z1)), (0, (17, a0)), (1, (0, a1)), (2, (0, a2)), (3, (0, a3)), (4, (0, a4))]) rfl dX7_sell_5 ?_
  refine g_aload_n F rfl 1 rfl dX7_sell_7 ?_
  refine g_iload_n F rfl 4 rfl rfl dX7_sell_8 ?_
  refine g_callV F (by decide) (K := 7) (b := a0) [(0, a3)] [0] ml_RX7_59 wi_X7_partyAt ws_X7_partyAt (c_X7_partyAt a0 a3 (Int.not_lt.mp (Int.not_lt.mpr h0))) mi_X7_partyAt (by decide) ⟨_, rfl, rfl⟩ (Int.not_lt.mp (Int.not_lt.mpr h0)) rfl rfl rfl (Nat.le_of_ble_eq_true rfl) (Nat.le_of_ble_eq_true rfl) (Nat.le_of_ble_eq_true rfl) (Nat.le_of_ble_eq_true rfl) (Nat.le_of_ble_eq_true rfl) dX7_sell_9 (fun z2 v2 hz2 => ?_)
  refine g_astore F (Nat.le_of_ble_eq_true rfl) (ls' := [(6, (13, z2)), (5, (12, z1)), (0, (17, a0)), (1, (0, a1)), (2, (0, a2)), (3, (0, a3)), (4, (0, a4))]) rfl dX7_sell_12 ?_
  refine g_aload F 1 rfl dX7_sell_14 ?_
  refine g_iload_n F rfl 4 rfl rfl dX7_sell_16 ?_
  refine g_aload F 0 rfl dX7_sell_17 ?_
  refine g_iload F 6 rfl rfl dX7_sell_19 ?_
  refine g_callS F (by decide) [(12, z1), (0, a2), (13, z2), (0, a4)] [12, 0, 13, 0] ml_RX7_145 wt_X7_requireOffer (c_X7_requireOffer z1 a2 z2 a4) mi_X7_requireOffer rfl rfl rfl (Nat.le_of_ble_eq_true rfl) (Nat.le_of_ble_eq_true rfl) (Nat.le_of_ble_eq_true rfl) (Nat.le_of_ble_eq_true rfl) (Nat.le_of_ble_eq_true rfl) dX7_sell_21 (fun z3 v3 hz3 => ?_)
  refine g_aload_n F rfl 2 rfl dX7_sell_24 ?_
  refine g_aload F 1 rfl dX7_sell_25 ?_
  refine g_iload_n F rfl 4 rfl rfl dX7_sell_27 ?_
  refine g_aload F 0 rfl dX7_sell_28 ?_
  refine g_iload F 6 rfl rfl dX7_sell_30 ?_
  refine g_callV F (by decide) (K := 7) (b := a0) [(12, z1), (0, a2), (13, z2), (0, a4)] [12, 0, 13, 0] ml_RX7_149 wi_X7_barOfSale ws_X7_barOfSale (c_X7_barOfSale a0 z1 a2 z2 a4 (Int.not_lt.mp (Int.not_lt.mpr h0))) mi_X7_barOfSale (by decide) ⟨_, rfl, rfl⟩ (Int.not_lt.mp (Int.not_lt.mpr h0)) rfl rfl rfl (Nat.le_of_ble_eq_true rfl) (Nat.le_of_ble_eq_true rfl) (Nat.le_of_ble_eq_true rfl) (Nat.le_of_ble_eq_true rfl) (Nat.le_of_ble_eq_true rfl) dX7_sell_32 (fun z4 v4 hz4 => ?_)
  refine g_if_ne F rfl (tgt := 42) rfl dX7_sell_35 (fun n5 => ?_) (fun n5 => ?_)
  · refine g_iconst F 2 rfl dX7_sell_42 ?_
    refine g_callS F (by decide) [(2, 0)] [2] ml_RX7_50 wt_X7_requireState (c_X7_requireState 0) mi_X7_requireState rfl rfl rfl (Nat.le_of_ble_eq_true rfl) (Nat.le_of_ble_eq_true rfl) (Nat.le_of_ble_eq_true rfl) (Nat.le_of_ble_eq_true rfl) (Nat.le_of_ble_eq_true rfl) dX7_sell_43 (fun z6 v6 hz6 => ?_)
    exact g_none
  · refine g_iconst F 2 rfl dX7_sell_38 ?_
    refine g_goto F (tgt := 43) rfl dX7_sell_39 ?_
    refine g_callS F (by decide) [(2, 1)] [2] ml_RX7_50 wt_X7_requireState (c_X7_requireState 1) mi_X7_requireState rfl rfl rfl (Nat.le_of_ble_eq_true rfl) (Nat.le_of_ble_eq_true rfl) (Nat.le_of_ble_eq_true rfl) (Nat.le_of_ble_eq_true rfl) (Nat.le_of_ble_eq_true rfl) dX7_sell_43 (fun z7 v7 hz7 => ?_)
    refine g_aload_n F rfl 2 rfl dX7_sell_46 ?_
    refine g_aload F 1 rfl dX7_sell_47 ?_
    refine g_iload_n F rfl 4 rfl rfl dX7_sell_49 ?_
    refine g_aload F 0 rfl dX7_sell_50 ?_
    refine g_iload F 6 rfl rfl dX7_sell_52 ?_
    refine g_aload F 1 rfl dX7_sell_54 ?_
    refine g_chk (fun n8 => ?_)
    refine g_get F (t := 13) (sI := 3) fl_RX7_153 rfl rfl (Int.not_lt.mp (Int.not_lt.mpr n8)) dX7_sell_56 ?_
    refine g_iconst F 2 rfl dX7_sell_59 ?_
    refine g_callV F (by decide) (K := 7) (b := a0) [(12, z1), (0, a2), (13, z2), (0, a4), (13, (v7 2 z1 3)), (2, 0)] [12, 0, 13, 0, 13, 0] ml_RX7_157 wi_X7_carryOut ws_X7_carryOut (c_X7_carryOut a0 z1 a2 z2 a4 (v7 2 z1 3) 0 (Int.not_lt.mp (Int.not_lt.mpr h0))) mi_X7_carryOut (by decide) ⟨_, rfl, rfl⟩ (Int.not_lt.mp (Int.not_lt.mpr h0)) rfl rfl rfl (Nat.le_of_ble_eq_true rfl) (Nat.le_of_ble_eq_true rfl) (Nat.le_of_ble_eq_true rfl) (Nat.le_of_ble_eq_true rfl) (Nat.le_of_ble_eq_true rfl) dX7_sell_60 (fun z9 v9 hz9 => ?_)
    exact g_ireturn F rfl rfl rfl rfl (Nat.le_of_ble_eq_true rfl) (Nat.le_of_ble_eq_true rfl) dX7_sell_63
theorem c_X7_sell (a0 a1 a2 a3 a4 : Int) (h0 : 0 ≤ a0) : ∀ l, Ct l yX7_sell cX7_sell 7 (some .int) ({ frames := 8, cells := 8, slots := 49, locals := 127 }) (some 0) [(17, a0), (0, a1), (0, a2), (0, a3), (0, a4)] (sp_X7_sell a0 a1 a2 a3 a4) := g_method (by decide +kernel) (Nat.le_of_ble_eq_true rfl) (fun x v F ho => k_X7_sell a0 a1 a2 a3 a4 h0 x v F ho)
def sp_X7_consign (a0 a1 a2 a3 a4 a5 : Int) (v : V) : Res := (rB (sp_X7_lotAt a0 a1 v) (fun z1 v1 => (rB (sp_X7_partyAt a0 a2 v1) (fun z2 v2 => (rB (sp_X7_requireRange a3 0 1000000 v2) (fun z3 v3 => (rB (sp_X7_requireRange a4 0 50 v3) (fun z4 v4 => (rB (sp_X7_requireRange a5 0 1000 v4) (fun z5 v5 => (chk (0 ≤ z1) (rB (sp_X7_requireOther z2 (v5 2 z1 3) v5) (fun z7 v7 => (if (v7 2 z1 4) ≤ 0 then (rB (sp_X7_requireState 0 v7) (fun z9 v9 => none))
   else (if (v7 2 z1 6) < 0 then (rB (sp_X7_requireState 1 v7) (fun z11 v11 => (chk (0 ≤ (v11 2 z1 3)) (if ¬ (v11 3 (v11 2 z1 3) 4) = 0 then (rB (sp_X7_requireState 0 v11) (fun z14 v14 => none))
   else (chk (0 ≤ z2) (if ¬ (v11 3 z2 4) = 0 then (rB (sp_X7_requireState 0 v11) (fun z17 v17 => none))
   else (rB (sp_X7_requireState 1 v11) (fun z18 v18 => (chk ((0 : Int) ≤ (v18 98 0 0) ∧ ¬ v18 99 0 (v18 98 0 0) = 1) (rLet (nw v18 0 (v18 98 0 0)) (fun v19 => (rLet (up v19 98 0 0 (v19 98 0 0 + 1)) (fun v21 => (rB (sp_X0_init (v18 98 0 0) z2 a3 a4 (w32 ((v21 7 a0 9) + a5)) v21) (fun z22 v22 => (rLet (up v22 2 z1 6 (v18 98 0 0)) (fun v23 => (rOk 0 v23))))))))))))))))))
   else (rB (sp_X7_requireState 0 v7) (fun z24 v24 => none)))))))))))))))))
set_option maxRecDepth 100000 in
set_option maxHeartbeats 4000000 in
theorem k_X7_consign (a0 a1 a2 a3 a4 a5 : Int) (h0 : 0 ≤ a0) (x : Cx) (v : V) (F : Fx x cX7_consign RX7 "consign" ({ frames := 7, cells := 9, slots := 52, locals := 104 }) 8 none none 0) (ho : ∀ a ∈ [(17, a0), (0, a1), (0, a2), (0, a3), (0, a4), (0, a5)], okv v a) : Gs x (sp_X7_consign a0 a1 a2 a3 a4 a5 v) v 0 0 0 (avArgs 0 [(17, a0), (0, a1), (0, a2), (0, a3), (0, a4), (0, a5)]) [] := by
  show Gs x _ v 0 0 0 [(0, (17, a0)), (1, (0, a1)), (2, (0, a2)), (3, (0, a3)), (4, (0, a4)), (5, (0, a5))] []
  unfold sp_X7_consign
  refine g_aload_n F rfl 0 rfl dX7_consign_0 ?_
  refine g_iload_n F rfl 1 rfl rfl dX7_consign_1 ?_
  refine g_callV F (by decide) (K := 7) (b := a0) [(0, a1)] [0] ml_RX7_141 wi_X7_lotAt ws_X7_lotAt (c_X7_lotAt a0 a1 (Int.not_lt.mp (Int.not_lt.mpr h0))) mi_X7_lotAt (by decide) ⟨_, rfl, rfl⟩ (Int.not_lt.mp (Int.not_lt.mpr h0)) rfl rfl rfl (Nat.le_of_ble_eq_true rfl) (Nat.le_of_ble_eq_true rfl) (Nat.le_of_ble_eq_true rfl) (Nat.le_of_ble_eq_true rfl) (Nat.le_of_ble_eq_true rfl) dX7_consign_2 (fun z1 v1 hz1 => ?_)
  refine g_astore F (Nat.le_of_ble_eq_true rfl) (ls' := [(6, (12, z1)), (0, (17, a0)), (1, (0, a1)), (2, (0, a2)), (3, (0, a3)), (4, (0, a4)), (5, (0, a5))]) rfl dX7_consign_5 ?_
  refine g_aload_n F rfl 1 rfl dX7_consign_7 ?_
  refine g_iload_n F rfl 3 rfl rfl dX7_consign_8 ?_
  refine g_callV F (by decide) (K := 7) (b := a0) [(0, a2)] [0] ml_RX7_59 wi_X7_partyAt ws_X7_partyAt (c_X7_partyAt a0 a2 (Int.not_lt.mp (Int.not_lt.mpr h0))) mi_X7_partyAt (by decide) ⟨_, rfl, rfl⟩ (Int.not_lt.mp (Int.not_lt.mpr h0)) rfl rfl rfl (Nat.le_of_ble_eq_true rfl) (Nat.le_of_ble_eq_true rfl) (Nat.le_of_ble_eq_true rfl) (Nat.le_of_ble_eq_true rfl) (Nat.le_of_ble_eq_true rfl) dX7_consign_9 (fun z2 v2 hz2 => ?_)
  refine g_astore F (Nat.le_of_ble_eq_true rfl) (ls' := [(7, (13, z2)), (6, (12, z1)), (0, (17, a0)), (1, (0, a1)), (2, (0, a2)), (3, (0, a3)), (4, (0, a4)), (5, (0, a5))]) rfl dX7_consign_12 ?_
  refine g_iload_n F rfl 5 rfl rfl dX7_consign_14 ?_
  refine g_iconst F 2 rfl dX7_consign_15 ?_
  refine g_ldc F rfl cn_RX7_41 dX7_consign_16 ?_
  refine g_callS F (by decide) [(0, a3), (2, 0), (0, 1000000)] [0, 0, 0] ml_RX7_42 wt_X7_requireRange (c_X7_requireRange a3 0 1000000) mi_X7_requireRange rfl rfl rfl (Nat.le_of_ble_eq_true rfl) (Nat.le_of_ble_eq_true rfl) (Nat.le_of_ble_eq_true rfl) (Nat.le_of_ble_eq_true rfl) (Nat.le_of_ble_eq_true rfl) dX7_consign_18 (fun z3 v3 hz3 => ?_)
  refine g_iload F 6 rfl rfl dX7_consign_21 ?_
  refine g_iconst F 2 rfl dX7_consign_23 ?_
  refine g_bipush F rfl (by decide) dX7_consign_24 ?_
  refine g_callS F (by decide) [(0, a4), (2, 0), (0, 50)] [0, 0, 0] ml_RX7_42 wt_X7_requireRange (c_X7_requireRange a4 0 50) mi_X7_requireRange rfl rfl rfl (Nat.le_of_ble_eq_true rfl) (Nat.le_of_ble_eq_true rfl) (Nat.le_of_ble_eq_true rfl) (Nat.le_of_ble_eq_true rfl) (Nat.le_of_ble_eq_true rfl) dX7_consign_26 (fun z4 v4 hz4 => ?_)
  refine g_iload F 7 rfl rfl dX7_consign_29 ?_
  refine g_iconst F 2 rfl dX7_consign_31 ?_
  refine g_sipush F rfl (by decide) dX7_consign_32 ?_
  refine g_callS F (by decide) [(0, a5), (2, 0), (0, 1000)] [0, 0, 0] ml_RX7_42 wt_X7_requireRange (c_X7_requireRange a5 0 1000) mi_X7_requireRange rfl rfl rfl (Nat.le_of_ble_eq_true rfl) (Nat.le_of_ble_eq_true rfl) (Nat.le_of_ble_eq_true rfl) (Nat.le_of_ble_eq_true rfl) (Nat.le_of_ble_eq_true rfl) dX7_consign_35 (fun z5 v5 hz5 => ?_)
  refine g_aload F 0 rfl dX7_consign_38 ?_
  refine g_aload F 1 rfl dX7_consign_40 ?_
  refine g_chk (fun n6 => ?_)
  refine g_get F (t := 13) (sI := 3) fl_RX7_153 rfl rfl (Int.not_lt.mp (Int.not_lt.mpr n6)) dX7_consign_42 ?_
  refine g_callS F (by decide) [(13, z2), (13, (v5 2 z1 3))] [13, 13] ml_RX7_161 wt_X7_requireOther (c_X7_requireOther z2 (v5 2 z1 3)) mi_X7_requireOther rfl rfl rfl (Nat.le_of_ble_eq_true rfl) (Nat.le_of_ble_eq_true rfl) (Nat.le_of_ble_eq_true rfl) (Nat.le_of_ble_eq_true rfl) (Nat.le_of_ble_eq_true rfl) dX7_consign_45 (fun z7 v7 hz7 => ?_)
  refine g_aload F 1 rfl dX7_consign_48 ?_
  refine g_get F (t := 0) (sI := 4) fl_RX7_165 rfl rfl (Int.not_lt.mp (Int.not_lt.mpr n6)) dX7_consign_50 ?_
  refine g_if_le F rfl (tgt := 68) rfl dX7_consign_53 (fun n8 => ?_) (fun n8 => ?_)
  · refine g_iconst F 2 rfl dX7_consign_68 ?_
    refine g_callS F (by decide) [(2, 0)] [2] ml_RX7_50 wt_X7_requireState (c_X7_requireState 0) mi_X7_requireState rfl rfl rfl (Nat.le_of_ble_eq_true rfl) (Nat.le_of_ble_eq_true rfl) (Nat.le_of_ble_eq_true rfl) (Nat.le_of_ble_eq_true rfl) (Nat.le_of_ble_eq_true rfl) dX7_consign_69 (fun z9 v9 hz9 => ?_)
    exact g_none
  · refine g_aload F 1 rfl dX7_consign_56 ?_
    refine g_get F (t := 10) (sI := 6) fl_RX7_137 rfl rfl (Int.not_lt.mp (Int.not_lt.mpr n6)) dX7_consign_58 ?_
    refine g_ifnonnull F (tgt := 68) rfl dX7_consign_61 (fun n10 => ?_) (fun n10 => ?_)
    · refine g_iconst F 2 rfl dX7_consign_64 ?_
      refine g_goto F (tgt := 69) rfl dX7_consign_65 ?_
      refine g_callS F (by decide) [(2, 1)] [2] ml_RX7_50 wt_X7_requireState (c_X7_requireState 1) mi_X7_requireState rfl rfl rfl (Nat.le_of_ble_eq_true rfl) (Nat.le_of_ble_eq_true rfl) (Nat.le_of_ble_eq_true rfl) (Nat.le_of_ble_eq_true rfl) (Nat.le_of_ble_eq_true rfl) dX7_consign_69 (fun z11 v11 hz11 => ?_)
      refine g_aload F 1 rfl dX7_consign_72 ?_
      refine g_get F (t := 13) (sI := 3) fl_RX7_153 rfl rfl (Int.not_lt.mp (Int.not_lt.mpr n6)) dX7_consign_74 ?_
      refine g_chk (fun n12 => ?_)
      refine g_get F (t := 2) (sI := 4) fl_RX7_130 rfl rfl (Int.not_lt.mp (Int.not_lt.mpr n12)) dX7_consign_77 ?_
      refine g_if_ne F rfl (tgt := 95) rfl dX7_consign_80 (fun n13 => ?_) (fun n13 => ?_)
      · refine g_iconst F 2 rfl dX7_consign_95 ?_
        refine g_callS F (by decide) [(2, 0)] [2] ml_RX7_50 wt_X7_requireState (c_X7_requireState 0) mi_X7_requireState rfl rfl rfl (Nat.le_of_ble_eq_true rfl) (Nat.le_of_ble_eq_true rfl) (Nat.le_of_ble_eq_true rfl) (Nat.le_of_ble_eq_true rfl) (Nat.le_of_ble_eq_true rfl) dX7_consign_96 (fun z14 v14 hz14 => ?_)
        exact g_none
      · refine g_aload F 0 rfl dX7_consign_83 ?_
        refine g_chk (fun n15 => ?_)
        refine g_get F (t := 2) (sI := 4) fl_RX7_130 rfl rfl (Int.not_lt.mp (Int.not_lt.mpr n15)) dX7_consign_85 ?_
        refine g_if_ne F rfl (tgt := 95) rfl dX7_consign_88 (fun n16 => ?_) (fun n16 => ?_)
        · refine g_iconst F 2 rfl dX7_consign_95 ?_
          refine g_callS F (by decide) [(2, 0)] [2] ml_RX7_50 wt_X7_requireState (c_X7_requireState 0) mi_X7_requireState rfl rfl rfl (Nat.le_of_ble_eq_true rfl) (Nat.le_of_ble_eq_true rfl) (Nat.le_of_ble_eq_true rfl) (Nat.le_of_ble_eq_true rfl) (Nat.le_of_ble_eq_true rfl) dX7_consign_96 (fun z17 v17 hz17 => ?_)
          exact g_none
        · refine g_iconst F 2 rfl dX7_consign_91 ?_
          refine g_goto F (tgt := 96) rfl dX7_consign_92 ?_
          refine g_callS F (by decide) [(2, 1)] [2] ml_RX7_50 wt_X7_requireState (c_X7_requireState 1) mi_X7_requireState rfl rfl rfl (Nat.le_of_ble_eq_true rfl) (Nat.le_of_ble_eq_true rfl) (Nat.le_of_ble_eq_true rfl) (Nat.le_of_ble_eq_true rfl) (Nat.le_of_ble_eq_true rfl) dX7_consign_96 (fun z18 v18 hz18 => ?_)
          refine g_aload F 1 rfl dX7_consign_99 ?_
          refine g_chk (fun n20 => ?_)
          refine h_new F (n := 4) (Kz := 0) (v18 98 0 0) fn_RX7_168 rfl rfl n20 (Nat.le_of_ble_eq_true rfl) (Nat.le_of_ble_eq_true rfl) dX7_consign_101 (fun v19 => ?_)
          refine h_note F (fun v21 => ?_)
          refine g_dup F rfl dX7_consign_104 ?_
          refine g_aload F 0 rfl dX7_consign_105 ?_
          refine g_iload_n F rfl 5 rfl rfl dX7_consign_107 ?_
          refine g_iload F 6 rfl rfl dX7_consign_108 ?_
          refine g_aload_n F rfl 2 rfl dX7_consign_110 ?_
          refine g_get F (t := 0) (sI := 9) fl_RX7_87 rfl rfl (Int.not_lt.mp (Int.not_lt.mpr h0)) dX7_consign_111 ?_
          refine g_iload F 7 rfl rfl dX7_consign_114 ?_
          refine g_iadd F rfl rfl dX7_consign_116 ?_
          refine g_callIN F (by decide) (K := 0) (b := (v18 98 0 0)) [(13, z2), (0, a3), (0, a4), (0, (w32 ((v21 7 a0 9) + a5)))] [13, 0, 0, 0] ml_RX7_170 wi_X0_init rfl (c_X0_init (v18 98 0 0) z2 a3 a4 (w32 ((v21 7 a0 9) + a5)) (Int.not_lt.mp (Int.not_lt.mpr n20.1))) mi_X0_init (Int.not_lt.mp (Int.not_lt.mpr n20.1)) rfl rfl rfl (Nat.le_of_ble_eq_true rfl) (Nat.le_of_ble_eq_true rfl) (Nat.le_of_ble_eq_true rfl) (Nat.le_of_ble_eq_true rfl) (Nat.le_of_ble_eq_true rfl) dX7_consign_117 (fun z22 v22 hz22 => ?_)
          refine h_put F (sI := 6) fl_RX7_137 ⟨_, rfl, Or.inl rfl⟩ rfl rfl (Int.not_lt.mp (Int.not_lt.mpr n6)) dX7_consign_120 (fun v23 => ?_)
          exact g_return F rfl (Nat.le_of_ble_eq_true rfl) (Nat.le_of_ble_eq_true rfl) dX7_consign_123
    · refine g_iconst F 2 rfl dX7_consign_68 ?_
      refine g_callS F (by decide) [(2, 0)] [2] ml_RX7_50 wt_X7_requireState (c_X7_requireState 0) mi_X7_requireState rfl rfl rfl (Nat.le_of_ble_eq_true rfl) (Nat.le_of_ble_eq_true rfl) (Nat.le_of_ble_eq_true rfl) (Nat.le_of_ble_eq_true rfl) (Nat.le_of_ble_eq_true rfl) dX7_consign_69 (fun z24 v24 hz24 => ?_)
      exact g_none
theorem c_X7_consign (a0 a1 a2 a3 a4 a5 : Int) (h0 : 0 ≤ a0) : ∀ l, Ct l yX7_consign cX7_consign 8 none ({ frames := 7, cells := 9, slots := 52, locals := 104 }) none [(17, a0), (0, a1), (0, a2), (0, a3), (0, a4), (0, a5)] (sp_X7_consign a0 a1 a2 a3 a4 a5) := g_method (by decide +kernel) (Nat.le_of_ble_eq_true rfl) (fun x v F ho => k_X7_consign a0 a1 a2 a3 a4 a5 h0 x v F ho)
def sp_X7_back (a0 a1 : Int) (v : V) : Res := (rB (sp_X7_lotAt a0 a1 v) (fun z1 v1 => (chk (0 ≤ z1) (if (v1 2 z1 6) < 0 then (rEx 3 v1)
   else (if (v1 7 a0 9) ≤ (v1 0 (v1 2 z1 6) 3) then (rB (sp_X7_requireState 0 v1) (fun z5 v5 => none))
   else (rB (sp_X7_requireState 1 v1) (fun z6 v6 => (rLet (up v6 2 z1 6 (-1)) (fun v7 => (chk (0 ≤ (v7 0 (v1 2 z1 6) 0)) (rOk (v7 3 (v7 0 (v1 2 z1 6) 0) 0) v7)))))))))))
set_option maxRecDepth 100000 in
set_option maxHeartbeats 4000000 in
theorem k_X7_back (a0 a1 : Int) (h0 : 0 ≤ a0) (x : Cx) (v : V) (F : Fx x cX7_back RX7 "back" ({ frames := 7, cells := 2, slots := 12, locals := 103 }) 4 (some 0) (some .int) 0) (ho : ∀ a ∈ [(17, a0), (0, a1)], okv v a) : Gs x (sp_X7_back a0 a1 v) v 0 0 0 (avArgs 0 [(17, a0), (0, a1)]) [] := by
  show Gs x _ v 0 0 0 [(0, (17, a0)), (1, (0, a1))] []
  unfold sp_X7_back
  refine g_aload_n F rfl 0 rfl dX7_back_0 ?_
  refine g_iload_n F rfl 1 rfl rfl dX7_back_1 ?_
  refine g_callV F (by decide) (K := 7) (b := a0) [(0, a1)] [0] ml_RX7_141 wi_X7_lotAt ws_X7_lotAt (c_X7_lotAt a0 a1 (Int.not_lt.mp (Int.not_lt.mpr h0))) mi_X7_lotAt (by decide) ⟨_, rfl, rfl⟩ (Int.not_lt.mp (Int.not_lt.mpr h0)) rfl rfl rfl (Nat.le_of_ble_eq_true rfl) (Nat.le_of_ble_eq_true rfl) (Nat.le_of_ble_eq_true rfl) (Nat.le_of_ble_eq_true rfl) (Nat.le_of_ble_eq_true rfl) dX7_back_2 (fun z1 v1 hz1 => ?_)
  refine g_astore_n F rfl (Nat.le_of_ble_eq_true rfl) (ls' := [(2, (12, z1)), (0, (17, a0)), (1, (0, a1))]) rfl dX7_back_5 ?_
  refine g_aload_n F rfl 0 rfl dX7_back_6 ?_
  refine g_chk (fun n2 => ?_)
  refine g_get F (t := 10) (sI := 6) fl_RX7_137 rfl rfl (Int.not_lt.mp (Int.not_lt.mpr n2)) dX7_back_7 ?_
  refine g_astore_n F rfl (Nat.le_of_ble_eq_true rfl) (ls' := [(3, (10, (v1 2 z1 6))), (2, (12, z1)), (0, (17, a0)), (1, (0, a1))]) rfl dX7_back_10 ?_
  refine g_aload_n F rfl 0 rfl dX7_back_11 ?_
  refine g_ifnonnull F (tgt := 25) rfl dX7_back_12 (fun n3 => ?_) (fun n3 => ?_)
  · exact g_throw F th_RX7_175 (Nat.le_of_ble_eq_true rfl) (Nat.le_of_ble_eq_true rfl) (Nat.le_of_ble_eq_true rfl) (Nat.le_of_ble_eq_true rfl) dX7_back_15 dX7_back_18 dX7_back_19 dX7_back_21 dX7_back_24
  · refine g_aload_n F rfl 2 rfl dX7_back_25 ?_
    refine g_get F (t := 0) (sI := 9) fl_RX7_87 rfl rfl (Int.not_lt.mp (Int.not_lt.mpr h0)) dX7_back_26 ?_
    refine g_aload_n F rfl 0 rfl dX7_back_29 ?_
    refine g_get F (t := 0) (sI := 3) fl_RX7_180 rfl rfl (Int.not_lt.mp n3) dX7_back_30 ?_
    refine g_icmp_le F rfl rfl (tgt := 40) rfl dX7_back_33 (fun n4 => ?_) (fun n4 => ?_)
    · refine g_iconst F 2 rfl dX7_back_40 ?_
      refine g_callS F (by decide) [(2, 0)] [2] ml_RX7_50 wt_X7_requireState (c_X7_requireState 0) mi_X7_requireState rfl rfl rfl (Nat.le_of_ble_eq_true rfl) (Nat.le_of_ble_eq_true rfl) (Nat.le_of_ble_eq_true rfl) (Nat.le_of_ble_eq_true rfl) (Nat.le_of_ble_eq_true rfl) dX7_back_41 (fun z5 v5 hz5 => ?_)
      exact g_none
    · refine g_iconst F 2 rfl dX7_back_36 ?_
      refine g_goto F (tgt := 41) rfl dX7_back_37 ?_
      refine g_callS F (by decide) [(2, 1)] [2] ml_RX7_50 wt_X7_requireState (c_X7_requireState 1) mi_X7_requireState rfl rfl rfl (Nat.le_of_ble_eq_true rfl) (Nat.le_of_ble_eq_true rfl) (Nat.le_of_ble_eq_true rfl) (Nat.le_of_ble_eq_true rfl) (Nat.le_of_ble_eq_true rfl) dX7_back_41 (fun z6 v6 hz6 => ?_)
      refine g_aload_n F rfl 1 rfl dX7_back_44 ?_
      refine g_null F 0 dX7_back_45 ?_
      refine h_put F (sI := 6) fl_RX7_137 ⟨_, rfl, Or.inl rfl⟩ rfl rfl (Int.not_lt.mp (Int.not_lt.mpr n2)) dX7_back_46 (fun v7 => ?_)
      refine g_aload_n F rfl 0 rfl dX7_back_49 ?_
      refine g_get F (t := 13) (sI := 0) fl_RX7_183 rfl rfl (Int.not_lt.mp n3) dX7_back_50 ?_
      refine g_chk (fun n8 => ?_)
      refine g_get F (t := 0) (sI := 0) fl_RX7_56 rfl rfl (Int.not_lt.mp (Int.not_lt.mpr n8)) dX7_back_53 ?_
      exact g_ireturn F rfl rfl rfl rfl (Nat.le_of_ble_eq_true rfl) (Nat.le_of_ble_eq_true rfl) dX7_back_56
theorem c_X7_back (a0 a1 : Int) (h0 : 0 ≤ a0) : ∀ l, Ct l yX7_back cX7_back 4 (some .int) ({ frames := 7, cells := 2, slots := 12, locals := 103 }) (some 0) [(17, a0), (0, a1)] (sp_X7_back a0 a1) := g_method (by decide +kernel) (Nat.le_of_ble_eq_true rfl) (fun x v F ho => k_X7_back a0 a1 h0 x v F ho)
def sp_X7_barOfDeal (a0 a1 a2 a3 a4 : Int) (v : V) : Res := (chk (0 ≤ a2) (if ¬ (v 3 a2 4) = 0 then (rOk 1 v)
   else (chk (0 ≤ a1) (chk (0 ≤ (v 2 a1 3)) (if ¬ (v 3 (v 2 a1 3) 4) = 0 then (rOk 1 v)
   else (chk (0 ≤ a3) (if (v 3 a3 4) = 0 then (rB (sp_X7_barOfAnySale a0 a1 a3 a4 v) (fun z8 v8 => (rOk z8 v8)))
   else (rOk 1 v))))))))
set_option maxRecDepth 100000 in
set_option maxHeartbeats 4000000 in
theorem k_X7_barOfDeal (a0 a1 a2 a3 a4 : Int) (h0 : 0 ≤ a0) (x : Cx) (v : V) (F : Fx x cX7_barOfDeal RX7 "barOfDeal" ({ frames := 3, cells := 0, slots := 0, locals := 66 }) 5 (some 0) (some .int) 0) (ho : ∀ a ∈ [(17, a0), (12, a1), (13, a2), (13, a3), (0, a4)], okv v a) : Gs x (sp_X7_barOfDeal a0 a1 a2 a3 a4 v) v 0 0 0 (avArgs 0 [(17, a0), (12, a1), (13, a2), (13, a3), (0, a4)]) [] := by
  show Gs x _ v 0 0 0 [(0, (17, a0)), (1, (12, a1)), (2, (13, a2)), (3, (13, a3)), (4, (0, a4))] []
  unfold sp_X7_barOfDeal
  refine g_aload_n F rfl 2 rfl dX7_barOfDeal_0 ?_
  refine g_chk (fun n1 => ?_)
  refine g_get F (t := 2) (sI := 4) fl_RX7_130 rfl rfl (Int.not_lt.mp (Int.not_lt.mpr n1)) dX7_barOfDeal_1 ?_
  refine g_if_ne F rfl (tgt := 24) rfl dX7_barOfDeal_4 (fun n2 => ?_) (fun n2 => ?_)
  · refine g_iconst F 2 rfl dX7_barOfDeal_24 ?_
    exact g_ireturn F rfl rfl rfl rfl (Nat.le_of_ble_eq_true rfl) (Nat.le_of_ble_eq_true rfl) dX7_barOfDeal_25
  · refine g_aload_n F rfl 1 rfl dX7_barOfDeal_7 ?_
    refine g_chk (fun n3 => ?_)
    refine g_get F (t := 13) (sI := 3) fl_RX7_153 rfl rfl (Int.not_lt.mp (Int.not_lt.mpr n3)) dX7_barOfDeal_8 ?_
    refine g_chk (fun n4 => ?_)
    refine g_get F (t := 2) (sI := 4) fl_RX7_130 rfl rfl (Int.not_lt.mp (Int.not_lt.mpr n4)) dX7_barOfDeal_11 ?_
    refine g_if_ne F rfl (tgt := 24) rfl dX7_barOfDeal_14 (fun n5 => ?_) (fun n5 => ?_)
    · refine g_iconst F 2 rfl dX7_barOfDeal_24 ?_
      exact g_ireturn F rfl rfl rfl rfl (Nat.le_of_ble_eq_true rfl) (Nat.le_of_ble_eq_true rfl) dX7_barOfDeal_25
    · refine g_aload_n F rfl 3 rfl dX7_barOfDeal_17 ?_
      refine g_chk (fun n6 => ?_)
      refine g_get F (t := 2) (sI := 4) fl_RX7_130 rfl rfl (Int.not_lt.mp (Int.not_lt.mpr n6)) dX7_barOfDeal_18 ?_
      refine g_if_eq F rfl (tgt := 26) rfl dX7_barOfDeal_21 (fun n7 => ?_) (fun n7 => ?_)
      · refine g_aload_n F rfl 0 rfl dX7_barOfDeal_26 ?_
        refine g_aload_n F rfl 1 rfl dX7_barOfDeal_27 ?_
        refine g_aload_n F rfl 3 rfl dX7_barOfDeal_28 ?_
        refine g_iload F 4 rfl rfl dX7_barOfDeal_29 ?_
        refine g_callV F (by decide) (K := 7) (b := a0) [(12, a1), (13, a3), (0, a4)] [12, 13, 0] ml_RX7_358 wi_X7_barOfAnySale ws_X7_barOfAnySale (c_X7_barOfAnySale a0 a1 a3 a4 (Int.not_lt.mp (Int.not_lt.mpr h0))) mi_X7_barOfAnySale (by decide) ⟨_, rfl, rfl⟩ (Int.not_lt.mp (Int.not_lt.mpr h0)) rfl rfl rfl (Nat.le_of_ble_eq_true rfl) (Nat.le_of_ble_eq_true rfl) (Nat.le_of_ble_eq_true rfl) (Nat.le_of_ble_eq_true rfl) (Nat.le_of_ble_eq_true rfl) dX7_barOfDeal_31 (fun z8 v8 hz8 => ?_)
        exact g_ireturn F rfl rfl rfl rfl (Nat.le_of_ble_eq_true rfl) (Nat.le_of_ble_eq_true rfl) dX7_barOfDeal_34
      · refine g_iconst F 2 rfl dX7_barOfDeal_24 ?_
        exact g_ireturn F rfl rfl rfl rfl (Nat.le_of_ble_eq_true rfl) (Nat.le_of_ble_eq_true rfl) dX7_barOfDeal_25
theorem c_X7_barOfDeal (a0 a1 a2 a3 a4 : Int) (h0 : 0 ≤ a0) : ∀ l, Ct l yX7_barOfDeal cX7_barOfDeal 5 (some .int) ({ frames := 3, cells := 0, slots := 0, locals := 66 }) (some 0) [(17, a0), (12, a1), (13, a2), (13, a3), (0, a4)] (sp_X7_barOfDeal a0 a1 a2 a3 a4) := g_method (by decide +kernel) (Nat.le_of_ble_eq_true rfl) (fun x v F ho => k_X7_barOfDeal a0 a1 a2 a3 a4 h0 x v F ho)
def sp_X7_deal (a0 a1 a2 a3 : Int) (v : V) : Res := (rB (sp_X7_lotAt a0 a1 v) (fun z1 v1 => (rB (sp_X7_partyAt a0 a2 v1) (fun z2 v2 => (rB (sp_X7_requireRange a3 0 1000000 v2) (fun z3 v3 => (chk (0 ≤ z1) (rB (sp_X7_requireOther z2 (v3 2 z1 3) v3) (fun z5 v5 => (if (v5 2 z1 6) < 0 then (rEx 3 v5)
   else (if a3 < (v5 0 (v5 2 z1 6) 1) then (rB (sp_X7_requireState 0 v5) (fun z8 v8 => none))
   else (if (v5 0 (v5 2 z1 6) 3) < (v5 7 a0 9) then (rB (sp_X7_requireState 0 v5) (fun z10 v10 => none))
   else (rB (sp_X7_requireState 1 v5) (fun z11 v11 => (rB (sp_X7_barOfDeal a0 z1 (v11 0 (v5 2 z1 6) 0) z2 a3 v11) (fun z12 v12 => (if ¬ z12 = 0 then (rB (sp_X7_requireState 0 v12) (fun z14 v14 => none))
   else (rB (sp_X7_requireState 1 v12) (fun z15 v15 => (rLet (up v15 2 z1 6 (-1)) (fun v16 => (rB (sp_X7_carryOut a0 z1 (v16 2 z1 4) z2 a3 (v16 0 (v5 2 z1 6) 0) (w32 ((w32 (a3 * (v16 0 (v5 2 z1 6) 2))).tdiv 100)) v16) (fun z17 v17 => (rOk z17 v17))))))))))))))))))))))))
set_option maxRecDepth 100000 in
set_option maxHeartbeats 4000000 in
theorem k_X7_deal (a0 a1 a2 a3 : Int) (h0 : 0 ≤ a0) (x : Cx) (v : V) (F : Fx x cX7_deal RX7 "deal" ({ frames := 7, cells := 8, slots := 49, locals := 104 }) 8 (some 0) (some .int) 0) (ho : ∀ a ∈ [(17, a0), (0, a1), (0, a2), (0, a3)], okv v a) : Gs x (sp_X7_deal a0 a1 a2 a3 v) v 0 0 0 (avArgs 0 [(17, a0), (0, a1), (0, a2), (0, a3)]) [] := by
  show Gs x _ v 0 0 0 [(0, (17, a0)), (1, (0, a1)), (2, (0, a2)), (3, (0, a3))] []
  unfold sp_X7_deal
  refine g_aload_n F rfl 0 rfl dX7_deal_0 ?_
  refine g_iload_n F rfl 1 rfl rfl dX7_deal_1 ?_
  refine g_callV F (by decide) (K := 7) (b := a0) [(0, a1)] [0] ml_RX7_141 wi_X7_lotAt ws_X7_lotAt (c_X7_lotAt a0 a1 (Int.not_lt.mp (Int.not_lt.mpr h0))) mi_X7_lotAt (by decide) ⟨_, rfl, rfl⟩ (Int.not_lt.mp (Int.not_lt.mpr h0)) rfl rfl rfl (Nat.le_of_ble_eq_true rfl) (Nat.le_of_ble_eq_true rfl) (Nat.le_of_ble_eq_true rfl) (Nat.le_of_ble_eq_true rfl) (Nat.le_of_ble_eq_true rfl) dX7_deal_2 (fun z1 v1 hz1 => ?_)
  refine g_astore F (Nat.le_of_ble_eq_true rfl) (ls' := [(4, (12, z1)), (0, (17, a0)), (1, (0, a1)), (2, (0, a2)), (3, (0, a3))]) rfl dX7_deal_5 ?_
  refine g_aload_n F rfl 1 rfl dX7_deal_7 ?_
  refine g_iload_n F rfl 3 rfl rfl dX7_deal_8 ?_
  refine g_callV F (by decide) (K := 7) (b := a0) [(0, a2)] [0] ml_RX7_59 wi_X7_partyAt ws_X7_partyAt (c_X7_partyAt a0 a2 (Int.not_lt.mp (Int.not_lt.mpr h0))) mi_X7_partyAt (by decide) ⟨_, rfl, rfl⟩ (Int.not_lt.mp (Int.not_lt.mpr h0)) rfl rfl rfl (Nat.le_of_ble_eq_true rfl) (Nat.le_of_ble_eq_true rfl) (Nat.le_of_ble_eq_true rfl) (Nat.le_of_ble_eq_true rfl) (Nat.le_of_ble_eq_true rfl) dX7_deal_9 (fun z2 v2 hz2 => ?_)
  refine g_astore F (Nat.le_of_ble_eq_true rfl) (ls' := [(5, (13, z2)), (4, (12, z1)), (0, (17, a0)), (1, (0, a1)), (2, (0, a2)), (3, (0, a3))]) rfl dX7_deal_12 ?_
  refine g_iload_n F rfl 5 rfl rfl dX7_deal_14 ?_
  refine g_iconst F 2 rfl dX7_deal_15 ?_
  refine g_ldc F rfl cn_RX7_41 dX7_deal_16 ?_
  refine g_callS F (by decide) [(0, a3), (2, 0), (0, 1000000)] [0, 0, 0] ml_RX7_42 wt_X7_requireRange (c_X7_requireRange a3 0 1000000) mi_X7_requireRange rfl rfl rfl (Nat.le_of_ble_eq_true rfl) (Nat.le_of_ble_eq_true rfl) (Nat.le_of_ble_eq_true rfl) (Nat.le_of_ble_eq_true rfl) (Nat.le_of_ble_eq_true rfl) dX7_deal_18 (fun z3 v3 hz3 => ?_)
  refine g_aload F 0 rfl dX7_deal_21 ?_
  refine g_aload F 1 rfl dX7_deal_23 ?_
  refine g_chk (fun n4 => ?_)
  refine g_get F (t := 13) (sI := 3) fl_RX7_153 rfl rfl (Int.not_lt.mp (Int.not_lt.mpr n4)) dX7_deal_25 ?_
  refine g_callS F (by decide) [(13, z2), (13, (v3 2 z1 3))] [13, 13] ml_RX7_161 wt_X7_requireOther (c_X7_requireOther z2 (v3 2 z1 3)) mi_X7_requireOther rfl rfl rfl (Nat.le_of_ble_eq_true rfl) (Nat.le_of_ble_eq_true rfl) (Nat.le_of_ble_eq_true rfl) (Nat.le_of_ble_eq_true rfl) (Nat.le_of_ble_eq_true rfl) dX7_deal_28 (fun z5 v5 hz5 => ?_)
  refine g_aload F 1 rfl dX7_deal_31 ?_
  refine g_get F (t := 10) (sI := 6) fl_RX7_137 rfl rfl (Int.not_lt.mp (Int.not_lt.mpr n4)) dX7_deal_33 ?_
  refine g_astore F (Nat.le_of_ble_eq_true rfl) (ls' := [(6, (10, (v5 2 z1 6))), (5, (13, z2)), (4, (12, z1)), (0, (17, a0)), (1, (0, a1)), (2, (0, a2)), (3, (0, a3))]) rfl dX7_deal_36 ?_
  refine g_aload F 0 rfl dX7_deal_38 ?_
  refine g_ifnonnull F (tgt := 53) rfl dX7_deal_40 (fun n6 => ?_) (fun n6 => ?_)
  · exact g_throw F th_RX7_175 (Nat.le_of_ble_eq_true rfl) (Nat.le_of_ble_eq_true rfl) (Nat.le_of_ble_eq_true rfl) (Nat.le_of_ble_eq_true rfl) dX7_deal_43 dX7_deal_46 dX7_deal_47 dX7_deal_49 dX7_deal_52
  · refine g_iload_n F rfl 6 rfl rfl dX7_deal_53 ?_
    refine g_aload F 0 rfl dX7_deal_54 ?_
    refine g_get F (t := 0) (sI := 1) fl_RX7_185 rfl rfl (Int.not_lt.mp n6) dX7_deal_56 ?_
    refine g_icmp_lt F rfl rfl (tgt := 78) rfl dX7_deal_59 (fun n7 => ?_) (fun n7 => ?_)
    · refine g_iconst F 2 rfl dX7_deal_78 ?_
      refine g_callS F (by decide) [(2, 0)] [2] ml_RX7_50 wt_X7_requireState (c_X7_requireState 0) mi_X7_requireState rfl rfl rfl (Nat.le_of_ble_eq_true rfl) (Nat.le_of_ble_eq_true rfl) (Nat.le_of_ble_eq_true rfl) (Nat.le_of_ble_eq_true rfl) (Nat.le_of_ble_eq_true rfl) dX7_deal_79 (fun z8 v8 hz8 => ?_)
      exact g_none
    · refine g_aload_n F rfl 3 rfl dX7_deal_62 ?_
      refine g_get F (t := 0) (sI := 9) fl_RX7_87 rfl rfl (Int.not_lt.mp (Int.not_lt.mpr h0)) dX7_deal_63 ?_
      refine g_aload F 0 rfl dX7_deal_66 ?_
      refine g_get F (t := 0) (sI := 3) fl_RX7_180 rfl rfl (Int.not_lt.mp n6) dX7_deal_68 ?_
      refine g_icmp_gt F rfl rfl (tgt := 78) rfl dX7_deal_71 (fun n9 => ?_) (fun n9 => ?_)
      · refine g_iconst F 2 rfl dX7_deal_78 ?_
        refine g_callS F (by decide) [(2, 0)] [2] ml_RX7_50 wt_X7_requireState (c_X7_requireState 0) mi_X7_requireState rfl rfl rfl (Nat.le_of_ble_eq_true rfl) (Nat.le_of_ble_eq_true rfl) (Nat.le_of_ble_eq_true rfl) (Nat.le_of_ble_eq_true rfl) (Nat.le_of_ble_eq_true rfl) dX7_deal_79 (fun z10 v10 hz10 => ?_)
        exact g_none
      · refine g_iconst F 2 rfl dX7_deal_74 ?_
        refine g_goto F (tgt := 79) rfl dX7_deal_75 ?_
        refine g_callS F (by decide) [(2, 1)] [2] ml_RX7_50 wt_X7_requireState (c_X7_requireState 1) mi_X7_requireState rfl rfl rfl (Nat.le_of_ble_eq_true rfl) (Nat.le_of_ble_eq_true rfl) (Nat.le_of_ble_eq_true rfl) (Nat.le_of_ble_eq_true rfl) (Nat.le_of_ble_eq_true rfl) dX7_deal_79 (fun z11 v11 hz11 => ?_)
        refine g_aload_n F rfl 3 rfl dX7_deal_82 ?_
        refine g_aload F 2 rfl dX7_deal_83 ?_
        refine g_aload F 0 rfl dX7_deal_85 ?_
        refine g_get F (t := 13) (sI := 0) fl_RX7_183 rfl rfl (Int.not_lt.mp n6) dX7_deal_87 ?_
        refine g_aload F 1 rfl dX7_deal_90 ?_
        refine g_iload_n F rfl 6 rfl rfl dX7_deal_92 ?_
        refine g_callV F (by decide) (K := 7) (b := a0) [(12, z1), (13, (v11 0 (v5 2 z1 6) 0)), (13, z2), (0, a3)] [12, 13, 13, 0] ml_RX7_188 wi_X7_barOfDeal ws_X7_barOfDeal (c_X7_barOfDeal a0 z1 (v11 0 (v5 2 z1 6) 0) z2 a3 (Int.not_lt.mp (Int.not_lt.mpr h0))) mi_X7_barOfDeal (by decide) ⟨_, rfl, rfl⟩ (Int.not_lt.mp (Int.not_lt.mpr h0)) rfl rfl rfl (Nat.le_of_ble_eq_true rfl) (Nat.le_of_ble_eq_true rfl) (Nat.le_of_ble_eq_true rfl) (Nat.le_of_ble_eq_true rfl) (Nat.le_of_ble_eq_true rfl) dX7_deal_93 (fun z12 v12 hz12 => ?_)
        refine g_if_ne F rfl (tgt := 103) rfl dX7_deal_96 (fun n13 => ?_) (fun n13 => ?_)
        · refine g_iconst F 2 rfl dX7_deal_103 ?_
          refine g_callS F (by decide) [(2, 0)] [2] ml_RX7_50 wt_X7_requireState (c_X7_requireState 0) mi_X7_requireState rfl rfl rfl (Nat.le_of_ble_eq_true rfl) (Nat.le_of_ble_eq_true rfl) (Nat.le_of_ble_eq_true rfl) (Nat.le_of_ble_eq_true rfl) (Nat.le_of_ble_eq_true rfl) dX7_deal_104 (fun z14 v14 hz14 => ?_)
          exact g_none
        · refine g_iconst F 2 rfl dX7_deal_99 ?_
          refine g_goto F (tgt := 104) rfl dX7_deal_100 ?_
          refine g_callS F (by decide) [(2, 1)] [2] ml_RX7_50 wt_X7_requireState (c_X7_requireState 1) mi_X7_requireState rfl rfl rfl (Nat.le_of_ble_eq_true rfl) (Nat.le_of_ble_eq_true rfl) (Nat.le_of_ble_eq_true rfl) (Nat.le_of_ble_eq_true rfl) (Nat.le_of_ble_eq_true rfl) dX7_deal_104 (fun z15 v15 hz15 => ?_)
          refine g_aload F 2 rfl dX7_deal_107 ?_
          refine g_null F 0 dX7_deal_109 ?_
          refine h_put F (sI := 6) fl_RX7_137 ⟨_, rfl, Or.inl rfl⟩ rfl rfl (Int.not_lt.mp (Int.not_lt.mpr n4)) dX7_deal_110 (fun v16 => ?_)
          refine g_iload_n F rfl 6 rfl rfl dX7_deal_113 ?_
          refine g_aload F 0 rfl dX7_deal_114 ?_
          refine g_get F (t := 0) (sI := 2) fl_RX7_192 rfl rfl (Int.not_lt.mp n6) dX7_deal_116 ?_
          refine g_imul F rfl rfl dX7_deal_119 ?_
          refine g_bipush F rfl (by decide) dX7_deal_120 ?_
          refine g_idiv F (by decide) rfl rfl dX7_deal_122 ?_
          refine g_istore F rfl (Nat.le_of_ble_eq_true rfl) (ls' := [(7, (0, (w32 ((w32 (a3 * (v16 0 (v5 2 z1 6) 2))).tdiv 100)))), (6, (10, (v5 2 z1 6))), (5, (13, z2)), (4, (12, z1)), (0, (17, a0)), (1, (0, a1)), (2, (0, a2)), (3, (0, a3))]) rfl dX7_deal_123 ?_
          refine g_aload_n F rfl 4 rfl dX7_deal_125 ?_
          refine g_aload F 3 rfl dX7_deal_126 ?_
          refine g_aload F 3 rfl dX7_deal_128 ?_
          refine g_get F (t := 0) (sI := 4) fl_RX7_165 rfl rfl (Int.not_lt.mp (Int.not_lt.mpr n4)) dX7_deal_130 ?_
          refine g_aload F 2 rfl dX7_deal_133 ?_
          refine g_iload_n F rfl 7 rfl rfl dX7_deal_135 ?_
          refine g_aload F 1 rfl dX7_deal_136 ?_
          refine g_get F (t := 13) (sI := 0) fl_RX7_183 rfl rfl (Int.not_lt.mp n6) dX7_deal_138 ?_
          refine g_iload F 0 rfl rfl dX7_deal_141 ?_
          refine g_callV F (by decide) (K := 7) (b := a0) [(12, z1), (0, (v16 2 z1 4)), (13, z2), (0, a3), (13, (v16 0 (v5 2 z1 6) 0)), (0, (w32 ((w32 (a3 * (v16 0 (v5 2 z1 6) 2))).tdiv 100)))] [12, 0, 13, 0, 13, 0] ml_RX7_157 wi_X7_carryOut ws_X7_carryOut (c_X7_carryOut a0 z1 (v16 2 z1 4) z2 a3 (v16 0 (v5 2 z1 6) 0) (w32 ((w32 (a3 * (v16 0 (v5 2 z1 6) 2))).tdiv 100)) (Int.not_lt.mp (Int.not_lt.mpr h0))) mi_X7_carryOut (by decide) ⟨_, rfl, rfl⟩ (Int.not_lt.mp (Int.not_lt.mpr h0)) rfl rfl rfl (Nat.le_of_ble_eq_true rfl) (Nat.le_of_ble_eq_true rfl) (Nat.le_of_ble_eq_true rfl) (Nat.le_of_ble_eq_true rfl) (Nat.le_of_ble_eq_true rfl) dX7_deal_143 (fun z17 v17 hz17 => ?_)
          exact g_ireturn F rfl rfl rfl rfl (Nat.le_of_ble_eq_true rfl) (Nat.le_of_ble_eq_true rfl) dX7_deal_146
theorem c_X7_deal (a0 a1 a2 a3 : Int) (h0 : 0 ≤ a0) : ∀ l, Ct l yX7_deal cX7_deal 8 (some .int) ({ frames := 7, cells := 8, slots := 49, locals := 104 }) (some 0) [(17, a0), (0, a1), (0, a2), (0, a3)] (sp_X7_deal a0 a1 a2 a3) := g_method (by decide +kernel) (Nat.le_of_ble_eq_true rfl) (fun x v F ho => k_X7_deal a0 a1 a2 a3 h0 x v F ho)
def sp_X7_tell (a0 a1 a2 a3 : Int) (v : V) : Res := (rB (sp_X7_lotAt a0 a1 v) (fun z1 v1 => (chk (0 ≤ z1) (rB (sp_X7_partyAt a0 a2 v1) (fun z3 v3 => (rB (sp_X7_partyAt a0 a3 v3) (fun z4 v4 => (if (v1 2 z1 7) < 0 then (rEx 3 v4)
   else (rB (sp_X4_isKnownTo (v1 2 z1 7) z3 v4) (fun z6 v6 => (rB (sp_X7_requireState z6 v6) (fun z7 v7 => (rB (sp_X4_isKnownTo (v1 2 z1 7) z4 v7) (fun z8 v8 => (rB (sp_X4_learn (v1 2 z1 7) z4 v8) (fun z9 v9 => (rOk z8 v9)))))))))))))))))
set_option maxRecDepth 100000 in
set_option maxHeartbeats 4000000 in
theorem k_X7_tell (a0 a1 a2 a3 : Int) (h0 : 0 ≤ a0) (x : Cx) (v : V) (F : Fx x cX7_tell RX7 "tell" ({ frames := 7, cells := 4, slots := 24, locals := 103 }) 8 (some 2) (some .boolean) 0) (ho : ∀ a ∈ [(17, a0), (0, a1), (0, a2), (0, a3)], okv v a) : Gs x (sp_X7_tell a0 a1 a2 a3 v) v 0 0 0 (avArgs 0 [(17, a0), (0, a1), (0, a2), (0, a3)]) [] := by
  show Gs x _ v 0 0 0 [(0, (17, a0)), (1, (0, a1)), (2, (0, a2)), (3, (0, a3))] []
  unfold sp_X7_tell
  refine g_aload_n F rfl 0 rfl dX7_tell_0 ?_
  refine g_iload_n F rfl 1 rfl rfl dX7_tell_1 ?_
  refine g_callV F (by decide) (K := 7) (b := a0) [(0, a1)] [0] ml_RX7_141 wi_X7_lotAt ws_X7_lotAt (c_X7_lotAt a0 a1 (Int.not_lt.mp (Int.not_lt.mpr h0))) mi_X7_lotAt (by decide) ⟨_, rfl, rfl⟩ (Int.not_lt.mp (Int.not_lt.mpr h0)) rfl rfl rfl (Nat.le_of_ble_eq_true rfl) (Nat.le_of_ble_eq_true rfl) (Nat.le_of_ble_eq_true rfl) (Nat.le_of_ble_eq_true rfl) (Nat.le_of_ble_eq_true rfl) dX7_tell_2 (fun z1 v1 hz1 => ?_)
  refine g_chk (fun n2 => ?_)
  refine g_get F (t := 14) (sI := 7) fl_RX7_195 rfl rfl (Int.not_lt.mp (Int.not_lt.mpr n2)) dX7_tell_5 ?_
  refine g_astore F (Nat.le_of_ble_eq_true rfl) (ls' := [(4, (14, (v1 2 z1 7))), (0, (17, a0)), (1, (0, a1)), (2, (0, a2)), (3, (0, a3))]) rfl dX7_tell_8 ?_
  refine g_aload_n F rfl 1 rfl dX7_tell_10 ?_
  refine g_iload_n F rfl 3 rfl rfl dX7_tell_11 ?_
  refine g_callV F (by decide) (K := 7) (b := a0) [(0, a2)] [0] ml_RX7_59 wi_X7_partyAt ws_X7_partyAt (c_X7_partyAt a0 a2 (Int.not_lt.mp (Int.not_lt.mpr h0))) mi_X7_partyAt (by decide) ⟨_, rfl, rfl⟩ (Int.not_lt.mp (Int.not_lt.mpr h0)) rfl rfl rfl (Nat.le_of_ble_eq_true rfl) (Nat.le_of_ble_eq_true rfl) (Nat.le_of_ble_eq_true rfl) (Nat.le_of_ble_eq_true rfl) (Nat.le_of_ble_eq_true rfl) dX7_tell_12 (fun z3 v3 hz3 => ?_)
  refine g_astore F (Nat.le_of_ble_eq_true rfl) (ls' := [(5, (13, z3)), (4, (14, (v1 2 z1 7))), (0, (17, a0)), (1, (0, a1)), (2, (0, a2)), (3, (0, a3))]) rfl dX7_tell_15 ?_
  refine g_aload_n F rfl 2 rfl dX7_tell_17 ?_
  refine g_iload_n F rfl 5 rfl rfl dX7_tell_18 ?_
  refine g_callV F (by decide) (K := 7) (b := a0) [(0, a3)] [0] ml_RX7_59 wi_X7_partyAt ws_X7_partyAt (c_X7_partyAt a0 a3 (Int.not_lt.mp (Int.not_lt.mpr h0))) mi_X7_partyAt (by decide) ⟨_, rfl, rfl⟩ (Int.not_lt.mp (Int.not_lt.mpr h0)) rfl rfl rfl (Nat.le_of_ble_eq_true rfl) (Nat.le_of_ble_eq_true rfl) (Nat.le_of_ble_eq_true rfl) (Nat.le_of_ble_eq_true rfl) (Nat.le_of_ble_eq_true rfl) dX7_tell_19 (fun z4 v4 hz4 => ?_)
  refine g_astore F (Nat.le_of_ble_eq_true rfl) (ls' := [(6, (13, z4)), (5, (13, z3)), (4, (14, (v1 2 z1 7))), (0, (17, a0)), (1, (0, a1)), (2, (0, a2)), (3, (0, a3))]) rfl dX7_tell_22 ?_
  refine g_aload F 2 rfl dX7_tell_24 ?_
  refine g_ifnonnull F (tgt := 39) rfl dX7_tell_26 (fun n5 => ?_) (fun n5 => ?_)
  · exact g_throw F th_RX7_199 (Nat.le_of_ble_eq_true rfl) (Nat.le_of_ble_eq_true rfl) (Nat.le_of_ble_eq_true rfl) (Nat.le_of_ble_eq_true rfl) dX7_tell_29 dX7_tell_32 dX7_tell_33 dX7_tell_35 dX7_tell_38
  · refine g_aload F 2 rfl dX7_tell_39 ?_
    refine g_aload F 1 rfl dX7_tell_41 ?_
    refine g_callVN F (by decide) (K := 4) (b := (v1 2 z1 7)) [(13, z3)] [13] ml_RX7_201 wi_X4_isKnownTo ws_X4_isKnownTo (c_X4_isKnownTo (v1 2 z1 7) z3 (Int.not_lt.mp n5)) mi_X4_isKnownTo (by decide) ⟨_, rfl, rfl⟩ (Int.not_lt.mp n5) rfl rfl rfl (Nat.le_of_ble_eq_true rfl) (Nat.le_of_ble_eq_true rfl) (Nat.le_of_ble_eq_true rfl) (Nat.le_of_ble_eq_true rfl) (Nat.le_of_ble_eq_true rfl) dX7_tell_43 (fun z6 v6 hz6 => ?_)
    refine g_callS F (by decide) [(2, z6)] [2] ml_RX7_50 wt_X7_requireState (c_X7_requireState z6) mi_X7_requireState rfl rfl rfl (Nat.le_of_ble_eq_true rfl) (Nat.le_of_ble_eq_true rfl) (Nat.le_of_ble_eq_true rfl) (Nat.le_of_ble_eq_true rfl) (Nat.le_of_ble_eq_true rfl) dX7_tell_46 (fun z7 v7 hz7 => ?_)
    refine g_aload F 2 rfl dX7_tell_49 ?_
    refine g_aload F 0 rfl dX7_tell_51 ?_
    refine g_callVN F (by decide) (K := 4) (b := (v1 2 z1 7)) [(13, z4)] [13] ml_RX7_201 wi_X4_isKnownTo ws_X4_isKnownTo (c_X4_isKnownTo (v1 2 z1 7) z4 (Int.not_lt.mp n5)) mi_X4_isKnownTo (by decide) ⟨_, rfl, rfl⟩ (Int.not_lt.mp n5) rfl rfl rfl (Nat.le_of_ble_eq_true rfl) (Nat.le_of_ble_eq_true rfl) (Nat.le_of_ble_eq_true rfl) (Nat.le_of_ble_eq_true rfl) (Nat.le_of_ble_eq_true rfl) dX7_tell_53 (fun z8 v8 hz8 => ?_)
    refine g_istore F rfl (Nat.le_of_ble_eq_true rfl) (ls' := [(7, (2, z8)), (6, (13, z4)), (5, (13, z3)), (4, (14, (v1 2 z1 7))), (0, (17, a0)), (1, (0, a1)), (2, (0, a2)), (3, (0, a3))]) rfl dX7_tell_56 ?_
    refine g_aload F 3 rfl dX7_tell_58 ?_
    refine g_aload F 1 rfl dX7_tell_60 ?_
    refine g_callVN F (by decide) (K := 4) (b := (v1 2 z1 7)) [(13, z4)] [13] ml_RX7_207 wi_X4_learn ws_X4_learn (c_X4_learn (v1 2 z1 7) z4 (Int.not_lt.mp n5)) mi_X4_learn (by decide) ⟨_, rfl, rfl⟩ (Int.not_lt.mp n5) rfl rfl rfl (Nat.le_of_ble_eq_true rfl) (Nat.le_of_ble_eq_true rfl) (Nat.le_of_ble_eq_true rfl) (Nat.le_of_ble_eq_true rfl) (Nat.le_of_ble_eq_true rfl) dX7_tell_62 (fun z9 v9 hz9 => ?_)
    refine g_iload F 0 rfl rfl dX7_tell_65 ?_
    exact g_ireturn F rfl rfl rfl rfl (Nat.le_of_ble_eq_true rfl) (Nat.le_of_ble_eq_true rfl) dX7_tell_67
theorem c_X7_tell (a0 a1 a2 a3 : Int) (h0 : 0 ≤ a0) : ∀ l, Ct l yX7_tell cX7_tell 8 (some .boolean) ({ frames := 7, cells := 4, slots := 24, locals := 103 }) (some 2) [(17, a0), (0, a1), (0, a2), (0, a3)] (sp_X7_tell a0 a1 a2 a3) := g_method (by decide +kernel) (Nat.le_of_ble_eq_true rfl) (fun x v F ho => k_X7_tell a0 a1 a2 a3 h0 x v F ho)
def sp_X7_cameSinceListing (a0 : Int) (v : V) : Res := (chk (0 ≤ a0) (chk (0 ≤ (v 2 a0 1)) (if (v 6 (v 2 a0 1) 9) = (-1) then (rOk 0 v)
   else (if (v 2 a0 7) < 0 then (rOk 0 v)
   else (if (v 4 (v 2 a0 7) 0) < (v 6 (v 2 a0 1) 9) then (rOk 0 v)
   else (rOk 1 v))))))
set_option maxRecDepth 100000 in
set_option maxHeartbeats 4000000 in
theorem k_X7_cameSinceListing (a0 : Int) (x : Cx) (v : V) (F : Fx x cX7_cameSinceListing RX7 "cameSinceListing" ({ frames := 0, cells := 0, slots := 0, locals := 0 }) 2 (some 2) (some .boolean) 0) (ho : ∀ a ∈ [(12, a0)], okv v a) : Gs x (sp_X7_cameSinceListing a0 v) v 0 0 0 (avArgs 0 [(12, a0)]) [] := by
  show Gs x _ v 0 0 0 [(0, (12, a0))] []
  unfold sp_X7_cameSinceListing
  refine g_aload_n F rfl 0 rfl dX7_cameSinceListing_0 ?_
  refine g_chk (fun n1 => ?_)
  refine g_get F (t := 16) (sI := 1) fl_RX7_267 rfl rfl (Int.not_lt.mp (Int.not_lt.mpr n1)) dX7_cameSinceListing_1 ?_
  refine g_chk (fun n2 => ?_)
  refine g_get F (t := 0) (sI := 9) fl_RX7_127 rfl rfl (Int.not_lt.mp (Int.not_lt.mpr n2)) dX7_cameSinceListing_4 ?_
  refine g_istore_n F rfl rfl (Nat.le_of_ble_eq_true rfl) (ls' := [(1, (0, (v 6 (v 2 a0 1) 9))), (0, (12, a0))]) rfl dX7_cameSinceListing_7 ?_
  refine g_iload_n F rfl 0 rfl rfl dX7_cameSinceListing_8 ?_
  refine g_iconst F 0 rfl dX7_cameSinceListing_9 ?_
  refine g_icmp_eq F rfl rfl (tgt := 35) rfl dX7_cameSinceListing_10 (fun n3 => ?_) (fun n3 => ?_)
  · refine g_iconst F 2 rfl dX7_cameSinceListing_35 ?_
    exact g_ireturn F rfl rfl rfl rfl (Nat.le_of_ble_eq_true rfl) (Nat.le_of_ble_eq_true rfl) dX7_cameSinceListing_36
  · refine g_aload_n F rfl 1 rfl dX7_cameSinceListing_13 ?_
    refine g_get F (t := 14) (sI := 7) fl_RX7_195 rfl rfl (Int.not_lt.mp (Int.not_lt.mpr n1)) dX7_cameSinceListing_14 ?_
    refine g_ifnull F (tgt := 35) rfl dX7_cameSinceListing_17 (fun n4 => ?_) (fun n4 => ?_)
    · refine g_iconst F 2 rfl dX7_cameSinceListing_35 ?_
      exact g_ireturn F rfl rfl rfl rfl (Nat.le_of_ble_eq_true rfl) (Nat.le_of_ble_eq_true rfl) dX7_cameSinceListing_36
    · refine g_aload_n F rfl 1 rfl dX7_cameSinceListing_20 ?_
      refine g_get F (t := 14) (sI := 7) fl_RX7_195 rfl rfl (Int.not_lt.mp (Int.not_lt.mpr n1)) dX7_cameSinceListing_21 ?_
      refine g_get F (t := 0) (sI := 0) fl_RX7_313 rfl rfl (Int.not_lt.mp n4) dX7_cameSinceListing_24 ?_
      refine g_iload_n F rfl 0 rfl rfl dX7_cameSinceListing_27 ?_
      refine g_icmp_lt F rfl rfl (tgt := 35) rfl dX7_cameSinceListing_28 (fun n5 => ?_) (fun n5 => ?_)
      · refine g_iconst F 2 rfl dX7_cameSinceListing_35 ?_
        exact g_ireturn F rfl rfl rfl rfl (Nat.le_of_ble_eq_true rfl) (Nat.le_of_ble_eq_true rfl) dX7_cameSinceListing_36
      · refine g_iconst F 2 rfl dX7_cameSinceListing_31 ?_
        refine g_goto F (tgt := 36) rfl dX7_cameSinceListing_32 ?_
        exact g_ireturn F rfl rfl rfl rfl (Nat.le_of_ble_eq_true rfl) (Nat.le_of_ble_eq_true rfl) dX7_cameSinceListing_36
theorem c_X7_cameSinceListing (a0 : Int) : ∀ l, Ct l yX7_cameSinceListing cX7_cameSinceListing 2 (some .boolean) ({ frames := 0, cells := 0, slots := 0, locals := 0 }) (some 2) [(12, a0)] (sp_X7_cameSinceListing a0) := g_method (by decide +kernel) (Nat.le_of_ble_eq_true rfl) (fun x v F ho => k_X7_cameSinceListing a0 x v F ho)
def sp_X7_restore (a0 a1 a2 : Int) (v : V) : Res := (rB (sp_X7_lotAt a0 a1 v) (fun z1 v1 => (rB (sp_X7_partyAt a0 a2 v1) (fun z2 v2 => (chk (0 ≤ z1) (if (v2 2 z1 4) ≤ 0 then (rB (sp_X7_requireState 0 v2) (fun z5 v5 => none))
   else (chk (0 ≤ z2) (if ¬ (v2 3 z2 4) = 0 then (rB (sp_X7_requireState 0 v2) (fun z8 v8 => none))
   else (rB (sp_X7_cameSinceListing z1 v2) (fun z9 v9 => (if z9 = 0 then (rB (sp_X7_requireState 0 v9) (fun z11 v11 => none))
   else (rB (sp_X7_requireState 1 v9) (fun z12 v12 => (rB (sp_X2_takeOver z1 z2 v12) (fun z13 v13 => (chk (0 ≤ (v12 2 z1 3)) (rOk (v13 3 (v12 2 z1 3) 0) v13)))))))))))))))))
set_option maxRecDepth 100000 in
set_option maxHeartbeats 4000000 in
theorem k_X7_restore (a0 a1 a2 : Int) (h0 : 0 ≤ a0) (x : Cx) (v : V) (F : Fx x cX7_restore RX7 "restore" ({ frames := 7, cells := 3, slots := 18, locals := 103 }) 6 (some 0) (some .int) 0) (ho : ∀ a ∈ [(17, a0), (0, a1), (0, a2)], okv v a) : Gs x (sp_X7_restore a0 a1 a2 v) v 0 0 0 (avArgs 0 [(17, a0), (0, a1), (0, a2)]) [] := by
  show Gs x _ v 0 0 0 [(0, (17, a0)), (1, (0, a1)), (2, (0, a2))] []
  unfold sp_X7_restore
  refine g_aload_n F rfl 0 rfl dX7_restore_0 ?_
  refine g_iload_n F rfl 1 rfl rfl dX7_restore_1 ?_
  refine g_callV F (by decide) (K := 7) (b := a0) [(0, a1)] [0] ml_RX7_141 wi_X7_lotAt ws_X7_lotAt (c_X7_lotAt a0 a1 (Int.not_lt.mp (Int.not_lt.mpr h0))) mi_X7_lotAt (by decide) ⟨_, rfl, rfl⟩ (Int.not_lt.mp (Int.not_lt.mpr h0)) rfl rfl rfl (Nat.le_of_ble_eq_true rfl) (Nat.le_of_ble_eq_true rfl) (Nat.le_of_ble_eq_true rfl) (Nat.le_of_ble_eq_true rfl) (Nat.le_of_ble_eq_true rfl) dX7_restore_2 (fun z1 v1 hz1 => ?_)
  refine g_astore_n F rfl (Nat.le_of_ble_eq_true rfl) (ls' := [(3, (12, z1)), (0, (17, a0)), (1, (0, a1)), (2, (0, a2))]) rfl dX7_restore_5 ?_
  refine g_aload_n F rfl 1 rfl dX7_restore_6 ?_
  refine g_iload_n F rfl 3 rfl rfl dX7_restore_7 ?_
  refine g_callV F (by decide) (K := 7) (b := a0) [(0, a2)] [0] ml_RX7_59 wi_X7_partyAt ws_X7_partyAt (c_X7_partyAt a0 a2 (Int.not_lt.mp (Int.not_lt.mpr h0))) mi_X7_partyAt (by decide) ⟨_, rfl, rfl⟩ (Int.not_lt.mp (Int.not_lt.mpr h0)) rfl rfl rfl (Nat.le_of_ble_eq_true rfl) (Nat.le_of_ble_eq_true rfl) (Nat.le_of_ble_eq_true rfl) (Nat.le_of_ble_eq_true rfl) (Nat.le_of_ble_eq_true rfl) dX7_restore_8 (fun z2 v2 hz2 => ?_)
  refine g_astore F (Nat.le_of_ble_eq_true rfl) (ls' := [(4, (13, z2)), (3, (12, z1)), (0, (17, a0)), (1, (0, a1)), (2, (0, a2))]) rfl dX7_restore_11 ?_
  refine g_aload_n F rfl 1 rfl dX7_restore_13 ?_
  refine g_chk (fun n3 => ?_)
  refine g_get F (t := 0) (sI := 4) fl_RX7_165 rfl rfl (Int.not_lt.mp (Int.not_lt.mpr n3)) dX7_restore_14 ?_
  refine g_if_le F rfl (tgt := 39) rfl dX7_restore_17 (fun n4 => ?_) (fun n4 => ?_)
  · refine g_iconst F 2 rfl dX7_restore_39 ?_
    refine g_callS F (by decide) [(2, 0)] [2] ml_RX7_50 wt_X7_requireState (c_X7_requireState 0) mi_X7_requireState rfl rfl rfl (Nat.le_of_ble_eq_true rfl) (Nat.le_of_ble_eq_true rfl) (Nat.le_of_ble_eq_true rfl) (Nat.le_of_ble_eq_true rfl) (Nat.le_of_ble_eq_true rfl) dX7_restore_40 (fun z5 v5 hz5 => ?_)
    exact g_none
  · refine g_aload F 0 rfl dX7_restore_20 ?_
    refine g_chk (fun n6 => ?_)
    refine g_get F (t := 2) (sI := 4) fl_RX7_130 rfl rfl (Int.not_lt.mp (Int.not_lt.mpr n6)) dX7_restore_22 ?_
    refine g_if_ne F rfl (tgt := 39) rfl dX7_restore_25 (fun n7 => ?_) (fun n7 => ?_)
    · refine g_iconst F 2 rfl dX7_restore_39 ?_
      refine g_callS F (by decide) [(2, 0)] [2] ml_RX7_50 wt_X7_requireState (c_X7_requireState 0) mi_X7_requireState rfl rfl rfl (Nat.le_of_ble_eq_true rfl) (Nat.le_of_ble_eq_true rfl) (Nat.le_of_ble_eq_true rfl) (Nat.le_of_ble_eq_true rfl) (Nat.le_of_ble_eq_true rfl) dX7_restore_40 (fun z8 v8 hz8 => ?_)
      exact g_none
    · refine g_aload_n F rfl 1 rfl dX7_restore_28 ?_
      refine g_callS F (by decide) [(12, z1)] [12] ml_RX7_211 wt_X7_cameSinceListing (c_X7_cameSinceListing z1) mi_X7_cameSinceListing rfl rfl rfl (Nat.le_of_ble_eq_true rfl) (Nat.le_of_ble_eq_true rfl) (Nat.le_of_ble_eq_true rfl) (Nat.le_of_ble_eq_true rfl) (Nat.le_of_ble_eq_true rfl) dX7_restore_29 (fun z9 v9 hz9 => ?_)
      refine g_if_eq F rfl (tgt := 39) rfl dX7_restore_32 (fun n10 => ?_) (fun n10 => ?_)
      · refine g_iconst F 2 rfl dX7_restore_39 ?_
        refine g_callS F (by decide) [(2, 0)] [2] ml_RX7_50 wt_X7_requireState (c_X7_requireState 0) mi_X7_requireState rfl rfl rfl (Nat.le_of_ble_eq_true rfl) (Nat.le_of_ble_eq_true rfl) (Nat.le_of_ble_eq_true rfl) (Nat.le_of_ble_eq_true rfl) (Nat.le_of_ble_eq_true rfl) dX7_restore_40 (fun z11 v11 hz11 => ?_)
        exact g_none
      · refine g_iconst F 2 rfl dX7_restore_35 ?_
        refine g_goto F (tgt := 40) rfl dX7_restore_36 ?_
        refine g_callS F (by decide) [(2, 1)] [2] ml_RX7_50 wt_X7_requireState (c_X7_requireState 1) mi_X7_requireState rfl rfl rfl (Nat.le_of_ble_eq_true rfl) (Nat.le_of_ble_eq_true rfl) (Nat.le_of_ble_eq_true rfl) (Nat.le_of_ble_eq_true rfl) (Nat.le_of_ble_eq_true rfl) dX7_restore_40 (fun z12 v12 hz12 => ?_)
        refine g_aload_n F rfl 1 rfl dX7_restore_43 ?_
        refine g_get F (t := 13) (sI := 3) fl_RX7_153 rfl rfl (Int.not_lt.mp (Int.not_lt.mpr n3)) dX7_restore_44 ?_
        refine g_astore F (Nat.le_of_ble_eq_true rfl) (ls' := [(5, (13, (v12 2 z1 3))), (4, (13, z2)), (3, (12, z1)), (0, (17, a0)), (1, (0, a1)), (2, (0, a2))]) rfl dX7_restore_47 ?_
        refine g_aload_n F rfl 2 rfl dX7_restore_49 ?_
        refine g_aload F 1 rfl dX7_restore_50 ?_
        refine g_callVN F (by decide) (K := 2) (b := z1) [(13, z2)] [13] ml_RX7_215 wi_X2_takeOver ws_X2_takeOver (c_X2_takeOver z1 z2 (Int.not_lt.mp (Int.not_lt.mpr n3))) mi_X2_takeOver (by decide) ⟨_, rfl, rfl⟩ (Int.not_lt.mp (Int.not_lt.mpr n3)) rfl rfl rfl (Nat.le_of_ble_eq_true rfl) (Nat.le_of_ble_eq_true rfl) (Nat.le_of_ble_eq_true rfl) (Nat.le_of_ble_eq_true rfl) (Nat.le_of_ble_eq_true rfl) dX7_restore_52 (fun z13 v13 hz13 => ?_)
        refine g_aload F 0 rfl dX7_restore_55 ?_
        refine g_chk (fun n14 => ?_)
        refine g_get F (t := 0) (sI := 0) fl_RX7_56 rfl rfl (Int.not_lt.mp (Int.not_lt.mpr n14)) dX7_restore_57 ?_
        exact g_ireturn F rfl rfl rfl rfl (Nat.le_of_ble_eq_true rfl) (Nat.le_of_ble_eq_true rfl) dX7_restore_60
theorem c_X7_restore (a0 a1 a2 : Int) (h0 : 0 ≤ a0) : ∀ l, Ct l yX7_restore cX7_restore 6 (some .int) ({ frames := 7, cells := 3, slots := 18, locals := 103 }) (some 0) [(17, a0), (0, a1), (0, a2)] (sp_X7_restore a0 a1 a2) := g_method (by decide +kernel) (Nat.le_of_ble_eq_true rfl) (fun x v F ho => k_X7_restore a0 a1 a2 h0 x v F ho)
def sp_X7_lend (a0 a1 a2 a3 a4 a5 : Int) (v : V) : Res := (rB (sp_X7_lotAt a0 a1 v) (fun z1 v1 => (rB (sp_X7_partyAt a0 a2 v1) (fun z2 v2 => (chk (0 ≤ z1) (rB (sp_X7_requireRange a3 1 1000000 v2) (fun z4 v4 => (rB (sp_X7_requireRange a4 0 100 v4) (fun z5 v5 => (rB (sp_X7_requireRange a5 1 1000 v5) (fun z6 v6 => (rB (sp_X7_requireOther z2 (v2 2 z1 3) v6) (fun z7 v7 => (if (v7 2 z1 5) < 0 then (if (v7 2 z1 6) < 0 then (rB (sp_X7_requireState 1 v7) (fun z10 v10 => (chk (0 ≤ (v2 2 z1 3)) (if ¬ (v10 3 (v2 2 z1 3) 4) = 0 then (rB (sp_X7_requireState 0 v10) (fun z13 v13 => none))
   else (chk (0 ≤ z2) (if ¬ (v10 3 z2 4) = 0 then (rB (sp_X7_requireState 0 v10) (fun z16 v16 => none))
   else (if (v10 3 z2 2) < a3 then (rB (sp_X7_requireState 0 v10) (fun z18 v18 => none))
   else (rB (sp_X7_requireState 1 v10) (fun z19 v19 => (rB (sp_X2_worth z1 (v19 7 a0 9) v19) (fun z20 v20 => (if z20 < (w32 (2 * a3)) then (rB (sp_X7_requireState 0 v20) (fun z22 v22 => none))
   else (if 20 ≤ (v20 7 a0 8) then (rB (sp_X7_requireState 0 v20) (fun z24 v24 => none))
   else (rB (sp_X7_requireState 1 v20) (fun z25 v25 => (chk ((0 : Int) ≤ (v25 7 a0 8) ∧ ¬ v25 99 1 (v25 7 a0 8) = 1) (rLet (nw v25 1 (v25 7 a0 8)) (fun v26 => (rB (sp_X1_init (v25 7 a0 8) (v26 7 a0 8) (v2 2 z1 3) z2 a3 a4 (v26 7 a0 9) (w32 ((v26 7 a0 9) + a5)) v26) (fun z28 v28 => (chk (0 ≤ (v28 7 a0 3)) (chk (0 ≤ (v28 7 a0 8) ∧ (v28 7 a0 8) < 20) (rLet (up v28 13 (v28 7 a0 3) (v28 7 a0 8) (v25 7 a0 8)) (fun v31 => (rLet (up v31 7 a0 8 (w32 ((v31 7 a0 8) + 1))) (fun v32 => (rLet (up v32 2 z1 5 (v25 7 a0 8)) (fun v33 => (rB (sp_X7_pay z2 (v2 2 z1 3) a3 v33) (fun z34 v34 => (rOk (v34 1 (v25 7 a0 8) 0) v34)))))))))))))))))))))))))))))))
   else (rB (sp_X7_requireState 0 v7) (fun z35 v35 => none)))
   else (rB (sp_X7_requireState 0 v7) (fun z36 v36 => none))))))))))))))))
set_option maxRecDepth 100000 in
set_option maxHeartbeats 4000000 in
theorem k_X7_lend (a0 a1 a2 a3 a4 a5 : Int) (h0 : 0 ≤ a0) (x : Cx) (v : V) (F : Fx x cX7_lend RX7 "lend" ({ frames := 7, cells := 10, slots := 62, locals := 104 }) 10 (some 0) (some .int) 0) (ho : ∀ a ∈ [(17, a0), (0, a1), (0, a2), (0, a3), (0, a4), (0, a5)], okv v a) : Gs x (sp_X7_lend a0 a1 a2 a3 a4 a5 v) v 0 0 0 (avArgs 0 [(17, a0), (0, a1), (0, a2), (0, a3), (0, a4), (0, a5)]) [] := by
  show Gs x _ v 0 0 0 [(0, (17, a0)), (1, (0, a1)), (2, (0, a2)), (3, (0, a3)), (4, (0, a4)), (5, (0, a5))] []
  unfold sp_X7_lend
  refine g_aload_n F rfl 0 rfl dX7_lend_0 ?_
  refine g_iload_n F rfl 1 rfl rfl dX7_lend_1 ?_
  refine g_callV F (by decide) (K := 7) (b := a0) [(0, a1)] [0] ml_RX7_141 wi_X7_lotAt ws_X7_lotAt (c_X7_lotAt a0 a1 (Int.not_lt.mp (Int.not_lt.mpr h0))) mi_X7_lotAt (by decide) ⟨_, rfl, rfl⟩ (Int.not_lt.mp (Int.not_lt.mpr h0)) rfl rfl rfl (Nat.le_of_ble_eq_true rfl) (Nat.le_of_ble_eq_true rfl) (Nat.le_of_ble_eq_true rfl) (Nat.le_of_ble_eq_true rfl) (Nat.le_of_ble_eq_true rfl) dX7_lend_2 (fun z1 v1 hz1 => ?_)
  refine g_astore F (Nat.le_of_ble_eq_true rfl) (ls' := [(6, (12, z1)), (0, (17, a0)), (1, (0, a1)), (2, (0, a2)), (3, (0, a3)), (4, (0, a4)), (5, (0, a5))]) rfl dX7_lend_5 ?_
  refine g_aload_n F rfl 1 rfl dX7_lend_7 ?_
  refine g_iload_n F rfl 3 rfl rfl dX7_lend_8 ?_
  refine g_callV F (by decide) (K := 7) (b := a0) [(0, a2)] [0] ml_RX7_59 wi_X7_partyAt ws_X7_partyAt (c_X7_partyAt a0 a2 (Int.not_lt.mp (Int.not_lt.mpr h0))) mi_X7_partyAt (by decide) ⟨_, rfl, rfl⟩ (Int.not_lt.mp (Int.not_lt.mpr h0)) rfl rfl rfl (Nat.le_of_ble_eq_true rfl) (Nat.le_of_ble_eq_true rfl) (Nat.le_of_ble_eq_true rfl) (Nat.le_of_ble_eq_true rfl) (Nat.le_of_ble_eq_true rfl) dX7_lend_9 (fun z2 v2 hz2 => ?_)
  refine g_astore F (Nat.le_of_ble_eq_true rfl) (ls' := [(7, (13, z2)), (6, (12, z1)), (0, (17, a0)), (1, (0, a1)), (2, (0, a2)), (3, (0, a3)), (4, (0, a4)), (5, (0, a5))]) rfl dX7_lend_12 ?_
  refine g_aload F 1 rfl dX7_lend_14 ?_
  refine g_chk (fun n3 => ?_)
  refine g_get F (t := 13) (sI := 3) fl_RX7_153 rfl rfl (Int.not_lt.mp (Int.not_lt.mpr n3)) dX7_lend_16 ?_
  refine g_astore F (Nat.le_of_ble_eq_true rfl) (ls' := [(8, (13, (v2 2 z1 3))), (7, (13, z2)), (6, (12, z1)), (0, (17, a0)), (1, (0, a1)), (2, (0, a2)), (3, (0, a3)), (4, (0, a4)), (5, (0, a5))]) rfl dX7_lend_19 ?_
  refine g_iload_n F rfl 6 rfl rfl dX7_lend_21 ?_
  refine g_iconst F 2 rfl dX7_lend_22 ?_
  refine g_ldc F rfl cn_RX7_41 dX7_lend_23 ?_
  refine g_callS F (by decide) [(0, a3), (2, 1), (0, 1000000)] [0, 0, 0] ml_RX7_42 wt_X7_requireRange (c_X7_requireRange a3 1 1000000) mi_X7_requireRange rfl rfl rfl (Nat.le_of_ble_eq_true rfl) (Nat.le_of_ble_eq_true rfl) (Nat.le_of_ble_eq_true rfl) (Nat.le_of_ble_eq_true rfl) (Nat.le_of_ble_eq_true rfl) dX7_lend_25 (fun z4 v4 hz4 => ?_)
  refine g_iload F 7 rfl rfl dX7_lend_28 ?_
  refine g_iconst F 2 rfl dX7_lend_30 ?_
  refine g_bipush F rfl (by decide) dX7_lend_31 ?_
  refine g_callS F (by decide) [(0, a4), (2, 0), (0, 100)] [0, 0, 0] ml_RX7_42 wt_X7_requireRange (c_X7_requireRange a4 0 100) mi_X7_requireRange rfl rfl rfl (Nat.le_of_ble_eq_true rfl) (Nat.le_of_ble_eq_true rfl) (Nat.le_of_ble_eq_true rfl) (Nat.le_of_ble_eq_true rfl) (Nat.le_of_ble_eq_true rfl) dX7_lend_33 (fun z5 v5 hz5 => ?_)
  refine g_iload F 8 rfl rfl dX7_lend_36 ?_
  refine g_iconst F 2 rfl dX7_lend_38 ?_
  refine g_sipush F rfl (by decide) dX7_lend_39 ?_
  refine g_callS F (by decide) [(0, a5), (2, 1), (0, 1000)] [0, 0, 0] ml_RX7_42 wt_X7_requireRange (c_X7_requireRange a5 1 1000) mi_X7_requireRange rfl rfl rfl (Nat.le_of_ble_eq_true rfl) (Nat.le_of_ble_eq_true rfl) (Nat.le_of_ble_eq_true rfl) (Nat.le_of_ble_eq_true rfl) (Nat.le_of_ble_eq_true rfl) dX7_lend_42 (fun z6 v6 hz6 => ?_)
  refine g_aload F 1 rfl dX7_lend_45 ?_
  refine g_aload F 0 rfl dX7_lend_47 ?_
  refine g_callS F (by decide) [(13, z2), (13, (v2 2 z1 3))] [13, 13] ml_RX7_161 wt_X7_requireOther (c_X7_requireOther z2 (v2 2 z1 3)) mi_X7_requireOther rfl rfl rfl (Nat.le_of_ble_eq_true rfl) (Nat.le_of_ble_eq_true rfl) (Nat.le_of_ble_eq_true rfl) (Nat.le_of_ble_eq_true rfl) (Nat.le_of_ble_eq_true rfl) dX7_lend_49 (fun z7 v7 hz7 => ?_)
  refine g_aload F 2 rfl dX7_lend_52 ?_
  refine g_get F (t := 11) (sI := 5) fl_RX7_218 rfl rfl (Int.not_lt.mp (Int.not_lt.mpr n3)) dX7_lend_54 ?_
  refine g_ifnonnull F (tgt := 72) rfl dX7_lend_57 (fun n8 => ?_) (fun n8 => ?_)
  · refine g_aload F 2 rfl dX7_lend_60 ?_
    refine g_get F (t := 10) (sI := 6) fl_RX7_137 rfl rfl (Int.not_lt.mp (Int.not_lt.mpr n3)) dX7_lend_62 ?_
    refine g_ifnonnull F (tgt := 72) rfl dX7_lend_65 (fun n9 => ?_) (fun n9 => ?_)
    · refine g_iconst F 2 rfl dX7_lend_68 ?_
      refine g_goto F (tgt := 73) rfl dX7_lend_69 ?_
      refine g_callS F (by decide) [(2, 1)] [2] ml_RX7_50 wt_X7_requireState (c_X7_requireState 1) mi_X7_requireState rfl rfl rfl (Nat.le_of_ble_eq_true rfl) (Nat.le_of_ble_eq_true rfl) (Nat.le_of_ble_eq_true rfl) (Nat.le_of_ble_eq_true rfl) (Nat.le_of_ble_eq_true rfl) dX7_lend_73 (fun z10 v10 hz10 => ?_)
      refine g_aload F 0 rfl dX7_lend_76 ?_
      refine g_chk (fun n11 => ?_)
      refine g_get F (t := 2) (sI := 4) fl_RX7_130 rfl rfl (Int.not_lt.mp (Int.not_lt.mpr n11)) dX7_lend_78 ?_
      refine g_if_ne F rfl (tgt := 105) rfl dX7_lend_81 (fun n12 => ?_) (fun n12 => ?_)
      · refine g_iconst F 2 rfl dX7_lend_105 ?_
        refine g_callS F (by decide) [(2, 0)] [2] ml_RX7_50 wt_X7_requireState (c_X7_requireState 0) mi_X7_requireState rfl rfl rfl (Nat.le_of_ble_eq_true rfl) (Nat.le_of_ble_eq_true rfl) (Nat.le_of_ble_eq_true rfl) (Nat.le_of_ble_eq_true rfl) (Nat.le_of_ble_eq_true rfl) dX7_lend_106 (fun z13 v13 hz13 => ?_)
        exact g_none
      · refine g_aload F 1 rfl dX7_lend_84 ?_
        refine g_chk (fun n14 => ?_)
        refine g_get F (t := 2) (sI := 4) fl_RX7_130 rfl rfl (Int.not_lt.mp (Int.not_lt.mpr n14)) dX7_lend_86 ?_
        refine g_if_ne F rfl (tgt := 105) rfl dX7_lend_89 (fun n15 => ?_) (fun n15 => ?_)
        · refine g_iconst F 2 rfl dX7_lend_105 ?_
          refine g_callS F (by decide) [(2, 0)] [2] ml_RX7_50 wt_X7_requireState (c_X7_requireState 0) mi_X7_requireState rfl rfl rfl (Nat.le_of_ble_eq_true rfl) (Nat.le_of_ble_eq_true rfl) (Nat.le_of_ble_eq_true rfl) (Nat.le_of_ble_eq_true rfl) (Nat.le_of_ble_eq_true rfl) dX7_lend_106 (fun z16 v16 hz16 => ?_)
          exact g_none
        · refine g_aload F 1 rfl dX7_lend_92 ?_
          refine g_get F (t := 0) (sI := 2) fl_RX7_222 rfl rfl (Int.not_lt.mp (Int.not_lt.mpr n14)) dX7_lend_94 ?_
          refine g_iload_n F rfl 6 rfl rfl dX7_lend_97 ?_
          refine g_icmp_lt F rfl rfl (tgt := 105) rfl dX7_lend_98 (fun n17 => ?_) (fun n17 => ?_)
          · refine g_iconst F 2 rfl dX7_lend_105 ?_
            refine g_callS F (by decide) [(2, 0)] [2] ml_RX7_50 wt_X7_requireState (c_X7_requireState 0) mi_X7_requireState rfl rfl rfl (Nat.le_of_ble_eq_true rfl) (Nat.le_of_ble_eq_true rfl) (Nat.le_of_ble_eq_true rfl) (Nat.le_of_ble_eq_true rfl) (Nat.le_of_ble_eq_true rfl) dX7_lend_106 (fun z18 v18 hz18 => ?_)
            exact g_none
          · refine g_iconst F 2 rfl dX7_lend_101 ?_
            refine g_goto F (tgt := 106) rfl dX7_lend_102 ?_
            refine g_callS F (by decide) [(2, 1)] [2] ml_RX7_50 wt_X7_requireState (c_X7_requireState 1) mi_X7_requireState rfl rfl rfl (Nat.le_of_ble_eq_true rfl) (Nat.le_of_ble_eq_true rfl) (Nat.le_of_ble_eq_true rfl) (Nat.le_of_ble_eq_true rfl) (Nat.le_of_ble_eq_true rfl) dX7_lend_106 (fun z19 v19 hz19 => ?_)
            refine g_iconst F 0 rfl dX7_lend_109 ?_
            refine g_iload_n F rfl 6 rfl rfl dX7_lend_110 ?_
            refine g_imul F rfl rfl dX7_lend_111 ?_
            refine g_aload F 2 rfl dX7_lend_112 ?_
            refine g_aload_n F rfl 3 rfl dX7_lend_114 ?_
            refine g_get F (t := 0) (sI := 9) fl_RX7_87 rfl rfl (Int.not_lt.mp (Int.not_lt.mpr h0)) dX7_lend_115 ?_
            refine g_callVN F (by decide) (K := 2) (b := z1) [(0, (v19 7 a0 9))] [0] ml_RX7_225 wi_X2_worth ws_X2_worth (c_X2_worth z1 (v19 7 a0 9) (Int.not_lt.mp (Int.not_lt.mpr n3))) mi_X2_worth (by decide) ⟨_, rfl, rfl⟩ (Int.not_lt.mp (Int.not_lt.mpr n3)) rfl rfl rfl (Nat.le_of_ble_eq_true rfl) (Nat.le_of_ble_eq_true rfl) (Nat.le_of_ble_eq_true rfl) (Nat.le_of_ble_eq_true rfl) (Nat.le_of_ble_eq_true rfl) dX7_lend_118 (fun z20 v20 hz20 => ?_)
            refine g_icmp_gt F rfl rfl (tgt := 137) rfl dX7_lend_121 (fun n21 => ?_) (fun n21 => ?_)
            · refine g_iconst F 2 rfl dX7_lend_137 ?_
              refine g_callS F (by decide) [(2, 0)] [2] ml_RX7_50 wt_X7_requireState (c_X7_requireState 0) mi_X7_requireState rfl rfl rfl (Nat.le_of_ble_eq_true rfl) (Nat.le_of_ble_eq_true rfl) (Nat.le_of_ble_eq_true rfl) (Nat.le_of_ble_eq_true rfl) (Nat.le_of_ble_eq_true rfl) dX7_lend_138 (fun z22 v22 hz22 => ?_)
              exact g_none
            · refine g_aload_n F rfl 3 rfl dX7_lend_124 ?_
              refine g_get F (t := 0) (sI := 8) fl_RX7_228 rfl rfl (Int.not_lt.mp (Int.not_lt.mpr h0)) dX7_lend_125 ?_
              refine g_bipush F rfl (by decide) dX7_lend_128 ?_
              refine g_icmp_ge F rfl rfl (tgt := 137) rfl dX7_lend_130 (fun n23 => ?_) (fun n23 => ?_)
              · refine g_iconst F 2 rfl dX7_lend_137 ?_
                refine g_callS F (by decide) [(2, 0)] [2] ml_RX7_50 wt_X7_requireState (c_X7_requireState 0) mi_X7_requireState rfl rfl rfl (Nat.le_of_ble_eq_true rfl) (Nat.le_of_ble_eq_true rfl) (Nat.le_of_ble_eq_true rfl) (Nat.le_of_ble_eq_true rfl) (Nat.le_of_ble_eq_true rfl) dX7_lend_138 (fun z24 v24 hz24 => ?_)
                exact g_none
              · refine g_iconst F 2 rfl dX7_lend_133 ?_
                refine g_goto F (tgt := 138) rfl dX7_lend_134 ?_
                refine g_callS F (by decide) [(2, 1)] [2] ml_RX7_50 wt_X7_requireState (c_X7_requireState 1) mi_X7_requireState rfl rfl rfl (Nat.le_of_ble_eq_true rfl) (Nat.le_of_ble_eq_true rfl) (Nat.le_of_ble_eq_true rfl) (Nat.le_of_ble_eq_true rfl) (Nat.le_of_ble_eq_true rfl) dX7_lend_138 (fun z25 v25 hz25 => ?_)
                refine g_chk (fun n27 => ?_)
                refine h_new F (n := 8) (Kz := 1) (v25 7 a0 8) fn_RX7_27 rfl rfl n27 (Nat.le_of_ble_eq_true rfl) (Nat.le_of_ble_eq_true rfl) dX7_lend_141 (fun v26 => ?_)
                refine g_dup F rfl dX7_lend_144 ?_
                refine g_aload_n F rfl 3 rfl dX7_lend_145 ?_
                refine g_get F (t := 0) (sI := 8) fl_RX7_228 rfl rfl (Int.not_lt.mp (Int.not_lt.mpr h0)) dX7_lend_146 ?_
                refine g_aload F 0 rfl dX7_lend_149 ?_
                refine g_aload F 1 rfl dX7_lend_151 ?_
                refine g_iload_n F rfl 6 rfl rfl dX7_lend_153 ?_
                refine g_iload F 7 rfl rfl dX7_lend_154 ?_
                refine g_aload_n F rfl 3 rfl dX7_lend_156 ?_
                refine g_get F (t := 0) (sI := 9) fl_RX7_87 rfl rfl (Int.not_lt.mp (Int.not_lt.mpr h0)) dX7_lend_157 ?_
                refine g_aload_n F rfl 3 rfl dX7_lend_160 ?_
                refine g_get F (t := 0) (sI := 9) fl_RX7_87 rfl rfl (Int.not_lt.mp (Int.not_lt.mpr h0)) dX7_lend_161 ?_
                refine g_iload F 8 rfl rfl dX7_lend_164 ?_
                refine g_iadd F rfl rfl dX7_lend_166 ?_
                refine g_callIN F (by decide) (K := 1) (b := (v25 7 a0 8)) [(0, (v26 7 a0 8)), (13, (v2 2 z1 3)), (13, z2), (0, a3), (0, a4), (0, (v26 7 a0 9)), (0, (w32 ((v26 7 a0 9) + a5)))] [0, 13, 13, 0, 0, 0, 0] ml_RX7_231 wi_X1_init rfl (c_X1_init (v25 7 a0 8) (v26 7 a0 8) (v2 2 z1 3) z2 a3 a4 (v26 7 a0 9) (w32 ((v26 7 a0 9) + a5)) (Int.not_lt.mp (Int.not_lt.mpr n27.1))) mi_X1_init (Int.not_lt.mp (Int.not_lt.mpr n27.1)) rfl rfl rfl (Nat.le_of_ble_eq_true rfl) (Nat.le_of_ble_eq_true rfl) (Nat.le_of_ble_eq_true rfl) (Nat.le_of_ble_eq_true rfl) (Nat.le_of_ble_eq_true rfl) dX7_lend_167 (fun z28 v28 hz28 => ?_)
                refine g_astore F (Nat.le_of_ble_eq_true rfl) (ls' := [(9, (11, (v25 7 a0 8))), (8, (13, (v2 2 z1 3))), (7, (13, z2)), (6, (12, z1)), (0, (17, a0)), (1, (0, a1)), (2, (0, a2)), (3, (0, a3)), (4, (0, a4)), (5, (0, a5))]) rfl dX7_lend_170 ?_
                refine g_aload_n F rfl 4 rfl dX7_lend_172 ?_
                refine g_get F (t := 23) (sI := 3) fl_RX7_29 rfl rfl (Int.not_lt.mp (Int.not_lt.mpr h0)) dX7_lend_173 ?_
                refine g_aload_n F rfl 4 rfl dX7_lend_176 ?_
                refine g_get F (t := 0) (sI := 8) fl_RX7_228 rfl rfl (Int.not_lt.mp (Int.not_lt.mpr h0)) dX7_lend_177 ?_
                refine g_aload F 0 rfl dX7_lend_180 ?_
                refine g_chk (fun n29 => ?_)
                refine g_chk (fun n30 => ?_)
                refine h_aast F (K2 := 1) (n := 20) ak_13 (by decide) (Int.not_lt.mp (Int.not_lt.mpr n29)) n30 (Int.not_lt.mp (Int.not_lt.mpr n27.1)) rfl dX7_lend_182 (fun v31 => ?_)
                refine g_aload_n F rfl 4 rfl dX7_lend_183 ?_
                refine g_dup F rfl dX7_lend_184 ?_
                refine g_get F (t := 0) (sI := 8) fl_RX7_228 rfl rfl (Int.not_lt.mp (Int.not_lt.mpr h0)) dX7_lend_185 ?_
                refine g_iconst F 2 rfl dX7_lend_188 ?_
                refine g_iadd F rfl rfl dX7_lend_189 ?_
                refine h_put F (sI := 8) fl_RX7_228 ⟨_, rfl, Or.inl rfl⟩ rfl rfl (Int.not_lt.mp (Int.not_lt.mpr h0)) dX7_lend_190 (fun v32 => ?_)
                refine g_aload F 3 rfl dX7_lend_193 ?_
                refine g_aload F 0 rfl dX7_lend_195 ?_
                refine h_put F (sI := 5) fl_RX7_218 ⟨_, rfl, Or.inl rfl⟩ rfl rfl (Int.not_lt.mp (Int.not_lt.mpr n3)) dX7_lend_197 (fun v33 => ?_)
                refine g_aload F 2 rfl dX7_lend_200 ?_
                refine g_aload F 1 rfl dX7_lend_202 ?_
                refine g_iload_n F rfl 7 rfl rfl dX7_lend_204 ?_
                refine g_callS F (by decide) [(13, z2), (13, (v2 2 z1 3)), (0, a3)] [13, 13, 0] ml_RX7_234 wt_X7_pay (c_X7_pay z2 (v2 2 z1 3) a3) mi_X7_pay rfl rfl rfl (Nat.le_of_ble_eq_true rfl) (Nat.le_of_ble_eq_true rfl) (Nat.le_of_ble_eq_true rfl) (Nat.le_of_ble_eq_true rfl) (Nat.le_of_ble_eq_true rfl) dX7_lend_205 (fun z34 v34 hz34 => ?_)
                refine g_aload F 0 rfl dX7_lend_208 ?_
                refine g_get F (t := 0) (sI := 0) fl_RX7_238 rfl rfl (Int.not_lt.mp (Int.not_lt.mpr n27.1)) dX7_lend_210 ?_
                exact g_ireturn F rfl rfl rfl rfl (Nat.le_of_ble_eq_true rfl) (Nat.le_of_ble_eq_true rfl) dX7_lend_213
    · refine g_iconst F 2 rfl dX7_lend_72 ?_
      refine g_callS F (by decide) [(2, 0)] [2] ml_RX7_50 wt_X7_requireState (c_X7_requireState 0) mi_X7_requireState rfl rfl rfl (Nat.le_of_ble_eq_true rfl) (Nat.le_of_ble_eq_true rfl) (Nat.le_of_ble_eq_true rfl) (Nat.le_of_ble_eq_true rfl) (Nat.le_of_ble_eq_true rfl) dX7_lend_73 (fun z35 v35 hz35 => ?_)
      exact g_none
  · refine g_iconst F 2 rfl dX7_lend_72 ?_
    refine g_callS F (by decide) [(2, 0)] [2] ml_RX7_50 wt_X7_requireState (c_X7_requireState 0) mi_X7_requireState rfl rfl rfl (Nat.le_of_ble_eq_true rfl) (Nat.le_of_ble_eq_true rfl) (Nat.le_of_ble_eq_true rfl) (Nat.le_of_ble_eq_true rfl) (Nat.le_of_ble_eq_true rfl) dX7_lend_73 (fun z36 v36 hz36 => ?_)
    exact g_none
theorem c_X7_lend (a0 a1 a2 a3 a4 a5 : Int) (h0 : 0 ≤ a0) : ∀ l, Ct l yX7_lend cX7_lend 10 (some .int) ({ frames := 7, cells := 10, slots := 62, locals := 104 }) (some 0) [(17, a0), (0, a1), (0, a2), (0, a3), (0, a4), (0, a5)] (sp_X7_lend a0 a1 a2 a3 a4 a5) := g_method (by decide +kernel) (Nat.le_of_ble_eq_true rfl) (fun x v F ho => k_X7_lend a0 a1 a2 a3 a4 a5 h0 x v F ho)
def sp_X7_loanAt (a0 a1 : Int) (v : V) : Res := (if a1 < 0 then (rEx 1 v)
   else (if a1 < (v 7 a0 8) then (chk (0 ≤ (v 7 a0 3)) (chk (0 ≤ a1 ∧ a1 < 20) (rOk (v 13 (v 7 a0 3) a1) v)))
   else (rEx 1 v)))
set_option maxRecDepth 100000 in
set_option maxHeartbeats 4000000 in
theorem k_X7_loanAt (a0 a1 : Int) (h0 : 0 ≤ a0) (x : Cx) (v : V) (F : Fx x cX7_loanAt RX7 "loanAt" ({ frames := 6, cells := 1, slots := 6, locals := 82 }) 2 (some 11) (some (.object "FreePort$Loan")) 0) (ho : ∀ a ∈ [(17, a0), (0, a1)], okv v a) : Gs x (sp_X7_loanAt a0 a1 v) v 0 0 0 (avArgs 0 [(17, a0), (0, a1)]) [] := by
  show Gs x _ v 0 0 0 [(0, (17, a0)), (1, (0, a1))] []
  unfold sp_X7_loanAt
  refine g_iload_n F rfl 1 rfl rfl dX7_loanAt_0 ?_
  refine g_if_lt F rfl (tgt := 12) rfl dX7_loanAt_1 (fun n1 => ?_) (fun n1 => ?_)
  · exact g_throwW F th_RX7_345 (Nat.le_of_ble_eq_true rfl) (Nat.le_of_ble_eq_true rfl) (Nat.le_of_ble_eq_true rfl) (Nat.le_of_ble_eq_true rfl) dX7_loanAt_12 dX7_loanAt_15 dX7_loanAt_16 dX7_loanAt_19 dX7_loanAt_22
  · refine g_iload_n F rfl 1 rfl rfl dX7_loanAt_4 ?_
    refine g_aload_n F rfl 0 rfl dX7_loanAt_5 ?_
    refine g_get F (t := 0) (sI := 8) fl_RX7_228 rfl rfl (Int.not_lt.mp (Int.not_lt.mpr h0)) dX7_loanAt_6 ?_
    refine g_icmp_lt F rfl rfl (tgt := 23) rfl dX7_loanAt_9 (fun n2 => ?_) (fun n2 => ?_)
    · refine g_aload_n F rfl 0 rfl dX7_loanAt_23 ?_
      refine g_get F (t := 23) (sI := 3) fl_RX7_29 rfl rfl (Int.not_lt.mp (Int.not_lt.mpr h0)) dX7_loanAt_24 ?_
      refine g_iload_n F rfl 1 rfl rfl dX7_loanAt_27 ?_
      refine g_chk (fun n3 => ?_)
      refine g_chk (fun n4 => ?_)
      refine h_aald F (n := 20) ak_13 (Int.not_lt.mp (Int.not_lt.mpr n3)) n4 rfl dX7_loanAt_28 ?_
      exact g_areturn F rfl (Or.inl ⟨_, rfl⟩) (Nat.le_of_ble_eq_true rfl) (Nat.le_of_ble_eq_true rfl) dX7_loanAt_29
    · exact g_throwW F th_RX7_345 (Nat.le_of_ble_eq_true rfl) (Nat.le_of_ble_eq_true rfl) (Nat.le_of_ble_eq_true rfl) (Nat.le_of_ble_eq_true rfl) dX7_loanAt_12 dX7_loanAt_15 dX7_loanAt_16 dX7_loanAt_19 dX7_loanAt_22
theorem c_X7_loanAt (a0 a1 : Int) (h0 : 0 ≤ a0) : ∀ l, Ct l yX7_loanAt cX7_loanAt 2 (some (.object "FreePort$Loan")) ({ frames := 6, cells := 1, slots := 6, locals := 82 }) (some 11) [(17, a0), (0, a1)] (sp_X7_loanAt a0 a1) := g_method (by decide +kernel) (Nat.le_of_ble_eq_true rfl) (fun x v F ho => k_X7_loanAt a0 a1 h0 x v F ho)
def lp_X7_release_9 (l0 l1 : Int) (k : V → Int → Int → Res) : Nat → V → Int → Int → Res
  | 0, _, _, _ => none
  | n + 1, v, l2, l3 => (if (v 7 l0 7) ≤ l3 then (k v l2 l3)
   else (chk (0 ≤ (v 7 l0 2)) (chk (0 ≤ l3 ∧ l3 < 60) (chk (0 ≤ (v 12 (v 7 l0 2) l3)) (if (v 2 (v 12 (v 7 l0 2) l3) 5) = l1 then (rLet (up v 2 (v 12 (v 7 l0 2) l3) 5 (-1)) (fun v8 => (lp_X7_release_9 l0 l1 k n v8 (w32 (l2 + 1)) (w32 (l3 + 1)))))
   else (lp_X7_release_9 l0 l1 k n v l2 (w32 (l3 + 1))))))))
set_option maxRecDepth 100000 in
set_option maxHeartbeats 4000000 in
theorem kl_X7_release_9 {l0 l1 : Int} (h0 : 0 ≤ l0) {x : Cx} (F : Fx x cX7_release RX7 "release" ({ frames := 0, cells := 0, slots := 0, locals := 0 }) 4 (some 0) (some .int) 0) {k : V → Int → Int → Res} (hk : ∀ (v : V) (l2 l3 : Int), Gs x (k v l2 l3) v 0 0 49 [(0, (17, l0)), (1, (11, l1)), (2, (0, l2)), (3, (0, l3))] []) : ∀ (n : Nat) (v : V) (l2 l3 : Int), Gs x (lp_X7_release_9 l0 l1 k n v l2 l3) v 0 0 9 [(0, (17, l0)), (1, (11, l1)), (2, (0, l2)), (3, (0, l3))] [] := by
  intro n
  induction n with
  | zero => intro v l2 l3; exact g_none
  | succ n ih =>
    intro v l2 l3
    rw [lp_X7_release_9]
    refine g_iload_n F rfl 3 rfl rfl dX7_release_9 ?_
    refine g_aload_n F rfl 0 rfl dX7_release_10 ?_
    refine g_get F (t := 0) (sI := 7) fl_RX7_66 rfl rfl (Int.not_lt.mp (Int.not_lt.mpr h0)) dX7_release_11 ?_
    refine g_icmp_ge F rfl rfl (tgt := 49) rfl dX7_release_14 (fun n3 => ?_) (fun n3 => ?_)
    · refine g_loc [(0, 17), (1, 11), (2, 0), (3, 0)] rfl ?_
      exact hk v l2 l3
    · refine g_aload_n F rfl 0 rfl dX7_release_17 ?_
      refine g_get F (t := 22) (sI := 2) fl_RX7_23 rfl rfl (Int.not_lt.mp (Int.not_lt.mpr h0)) dX7_release_18 ?_
      refine g_iload_n F rfl 3 rfl rfl dX7_release_21 ?_
      refine g_chk (fun n4 => ?_)
      refine g_chk (fun n5 => ?_)
      refine h_aald F (n := 60) ak_12 (Int.not_lt.mp (Int.not_lt.mpr n4)) n5 rfl dX7_release_22 ?_
      refine g_chk (fun n6 => ?_)
      refine g_get F (t := 11) (sI := 5) fl_RX7_218 rfl rfl (Int.not_lt.mp (Int.not_lt.mpr n6)) dX7_release_23 ?_
      refine g_aload_n F rfl 1 rfl dX7_release_26 ?_
      refine g_acmp_ne F (by decide) (tgt := 43) rfl dX7_release_27 (fun n7 => ?_) (fun n7 => ?_)
      · refine g_aload_n F rfl 0 rfl dX7_release_30 ?_
        refine g_get F (t := 22) (sI := 2) fl_RX7_23 rfl rfl (Int.not_lt.mp (Int.not_lt.mpr h0)) dX7_release_31 ?_
        refine g_iload_n F rfl 3 rfl rfl dX7_release_34 ?_
        refine h_aald F (n := 60) ak_12 (Int.not_lt.mp (Int.not_lt.mpr n4)) n5 rfl dX7_release_35 ?_
        refine g_null F 1 dX7_release_36 ?_
        refine h_put F (sI := 5) fl_RX7_218 ⟨_, rfl, Or.inl rfl⟩ rfl rfl (Int.not_lt.mp (Int.not_lt.mpr n6)) dX7_release_37 (fun v8 => ?_)
        refine g_iinc F 2 rfl rfl (Nat.le_of_ble_eq_true rfl) (ls' := [(2, (0, (w32 (l2 + 1)))), (0, (17, l0)), (1, (11, l1)), (3, (0, l3))]) rfl dX7_release_40 ?_
        refine g_iinc F 3 rfl rfl (Nat.le_of_ble_eq_true rfl) (ls' := [(3, (0, (w32 (l3 + 1)))), (2, (0, (w32 (l2 + 1)))), (0, (17, l0)), (1, (11, l1))]) rfl dX7_release_43 ?_
        refine g_goto F (tgt := 9) rfl dX7_release_46 ?_
        refine g_loc [(2, 17), (3, 11), (1, 0), (0, 0)] rfl ?_
        exact ih v8 (w32 (l2 + 1)) (w32 (l3 + 1))
      · refine g_iinc F 3 rfl rfl (Nat.le_of_ble_eq_true rfl) (ls' := [(3, (0, (w32 (l3 + 1)))), (0, (17, l0)), (1, (11, l1)), (2, (0, l2))]) rfl dX7_release_43 ?_
        refine g_goto F (tgt := 9) rfl dX7_release_46 ?_
        refine g_loc [(1, 17), (2, 11), (3, 0), (0, 0)] rfl ?_
        exact ih v l2 (w32 (l3 + 1))
def sp_X7_release (a0 a1 : Int) (v : V) : Res := (chk (0 ≤ a1) (rLet (up v 1 a1 7 1) (fun v2 => (lp_X7_release_9 a0 a1 (fun v9 u9_2 u9_3 => (rOk u9_2 v9)) 200 v2 0 0))))
set_option maxRecDepth 100000 in
set_option maxHeartbeats 4000000 in
theorem k_X7_release (a0 a1 : Int) (h0 : 0 ≤ a0) (x : Cx) (v : V) (F : Fx x cX7_release RX7 "release" ({ frames := 0, cells := 0, slots := 0, locals := 0 }) 4 (some 0) (some .int) 0) (ho : ∀ a ∈ [(17, a0), (11, a1)], okv v a) : Gs x (sp_X7_release a0 a1 v) v 0 0 0 (avArgs 0 [(17, a0), (11, a1)]) [] := by
  show Gs x _ v 0 0 0 [(0, (17, a0)), (1, (11, a1))] []
  unfold sp_X7_release
  refine g_aload_n F rfl 1 rfl dX7_release_0 ?_
  refine g_iconst F 2 rfl dX7_release_1 ?_
  refine g_chk (fun n1 => ?_)
  refine h_put F (sI := 7) fl_RX7_246 ⟨_, rfl, Or.inl rfl⟩ rfl rfl (Int.not_lt.mp (Int.not_lt.mpr n1)) dX7_release_2 (fun v2 => ?_)
  refine g_iconst F 2 rfl dX7_release_5 ?_
  refine g_istore_n F rfl rfl (Nat.le_of_ble_eq_true rfl) (ls' := [(2, (2, 0)), (0, (17, a0)), (1, (11, a1))]) rfl dX7_release_6 ?_
  refine g_iconst F 2 rfl dX7_release_7 ?_
  refine g_istore_n F rfl rfl (Nat.le_of_ble_eq_true rfl) (ls' := [(3, (2, 0)), (2, (2, 0)), (0, (17, a0)), (1, (11, a1))]) rfl dX7_release_8 ?_
  refine g_loc [(2, 17), (3, 11), (1, 0), (0, 0)] rfl ?_
  refine kl_X7_release_9 (Int.not_lt.mp (Int.not_lt.mpr h0)) F (fun v9 u9_2 u9_3 => ?_) 200 v2 0 0
  refine g_iload_n F rfl 2 rfl rfl dX7_release_49 ?_
  exact g_ireturn F rfl rfl rfl rfl (Nat.le_of_ble_eq_true rfl) (Nat.le_of_ble_eq_true rfl) dX7_release_50
theorem c_X7_release (a0 a1 : Int) (h0 : 0 ≤ a0) : ∀ l, Ct l yX7_release cX7_release 4 (some .int) ({ frames := 0, cells := 0, slots := 0, locals := 0 }) (some 0) [(17, a0), (11, a1)] (sp_X7_release a0 a1) := g_method (by decide +kernel) (Nat.le_of_ble_eq_true rfl) (fun x v F ho => k_X7_release a0 a1 h0 x v F ho)
def sp_X7_repay (a0 a1 : Int) (v : V) : Res := (rB (sp_X7_loanAt a0 a1 v) (fun z1 v1 => (chk (0 ≤ z1) (rB (sp_X1_owed z1 (v1 7 a0 9) v1) (fun z2 v2 => (if ¬ (v2 1 z1 7) = 0 then (rB (sp_X7_requireState 0 v2) (fun z5 v5 => none))
   else (chk (0 ≤ (v2 1 z1 1)) (if ¬ (v2 3 (v2 1 z1 1) 4) = 0 then (rB (sp_X7_requireState 0 v2) (fun z8 v8 => none))
   else (if (v2 3 (v2 1 z1 1) 2) < z2 then (rB (sp_X7_requireState 0 v2) (fun z10 v10 => none))
   else (rB (sp_X7_requireState 1 v2) (fun z11 v11 => (rB (sp_X7_pay (v11 1 z1 1) (v11 1 z1 6) z2 v11) (fun z12 v12 => (rB (sp_X7_release a0 z1 v12) (fun z13 v13 => (rOk z2 v13))))))))))))))))
set_option maxRecDepth 100000 in
set_option maxHeartbeats 4000000 in
theorem k_X7_repay (a0 a1 : Int) (h0 : 0 ≤ a0) (x : Cx) (v : V) (F : Fx x cX7_repay RX7 "repay" ({ frames := 7, cells := 2, slots := 12, locals := 103 }) 4 (some 0) (some .int) 0) (ho : ∀ a ∈ [(17, a0), (0, a1)], okv v a) : Gs x (sp_X7_repay a0 a1 v) v 0 0 0 (avArgs 0 [(17, a0), (0, a1)]) [] := by
  show Gs x _ v 0 0 0 [(0, (17, a0)), (1, (0, a1))] []
  unfold sp_X7_repay
  refine g_aload_n F rfl 0 rfl dX7_repay_0 ?_
  refine g_iload_n F rfl 1 rfl rfl dX7_repay_1 ?_
  refine g_callV F (by decide) (K := 7) (b := a0) [(0, a1)] [0] ml_RX7_239 wi_X7_loanAt ws_X7_loanAt (c_X7_loanAt a0 a1 (Int.not_lt.mp (Int.not_lt.mpr h0))) mi_X7_loanAt (by decide) ⟨_, rfl, rfl⟩ (Int.not_lt.mp (Int.not_lt.mpr h0)) rfl rfl rfl (Nat.le_of_ble_eq_true rfl) (Nat.le_of_ble_eq_true rfl) (Nat.le_of_ble_eq_true rfl) (Nat.le_of_ble_eq_true rfl) (Nat.le_of_ble_eq_true rfl) dX7_repay_2 (fun z1 v1 hz1 => ?_)
  refine g_astore_n F rfl (Nat.le_of_ble_eq_true rfl) (ls' := [(2, (11, z1)), (0, (17, a0)), (1, (0, a1))]) rfl dX7_repay_5 ?_
  refine g_aload_n F rfl 0 rfl dX7_repay_6 ?_
  refine g_aload_n F rfl 1 rfl dX7_repay_7 ?_
  refine g_get F (t := 0) (sI := 9) fl_RX7_87 rfl rfl (Int.not_lt.mp (Int.not_lt.mpr h0)) dX7_repay_8 ?_
  refine g_chk (fun n3 => ?_)
  refine g_callVN F (by decide) (K := 1) (b := z1) [(0, (v1 7 a0 9))] [0] ml_RX7_243 wi_X1_owed ws_X1_owed (c_X1_owed z1 (v1 7 a0 9) (Int.not_lt.mp (Int.not_lt.mpr n3))) mi_X1_owed (by decide) ⟨_, rfl, rfl⟩ (Int.not_lt.mp (Int.not_lt.mpr n3)) rfl rfl rfl (Nat.le_of_ble_eq_true rfl) (Nat.le_of_ble_eq_true rfl) (Nat.le_of_ble_eq_true rfl) (Nat.le_of_ble_eq_true rfl) (Nat.le_of_ble_eq_true rfl) dX7_repay_11 (fun z2 v2 hz2 => ?_)
  refine g_istore_n F rfl rfl (Nat.le_of_ble_eq_true rfl) (ls' := [(3, (0, z2)), (2, (11, z1)), (0, (17, a0)), (1, (0, a1))]) rfl dX7_repay_14 ?_
  refine g_aload_n F rfl 1 rfl dX7_repay_15 ?_
  refine g_get F (t := 2) (sI := 7) fl_RX7_246 rfl rfl (Int.not_lt.mp (Int.not_lt.mpr n3)) dX7_repay_16 ?_
  refine g_if_ne F rfl (tgt := 47) rfl dX7_repay_19 (fun n4 => ?_) (fun n4 => ?_)
  · refine g_iconst F 2 rfl dX7_repay_47 ?_
    refine g_callS F (by decide) [(2, 0)] [2] ml_RX7_50 wt_X7_requireState (c_X7_requireState 0) mi_X7_requireState rfl rfl rfl (Nat.le_of_ble_eq_true rfl) (Nat.le_of_ble_eq_true rfl) (Nat.le_of_ble_eq_true rfl) (Nat.le_of_ble_eq_true rfl) (Nat.le_of_ble_eq_true rfl) dX7_repay_48 (fun z5 v5 hz5 => ?_)
    exact g_none
  · refine g_aload_n F rfl 1 rfl dX7_repay_22 ?_
    refine g_get F (t := 13) (sI := 1) fl_RX7_249 rfl rfl (Int.not_lt.mp (Int.not_lt.mpr n3)) dX7_repay_23 ?_
    refine g_chk (fun n6 => ?_)
    refine g_get F (t := 2) (sI := 4) fl_RX7_130 rfl rfl (Int.not_lt.mp (Int.not_lt.mpr n6)) dX7_repay_26 ?_
    refine g_if_ne F rfl (tgt := 47) rfl dX7_repay_29 (fun n7 => ?_) (fun n7 => ?_)
    · refine g_iconst F 2 rfl dX7_repay_47 ?_
      refine g_callS F (by decide) [(2, 0)] [2] ml_RX7_50 wt_X7_requireState (c_X7_requireState 0) mi_X7_requireState rfl rfl rfl (Nat.le_of_ble_eq_true rfl) (Nat.le_of_ble_eq_true rfl) (Nat.le_of_ble_eq_true rfl) (Nat.le_of_ble_eq_true rfl) (Nat.le_of_ble_eq_true rfl) dX7_repay_48 (fun z8 v8 hz8 => ?_)
      exact g_none
    · refine g_aload_n F rfl 1 rfl dX7_repay_32 ?_
      refine g_get F (t := 13) (sI := 1) fl_RX7_249 rfl rfl (Int.not_lt.mp (Int.not_lt.mpr n3)) dX7_repay_33 ?_
      refine g_get F (t := 0) (sI := 2) fl_RX7_222 rfl rfl (Int.not_lt.mp (Int.not_lt.mpr n6)) dX7_repay_36 ?_
      refine g_iload_n F rfl 0 rfl rfl dX7_repay_39 ?_
      refine g_icmp_lt F rfl rfl (tgt := 47) rfl dX7_repay_40 (fun n9 => ?_) (fun n9 => ?_)
      · refine g_iconst F 2 rfl dX7_repay_47 ?_
        refine g_callS F (by decide) [(2, 0)] [2] ml_RX7_50 wt_X7_requireState (c_X7_requireState 0) mi_X7_requireState rfl rfl rfl (Nat.le_of_ble_eq_true rfl) (Nat.le_of_ble_eq_true rfl) (Nat.le_of_ble_eq_true rfl) (Nat.le_of_ble_eq_true rfl) (Nat.le_of_ble_eq_true rfl) dX7_repay_48 (fun z10 v10 hz10 => ?_)
        exact g_none
      · refine g_iconst F 2 rfl dX7_repay_43 ?_
        refine g_goto F (tgt := 48) rfl dX7_repay_44 ?_
        refine g_callS F (by decide) [(2, 1)] [2] ml_RX7_50 wt_X7_requireState (c_X7_requireState 1) mi_X7_requireState rfl rfl rfl (Nat.le_of_ble_eq_true rfl) (Nat.le_of_ble_eq_true rfl) (Nat.le_of_ble_eq_true rfl) (Nat.le_of_ble_eq_true rfl) (Nat.le_of_ble_eq_true rfl) dX7_repay_48 (fun z11 v11 hz11 => ?_)
        refine g_aload_n F rfl 1 rfl dX7_repay_51 ?_
        refine g_get F (t := 13) (sI := 1) fl_RX7_249 rfl rfl (Int.not_lt.mp (Int.not_lt.mpr n3)) dX7_repay_52 ?_
        refine g_aload_n F rfl 1 rfl dX7_repay_55 ?_
        refine g_get F (t := 13) (sI := 6) fl_RX7_252 rfl rfl (Int.not_lt.mp (Int.not_lt.mpr n3)) dX7_repay_56 ?_
        refine g_iload_n F rfl 0 rfl rfl dX7_repay_59 ?_
        refine g_callS F (by decide) [(13, (v11 1 z1 1)), (13, (v11 1 z1 6)), (0, z2)] [13, 13, 0] ml_RX7_234 wt_X7_pay (c_X7_pay (v11 1 z1 1) (v11 1 z1 6) z2) mi_X7_pay rfl rfl rfl (Nat.le_of_ble_eq_true rfl) (Nat.le_of_ble_eq_true rfl) (Nat.le_of_ble_eq_true rfl) (Nat.le_of_ble_eq_true rfl) (Nat.le_of_ble_eq_true rfl) dX7_repay_60 (fun z12 v12 hz12 => ?_)
        refine g_aload_n F rfl 2 rfl dX7_repay_63 ?_
        refine g_aload_n F rfl 1 rfl dX7_repay_64 ?_
        refine g_callV F (by decide) (K := 7) (b := a0) [(11, z1)] [11] ml_RX7_255 wi_X7_release ws_X7_release (c_X7_release a0 z1 (Int.not_lt.mp (Int.not_lt.mpr h0))) mi_X7_release (by decide) ⟨_, rfl, rfl⟩ (Int.not_lt.mp (Int.not_lt.mpr h0)) rfl rfl rfl (Nat.le_of_ble_eq_true rfl) (Nat.le_of_ble_eq_true rfl) (Nat.le_of_ble_eq_true rfl) (Nat.le_of_ble_eq_true rfl) (Nat.le_of_ble_eq_true rfl) dX7_repay_65 (fun z13 v13 hz13 => ?_)
        refine g_pop F rfl dX7_repay_68 ?_
        refine g_iload_n F rfl 0 rfl rfl dX7_repay_69 ?_
        exact g_ireturn F rfl rfl rfl rfl (Nat.le_of_ble_eq_true rfl) (Nat.le_of_ble_eq_true rfl) dX7_repay_70
theorem c_X7_repay (a0 a1 : Int) (h0 : 0 ≤ a0) : ∀ l, Ct l yX7_repay cX7_repay 4 (some .int) ({ frames := 7, cells := 2, slots := 12, locals := 103 }) (some 0) [(17, a0), (0, a1)] (sp_X7_repay a0 a1) := g_method (by decide +kernel) (Nat.le_of_ble_eq_true rfl) (fun x v F ho => k_X7_repay a0 a1 h0 x v F ho)

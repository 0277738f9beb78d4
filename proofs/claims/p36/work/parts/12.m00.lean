/-! methods, by the walker -/
def sp_X0_init (a0 a1 a2 a3 a4 : Int) (v : V) : Res := (rLet (up v 0 a0 0 a1) (fun v1 => (rLet (up v1 0 a0 1 a2) (fun v2 => (rLet (up v2 0 a0 2 a3) (fun v3 => (rLet (up v3 0 a0 3 a4) (fun v4 => (rOk 0 v4)))))))))
set_option maxRecDepth 100000 in
set_option maxHeartbeats 4000000 in
theorem k_X0_init (a0 a1 a2 a3 a4 : Int) (h0 : 0 ≤ a0) (x : Cx) (v : V) (F : Fx x cX0_init RX0 "<init>" ({ frames := 1, cells := 0, slots := 0, locals := 12 }) 5 none none 0) (ho : ∀ a ∈ [(10, a0), (13, a1), (0, a2), (0, a3), (0, a4)], okv v a) : Gs x (sp_X0_init a0 a1 a2 a3 a4 v) v 0 0 0 (avArgs 0 [(10, a0), (13, a1), (0, a2), (0, a3), (0, a4)]) [] := by
  show Gs x _ v 0 0 0 [(0, (10, a0)), (1, (13, a1)), (2, (0, a2)), (3, (0, a3)), (4, (0, a4))] []
  unfold sp_X0_init
  refine g_aload_n F rfl 0 rfl dX0_init_0 ?_
  refine g_objinit F ol_RX0_1 oi_i oi_c (Nat.le_of_ble_eq_true rfl) (Int.not_lt.mp (Int.not_lt.mpr h0)) (Nat.le_of_ble_eq_true rfl) dX0_init_1 ?_
  refine g_aload_n F rfl 0 rfl dX0_init_4 ?_
  refine g_aload_n F rfl 1 rfl dX0_init_5 ?_
  refine h_put F (sI := 0) fl_RX0_7 ⟨_, rfl, Or.inr ⟨rfl, rfl⟩⟩ rfl rfl (Int.not_lt.mp (Int.not_lt.mpr h0)) dX0_init_6 (fun v1 => ?_)
  refine g_aload_n F rfl 0 rfl dX0_init_9 ?_
  refine g_iload_n F rfl 2 rfl rfl dX0_init_10 ?_
  refine h_put F (sI := 1) fl_RX0_13 ⟨_, rfl, Or.inr ⟨rfl, rfl⟩⟩ rfl rfl (Int.not_lt.mp (Int.not_lt.mpr h0)) dX0_init_11 (fun v2 => ?_)
  refine g_aload_n F rfl 0 rfl dX0_init_14 ?_
  refine g_iload_n F rfl 3 rfl rfl dX0_init_15 ?_
  refine h_put F (sI := 2) fl_RX0_17 ⟨_, rfl, Or.inr ⟨rfl, rfl⟩⟩ rfl rfl (Int.not_lt.mp (Int.not_lt.mpr h0)) dX0_init_16 (fun v3 => ?_)
  refine g_aload_n F rfl 0 rfl dX0_init_19 ?_
  refine g_iload F 4 rfl rfl dX0_init_20 ?_
  refine h_put F (sI := 3) fl_RX0_20 ⟨_, rfl, Or.inr ⟨rfl, rfl⟩⟩ rfl rfl (Int.not_lt.mp (Int.not_lt.mpr h0)) dX0_init_22 (fun v4 => ?_)
  exact g_return F rfl (Nat.le_of_ble_eq_true rfl) (Nat.le_of_ble_eq_true rfl) dX0_init_25
theorem c_X0_init (a0 a1 a2 a3 a4 : Int) (h0 : 0 ≤ a0) : ∀ l, Ct l yX0_init cX0_init 5 none ({ frames := 1, cells := 0, slots := 0, locals := 12 }) none [(10, a0), (13, a1), (0, a2), (0, a3), (0, a4)] (sp_X0_init a0 a1 a2 a3 a4) := g_method (by decide +kernel) (Nat.le_of_ble_eq_true rfl) (fun x v F ho => k_X0_init a0 a1 a2 a3 a4 h0 x v F ho)
def sp_X1_init (a0 a1 a2 a3 a4 a5 a6 a7 : Int) (v : V) : Res := (rLet (up v 1 a0 0 a1) (fun v1 => (rLet (up v1 1 a0 1 a2) (fun v2 => (rLet (up v2 1 a0 6 a3) (fun v3 => (rLet (up v3 1 a0 2 a4) (fun v4 => (rLet (up v4 1 a0 3 a5) (fun v5 => (rLet (up v5 1 a0 4 a6) (fun v6 => (rLet (up v6 1 a0 5 a7) (fun v7 => (rOk 0 v7)))))))))))))))
set_option maxRecDepth 100000 in
set_option maxHeartbeats 4000000 in
theorem k_X1_init (a0 a1 a2 a3 a4 a5 a6 a7 : Int) (h0 : 0 ≤ a0) (x : Cx) (v : V) (F : Fx x cX1_init RX1 "<init>" ({ frames := 1, cells := 0, slots := 0, locals := 12 }) 8 none none 0) (ho : ∀ a ∈ [(11, a0), (0, a1), (13, a2), (13, a3), (0, a4), (0, a5), (0, a6), (0, a7)], okv v a) : Gs x (sp_X1_init a0 a1 a2 a3 a4 a5 a6 a7 v) v 0 0 0 (avArgs 0 [(11, a0), (0, a1), (13, a2), (13, a3), (0, a4), (0, a5), (0, a6), (0, a7)]) [] := by
  show Gs x _ v 0 0 0 [(0, (11, a0)), (1, (0, a1)), (2, (13, a2)), (3, (13, a3)), (4, (0, a4)), (5, (0, a5)), (6, (0, a6)), (7, (0, a7))] []
  unfold sp_X1_init
  refine g_aload_n F rfl 0 rfl dX1_init_0 ?_
  refine g_objinit F ol_RX1_1 oi_i oi_c (Nat.le_of_ble_eq_true rfl) (Int.not_lt.mp (Int.not_lt.mpr h0)) (Nat.le_of_ble_eq_true rfl) dX1_init_1 ?_
  refine g_aload_n F rfl 0 rfl dX1_init_4 ?_
  refine g_iload_n F rfl 1 rfl rfl dX1_init_5 ?_
  refine h_put F (sI := 0) fl_RX1_7 ⟨_, rfl, Or.inr ⟨rfl, rfl⟩⟩ rfl rfl (Int.not_lt.mp (Int.not_lt.mpr h0)) dX1_init_6 (fun v1 => ?_)
  refine g_aload_n F rfl 0 rfl dX1_init_9 ?_
  refine g_aload_n F rfl 2 rfl dX1_init_10 ?_
  refine h_put F (sI := 1) fl_RX1_13 ⟨_, rfl, Or.inr ⟨rfl, rfl⟩⟩ rfl rfl (Int.not_lt.mp (Int.not_lt.mpr h0)) dX1_init_11 (fun v2 => ?_)
  refine g_aload_n F rfl 0 rfl dX1_init_14 ?_
  refine g_aload_n F rfl 3 rfl dX1_init_15 ?_
  refine h_put F (sI := 6) fl_RX1_17 ⟨_, rfl, Or.inl rfl⟩ rfl rfl (Int.not_lt.mp (Int.not_lt.mpr h0)) dX1_init_16 (fun v3 => ?_)
  refine g_aload_n F rfl 0 rfl dX1_init_19 ?_
  refine g_iload F 4 rfl rfl dX1_init_20 ?_
  refine h_put F (sI := 2) fl_RX1_20 ⟨_, rfl, Or.inr ⟨rfl, rfl⟩⟩ rfl rfl (Int.not_lt.mp (Int.not_lt.mpr h0)) dX1_init_22 (fun v4 => ?_)
  refine g_aload_n F rfl 0 rfl dX1_init_25 ?_
  refine g_iload F 5 rfl rfl dX1_init_26 ?_
  refine h_put F (sI := 3) fl_RX1_23 ⟨_, rfl, Or.inr ⟨rfl, rfl⟩⟩ rfl rfl (Int.not_lt.mp (Int.not_lt.mpr h0)) dX1_init_28 (fun v5 => ?_)
  refine g_aload_n F rfl 0 rfl dX1_init_31 ?_
  refine g_iload F 6 rfl rfl dX1_init_32 ?_
  refine h_put F (sI := 4) fl_RX1_26 ⟨_, rfl, Or.inr ⟨rfl, rfl⟩⟩ rfl rfl (Int.not_lt.mp (Int.not_lt.mpr h0)) dX1_init_34 (fun v6 => ?_)
  refine g_aload_n F rfl 0 rfl dX1_init_37 ?_
  refine g_iload F 7 rfl rfl dX1_init_38 ?_
  refine h_put F (sI := 5) fl_RX1_29 ⟨_, rfl, Or.inr ⟨rfl, rfl⟩⟩ rfl rfl (Int.not_lt.mp (Int.not_lt.mpr h0)) dX1_init_40 (fun v7 => ?_)
  exact g_return F rfl (Nat.le_of_ble_eq_true rfl) (Nat.le_of_ble_eq_true rfl) dX1_init_43
theorem c_X1_init (a0 a1 a2 a3 a4 a5 a6 a7 : Int) (h0 : 0 ≤ a0) : ∀ l, Ct l yX1_init cX1_init 8 none ({ frames := 1, cells := 0, slots := 0, locals := 12 }) none [(11, a0), (0, a1), (13, a2), (13, a3), (0, a4), (0, a5), (0, a6), (0, a7)] (sp_X1_init a0 a1 a2 a3 a4 a5 a6 a7) := g_method (by decide +kernel) (Nat.le_of_ble_eq_true rfl) (fun x v F ho => k_X1_init a0 a1 a2 a3 a4 a5 a6 a7 h0 x v F ho)
def sp_X1_owed (a0 a1 : Int) (v : V) : Res := (if (v 1 a0 7) = 0 then (rOk (w32 ((v 1 a0 2) + (w32 (w64 ((w64 ((w64 ((v 1 a0 2) * (v 1 a0 3))) * (w32 (a1 - (v 1 a0 4))))).tdiv 10000))))) v)
   else (rOk 0 v))
set_option maxRecDepth 100000 in
set_option maxHeartbeats 4000000 in
theorem k_X1_owed (a0 a1 : Int) (h0 : 0 ≤ a0) (x : Cx) (v : V) (F : Fx x cX1_owed RX1 "owed" ({ frames := 0, cells := 0, slots := 0, locals := 0 }) 4 (some 0) (some .int) 0) (ho : ∀ a ∈ [(11, a0), (0, a1)], okv v a) : Gs x (sp_X1_owed a0 a1 v) v 0 0 0 (avArgs 0 [(11, a0), (0, a1)]) [] := by
  show Gs x _ v 0 0 0 [(0, (11, a0)), (1, (0, a1))] []
  unfold sp_X1_owed
  refine g_aload_n F rfl 0 rfl dX1_owed_0 ?_
  refine g_get F (t := 2) (sI := 7) fl_RX1_32 rfl rfl (Int.not_lt.mp (Int.not_lt.mpr h0)) dX1_owed_1 ?_
  refine g_if_eq F rfl (tgt := 9) rfl dX1_owed_4 (fun n1 => ?_) (fun n1 => ?_)
  · refine g_aload_n F rfl 0 rfl dX1_owed_9 ?_
    refine g_get F (t := 0) (sI := 2) fl_RX1_20 rfl rfl (Int.not_lt.mp (Int.not_lt.mpr h0)) dX1_owed_10 ?_
    refine g_i2l F rfl dX1_owed_13 ?_
    refine g_aload_n F rfl 0 rfl dX1_owed_14 ?_
    refine g_get F (t := 0) (sI := 3) fl_RX1_23 rfl rfl (Int.not_lt.mp (Int.not_lt.mpr h0)) dX1_owed_15 ?_
    refine g_i2l F rfl dX1_owed_18 ?_
    refine g_lmul F dX1_owed_19 ?_
    refine g_iload_n F rfl 1 rfl rfl dX1_owed_20 ?_
    refine g_aload_n F rfl 0 rfl dX1_owed_21 ?_
    refine g_get F (t := 0) (sI := 4) fl_RX1_26 rfl rfl (Int.not_lt.mp (Int.not_lt.mpr h0)) dX1_owed_22 ?_
    refine g_isub F rfl rfl dX1_owed_25 ?_
    refine g_i2l F rfl dX1_owed_26 ?_
    refine g_lmul F dX1_owed_27 ?_
    refine g_ldc2 F rfl cn_RX1_36 dX1_owed_28 ?_
    refine g_ldiv F (by decide) dX1_owed_31 ?_
    refine g_lstore_n F rfl (Nat.le_of_ble_eq_true rfl) (ls' := [(2, (1, (w64 ((w64 ((w64 ((v 1 a0 2) * (v 1 a0 3))) * (w32 (a1 - (v 1 a0 4))))).tdiv 10000)))), (0, (11, a0)), (1, (0, a1))]) rfl dX1_owed_32 ?_
    refine g_aload_n F rfl 1 rfl dX1_owed_33 ?_
    refine g_get F (t := 0) (sI := 2) fl_RX1_20 rfl rfl (Int.not_lt.mp (Int.not_lt.mpr h0)) dX1_owed_34 ?_
    refine g_lload_n F rfl 0 rfl dX1_owed_37 ?_
    refine g_l2i F dX1_owed_38 ?_
    refine g_iadd F rfl rfl dX1_owed_39 ?_
    exact g_ireturn F rfl rfl rfl rfl (Nat.le_of_ble_eq_true rfl) (Nat.le_of_ble_eq_true rfl) dX1_owed_40
  · refine g_iconst F 2 rfl dX1_owed_7 ?_
    exact g_ireturn F rfl rfl rfl rfl (Nat.le_of_ble_eq_true rfl) (Nat.le_of_ble_eq_true rfl) dX1_owed_8
theorem c_X1_owed (a0 a1 : Int) (h0 : 0 ≤ a0) : ∀ l, Ct l yX1_owed cX1_owed 4 (some .int) ({ frames := 0, cells := 0, slots := 0, locals := 0 }) (some 0) [(11, a0), (0, a1)] (sp_X1_owed a0 a1) := g_method (by decide +kernel) (Nat.le_of_ble_eq_true rfl) (fun x v F ho => k_X1_owed a0 a1 h0 x v F ho)
def sp_X2_init (a0 a1 a2 a3 a4 a5 a6 a7 : Int) (v : V) : Res := (rLet (up v 2 a0 0 a1) (fun v1 => (rLet (up v1 2 a0 1 a2) (fun v2 => (rLet (up v2 2 a0 3 a3) (fun v3 => (rLet (up v3 2 a0 4 a4) (fun v4 => (rLet (up v4 2 a0 5 a5) (fun v5 => (rLet (up v5 2 a0 2 a6) (fun v6 => (rLet (up v6 2 a0 7 a7) (fun v7 => (rOk 0 v7)))))))))))))))
set_option maxRecDepth 100000 in
set_option maxHeartbeats 4000000 in
theorem k_X2_init (a0 a1 a2 a3 a4 a5 a6 a7 : Int) (h0 : 0 ≤ a0) (x : Cx) (v : V) (F : Fx x cX2_init RX2 "<init>" ({ frames := 1, cells := 0, slots := 0, locals := 12 }) 8 none none 0) (ho : ∀ a ∈ [(12, a0), (0, a1), (16, a2), (13, a3), (0, a4), (11, a5), (12, a6), (14, a7)], okv v a) : Gs x (sp_X2_init a0 a1 a2 a3 a4 a5 a6 a7 v) v 0 0 0 (avArgs 0 [(12, a0), (0, a1), (16, a2), (13, a3), (0, a4), (11, a5), (12, a6), (14, a7)]) [] := by
  show Gs x _ v 0 0 0 [(0, (12, a0)), (1, (0, a1)), (2, (16, a2)), (3, (13, a3)), (4, (0, a4)), (5, (11, a5)), (6, (12, a6)), (7, (14, a7))] []
  unfold sp_X2_init
  refine g_aload_n F rfl 0 rfl dX2_init_0 ?_
  refine g_objinit F ol_RX2_3 oi_i oi_c (Nat.le_of_ble_eq_true rfl) (Int.not_lt.mp (Int.not_lt.mpr h0)) (Nat.le_of_ble_eq_true rfl) dX2_init_1 ?_
  refine g_aload_n F rfl 0 rfl dX2_init_4 ?_
  refine g_iload_n F rfl 1 rfl rfl dX2_init_5 ?_
  refine h_put F (sI := 0) fl_RX2_9 ⟨_, rfl, Or.inr ⟨rfl, rfl⟩⟩ rfl rfl (Int.not_lt.mp (Int.not_lt.mpr h0)) dX2_init_6 (fun v1 => ?_)
  refine g_aload_n F rfl 0 rfl dX2_init_9 ?_
  refine g_aload_n F rfl 2 rfl dX2_init_10 ?_
  refine h_put F (sI := 1) fl_RX2_15 ⟨_, rfl, Or.inr ⟨rfl, rfl⟩⟩ rfl rfl (Int.not_lt.mp (Int.not_lt.mpr h0)) dX2_init_11 (fun v2 => ?_)
  refine g_aload_n F rfl 0 rfl dX2_init_14 ?_
  refine g_aload_n F rfl 3 rfl dX2_init_15 ?_
  refine h_put F (sI := 3) fl_RX2_19 ⟨_, rfl, Or.inl rfl⟩ rfl rfl (Int.not_lt.mp (Int.not_lt.mpr h0)) dX2_init_16 (fun v3 => ?_)
  refine g_aload_n F rfl 0 rfl dX2_init_19 ?_
  refine g_iload F 4 rfl rfl dX2_init_20 ?_
  refine h_put F (sI := 4) fl_RX2_23 ⟨_, rfl, Or.inl rfl⟩ rfl rfl (Int.not_lt.mp (Int.not_lt.mpr h0)) dX2_init_22 (fun v4 => ?_)
  refine g_aload_n F rfl 0 rfl dX2_init_25 ?_
  refine g_aload F 5 rfl dX2_init_26 ?_
  refine h_put F (sI := 5) fl_RX2_26 ⟨_, rfl, Or.inl rfl⟩ rfl rfl (Int.not_lt.mp (Int.not_lt.mpr h0)) dX2_init_28 (fun v5 => ?_)
  refine g_aload_n F rfl 0 rfl dX2_init_31 ?_
  refine g_aload F 6 rfl dX2_init_32 ?_
  refine h_put F (sI := 2) fl_RX2_30 ⟨_, rfl, Or.inr ⟨rfl, rfl⟩⟩ rfl rfl (Int.not_lt.mp (Int.not_lt.mpr h0)) dX2_init_34 (fun v6 => ?_)
  refine g_aload_n F rfl 0 rfl dX2_init_37 ?_
  refine g_aload F 7 rfl dX2_init_38 ?_
  refine h_put F (sI := 7) fl_RX2_34 ⟨_, rfl, Or.inl rfl⟩ rfl rfl (Int.not_lt.mp (Int.not_lt.mpr h0)) dX2_init_40 (fun v7 => ?_)
  exact g_return F rfl (Nat.le_of_ble_eq_true rfl) (Nat.le_of_ble_eq_true rfl) dX2_init_43
theorem c_X2_init (a0 a1 a2 a3 a4 a5 a6 a7 : Int) (h0 : 0 ≤ a0) : ∀ l, Ct l yX2_init cX2_init 8 none ({ frames := 1, cells := 0, slots := 0, locals := 12 }) none [(12, a0), (0, a1), (16, a2), (13, a3), (0, a4), (11, a5), (12, a6), (14, a7)] (sp_X2_init a0 a1 a2 a3 a4 a5 a6 a7) := g_method (by decide +kernel) (Nat.le_of_ble_eq_true rfl) (fun x v F ho => k_X2_init a0 a1 a2 a3 a4 a5 a6 a7 h0 x v F ho)
def sp_X2_dealer (a0 : Int) (v : V) : Res := (if (v 2 a0 6) < 0 then (rOk (-1) v)
   else (rOk (v 0 (v 2 a0 6) 0) v))
set_option maxRecDepth 100000 in
set_option maxHeartbeats 4000000 in
theorem k_X2_dealer (a0 : Int) (h0 : 0 ≤ a0) (x : Cx) (v : V) (F : Fx x cX2_dealer RX2 "dealer" ({ frames := 0, cells := 0, slots := 0, locals := 0 }) 1 (some 13) (some (.object "FreePort$Party")) 0) (ho : ∀ a ∈ [(12, a0)], okv v a) : Gs x (sp_X2_dealer a0 v) v 0 0 0 (avArgs 0 [(12, a0)]) [] := by
  show Gs x _ v 0 0 0 [(0, (12, a0))] []
  unfold sp_X2_dealer
  refine g_aload_n F rfl 0 rfl dX2_dealer_0 ?_
  refine g_get F (t := 10) (sI := 6) fl_RX2_38 rfl rfl (Int.not_lt.mp (Int.not_lt.mpr h0)) dX2_dealer_1 ?_
  refine g_ifnonnull F (tgt := 11) rfl dX2_dealer_4 (fun n1 => ?_) (fun n1 => ?_)
  · refine g_null F 3 dX2_dealer_7 ?_
    refine g_goto F (tgt := 18) rfl dX2_dealer_8 ?_
    exact g_areturn F rfl (Or.inl ⟨_, rfl⟩) (Nat.le_of_ble_eq_true rfl) (Nat.le_of_ble_eq_true rfl) dX2_dealer_18
  · refine g_aload_n F rfl 0 rfl dX2_dealer_11 ?_
    refine g_get F (t := 10) (sI := 6) fl_RX2_38 rfl rfl (Int.not_lt.mp (Int.not_lt.mpr h0)) dX2_dealer_12 ?_
    refine g_get F (t := 13) (sI := 0) fl_RX2_42 rfl rfl (Int.not_lt.mp n1) dX2_dealer_15 ?_
    exact g_areturn F rfl (Or.inl ⟨_, rfl⟩) (Nat.le_of_ble_eq_true rfl) (Nat.le_of_ble_eq_true rfl) dX2_dealer_18
theorem c_X2_dealer (a0 : Int) (h0 : 0 ≤ a0) : ∀ l, Ct l yX2_dealer cX2_dealer 1 (some (.object "FreePort$Party")) ({ frames := 0, cells := 0, slots := 0, locals := 0 }) (some 13) [(12, a0)] (sp_X2_dealer a0) := g_method (by decide +kernel) (Nat.le_of_ble_eq_true rfl) (fun x v F ho => k_X2_dealer a0 h0 x v F ho)
def sp_X2_isHeldByArtist (a0 : Int) (v : V) : Res := (chk (0 ≤ (v 2 a0 1)) (if (v 2 a0 3) = (v 6 (v 2 a0 1) 1) then (rOk 1 v)
   else (rOk 0 v)))
set_option maxRecDepth 100000 in
set_option maxHeartbeats 4000000 in
theorem k_X2_isHeldByArtist (a0 : Int) (h0 : 0 ≤ a0) (x : Cx) (v : V) (F : Fx x cX2_isHeldByArtist RX2 "isHeldByArtist" ({ frames := 0, cells := 0, slots := 0, locals := 0 }) 1 (some 2) (some .boolean) 0) (ho : ∀ a ∈ [(12, a0)], okv v a) : Gs x (sp_X2_isHeldByArtist a0 v) v 0 0 0 (avArgs 0 [(12, a0)]) [] := by
  show Gs x _ v 0 0 0 [(0, (12, a0))] []
  unfold sp_X2_isHeldByArtist
  refine g_aload_n F rfl 0 rfl dX2_isHeldByArtist_0 ?_
  refine g_get F (t := 13) (sI := 3) fl_RX2_19 rfl rfl (Int.not_lt.mp (Int.not_lt.mpr h0)) dX2_isHeldByArtist_1 ?_
  refine g_aload_n F rfl 0 rfl dX2_isHeldByArtist_4 ?_
  refine g_get F (t := 16) (sI := 1) fl_RX2_15 rfl rfl (Int.not_lt.mp (Int.not_lt.mpr h0)) dX2_isHeldByArtist_5 ?_
  refine g_chk (fun n1 => ?_)
  refine g_get F (t := 13) (sI := 1) fl_RX2_47 rfl rfl (Int.not_lt.mp (Int.not_lt.mpr n1)) dX2_isHeldByArtist_8 ?_
  refine g_acmp_ne F (by decide) (tgt := 18) rfl dX2_isHeldByArtist_11 (fun n2 => ?_) (fun n2 => ?_)
  · refine g_iconst F 2 rfl dX2_isHeldByArtist_14 ?_
    refine g_goto F (tgt := 19) rfl dX2_isHeldByArtist_15 ?_
    exact g_ireturn F rfl rfl rfl rfl (Nat.le_of_ble_eq_true rfl) (Nat.le_of_ble_eq_true rfl) dX2_isHeldByArtist_19
  · refine g_iconst F 2 rfl dX2_isHeldByArtist_18 ?_
    exact g_ireturn F rfl rfl rfl rfl (Nat.le_of_ble_eq_true rfl) (Nat.le_of_ble_eq_true rfl) dX2_isHeldByArtist_19
theorem c_X2_isHeldByArtist (a0 : Int) (h0 : 0 ≤ a0) : ∀ l, Ct l yX2_isHeldByArtist cX2_isHeldByArtist 1 (some .boolean) ({ frames := 0, cells := 0, slots := 0, locals := 0 }) (some 2) [(12, a0)] (sp_X2_isHeldByArtist a0) := g_method (by decide +kernel) (Nat.le_of_ble_eq_true rfl) (fun x v F ho => k_X2_isHeldByArtist a0 h0 x v F ho)
def sp_X2_isFlippedOn (a0 a1 : Int) (v : V) : Res := (rB (sp_X2_isHeldByArtist a0  v) (fun z1 v1 => (if ¬ z1 = 0 then (rOk 0 v1)
   else (if (v1 2 a0 7) < 0 then (rOk 0 v1)
   else (if (v1 4 (v1 2 a0 7) 3) = 0 then (rOk 0 v1)
   else (if 100 < (w32 (a1 - (v1 4 (v1 2 a0 7) 0))) then (rOk 0 v1)
   else (rOk 1 v1)))))))
set_option maxRecDepth 100000 in
set_option maxHeartbeats 4000000 in
theorem k_X2_isFlippedOn (a0 a1 : Int) (h0 : 0 ≤ a0) (x : Cx) (v : V) (F : Fx x cX2_isFlippedOn RX2 "isFlippedOn" ({ frames := 1, cells := 0, slots := 0, locals := 20 }) 2 (some 2) (some .boolean) 0) (ho : ∀ a ∈ [(12, a0), (0, a1)], okv v a) : Gs x (sp_X2_isFlippedOn a0 a1 v) v 0 0 0 (avArgs 0 [(12, a0), (0, a1)]) [] := by
  show Gs x _ v 0 0 0 [(0, (12, a0)), (1, (0, a1))] []
  unfold sp_X2_isFlippedOn
  refine g_aload_n F rfl 0 rfl dX2_isFlippedOn_0 ?_
  refine g_callV F (by decide) (K := 2) (b := a0) [] [] ml_RX2_52 wi_X2_isHeldByArtist ws_X2_isHeldByArtist (c_X2_isHeldByArtist a0  (Int.not_lt.mp (Int.not_lt.mpr h0))) mi_X2_isHeldByArtist (by decide) ⟨_, rfl, rfl⟩ (Int.not_lt.mp (Int.not_lt.mpr h0)) rfl rfl rfl (Nat.le_of_ble_eq_true rfl) (Nat.le_of_ble_eq_true rfl) (Nat.le_of_ble_eq_true rfl) (Nat.le_of_ble_eq_true rfl) (Nat.le_of_ble_eq_true rfl) dX2_isFlippedOn_1 (fun z1 v1 hz1 => ?_)
  refine g_if_ne F rfl (tgt := 42) rfl dX2_isFlippedOn_4 (fun n2 => ?_) (fun n2 => ?_)
  · refine g_iconst F 2 rfl dX2_isFlippedOn_42 ?_
    exact g_ireturn F rfl rfl rfl rfl (Nat.le_of_ble_eq_true rfl) (Nat.le_of_ble_eq_true rfl) dX2_isFlippedOn_43
  · refine g_aload_n F rfl 0 rfl dX2_isFlippedOn_7 ?_
    refine g_get F (t := 14) (sI := 7) fl_RX2_34 rfl rfl (Int.not_lt.mp (Int.not_lt.mpr h0)) dX2_isFlippedOn_8 ?_
    refine g_ifnull F (tgt := 42) rfl dX2_isFlippedOn_11 (fun n3 => ?_) (fun n3 => ?_)
    · refine g_iconst F 2 rfl dX2_isFlippedOn_42 ?_
      exact g_ireturn F rfl rfl rfl rfl (Nat.le_of_ble_eq_true rfl) (Nat.le_of_ble_eq_true rfl) dX2_isFlippedOn_43
    · refine g_aload_n F rfl 0 rfl dX2_isFlippedOn_14 ?_
      refine g_get F (t := 14) (sI := 7) fl_RX2_34 rfl rfl (Int.not_lt.mp (Int.not_lt.mpr h0)) dX2_isFlippedOn_15 ?_
      refine g_get F (t := 2) (sI := 3) fl_RX2_56 rfl rfl (Int.not_lt.mp n3) dX2_isFlippedOn_18 ?_
      refine g_if_eq F rfl (tgt := 42) rfl dX2_isFlippedOn_21 (fun n4 => ?_) (fun n4 => ?_)
      · refine g_iconst F 2 rfl dX2_isFlippedOn_42 ?_
        exact g_ireturn F rfl rfl rfl rfl (Nat.le_of_ble_eq_true rfl) (Nat.le_of_ble_eq_true rfl) dX2_isFlippedOn_43
      · refine g_iload_n F rfl 1 rfl rfl dX2_isFlippedOn_24 ?_
        refine g_aload_n F rfl 0 rfl dX2_isFlippedOn_25 ?_
        refine g_get F (t := 14) (sI := 7) fl_RX2_34 rfl rfl (Int.not_lt.mp (Int.not_lt.mpr h0)) dX2_isFlippedOn_26 ?_
        refine g_get F (t := 0) (sI := 0) fl_RX2_62 rfl rfl (Int.not_lt.mp n3) dX2_isFlippedOn_29 ?_
        refine g_isub F rfl rfl dX2_isFlippedOn_32 ?_
        refine g_bipush F rfl (by decide) dX2_isFlippedOn_33 ?_
        refine g_icmp_gt F rfl rfl (tgt := 42) rfl dX2_isFlippedOn_35 (fun n5 => ?_) (fun n5 => ?_)
        · refine g_iconst F 2 rfl dX2_isFlippedOn_42 ?_
          exact g_ireturn F rfl rfl rfl rfl (Nat.le_of_ble_eq_true rfl) (Nat.le_of_ble_eq_true rfl) dX2_isFlippedOn_43
        · refine g_iconst F 2 rfl dX2_isFlippedOn_38 ?_
          refine g_goto F (tgt := 43) rfl dX2_isFlippedOn_39 ?_
          exact g_ireturn F rfl rfl rfl rfl (Nat.le_of_ble_eq_true rfl) (Nat.le_of_ble_eq_true rfl) dX2_isFlippedOn_43
theorem c_X2_isFlippedOn (a0 a1 : Int) (h0 : 0 ≤ a0) : ∀ l, Ct l yX2_isFlippedOn cX2_isFlippedOn 2 (some .boolean) ({ frames := 1, cells := 0, slots := 0, locals := 20 }) (some 2) [(12, a0), (0, a1)] (sp_X2_isFlippedOn a0 a1) := g_method (by decide +kernel) (Nat.le_of_ble_eq_true rfl) (fun x v F ho => k_X2_isFlippedOn a0 a1 h0 x v F ho)
def sp_X2_takeOver (a0 a1 : Int) (v : V) : Res := (rLet (up v 2 a0 3 a1) (fun v1 => (rLet (up v1 2 a0 6 (-1)) (fun v2 => (rLet (up v2 2 a0 7 (-1)) (fun v3 => (rOk 0 v3)))))))
set_option maxRecDepth 100000 in
set_option maxHeartbeats 4000000 in
theorem k_X2_takeOver (a0 a1 : Int) (h0 : 0 ≤ a0) (x : Cx) (v : V) (F : Fx x cX2_takeOver RX2 "takeOver" ({ frames := 0, cells := 0, slots := 0, locals := 0 }) 2 none none 0) (ho : ∀ a ∈ [(12, a0), (13, a1)], okv v a) : Gs x (sp_X2_takeOver a0 a1 v) v 0 0 0 (avArgs 0 [(12, a0), (13, a1)]) [] := by
  show Gs x _ v 0 0 0 [(0, (12, a0)), (1, (13, a1))] []
  unfold sp_X2_takeOver
  refine g_aload_n F rfl 0 rfl dX2_takeOver_0 ?_
  refine g_aload_n F rfl 1 rfl dX2_takeOver_1 ?_
  refine h_put F (sI := 3) fl_RX2_19 ⟨_, rfl, Or.inl rfl⟩ rfl rfl (Int.not_lt.mp (Int.not_lt.mpr h0)) dX2_takeOver_2 (fun v1 => ?_)
  refine g_aload_n F rfl 0 rfl dX2_takeOver_5 ?_
  refine g_null F 0 dX2_takeOver_6 ?_
  refine h_put F (sI := 6) fl_RX2_38 ⟨_, rfl, Or.inl rfl⟩ rfl rfl (Int.not_lt.mp (Int.not_lt.mpr h0)) dX2_takeOver_7 (fun v2 => ?_)
  refine g_aload_n F rfl 0 rfl dX2_takeOver_10 ?_
  refine g_null F 4 dX2_takeOver_11 ?_
  refine h_put F (sI := 7) fl_RX2_34 ⟨_, rfl, Or.inl rfl⟩ rfl rfl (Int.not_lt.mp (Int.not_lt.mpr h0)) dX2_takeOver_12 (fun v3 => ?_)
  exact g_return F rfl (Nat.le_of_ble_eq_true rfl) (Nat.le_of_ble_eq_true rfl) dX2_takeOver_15
theorem c_X2_takeOver (a0 a1 : Int) (h0 : 0 ≤ a0) : ∀ l, Ct l yX2_takeOver cX2_takeOver 2 none ({ frames := 0, cells := 0, slots := 0, locals := 0 }) none [(12, a0), (13, a1)] (sp_X2_takeOver a0 a1) := g_method (by decide +kernel) (Nat.le_of_ble_eq_true rfl) (fun x v F ho => k_X2_takeOver a0 a1 h0 x v F ho)
def lp_X6_doubtOn_12 (l0 l1 : Int) (k : V → Int → Int → Int → Res) : Nat → V → Int → Int → Int → Res
  | 0, _, _, _, _ => none
  | n + 1, v, l2, l3, l4 => (if l4 < 0 then (k v l2 l3 l4)
   else (chk (0 ≤ (v 6 l0 2)) (chk (0 ≤ l4 ∧ l4 < 50) (chk (0 ≤ (v 15 (v 6 l0 2) l4)) (chk (0 ≤ (v 5 (v 15 (v 6 l0 2) l4) 0)) (if l1 < (v 5 (v 15 (v 6 l0 2) l4) 1) then (lp_X6_doubtOn_12 l0 l1 k n v l2 l3 (w32 (l4 + (-1))))
   else (if ¬ (and32 l3 (shl32 1 (v 3 (v 5 (v 15 (v 6 l0 2) l4) 0) 0))) = 0 then (lp_X6_doubtOn_12 l0 l1 k n v l2 l3 (w32 (l4 + (-1))))
   else (if (v 5 (v 15 (v 6 l0 2) l4) 2) = 0 then (lp_X6_doubtOn_12 l0 l1 k n v (w32 (l2 + (v 3 (v 5 (v 15 (v 6 l0 2) l4) 0) 3))) (or32 l3 (shl32 1 (v 3 (v 5 (v 15 (v 6 l0 2) l4) 0) 0))) (w32 (l4 + (-1))))
   else (lp_X6_doubtOn_12 l0 l1 k n v (w32 (l2 + (w32 (-(v 3 (v 5 (v 15 (v 6 l0 2) l4) 0) 3))))) (or32 l3 (shl32 1 (v 3 (v 5 (v 15 (v 6 l0 2) l4) 0) 0))) (w32 (l4 + (-1))))))))))))
set_option maxRecDepth 100000 in
set_option maxHeartbeats 4000000 in
theorem kl_X6_doubtOn_12 {l0 l1 : Int} (h0 : 0 ≤ l0) {x : Cx} (F : Fx x cX6_doubtOn RX6 "doubtOn" ({ frames := 0, cells := 0, slots := 0, locals := 0 }) 7 (some 0) (some .int) 0) {k : V → Int → Int → Int → Res} (hk : ∀ (v : V) (l2 l3 l4 : Int), Gs x (k v l2 l3 l4) v 0 0 96 [(0, (16, l0)), (1, (0, l1)), (2, (0, l2)), (3, (0, l3)), (4, (0, l4))] []) : ∀ (n : Nat) (v : V) (l2 l3 l4 : Int), Gs x (lp_X6_doubtOn_12 l0 l1 k n v l2 l3 l4) v 0 0 12 [(0, (16, l0)), (1, (0, l1)), (2, (0, l2)), (3, (0, l3)), (4, (0, l4))] [] := by
  intro n
  induction n with
  | zero => intro v l2 l3 l4; exact g_none
  | succ n ih =>
    intro v l2 l3 l4
    rw [lp_X6_doubtOn_12]
    refine g_iload F 4 rfl rfl dX6_doubtOn_12 ?_
    refine g_if_lt F rfl (tgt := 96) rfl dX6_doubtOn_14 (fun n1 => ?_) (fun n1 => ?_)
    · refine g_loc [(0, 16), (1, 0), (2, 0), (3, 0), (4, 0)] rfl ?_
      exact hk v l2 l3 l4
    · refine g_aload_n F rfl 0 rfl dX6_doubtOn_17 ?_
      refine g_get F (t := 25) (sI := 2) fl_RX6_11 rfl rfl (Int.not_lt.mp (Int.not_lt.mpr h0)) dX6_doubtOn_18 ?_
      refine g_iload F 4 rfl rfl dX6_doubtOn_21 ?_
      refine g_chk (fun n2 => ?_)
      refine g_chk (fun n3 => ?_)
      refine h_aald F (n := 50) ak_15 (Int.not_lt.mp (Int.not_lt.mpr n2)) n3 rfl dX6_doubtOn_23 ?_
      refine g_astore F (Nat.le_of_ble_eq_true rfl) (ls' := [(5, (15, (v 15 (v 6 l0 2) l4))), (0, (16, l0)), (1, (0, l1)), (2, (0, l2)), (3, (0, l3)), (4, (0, l4))]) rfl dX6_doubtOn_24 ?_
      refine g_iconst F 2 rfl dX6_doubtOn_26 ?_
      refine g_aload F 0 rfl dX6_doubtOn_27 ?_
      refine g_chk (fun n4 => ?_)
      refine g_get F (t := 13) (sI := 0) fl_RX6_57 rfl rfl (Int.not_lt.mp (Int.not_lt.mpr n4)) dX6_doubtOn_29 ?_
      refine g_chk (fun n5 => ?_)
      refine g_get F (t := 0) (sI := 0) fl_RX6_60 rfl rfl (Int.not_lt.mp (Int.not_lt.mpr n5)) dX6_doubtOn_32 ?_
      refine g_ishl F rfl rfl dX6_doubtOn_35 ?_
      refine g_istore F rfl (Nat.le_of_ble_eq_true rfl) (ls' := [(6, (0, (shl32 1 (v 3 (v 5 (v 15 (v 6 l0 2) l4) 0) 0)))), (5, (15, (v 15 (v 6 l0 2) l4))), (0, (16, l0)), (1, (0, l1)), (2, (0, l2)), (3, (0, l3)), (4, (0, l4))]) rfl dX6_doubtOn_36 ?_
      refine g_aload F 1 rfl dX6_doubtOn_38 ?_
      refine g_get F (t := 0) (sI := 1) fl_RX6_61 rfl rfl (Int.not_lt.mp (Int.not_lt.mpr n4)) dX6_doubtOn_40 ?_
      refine g_iload_n F rfl 3 rfl rfl dX6_doubtOn_43 ?_
      refine g_icmp_gt F rfl rfl (tgt := 90) rfl dX6_doubtOn_44 (fun n6 => ?_) (fun n6 => ?_)
      · refine g_iinc F 6 rfl rfl (Nat.le_of_ble_eq_true rfl) (ls' := [(4, (0, (w32 (l4 + (-1))))), (6, (0, (shl32 1 (v 3 (v 5 (v 15 (v 6 l0 2) l4) 0) 0)))), (5, (15, (v 15 (v 6 l0 2) l4))), (0, (16, l0)), (1, (0, l1)), (2, (0, l2)), (3, (0, l3))]) rfl dX6_doubtOn_90 ?_
        refine g_goto F (tgt := 12) rfl dX6_doubtOn_93 ?_
        refine g_loc [(3, 16), (4, 0), (5, 0), (6, 0), (0, 0)] rfl ?_
        exact ih v l2 l3 (w32 (l4 + (-1)))
      · refine g_iload_n F rfl 5 rfl rfl dX6_doubtOn_47 ?_
        refine g_iload F 0 rfl rfl dX6_doubtOn_48 ?_
        refine g_iand F rfl rfl dX6_doubtOn_50 ?_
        refine g_if_ne F rfl (tgt := 90) rfl dX6_doubtOn_51 (fun n7 => ?_) (fun n7 => ?_)
        · refine g_iinc F 6 rfl rfl (Nat.le_of_ble_eq_true rfl) (ls' := [(4, (0, (w32 (l4 + (-1))))), (6, (0, (shl32 1 (v 3 (v 5 (v 15 (v 6 l0 2) l4) 0) 0)))), (5, (15, (v 15 (v 6 l0 2) l4))), (0, (16, l0)), (1, (0, l1)), (2, (0, l2)), (3, (0, l3))]) rfl dX6_doubtOn_90 ?_
          refine g_goto F (tgt := 12) rfl dX6_doubtOn_93 ?_
          refine g_loc [(3, 16), (4, 0), (5, 0), (6, 0), (0, 0)] rfl ?_
          exact ih v l2 l3 (w32 (l4 + (-1)))
        · refine g_iload_n F rfl 5 rfl rfl dX6_doubtOn_54 ?_
          refine g_iload F 0 rfl rfl dX6_doubtOn_55 ?_
          refine g_ior F rfl rfl dX6_doubtOn_57 ?_
          refine g_istore_n F rfl rfl (Nat.le_of_ble_eq_true rfl) (ls' := [(3, (0, (or32 l3 (shl32 1 (v 3 (v 5 (v 15 (v 6 l0 2) l4) 0) 0))))), (6, (0, (shl32 1 (v 3 (v 5 (v 15 (v 6 l0 2) l4) 0) 0)))), (5, (15, (v 15 (v 6 l0 2) l4))), (0, (16, l0)), (1, (0, l1)), (2, (0, l2)), (4, (0, l4))]) rfl dX6_doubtOn_58 ?_
          refine g_iload_n F rfl 5 rfl rfl dX6_doubtOn_59 ?_
          refine g_aload F 2 rfl dX6_doubtOn_60 ?_
          refine g_get F (t := 2) (sI := 2) fl_RX6_64 rfl rfl (Int.not_lt.mp (Int.not_lt.mpr n4)) dX6_doubtOn_62 ?_
          refine g_if_eq F rfl (tgt := 80) rfl dX6_doubtOn_65 (fun n8 => ?_) (fun n8 => ?_)
          · refine g_aload F 2 rfl dX6_doubtOn_80 ?_
            refine g_get F (t := 13) (sI := 0) fl_RX6_57 rfl rfl (Int.not_lt.mp (Int.not_lt.mpr n4)) dX6_doubtOn_82 ?_
            refine g_get F (t := 0) (sI := 3) fl_RX6_68 rfl rfl (Int.not_lt.mp (Int.not_lt.mpr n5)) dX6_doubtOn_85 ?_
            refine g_iadd F rfl rfl dX6_doubtOn_88 ?_
            refine g_istore_n F rfl rfl (Nat.le_of_ble_eq_true rfl) (ls' := [(2, (0, (w32 (l2 + (v 3 (v 5 (v 15 (v 6 l0 2) l4) 0) 3))))), (3, (0, (or32 l3 (shl32 1 (v 3 (v 5 (v 15 (v 6 l0 2) l4) 0) 0))))), (6, (0, (shl32 1 (v 3 (v 5 (v 15 (v 6 l0 2) l4) 0) 0)))), (5, (15, (v 15 (v 6 l0 2) l4))), (0, (16, l0)), (1, (0, l1)), (4, (0, l4))]) rfl dX6_doubtOn_89 ?_
            refine g_iinc F 6 rfl rfl (Nat.le_of_ble_eq_true rfl) (ls' := [(4, (0, (w32 (l4 + (-1))))), (2, (0, (w32 (l2 + (v 3 (v 5 (v 15 (v 6 l0 2) l4) 0) 3))))), (3, (0, (or32 l3 (shl32 1 (v 3 (v 5 (v 15 (v 6 l0 2) l4) 0) 0))))), (6, (0, (shl32 1 (v 3 (v 5 (v 15 (v 6 l0 2) l4) 0) 0)))), (5, (15, (v 15 (v 6 l0 2) l4))), (0, (16, l0)), (1, (0, l1))]) rfl dX6_doubtOn_90 ?_
            refine g_goto F (tgt := 12) rfl dX6_doubtOn_93 ?_
            refine g_loc [(5, 16), (6, 0), (1, 0), (2, 0), (0, 0)] rfl ?_
            exact ih v (w32 (l2 + (v 3 (v 5 (v 15 (v 6 l0 2) l4) 0) 3))) (or32 l3 (shl32 1 (v 3 (v 5 (v 15 (v 6 l0 2) l4) 0) 0))) (w32 (l4 + (-1)))
          · refine g_aload F 2 rfl dX6_doubtOn_68 ?_
            refine g_get F (t := 13) (sI := 0) fl_RX6_57 rfl rfl (Int.not_lt.mp (Int.not_lt.mpr n4)) dX6_doubtOn_70 ?_
            refine g_get F (t := 0) (sI := 3) fl_RX6_68 rfl rfl (Int.not_lt.mp (Int.not_lt.mpr n5)) dX6_doubtOn_73 ?_
            refine g_ineg F rfl dX6_doubtOn_76 ?_
            refine g_goto F (tgt := 88) rfl dX6_doubtOn_77 ?_
            refine g_iadd F rfl rfl dX6_doubtOn_88 ?_
            refine g_istore_n F rfl rfl (Nat.le_of_ble_eq_true rfl) (ls' := [(2, (0, (w32 (l2 + (w32 (-(v 3 (v 5 (v 15 (v 6 l0 2) l4) 0) 3))))))), (3, (0, (or32 l3 (shl32 1 (v 3 (v 5 (v 15 (v 6 l0 2) l4) 0) 0))))), (6, (0, (shl32 1 (v 3 (v 5 (v 15 (v 6 l0 2) l4) 0) 0)))), (5, (15, (v 15 (v 6 l0 2) l4))), (0, (16, l0)), (1, (0, l1)), (4, (0, l4))]) rfl dX6_doubtOn_89 ?_
            refine g_iinc F 6 rfl rfl (Nat.le_of_ble_eq_true rfl) (ls' := [(4, (0, (w32 (l4 + (-1))))), (2, (0, (w32 (l2 + (w32 (-(v 3 (v 5 (v 15 (v 6 l0 2) l4) 0) 3))))))), (3, (0, (or32 l3 (shl32 1 (v 3 (v 5 (v 15 (v 6 l0 2) l4) 0) 0))))), (6, (0, (shl32 1 (v 3 (v 5 (v 15 (v 6 l0 2) l4) 0) 0)))), (5, (15, (v 15 (v 6 l0 2) l4))), (0, (16, l0)), (1, (0, l1))]) rfl dX6_doubtOn_90 ?_
            refine g_goto F (tgt := 12) rfl dX6_doubtOn_93 ?_
            refine g_loc [(5, 16), (6, 0), (1, 0), (2, 0), (0, 0)] rfl ?_
            exact ih v (w32 (l2 + (w32 (-(v 3 (v 5 (v 15 (v 6 l0 2) l4) 0) 3))))) (or32 l3 (shl32 1 (v 3 (v 5 (v 15 (v 6 l0 2) l4) 0) 0))) (w32 (l4 + (-1)))
def sp_X6_doubtOn (a0 a1 : Int) (v : V) : Res := (lp_X6_doubtOn_12 a0 a1 (fun v9 u9_2 u9_3 u9_4 => (rOk u9_2 v9)) 200 v 0 0 (w32 ((v 6 a0 4) - 1)))
set_option maxRecDepth 100000 in
set_option maxHeartbeats 4000000 in
theorem k_X6_doubtOn (a0 a1 : Int) (h0 : 0 ≤ a0) (x : Cx) (v : V) (F : Fx x cX6_doubtOn RX6 "doubtOn" ({ frames := 0, cells := 0, slots := 0, locals := 0 }) 7 (some 0) (some .int) 0) (ho : ∀ a ∈ [(16, a0), (0, a1)], okv v a) : Gs x (sp_X6_doubtOn a0 a1 v) v 0 0 0 (avArgs 0 [(16, a0), (0, a1)]) [] := by
  show Gs x _ v 0 0 0 [(0, (16, a0)), (1, (0, a1))] []
  unfold sp_X6_doubtOn
  refine g_iconst F 2 rfl dX6_doubtOn_0 ?_
  refine g_istore_n F rfl rfl (Nat.le_of_ble_eq_true rfl) (ls' := [(2, (2, 0)), (0, (16, a0)), (1, (0, a1))]) rfl dX6_doubtOn_1 ?_
  refine g_iconst F 2 rfl dX6_doubtOn_2 ?_
  refine g_istore_n F rfl rfl (Nat.le_of_ble_eq_true rfl) (ls' := [(3, (2, 0)), (2, (2, 0)), (0, (16, a0)), (1, (0, a1))]) rfl dX6_doubtOn_3 ?_
  refine g_aload_n F rfl 2 rfl dX6_doubtOn_4 ?_
  refine g_get F (t := 0) (sI := 4) fl_RX6_54 rfl rfl (Int.not_lt.mp (Int.not_lt.mpr h0)) dX6_doubtOn_5 ?_
  refine g_iconst F 2 rfl dX6_doubtOn_8 ?_
  refine g_isub F rfl rfl dX6_doubtOn_9 ?_
  refine g_istore F rfl (Nat.le_of_ble_eq_true rfl) (ls' := [(4, (0, (w32 ((v 6 a0 4) - 1)))), (3, (2, 0)), (2, (2, 0)), (0, (16, a0)), (1, (0, a1))]) rfl dX6_doubtOn_10 ?_
  refine g_loc [(3, 16), (4, 0), (2, 0), (1, 0), (0, 0)] rfl ?_
  refine kl_X6_doubtOn_12 (Int.not_lt.mp (Int.not_lt.mpr h0)) F (fun v9 u9_2 u9_3 u9_4 => ?_) 200 v 0 0 (w32 ((v 6 a0 4) - 1))
  refine g_iload_n F rfl 2 rfl rfl dX6_doubtOn_96 ?_
  exact g_ireturn F rfl rfl rfl rfl (Nat.le_of_ble_eq_true rfl) (Nat.le_of_ble_eq_true rfl) dX6_doubtOn_97
theorem c_X6_doubtOn (a0 a1 : Int) (h0 : 0 ≤ a0) : ∀ l, Ct l yX6_doubtOn cX6_doubtOn 7 (some .int) ({ frames := 0, cells := 0, slots := 0, locals := 0 }) (some 0) [(16, a0), (0, a1)] (sp_X6_doubtOn a0 a1) := g_method (by decide +kernel) (Nat.le_of_ble_eq_true rfl) (fun x v F ho => k_X6_doubtOn a0 a1 h0 x v F ho)
def sp_X6_valueOn (a0 a1 : Int) (v : V) : Res := (rB (sp_X6_doubtOn a0 a1 v) (fun z1 v1 => (if z1 ≤ 0 then (rOk (v1 6 a0 5) v1)
   else (rOk (w32 ((v1 6 a0 5).tdiv 10)) v1))))
set_option maxRecDepth 100000 in
set_option maxHeartbeats 4000000 in
theorem k_X6_valueOn (a0 a1 : Int) (h0 : 0 ≤ a0) (x : Cx) (v : V) (F : Fx x cX6_valueOn RX6 "valueOn" ({ frames := 1, cells := 0, slots := 0, locals := 26 }) 2 (some 0) (some .int) 0) (ho : ∀ a ∈ [(16, a0), (0, a1)], okv v a) : Gs x (sp_X6_valueOn a0 a1 v) v 0 0 0 (avArgs 0 [(16, a0), (0, a1)]) [] := by
  show Gs x _ v 0 0 0 [(0, (16, a0)), (1, (0, a1))] []
  unfold sp_X6_valueOn
  refine g_aload_n F rfl 0 rfl dX6_valueOn_0 ?_
  refine g_iload_n F rfl 1 rfl rfl dX6_valueOn_1 ?_
  refine g_callV F (by decide) (K := 6) (b := a0) [(0, a1)] [0] ml_RX6_50 wi_X6_doubtOn ws_X6_doubtOn (c_X6_doubtOn a0 a1 (Int.not_lt.mp (Int.not_lt.mpr h0))) mi_X6_doubtOn (by decide) ⟨_, rfl, rfl⟩ (Int.not_lt.mp (Int.not_lt.mpr h0)) rfl rfl rfl (Nat.le_of_ble_eq_true rfl) (Nat.le_of_ble_eq_true rfl) (Nat.le_of_ble_eq_true rfl) (Nat.le_of_ble_eq_true rfl) (Nat.le_of_ble_eq_true rfl) dX6_valueOn_2 (fun z1 v1 hz1 => ?_)
  refine g_if_le F rfl (tgt := 18) rfl dX6_valueOn_5 (fun n2 => ?_) (fun n2 => ?_)
  · refine g_aload_n F rfl 0 rfl dX6_valueOn_18 ?_
    refine g_get F (t := 0) (sI := 5) fl_RX6_32 rfl rfl (Int.not_lt.mp (Int.not_lt.mpr h0)) dX6_valueOn_19 ?_
    exact g_ireturn F rfl rfl rfl rfl (Nat.le_of_ble_eq_true rfl) (Nat.le_of_ble_eq_true rfl) dX6_valueOn_22
  · refine g_aload_n F rfl 0 rfl dX6_valueOn_8 ?_
    refine g_get F (t := 0) (sI := 5) fl_RX6_32 rfl rfl (Int.not_lt.mp (Int.not_lt.mpr h0)) dX6_valueOn_9 ?_
    refine g_bipush F rfl (by decide) dX6_valueOn_12 ?_
    refine g_idiv F (by decide) rfl rfl dX6_valueOn_14 ?_
    refine g_goto F (tgt := 22) rfl dX6_valueOn_15 ?_
    exact g_ireturn F rfl rfl rfl rfl (Nat.le_of_ble_eq_true rfl) (Nat.le_of_ble_eq_true rfl) dX6_valueOn_22
theorem c_X6_valueOn (a0 a1 : Int) (h0 : 0 ≤ a0) : ∀ l, Ct l yX6_valueOn cX6_valueOn 2 (some .int) ({ frames := 1, cells := 0, slots := 0, locals := 26 }) (some 0) [(16, a0), (0, a1)] (sp_X6_valueOn a0 a1) := g_method (by decide +kernel) (Nat.le_of_ble_eq_true rfl) (fun x v F ho => k_X6_valueOn a0 a1 h0 x v F ho)
def sp_X2_worth (a0 a1 : Int) (v : V) : Res := (chk (0 ≤ (v 2 a0 1)) (rB (sp_X6_valueOn (v 2 a0 1) a1 v) (fun z1 v1 => (rOk (w32 ((w32 (z1 * (v1 2 a0 4))).tdiv 60)) v1))))
set_option maxRecDepth 100000 in
set_option maxHeartbeats 4000000 in
theorem k_X2_worth (a0 a1 : Int) (h0 : 0 ≤ a0) (x : Cx) (v : V) (F : Fx x cX2_worth RX2 "worth" ({ frames := 2, cells := 0, slots := 0, locals := 47 }) 2 (some 0) (some .int) 0) (ho : ∀ a ∈ [(12, a0), (0, a1)], okv v a) : Gs x (sp_X2_worth a0 a1 v) v 0 0 0 (avArgs 0 [(12, a0), (0, a1)]) [] := by
  show Gs x _ v 0 0 0 [(0, (12, a0)), (1, (0, a1))] []
  unfold sp_X2_worth
  refine g_aload_n F rfl 0 rfl dX2_worth_0 ?_
  refine g_get F (t := 16) (sI := 1) fl_RX2_15 rfl rfl (Int.not_lt.mp (Int.not_lt.mpr h0)) dX2_worth_1 ?_
  refine g_iload_n F rfl 1 rfl rfl dX2_worth_4 ?_
  refine g_chk (fun n2 => ?_)
  refine g_callVN F (by decide) (K := 6) (b := (v 2 a0 1)) [(0, a1)] [0] ml_RX2_65 wi_X6_valueOn ws_X6_valueOn (c_X6_valueOn (v 2 a0 1) a1 (Int.not_lt.mp (Int.not_lt.mpr n2))) mi_X6_valueOn (by decide) ⟨_, rfl, rfl⟩ (Int.not_lt.mp (Int.not_lt.mpr n2)) rfl rfl rfl (Nat.le_of_ble_eq_true rfl) (Nat.le_of_ble_eq_true rfl) (Nat.le_of_ble_eq_true rfl) (Nat.le_of_ble_eq_true rfl) (Nat.le_of_ble_eq_true rfl) dX2_worth_5 (fun z1 v1 hz1 => ?_)
  refine g_aload_n F rfl 0 rfl dX2_worth_8 ?_
  refine g_get F (t := 0) (sI := 4) fl_RX2_23 rfl rfl (Int.not_lt.mp (Int.not_lt.mpr h0)) dX2_worth_9 ?_
  refine g_imul F rfl rfl dX2_worth_12 ?_
  refine g_bipush F rfl (by decide) dX2_worth_13 ?_
  refine g_idiv F (by decide) rfl rfl dX2_worth_15 ?_
  exact g_ireturn F rfl rfl rfl rfl (Nat.le_of_ble_eq_true rfl) (Nat.le_of_ble_eq_true rfl) dX2_worth_16
theorem c_X2_worth (a0 a1 : Int) (h0 : 0 ≤ a0) : ∀ l, Ct l yX2_worth cX2_worth 2 (some .int) ({ frames := 2, cells := 0, slots := 0, locals := 47 }) (some 0) [(12, a0), (0, a1)] (sp_X2_worth a0 a1) := g_method (by decide +kernel) (Nat.le_of_ble_eq_true rfl) (fun x v F ho => k_X2_worth a0 a1 h0 x v F ho)
def sp_X2_saleAhead (a0 : Int) (v : V) : Res := (if (v 2 a0 2) < 0 then (rOk (-1) v)
   else (rOk (v 2 (v 2 a0 2) 7) v))
set_option maxRecDepth 100000 in
set_option maxHeartbeats 4000000 in
theorem k_X2_saleAhead (a0 : Int) (h0 : 0 ≤ a0) (x : Cx) (v : V) (F : Fx x cX2_saleAhead RX2 "saleAhead" ({ frames := 0, cells := 0, slots := 0, locals := 0 }) 1 (some 14) (some (.object "FreePort$Sale")) 0) (ho : ∀ a ∈ [(12, a0)], okv v a) : Gs x (sp_X2_saleAhead a0 v) v 0 0 0 (avArgs 0 [(12, a0)]) [] := by
  show Gs x _ v 0 0 0 [(0, (12, a0))] []
  unfold sp_X2_saleAhead
  refine g_aload_n F rfl 0 rfl dX2_saleAhead_0 ?_
  refine g_get F (t := 12) (sI := 2) fl_RX2_30 rfl rfl (Int.not_lt.mp (Int.not_lt.mpr h0)) dX2_saleAhead_1 ?_
  refine g_ifnonnull F (tgt := 11) rfl dX2_saleAhead_4 (fun n1 => ?_) (fun n1 => ?_)
  · refine g_null F 4 dX2_saleAhead_7 ?_
    refine g_goto F (tgt := 18) rfl dX2_saleAhead_8 ?_
    exact g_areturn F rfl (Or.inl ⟨_, rfl⟩) (Nat.le_of_ble_eq_true rfl) (Nat.le_of_ble_eq_true rfl) dX2_saleAhead_18
  · refine g_aload_n F rfl 0 rfl dX2_saleAhead_11 ?_
    refine g_get F (t := 12) (sI := 2) fl_RX2_30 rfl rfl (Int.not_lt.mp (Int.not_lt.mpr h0)) dX2_saleAhead_12 ?_
    refine g_get F (t := 14) (sI := 7) fl_RX2_34 rfl rfl (Int.not_lt.mp n1) dX2_saleAhead_15 ?_
    exact g_areturn F rfl (Or.inl ⟨_, rfl⟩) (Nat.le_of_ble_eq_true rfl) (Nat.le_of_ble_eq_true rfl) dX2_saleAhead_18
theorem c_X2_saleAhead (a0 : Int) (h0 : 0 ≤ a0) : ∀ l, Ct l yX2_saleAhead cX2_saleAhead 1 (some (.object "FreePort$Sale")) ({ frames := 0, cells := 0, slots := 0, locals := 0 }) (some 14) [(12, a0)] (sp_X2_saleAhead a0) := g_method (by decide +kernel) (Nat.le_of_ble_eq_true rfl) (fun x v F ho => k_X2_saleAhead a0 h0 x v F ho)
def lp_X2_chain_4 (l0 : Int) (k : V → Int → Int → Res) : Nat → V → Int → Int → Res
  | 0, _, _, _ => none
  | n + 1, v, l1, l2 => (if l2 < 0 then (k v l1 l2)
   else (if (v 2 l2 7) < 0 then (k v l1 l2)
   else (rB (sp_X2_saleAhead l2  v) (fun z3 v3 => (if z3 < 0 then (lp_X2_chain_4 l0 k n v3 (w32 (l1 + 1)) (-1))
   else (chk (0 ≤ (v3 2 l2 7)) (if 7 < (w32 ((v3 4 (v3 2 l2 7) 0) - (v3 4 z3 0))) then (lp_X2_chain_4 l0 k n v3 (w32 (l1 + 1)) (-1))
   else (lp_X2_chain_4 l0 k n v3 (w32 (l1 + 1)) (v3 2 l2 2)))))))))
set_option maxRecDepth 100000 in
set_option maxHeartbeats 4000000 in
theorem kl_X2_chain_4 {l0 : Int} (h0 : 0 ≤ l0) {x : Cx} (F : Fx x cX2_chain RX2 "chain" ({ frames := 1, cells := 0, slots := 0, locals := 20 }) 5 (some 0) (some .int) 0) {k : V → Int → Int → Res} (hk : ∀ (v : V) (l1 l2 : Int), Gs x (k v l1 l2) v 0 0 68 [(0, (12, l0)), (1, (0, l1)), (2, (12, l2))] []) : ∀ (n : Nat) (v : V) (l1 l2 : Int), Gs x (lp_X2_chain_4 l0 k n v l1 l2) v 0 0 4 [(0, (12, l0)), (1, (0, l1)), (2, (12, l2))] [] := by
  intro n
  induction n with
  | zero => intro v l1 l2; exact g_none
  | succ n ih =>
    intro v l1 l2
    rw [lp_X2_chain_4]
    refine g_aload_n F rfl 2 rfl dX2_chain_4 ?_
    refine g_ifnull F (tgt := 68) rfl dX2_chain_5 (fun n1 => ?_) (fun n1 => ?_)
    · refine g_loc [(0, 12), (1, 0), (2, 12)] rfl ?_
      exact hk v l1 l2
    · refine g_aload_n F rfl 2 rfl dX2_chain_8 ?_
      refine g_get F (t := 14) (sI := 7) fl_RX2_34 rfl rfl (Int.not_lt.mp n1) dX2_chain_9 ?_
      refine g_ifnull F (tgt := 68) rfl dX2_chain_12 (fun n2 => ?_) (fun n2 => ?_)
      · refine g_loc [(0, 12), (1, 0), (2, 12)] rfl ?_
        exact hk v l1 l2
      · refine g_iinc F 1 rfl rfl (Nat.le_of_ble_eq_true rfl) (ls' := [(1, (0, (w32 (l1 + 1)))), (0, (12, l0)), (2, (12, l2))]) rfl dX2_chain_15 ?_
        refine g_aload_n F rfl 2 rfl dX2_chain_18 ?_
        refine g_callV F (by decide) (K := 2) (b := l2) [] [] ml_RX2_69 wi_X2_saleAhead ws_X2_saleAhead (c_X2_saleAhead l2  (Int.not_lt.mp n1)) mi_X2_saleAhead (by decide) ⟨_, rfl, rfl⟩ (Int.not_lt.mp n1) rfl rfl rfl (Nat.le_of_ble_eq_true rfl) (Nat.le_of_ble_eq_true rfl) (Nat.le_of_ble_eq_true rfl) (Nat.le_of_ble_eq_true rfl) (Nat.le_of_ble_eq_true rfl) dX2_chain_19 (fun z3 v3 hz3 => ?_)
        refine g_astore_n F rfl (Nat.le_of_ble_eq_true rfl) (ls' := [(3, (14, z3)), (1, (0, (w32 (l1 + 1)))), (0, (12, l0)), (2, (12, l2))]) rfl dX2_chain_22 ?_
        refine g_aload_n F rfl 0 rfl dX2_chain_23 ?_
        refine g_ifnull F (tgt := 48) rfl dX2_chain_24 (fun n4 => ?_) (fun n4 => ?_)
        · refine g_iconst F 2 rfl dX2_chain_48 ?_
          refine g_istore F rfl (Nat.le_of_ble_eq_true rfl) (ls' := [(4, (2, 0)), (3, (14, z3)), (1, (0, (w32 (l1 + 1)))), (0, (12, l0)), (2, (12, l2))]) rfl dX2_chain_49 ?_
          refine g_iload F 0 rfl rfl dX2_chain_51 ?_
          refine g_if_eq_t F rfl (by decide) (tgt := 63) rfl dX2_chain_53 ?_
          refine g_null F 2 dX2_chain_63 ?_
          refine g_astore_n F rfl (Nat.le_of_ble_eq_true rfl) (ls' := [(2, (12, (-1))), (4, (2, 0)), (3, (14, z3)), (1, (0, (w32 (l1 + 1)))), (0, (12, l0))]) rfl dX2_chain_64 ?_
          refine g_goto F (tgt := 4) rfl dX2_chain_65 ?_
          refine g_loc [(4, 12), (3, 0), (0, 12)] rfl ?_
          exact ih v3 (w32 (l1 + 1)) (-1)
        · refine g_aload_n F rfl 3 rfl dX2_chain_27 ?_
          refine g_get F (t := 14) (sI := 7) fl_RX2_34 rfl rfl (Int.not_lt.mp n1) dX2_chain_28 ?_
          refine g_chk (fun n5 => ?_)
          refine g_get F (t := 0) (sI := 0) fl_RX2_62 rfl rfl (Int.not_lt.mp (Int.not_lt.mpr n5)) dX2_chain_31 ?_
          refine g_aload_n F rfl 0 rfl dX2_chain_34 ?_
          refine g_get F (t := 0) (sI := 0) fl_RX2_62 rfl rfl (Int.not_lt.mp n4) dX2_chain_35 ?_
          refine g_isub F rfl rfl dX2_chain_38 ?_
          refine g_bipush F rfl (by decide) dX2_chain_39 ?_
          refine g_icmp_gt F rfl rfl (tgt := 48) rfl dX2_chain_41 (fun n6 => ?_) (fun n6 => ?_)
          · refine g_iconst F 2 rfl dX2_chain_48 ?_
            refine g_istore F rfl (Nat.le_of_ble_eq_true rfl) (ls' := [(4, (2, 0)), (3, (14, z3)), (1, (0, (w32 (l1 + 1)))), (0, (12, l0)), (2, (12, l2))]) rfl dX2_chain_49 ?_
            refine g_iload F 0 rfl rfl dX2_chain_51 ?_
            refine g_if_eq_t F rfl (by decide) (tgt := 63) rfl dX2_chain_53 ?_
            refine g_null F 2 dX2_chain_63 ?_
            refine g_astore_n F rfl (Nat.le_of_ble_eq_true rfl) (ls' := [(2, (12, (-1))), (4, (2, 0)), (3, (14, z3)), (1, (0, (w32 (l1 + 1)))), (0, (12, l0))]) rfl dX2_chain_64 ?_
            refine g_goto F (tgt := 4) rfl dX2_chain_65 ?_
            refine g_loc [(4, 12), (3, 0), (0, 12)] rfl ?_
            exact ih v3 (w32 (l1 + 1)) (-1)
          · refine g_iconst F 2 rfl dX2_chain_44 ?_
            refine g_goto F (tgt := 49) rfl dX2_chain_45 ?_
            refine g_istore F rfl (Nat.le_of_ble_eq_true rfl) (ls' := [(4, (2, 1)), (3, (14, z3)), (1, (0, (w32 (l1 + 1)))), (0, (12, l0)), (2, (12, l2))]) rfl dX2_chain_49 ?_
            refine g_iload F 0 rfl rfl dX2_chain_51 ?_
            refine g_if_eq_f F rfl (by decide) (tgt := 63) rfl dX2_chain_53 ?_
            refine g_aload_n F rfl 4 rfl dX2_chain_56 ?_
            refine g_get F (t := 12) (sI := 2) fl_RX2_30 rfl rfl (Int.not_lt.mp n1) dX2_chain_57 ?_
            refine g_goto F (tgt := 64) rfl dX2_chain_60 ?_
            refine g_astore_n F rfl (Nat.le_of_ble_eq_true rfl) (ls' := [(2, (12, (v3 2 l2 2))), (4, (2, 1)), (3, (14, z3)), (1, (0, (w32 (l1 + 1)))), (0, (12, l0))]) rfl dX2_chain_64 ?_
            refine g_goto F (tgt := 4) rfl dX2_chain_65 ?_
            refine g_loc [(4, 12), (3, 0), (0, 12)] rfl ?_
            exact ih v3 (w32 (l1 + 1)) (v3 2 l2 2)
def sp_X2_chain (a0 : Int) (v : V) : Res := (lp_X2_chain_4 a0 (fun v7 u7_1 u7_2 => (rOk u7_1 v7)) 200 v 0 a0)
set_option maxRecDepth 100000 in
set_option maxHeartbeats 4000000 in
theorem k_X2_chain (a0 : Int) (h0 : 0 ≤ a0) (x : Cx) (v : V) (F : Fx x cX2_chain RX2 "chain" ({ frames := 1, cells := 0, slots := 0, locals := 20 }) 5 (some 0) (some .int) 0) (ho : ∀ a ∈ [(12, a0)], okv v a) : Gs x (sp_X2_chain a0 v) v 0 0 0 (avArgs 0 [(12, a0)]) [] := by
  show Gs x _ v 0 0 0 [(0, (12, a0))] []
  unfold sp_X2_chain
  refine g_iconst F 2 rfl dX2_chain_0 ?_
  refine g_istore_n F rfl rfl (Nat.le_of_ble_eq_true rfl) (ls' := [(1, (2, 0)), (0, (12, a0))]) rfl dX2_chain_1 ?_
  refine g_aload_n F rfl 1 rfl dX2_chain_2 ?_
  refine g_astore_n F rfl (Nat.le_of_ble_eq_true rfl) (ls' := [(2, (12, a0)), (1, (2, 0)), (0, (12, a0))]) rfl dX2_chain_3 ?_
  refine g_loc [(2, 12), (1, 0), (0, 12)] rfl ?_
  refine kl_X2_chain_4 (Int.not_lt.mp (Int.not_lt.mpr h0)) F (fun v7 u7_1 u7_2 => ?_) 200 v 0 a0
  refine g_iload_n F rfl 1 rfl rfl dX2_chain_68 ?_
  exact g_ireturn F rfl rfl rfl rfl (Nat.le_of_ble_eq_true rfl) (Nat.le_of_ble_eq_true rfl) dX2_chain_69
theorem c_X2_chain (a0 : Int) (h0 : 0 ≤ a0) : ∀ l, Ct l yX2_chain cX2_chain 5 (some .int) ({ frames := 1, cells := 0, slots := 0, locals := 20 }) (some 0) [(12, a0)] (sp_X2_chain a0) := g_method (by decide +kernel) (Nat.le_of_ble_eq_true rfl) (fun x v F ho => k_X2_chain a0 h0 x v F ho)
def sp_X3_init (a0 a1 a2 a3 : Int) (v : V) : Res := (rLet (up v 3 a0 0 a1) (fun v1 => (rLet (up v1 3 a0 1 a2) (fun v2 => (rLet (up v2 3 a0 2 a3) (fun v3 => (rOk 0 v3)))))))
set_option maxRecDepth 100000 in
set_option maxHeartbeats 4000000 in
theorem k_X3_init (a0 a1 a2 a3 : Int) (h0 : 0 ≤ a0) (x : Cx) (v : V) (F : Fx x cX3_init RX3 "<init>" ({ frames := 1, cells := 0, slots := 0, locals := 12 }) 4 none none 0) (ho : ∀ a ∈ [(13, a0), (0, a1), (0, a2), (0, a3)], okv v a) : Gs x (sp_X3_init a0 a1 a2 a3 v) v 0 0 0 (avArgs 0 [(13, a0), (0, a1), (0, a2), (0, a3)]) [] := by
  show Gs x _ v 0 0 0 [(0, (13, a0)), (1, (0, a1)), (2, (0, a2)), (3, (0, a3))] []
  unfold sp_X3_init
  refine g_aload_n F rfl 0 rfl dX3_init_0 ?_
  refine g_objinit F ol_RX3_1 oi_i oi_c (Nat.le_of_ble_eq_true rfl) (Int.not_lt.mp (Int.not_lt.mpr h0)) (Nat.le_of_ble_eq_true rfl) dX3_init_1 ?_
  refine g_aload_n F rfl 0 rfl dX3_init_4 ?_
  refine g_iload_n F rfl 1 rfl rfl dX3_init_5 ?_
  refine h_put F (sI := 0) fl_RX3_7 ⟨_, rfl, Or.inr ⟨rfl, rfl⟩⟩ rfl rfl (Int.not_lt.mp (Int.not_lt.mpr h0)) dX3_init_6 (fun v1 => ?_)
  refine g_aload_n F rfl 0 rfl dX3_init_9 ?_
  refine g_iload_n F rfl 2 rfl rfl dX3_init_10 ?_
  refine h_put F (sI := 1) fl_RX3_13 ⟨_, rfl, Or.inr ⟨rfl, rfl⟩⟩ rfl rfl (Int.not_lt.mp (Int.not_lt.mpr h0)) dX3_init_11 (fun v2 => ?_)
  refine g_aload_n F rfl 0 rfl dX3_init_14 ?_
  refine g_iload_n F rfl 3 rfl rfl dX3_init_15 ?_
  refine h_put F (sI := 2) fl_RX3_16 ⟨_, rfl, Or.inl rfl⟩ rfl rfl (Int.not_lt.mp (Int.not_lt.mpr h0)) dX3_init_16 (fun v3 => ?_)
  exact g_return F rfl (Nat.le_of_ble_eq_true rfl) (Nat.le_of_ble_eq_true rfl) dX3_init_19
theorem c_X3_init (a0 a1 a2 a3 : Int) (h0 : 0 ≤ a0) : ∀ l, Ct l yX3_init cX3_init 4 none ({ frames := 1, cells := 0, slots := 0, locals := 12 }) none [(13, a0), (0, a1), (0, a2), (0, a3)] (sp_X3_init a0 a1 a2 a3) := g_method (by decide +kernel) (Nat.le_of_ble_eq_true rfl) (fun x v F ho => k_X3_init a0 a1 a2 a3 h0 x v F ho)
def sp_X3_punishBy (a0 a1 : Int) (v : V) : Res := (chk (0 ≤ a1) (rLet (up v 3 a0 5 (or32 (v 3 a0 5) (shl32 1 (v 3 a1 0)))) (fun v2 => (rOk 0 v2))))
set_option maxRecDepth 100000 in
set_option maxHeartbeats 4000000 in
theorem k_X3_punishBy (a0 a1 : Int) (h0 : 0 ≤ a0) (x : Cx) (v : V) (F : Fx x cX3_punishBy RX3 "punishBy" ({ frames := 0, cells := 0, slots := 0, locals := 0 }) 2 none none 0) (ho : ∀ a ∈ [(13, a0), (13, a1)], okv v a) : Gs x (sp_X3_punishBy a0 a1 v) v 0 0 0 (avArgs 0 [(13, a0), (13, a1)]) [] := by
  show Gs x _ v 0 0 0 [(0, (13, a0)), (1, (13, a1))] []
  unfold sp_X3_punishBy
  refine g_aload_n F rfl 0 rfl dX3_punishBy_0 ?_
  refine g_dup F rfl dX3_punishBy_1 ?_
  refine g_get F (t := 0) (sI := 5) fl_RX3_19 rfl rfl (Int.not_lt.mp (Int.not_lt.mpr h0)) dX3_punishBy_2 ?_
  refine g_iconst F 2 rfl dX3_punishBy_5 ?_
  refine g_aload_n F rfl 1 rfl dX3_punishBy_6 ?_
  refine g_chk (fun n1 => ?_)
  refine g_get F (t := 0) (sI := 0) fl_RX3_7 rfl rfl (Int.not_lt.mp (Int.not_lt.mpr n1)) dX3_punishBy_7 ?_
  refine g_ishl F rfl rfl dX3_punishBy_10 ?_
  refine g_ior F rfl rfl dX3_punishBy_11 ?_
  refine h_put F (sI := 5) fl_RX3_19 ⟨_, rfl, Or.inl rfl⟩ rfl rfl (Int.not_lt.mp (Int.not_lt.mpr h0)) dX3_punishBy_12 (fun v2 => ?_)
  exact g_return F rfl (Nat.le_of_ble_eq_true rfl) (Nat.le_of_ble_eq_true rfl) dX3_punishBy_15
theorem c_X3_punishBy (a0 a1 : Int) (h0 : 0 ≤ a0) : ∀ l, Ct l yX3_punishBy cX3_punishBy 2 none ({ frames := 0, cells := 0, slots := 0, locals := 0 }) none [(13, a0), (13, a1)] (sp_X3_punishBy a0 a1) := g_method (by decide +kernel) (Nat.le_of_ble_eq_true rfl) (fun x v F ho => k_X3_punishBy a0 a1 h0 x v F ho)
def sp_X3_isPunishedBy (a0 a1 : Int) (v : V) : Res := (chk (0 ≤ a1) (if (and32 (v 3 a0 5) (shl32 1 (v 3 a1 0))) = 0 then (rOk 0 v)
   else (rOk 1 v)))
set_option maxRecDepth 100000 in
set_option maxHeartbeats 4000000 in
theorem k_X3_isPunishedBy (a0 a1 : Int) (h0 : 0 ≤ a0) (x : Cx) (v : V) (F : Fx x cX3_isPunishedBy RX3 "isPunishedBy" ({ frames := 0, cells := 0, slots := 0, locals := 0 }) 2 (some 2) (some .boolean) 0) (ho : ∀ a ∈ [(13, a0), (13, a1)], okv v a) : Gs x (sp_X3_isPunishedBy a0 a1 v) v 0 0 0 (avArgs 0 [(13, a0), (13, a1)]) [] := by
  show Gs x _ v 0 0 0 [(0, (13, a0)), (1, (13, a1))] []
  unfold sp_X3_isPunishedBy
  refine g_aload_n F rfl 0 rfl dX3_isPunishedBy_0 ?_
  refine g_get F (t := 0) (sI := 5) fl_RX3_19 rfl rfl (Int.not_lt.mp (Int.not_lt.mpr h0)) dX3_isPunishedBy_1 ?_
  refine g_iconst F 2 rfl dX3_isPunishedBy_4 ?_
  refine g_aload_n F rfl 1 rfl dX3_isPunishedBy_5 ?_
  refine g_chk (fun n1 => ?_)
  refine g_get F (t := 0) (sI := 0) fl_RX3_7 rfl rfl (Int.not_lt.mp (Int.not_lt.mpr n1)) dX3_isPunishedBy_6 ?_
  refine g_ishl F rfl rfl dX3_isPunishedBy_9 ?_
  refine g_iand F rfl rfl dX3_isPunishedBy_10 ?_
  refine g_if_eq F rfl (tgt := 18) rfl dX3_isPunishedBy_11 (fun n2 => ?_) (fun n2 => ?_)
  · refine g_iconst F 2 rfl dX3_isPunishedBy_18 ?_
    exact g_ireturn F rfl rfl rfl rfl (Nat.le_of_ble_eq_true rfl) (Nat.le_of_ble_eq_true rfl) dX3_isPunishedBy_19
  · refine g_iconst F 2 rfl dX3_isPunishedBy_14 ?_
    refine g_goto F (tgt := 19) rfl dX3_isPunishedBy_15 ?_
    exact g_ireturn F rfl rfl rfl rfl (Nat.le_of_ble_eq_true rfl) (Nat.le_of_ble_eq_true rfl) dX3_isPunishedBy_19
theorem c_X3_isPunishedBy (a0 a1 : Int) (h0 : 0 ≤ a0) : ∀ l, Ct l yX3_isPunishedBy cX3_isPunishedBy 2 (some .boolean) ({ frames := 0, cells := 0, slots := 0, locals := 0 }) (some 2) [(13, a0), (13, a1)] (sp_X3_isPunishedBy a0 a1) := g_method (by decide +kernel) (Nat.le_of_ble_eq_true rfl) (fun x v F ho => k_X3_isPunishedBy a0 a1 h0 x v F ho)
def sp_X4_init (a0 a1 a2 a3 a4 : Int) (v : V) : Res := (rLet (up v 4 a0 0 a1) (fun v1 => (rLet (up v1 4 a0 1 a2) (fun v2 => (rLet (up v2 4 a0 2 a3) (fun v3 => (rLet (up v3 4 a0 3 a4) (fun v4 => (rOk 0 v4)))))))))
set_option maxRecDepth 100000 in
set_option maxHeartbeats 4000000 in
theorem k_X4_init (a0 a1 a2 a3 a4 : Int) (h0 : 0 ≤ a0) (x : Cx) (v : V) (F : Fx x cX4_init RX4 "<init>" ({ frames := 1, cells := 0, slots := 0, locals := 12 }) 5 none none 0) (ho : ∀ a ∈ [(14, a0), (0, a1), (0, a2), (0, a3), (2, a4)], okv v a) : Gs x (sp_X4_init a0 a1 a2 a3 a4 v) v 0 0 0 (avArgs 0 [(14, a0), (0, a1), (0, a2), (0, a3), (2, a4)]) [] := by
  show Gs x _ v 0 0 0 [(0, (14, a0)), (1, (0, a1)), (2, (0, a2)), (3, (0, a3)), (4, (2, a4))] []
  unfold sp_X4_init
  refine g_aload_n F rfl 0 rfl dX4_init_0 ?_
  refine g_objinit F ol_RX4_1 oi_i oi_c (Nat.le_of_ble_eq_true rfl) (Int.not_lt.mp (Int.not_lt.mpr h0)) (Nat.le_of_ble_eq_true rfl) dX4_init_1 ?_
  refine g_aload_n F rfl 0 rfl dX4_init_4 ?_
  refine g_iload_n F rfl 1 rfl rfl dX4_init_5 ?_
  refine h_put F (sI := 0) fl_RX4_7 ⟨_, rfl, Or.inr ⟨rfl, rfl⟩⟩ rfl rfl (Int.not_lt.mp (Int.not_lt.mpr h0)) dX4_init_6 (fun v1 => ?_)
  refine g_aload_n F rfl 0 rfl dX4_init_9 ?_
  refine g_iload_n F rfl 2 rfl rfl dX4_init_10 ?_
  refine h_put F (sI := 1) fl_RX4_13 ⟨_, rfl, Or.inr ⟨rfl, rfl⟩⟩ rfl rfl (Int.not_lt.mp (Int.not_lt.mpr h0)) dX4_init_11 (fun v2 => ?_)
  refine g_aload_n F rfl 0 rfl dX4_init_14 ?_
  refine g_iload_n F rfl 3 rfl rfl dX4_init_15 ?_
  refine h_put F (sI := 2) fl_RX4_16 ⟨_, rfl, Or.inr ⟨rfl, rfl⟩⟩ rfl rfl (Int.not_lt.mp (Int.not_lt.mpr h0)) dX4_init_16 (fun v3 => ?_)
  refine g_aload_n F rfl 0 rfl dX4_init_19 ?_
  refine g_iload F 4 rfl rfl dX4_init_20 ?_
  refine h_put F (sI := 3) fl_RX4_19 ⟨_, rfl, Or.inr ⟨rfl, rfl⟩⟩ rfl rfl (Int.not_lt.mp (Int.not_lt.mpr h0)) dX4_init_22 (fun v4 => ?_)
  exact g_return F rfl (Nat.le_of_ble_eq_true rfl) (Nat.le_of_ble_eq_true rfl) dX4_init_25
theorem c_X4_init (a0 a1 a2 a3 a4 : Int) (h0 : 0 ≤ a0) : ∀ l, Ct l yX4_init cX4_init 5 none ({ frames := 1, cells := 0, slots := 0, locals := 12 }) none [(14, a0), (0, a1), (0, a2), (0, a3), (2, a4)] (sp_X4_init a0 a1 a2 a3 a4) := g_method (by decide +kernel) (Nat.le_of_ble_eq_true rfl) (fun x v F ho => k_X4_init a0 a1 a2 a3 a4 h0 x v F ho)
def sp_X4_learn (a0 a1 : Int) (v : V) : Res := (chk (0 ≤ a1) (rLet (up v 4 a0 4 (or32 (v 4 a0 4) (shl32 1 (v 3 a1 0)))) (fun v2 => (rOk 0 v2))))
set_option maxRecDepth 100000 in
set_option maxHeartbeats 4000000 in
theorem k_X4_learn (a0 a1 : Int) (h0 : 0 ≤ a0) (x : Cx) (v : V) (F : Fx x cX4_learn RX4 "learn" ({ frames := 0, cells := 0, slots := 0, locals := 0 }) 2 none none 0) (ho : ∀ a ∈ [(14, a0), (13, a1)], okv v a) : Gs x (sp_X4_learn a0 a1 v) v 0 0 0 (avArgs 0 [(14, a0), (13, a1)]) [] := by
  show Gs x _ v 0 0 0 [(0, (14, a0)), (1, (13, a1))] []
  unfold sp_X4_learn
  refine g_aload_n F rfl 0 rfl dX4_learn_0 ?_
  refine g_dup F rfl dX4_learn_1 ?_
  refine g_get F (t := 0) (sI := 4) fl_RX4_23 rfl rfl (Int.not_lt.mp (Int.not_lt.mpr h0)) dX4_learn_2 ?_
  refine g_iconst F 2 rfl dX4_learn_5 ?_
  refine g_aload_n F rfl 1 rfl dX4_learn_6 ?_
  refine g_chk (fun n1 => ?_)
  refine g_get F (t := 0) (sI := 0) fl_RX4_26 rfl rfl (Int.not_lt.mp (Int.not_lt.mpr n1)) dX4_learn_7 ?_
  refine g_ishl F rfl rfl dX4_learn_10 ?_
  refine g_ior F rfl rfl dX4_learn_11 ?_
  refine h_put F (sI := 4) fl_RX4_23 ⟨_, rfl, Or.inl rfl⟩ rfl rfl (Int.not_lt.mp (Int.not_lt.mpr h0)) dX4_learn_12 (fun v2 => ?_)
  exact g_return F rfl (Nat.le_of_ble_eq_true rfl) (Nat.le_of_ble_eq_true rfl) dX4_learn_15
theorem c_X4_learn (a0 a1 : Int) (h0 : 0 ≤ a0) : ∀ l, Ct l yX4_learn cX4_learn 2 none ({ frames := 0, cells := 0, slots := 0, locals := 0 }) none [(14, a0), (13, a1)] (sp_X4_learn a0 a1) := g_method (by decide +kernel) (Nat.le_of_ble_eq_true rfl) (fun x v F ho => k_X4_learn a0 a1 h0 x v F ho)
def sp_X4_isKnownTo (a0 a1 : Int) (v : V) : Res := (chk (0 ≤ a1) (if (and32 (v 4 a0 4) (shl32 1 (v 3 a1 0))) = 0 then (rOk 0 v)
   else (rOk 1 v)))
set_option maxRecDepth 100000 in
set_option maxHeartbeats 4000000 in
theorem k_X4_isKnownTo (a0 a1 : Int) (h0 : 0 ≤ a0) (x : Cx) (v : V) (F : Fx x cX4_isKnownTo RX4 "isKnownTo" ({ frames := 0, cells := 0, slots := 0, locals := 0 }) 2 (some 2) (some .boolean) 0) (ho : ∀ a ∈ [(14, a0), (13, a1)], okv v a) : Gs x (sp_X4_isKnownTo a0 a1 v) v 0 0 0 (avArgs 0 [(14, a0), (13, a1)]) [] := by
  show Gs x _ v 0 0 0 [(0, (14, a0)), (1, (13, a1))] []
  unfold sp_X4_isKnownTo
  refine g_aload_n F rfl 0 rfl dX4_isKnownTo_0 ?_
  refine g_get F (t := 0) (sI := 4) fl_RX4_23 rfl rfl (Int.not_lt.mp (Int.not_lt.mpr h0)) dX4_isKnownTo_1 ?_
  refine g_iconst F 2 rfl dX4_isKnownTo_4 ?_
  refine g_aload_n F rfl 1 rfl dX4_isKnownTo_5 ?_
  refine g_chk (fun n1 => ?_)
  refine g_get F (t := 0) (sI := 0) fl_RX4_26 rfl rfl (Int.not_lt.mp (Int.not_lt.mpr n1)) dX4_isKnownTo_6 ?_
  refine g_ishl F rfl rfl dX4_isKnownTo_9 ?_
  refine g_iand F rfl rfl dX4_isKnownTo_10 ?_
  refine g_if_eq F rfl (tgt := 18) rfl dX4_isKnownTo_11 (fun n2 => ?_) (fun n2 => ?_)
  · refine g_iconst F 2 rfl dX4_isKnownTo_18 ?_
    exact g_ireturn F rfl rfl rfl rfl (Nat.le_of_ble_eq_true rfl) (Nat.le_of_ble_eq_true rfl) dX4_isKnownTo_19
  · refine g_iconst F 2 rfl dX4_isKnownTo_14 ?_
    refine g_goto F (tgt := 19) rfl dX4_isKnownTo_15 ?_
    exact g_ireturn F rfl rfl rfl rfl (Nat.le_of_ble_eq_true rfl) (Nat.le_of_ble_eq_true rfl) dX4_isKnownTo_19
theorem c_X4_isKnownTo (a0 a1 : Int) (h0 : 0 ≤ a0) : ∀ l, Ct l yX4_isKnownTo cX4_isKnownTo 2 (some .boolean) ({ frames := 0, cells := 0, slots := 0, locals := 0 }) (some 2) [(14, a0), (13, a1)] (sp_X4_isKnownTo a0 a1) := g_method (by decide +kernel) (Nat.le_of_ble_eq_true rfl) (fun x v F ho => k_X4_isKnownTo a0 a1 h0 x v F ho)
def sp_X4_riseSince (a0 a1 : Int) (v : V) : Res := (chk (0 ≤ a1) (if ¬ (lcmp (w64 ((v 4 a1 1) * (v 4 a0 2))) 0) = 0 then (chk (¬ (w64 ((v 4 a1 1) * (v 4 a0 2))) = 0) (rOk (w64 ((w64 ((w64 (1000 * (v 4 a0 1))) * (v 4 a1 2))).tdiv (w64 ((v 4 a1 1) * (v 4 a0 2))))) v))
   else (rOk 0 v)))
set_option maxRecDepth 100000 in
set_option maxHeartbeats 4000000 in
theorem k_X4_riseSince (a0 a1 : Int) (h0 : 0 ≤ a0) (x : Cx) (v : V) (F : Fx x cX4_riseSince RX4 "riseSince" ({ frames := 0, cells := 0, slots := 0, locals := 0 }) 4 (some 1) (some .long) 0) (ho : ∀ a ∈ [(14, a0), (14, a1)], okv v a) : Gs x (sp_X4_riseSince a0 a1 v) v 0 0 0 (avArgs 0 [(14, a0), (14, a1)]) [] := by
  show Gs x _ v 0 0 0 [(0, (14, a0)), (1, (14, a1))] []
  unfold sp_X4_riseSince
  refine g_aload_n F rfl 1 rfl dX4_riseSince_0 ?_
  refine g_chk (fun n1 => ?_)
  refine g_get F (t := 0) (sI := 1) fl_RX4_13 rfl rfl (Int.not_lt.mp (Int.not_lt.mpr n1)) dX4_riseSince_1 ?_
  refine g_i2l F rfl dX4_riseSince_4 ?_
  refine g_aload_n F rfl 0 rfl dX4_riseSince_5 ?_
  refine g_get F (t := 0) (sI := 2) fl_RX4_16 rfl rfl (Int.not_lt.mp (Int.not_lt.mpr h0)) dX4_riseSince_6 ?_
  refine g_i2l F rfl dX4_riseSince_9 ?_
  refine g_lmul F dX4_riseSince_10 ?_
  refine g_lstore_n F rfl (Nat.le_of_ble_eq_true rfl) (ls' := [(2, (1, (w64 ((v 4 a1 1) * (v 4 a0 2))))), (0, (14, a0)), (1, (14, a1))]) rfl dX4_riseSince_11 ?_
  refine g_lload_n F rfl 0 rfl dX4_riseSince_12 ?_
  refine g_lconst F (z := 0) rfl dX4_riseSince_13 ?_
  refine g_lcmp F dX4_riseSince_14 ?_
  refine g_if_ne F rfl (tgt := 22) rfl dX4_riseSince_15 (fun n2 => ?_) (fun n2 => ?_)
  · refine g_ldc2 F rfl cn_RX4_31 dX4_riseSince_22 ?_
    refine g_aload_n F rfl 1 rfl dX4_riseSince_25 ?_
    refine g_get F (t := 0) (sI := 1) fl_RX4_13 rfl rfl (Int.not_lt.mp (Int.not_lt.mpr h0)) dX4_riseSince_26 ?_
    refine g_i2l F rfl dX4_riseSince_29 ?_
    refine g_lmul F dX4_riseSince_30 ?_
    refine g_aload_n F rfl 2 rfl dX4_riseSince_31 ?_
    refine g_get F (t := 0) (sI := 2) fl_RX4_16 rfl rfl (Int.not_lt.mp (Int.not_lt.mpr n1)) dX4_riseSince_32 ?_
    refine g_i2l F rfl dX4_riseSince_35 ?_
    refine g_lmul F dX4_riseSince_36 ?_
    refine g_lload_n F rfl 0 rfl dX4_riseSince_37 ?_
    refine g_chk (fun n3 => ?_)
    refine g_ldiv F n3 dX4_riseSince_38 ?_
    exact g_lreturn F rfl (Nat.le_of_ble_eq_true rfl) (Nat.le_of_ble_eq_true rfl) dX4_riseSince_39
  · refine g_lconst F (z := 0) rfl dX4_riseSince_18 ?_
    refine g_goto F (tgt := 39) rfl dX4_riseSince_19 ?_
    exact g_lreturn F rfl (Nat.le_of_ble_eq_true rfl) (Nat.le_of_ble_eq_true rfl) dX4_riseSince_39
theorem c_X4_riseSince (a0 a1 : Int) (h0 : 0 ≤ a0) : ∀ l, Ct l yX4_riseSince cX4_riseSince 4 (some .long) ({ frames := 0, cells := 0, slots := 0, locals := 0 }) (some 1) [(14, a0), (14, a1)] (sp_X4_riseSince a0 a1) := g_method (by decide +kernel) (Nat.le_of_ble_eq_true rfl) (fun x v F ho => k_X4_riseSince a0 a1 h0 x v F ho)
def sp_X5_init (a0 a1 a2 a3 : Int) (v : V) : Res := (rLet (up v 5 a0 0 a1) (fun v1 => (rLet (up v1 5 a0 1 a2) (fun v2 => (rLet (up v2 5 a0 2 a3) (fun v3 => (rOk 0 v3)))))))
set_option maxRecDepth 100000 in
set_option maxHeartbeats 4000000 in
theorem k_X5_init (a0 a1 a2 a3 : Int) (h0 : 0 ≤ a0) (x : Cx) (v : V) (F : Fx x cX5_init RX5 "<init>" ({ frames := 1, cells := 0, slots := 0, locals := 12 }) 4 none none 0) (ho : ∀ a ∈ [(15, a0), (13, a1), (0, a2), (2, a3)], okv v a) : Gs x (sp_X5_init a0 a1 a2 a3 v) v 0 0 0 (avArgs 0 [(15, a0), (13, a1), (0, a2), (2, a3)]) [] := by
  show Gs x _ v 0 0 0 [(0, (15, a0)), (1, (13, a1)), (2, (0, a2)), (3, (2, a3))] []
  unfold sp_X5_init
  refine g_aload_n F rfl 0 rfl dX5_init_0 ?_
  refine g_objinit F ol_RX5_1 oi_i oi_c (Nat.le_of_ble_eq_true rfl) (Int.not_lt.mp (Int.not_lt.mpr h0)) (Nat.le_of_ble_eq_true rfl) dX5_init_1 ?_
  refine g_aload_n F rfl 0 rfl dX5_init_4 ?_
  refine g_aload_n F rfl 1 rfl dX5_init_5 ?_
  refine h_put F (sI := 0) fl_RX5_7 ⟨_, rfl, Or.inr ⟨rfl, rfl⟩⟩ rfl rfl (Int.not_lt.mp (Int.not_lt.mpr h0)) dX5_init_6 (fun v1 => ?_)
  refine g_aload_n F rfl 0 rfl dX5_init_9 ?_
  refine g_iload_n F rfl 2 rfl rfl dX5_init_10 ?_
  refine h_put F (sI := 1) fl_RX5_13 ⟨_, rfl, Or.inr ⟨rfl, rfl⟩⟩ rfl rfl (Int.not_lt.mp (Int.not_lt.mpr h0)) dX5_init_11 (fun v2 => ?_)
  refine g_aload_n F rfl 0 rfl dX5_init_14 ?_
  refine g_iload_n F rfl 3 rfl rfl dX5_init_15 ?_
  refine h_put F (sI := 2) fl_RX5_17 ⟨_, rfl, Or.inr ⟨rfl, rfl⟩⟩ rfl rfl (Int.not_lt.mp (Int.not_lt.mpr h0)) dX5_init_16 (fun v3 => ?_)
  exact g_return F rfl (Nat.le_of_ble_eq_true rfl) (Nat.le_of_ble_eq_true rfl) dX5_init_19
theorem c_X5_init (a0 a1 a2 a3 : Int) (h0 : 0 ≤ a0) : ∀ l, Ct l yX5_init cX5_init 4 none ({ frames := 1, cells := 0, slots := 0, locals := 12 }) none [(15, a0), (13, a1), (0, a2), (2, a3)] (sp_X5_init a0 a1 a2 a3) := g_method (by decide +kernel) (Nat.le_of_ble_eq_true rfl) (fun x v F ho => k_X5_init a0 a1 a2 a3 h0 x v F ho)
def sp_X6_init (a0 a1 a2 a3 : Int) (v : V) : Res := (chk ((0 : Int) ≤ a1 ∧ ¬ v 99 15 a1 = 1) (rLet (nw v 15 a1) (fun v1 => (rLet (up v1 6 a0 2 a1) (fun v3 => (chk ((0 : Int) ≤ a1 ∧ ¬ v3 99 16 a1 = 1) (rLet (nw v3 16 a1) (fun v4 => (rLet (up v4 6 a0 3 a1) (fun v6 => (rLet (up v6 6 a0 9 (-1)) (fun v7 => (rLet (up v7 6 a0 0 a1) (fun v8 => (rLet (up v8 6 a0 1 a2) (fun v9 => (rLet (up v9 6 a0 5 a3) (fun v10 => (chk (0 ≤ a2) (rLet (up v10 6 a0 6 (v10 3 a2 1)) (fun v12 => (rOk 0 v12))))))))))))))))))))))
set_option maxRecDepth 100000 in
set_option maxHeartbeats 4000000 in
theorem k_X6_init (a0 a1 a2 a3 : Int) (h0 : 0 ≤ a0) (x : Cx) (v : V) (F : Fx x cX6_init RX6 "<init>" ({ frames := 1, cells := 2, slots := 151, locals := 12 }) 4 none none 0) (ho : ∀ a ∈ [(16, a0), (0, a1), (13, a2), (0, a3)], okv v a) : Gs x (sp_X6_init a0 a1 a2 a3 v) v 0 0 0 (avArgs 0 [(16, a0), (0, a1), (13, a2), (0, a3)]) [] := by
  show Gs x _ v 0 0 0 [(0, (16, a0)), (1, (0, a1)), (2, (13, a2)), (3, (0, a3))] []
  unfold sp_X6_init
  refine g_aload_n F rfl 0 rfl dX6_init_0 ?_
  refine g_objinit F ol_RX6_3 oi_i oi_c (Nat.le_of_ble_eq_true rfl) (Int.not_lt.mp (Int.not_lt.mpr h0)) (Nat.le_of_ble_eq_true rfl) dX6_init_1 ?_
  refine g_aload_n F rfl 0 rfl dX6_init_4 ?_
  refine g_bipush F rfl (by decide) dX6_init_5 ?_
  refine g_chk (fun n2 => ?_)
  refine h_anewa F (n := 50) (Kz := 15) a1 ak_15 rfl cl_RX6_9 (by decide) rfl (Nat.le_of_ble_eq_true rfl) rfl n2 rfl (Nat.le_of_ble_eq_true rfl) (Nat.le_of_ble_eq_true rfl) dX6_init_7 (fun v1 => ?_)
  refine h_put F (sI := 2) fl_RX6_11 ⟨_, rfl, Or.inr ⟨rfl, rfl⟩⟩ rfl rfl (Int.not_lt.mp (Int.not_lt.mpr h0)) dX6_init_10 (fun v3 => ?_)
  refine g_aload_n F rfl 0 rfl dX6_init_13 ?_
  refine g_bipush F rfl (by decide) dX6_init_14 ?_
  refine g_chk (fun n5 => ?_)
  refine h_newa F (n := 101) (Kz := 16) a1 ak_16 rfl rfl aw_boolean rfl (Nat.le_of_ble_eq_true rfl) rfl n5 rfl (Nat.le_of_ble_eq_true rfl) (Nat.le_of_ble_eq_true rfl) dX6_init_16 (fun v4 => ?_)
  refine h_put F (sI := 3) fl_RX6_17 ⟨_, rfl, Or.inr ⟨rfl, rfl⟩⟩ rfl rfl (Int.not_lt.mp (Int.not_lt.mpr h0)) dX6_init_18 (fun v6 => ?_)
  refine g_aload_n F rfl 0 rfl dX6_init_21 ?_
  refine g_iconst F 0 rfl dX6_init_22 ?_
  refine h_put F (sI := 9) fl_RX6_21 ⟨_, rfl, Or.inl rfl⟩ rfl rfl (Int.not_lt.mp (Int.not_lt.mpr h0)) dX6_init_23 (fun v7 => ?_)
  refine g_aload_n F rfl 0 rfl dX6_init_26 ?_
  refine g_iload_n F rfl 1 rfl rfl dX6_init_27 ?_
  refine h_put F (sI := 0) fl_RX6_25 ⟨_, rfl, Or.inr ⟨rfl, rfl⟩⟩ rfl rfl (Int.not_lt.mp (Int.not_lt.mpr h0)) dX6_init_28 (fun v8 => ?_)
  refine g_aload_n F rfl 0 rfl dX6_init_31 ?_
  refine g_aload_n F rfl 2 rfl dX6_init_32 ?_
  refine h_put F (sI := 1) fl_RX6_28 ⟨_, rfl, Or.inr ⟨rfl, rfl⟩⟩ rfl rfl (Int.not_lt.mp (Int.not_lt.mpr h0)) dX6_init_33 (fun v9 => ?_)
  refine g_aload_n F rfl 0 rfl dX6_init_36 ?_
  refine g_iload_n F rfl 3 rfl rfl dX6_init_37 ?_
  refine h_put F (sI := 5) fl_RX6_32 ⟨_, rfl, Or.inl rfl⟩ rfl rfl (Int.not_lt.mp (Int.not_lt.mpr h0)) dX6_init_38 (fun v10 => ?_)
  refine g_aload_n F rfl 0 rfl dX6_init_41 ?_
  refine g_aload_n F rfl 2 rfl dX6_init_42 ?_
  refine g_chk (fun n11 => ?_)
  refine g_get F (t := 0) (sI := 1) fl_RX6_35 rfl rfl (Int.not_lt.mp (Int.not_lt.mpr n11)) dX6_init_43 ?_
  refine h_put F (sI := 6) fl_RX6_40 ⟨_, rfl, Or.inl rfl⟩ rfl rfl (Int.not_lt.mp (Int.not_lt.mpr h0)) dX6_init_46 (fun v12 => ?_)
  exact g_return F rfl (Nat.le_of_ble_eq_true rfl) (Nat.le_of_ble_eq_true rfl) dX6_init_49
theorem c_X6_init (a0 a1 a2 a3 : Int) (h0 : 0 ≤ a0) : ∀ l, Ct l yX6_init cX6_init 4 none ({ frames := 1, cells := 2, slots := 151, locals := 12 }) none [(16, a0), (0, a1), (13, a2), (0, a3)] (sp_X6_init a0 a1 a2 a3) := g_method (by decide +kernel) (Nat.le_of_ble_eq_true rfl) (fun x v F ho => k_X6_init a0 a1 a2 a3 h0 x v F ho)
def sp_J9_max_7cf53 (a0 a1 : Int) (v : V) : Res := (if a0 < a1 then (rOk a1 v)
   else (rOk a0 v))
set_option maxRecDepth 100000 in
set_option maxHeartbeats 4000000 in
theorem k_J9_max_7cf53 (a0 a1 : Int) (x : Cx) (v : V) (F : Fx x cJ9_max_7cf53 RJ9 "max" ({ frames := 0, cells := 0, slots := 0, locals := 0 }) 2 (some 0) (some .int) 0) (ho : ∀ a ∈ [(0, a0), (0, a1)], okv v a) : Gs x (sp_J9_max_7cf53 a0 a1 v) v 0 0 0 (avArgs 0 [(0, a0), (0, a1)]) [] := by
  show Gs x _ v 0 0 0 [(0, (0, a0)), (1, (0, a1))] []
  unfold sp_J9_max_7cf53
  refine g_iload_n F rfl 0 rfl rfl dJ9_max_7cf53_0 ?_
  refine g_iload_n F rfl 1 rfl rfl dJ9_max_7cf53_1 ?_
  refine g_icmp_lt F rfl rfl (tgt := 9) rfl dJ9_max_7cf53_2 (fun n1 => ?_) (fun n1 => ?_)
  · refine g_iload_n F rfl 1 rfl rfl dJ9_max_7cf53_9 ?_
    exact g_ireturn F rfl rfl rfl rfl (Nat.le_of_ble_eq_true rfl) (Nat.le_of_ble_eq_true rfl) dJ9_max_7cf53_10
  · refine g_iload_n F rfl 0 rfl rfl dJ9_max_7cf53_5 ?_
    refine g_goto F (tgt := 10) rfl dJ9_max_7cf53_6 ?_
    exact g_ireturn F rfl rfl rfl rfl (Nat.le_of_ble_eq_true rfl) (Nat.le_of_ble_eq_true rfl) dJ9_max_7cf53_10
theorem c_J9_max_7cf53 (a0 a1 : Int) : ∀ l, Ct l yJ9_max_7cf53 cJ9_max_7cf53 2 (some .int) ({ frames := 0, cells := 0, slots := 0, locals := 0 }) (some 0) [(0, a0), (0, a1)] (sp_J9_max_7cf53 a0 a1) := g_method (by decide +kernel) (Nat.le_of_ble_eq_true rfl) (fun x v F ho => k_J9_max_7cf53 a0 a1 x v F ho)
def sp_X6_barDaysLeft (a0 a1 : Int) (v : V) : Res := (rB (sp_J9_max_7cf53 0 (w32 ((v 6 a0 8) - a1)) v) (fun z1 v1 => (rOk z1 v1)))
set_option maxRecDepth 100000 in
set_option maxHeartbeats 4000000 in
theorem k_X6_barDaysLeft (a0 a1 : Int) (h0 : 0 ≤ a0) (x : Cx) (v : V) (F : Fx x cX6_barDaysLeft RX6 "barDaysLeft" ({ frames := 1, cells := 0, slots := 0, locals := 21 }) 2 (some 0) (some .int) 0) (ho : ∀ a ∈ [(16, a0), (0, a1)], okv v a) : Gs x (sp_X6_barDaysLeft a0 a1 v) v 0 0 0 (avArgs 0 [(16, a0), (0, a1)]) [] := by
  show Gs x _ v 0 0 0 [(0, (16, a0)), (1, (0, a1))] []
  unfold sp_X6_barDaysLeft
  refine g_iconst F 2 rfl dX6_barDaysLeft_0 ?_
  refine g_aload_n F rfl 0 rfl dX6_barDaysLeft_1 ?_
  refine g_get F (t := 0) (sI := 8) fl_RX6_41 rfl rfl (Int.not_lt.mp (Int.not_lt.mpr h0)) dX6_barDaysLeft_2 ?_
  refine g_iload_n F rfl 1 rfl rfl dX6_barDaysLeft_5 ?_
  refine g_isub F rfl rfl dX6_barDaysLeft_6 ?_
  refine g_callS F (by decide) [(2, 0), (0, (w32 ((v 6 a0 8) - a1)))] [0, 0] ml_RX6_44 wt_J9_max_7cf53 (c_J9_max_7cf53 0 (w32 ((v 6 a0 8) - a1))) mi_J9_max_7cf53 rfl rfl rfl (Nat.le_of_ble_eq_true rfl) (Nat.le_of_ble_eq_true rfl) (Nat.le_of_ble_eq_true rfl) (Nat.le_of_ble_eq_true rfl) (Nat.le_of_ble_eq_true rfl) dX6_barDaysLeft_7 (fun z1 v1 hz1 => ?_)
  exact g_ireturn F rfl rfl rfl rfl (Nat.le_of_ble_eq_true rfl) (Nat.le_of_ble_eq_true rfl) dX6_barDaysLeft_10
theorem c_X6_barDaysLeft (a0 a1 : Int) (h0 : 0 ≤ a0) : ∀ l, Ct l yX6_barDaysLeft cX6_barDaysLeft 2 (some .int) ({ frames := 1, cells := 0, slots := 0, locals := 21 }) (some 0) [(16, a0), (0, a1)] (sp_X6_barDaysLeft a0 a1) := g_method (by decide +kernel) (Nat.le_of_ble_eq_true rfl) (fun x v F ho => k_X6_barDaysLeft a0 a1 h0 x v F ho)
def sp_X7_init (a0 : Int) (v : V) : Res := (chk ((0 : Int) ≤ 0 ∧ ¬ v 99 10 0 = 1) (rLet (nw v 10 0) (fun v1 => (rLet (up v1 7 a0 0 0) (fun v3 => (chk ((0 : Int) ≤ 0 ∧ ¬ v3 99 11 0 = 1) (rLet (nw v3 11 0) (fun v4 => (rLet (up v4 7 a0 1 0) (fun v6 => (chk ((0 : Int) ≤ 0 ∧ ¬ v6 99 12 0 = 1) (rLet (nw v6 12 0) (fun v7 => (rLet (up v7 7 a0 2 0) (fun v9 => (chk ((0 : Int) ≤ 0 ∧ ¬ v9 99 13 0 = 1) (rLet (nw v9 13 0) (fun v10 => (rLet (up v10 7 a0 3 0) (fun v12 => (chk ((0 : Int) ≤ 0 ∧ ¬ v12 99 14 0 = 1) (rLet (nw v12 14 0) (fun v13 => (rLet (up v13 7 a0 4 0) (fun v15 => (rOk 0 v15))))))))))))))))))))))))))
set_option maxRecDepth 100000 in
set_option maxHeartbeats 4000000 in
theorem k_X7_init (a0 : Int) (h0 : 0 ≤ a0) (x : Cx) (v : V) (F : Fx x cX7_init RX7 "<init>" ({ frames := 1, cells := 5, slots := 106, locals := 12 }) 1 none none 0) (ho : ∀ a ∈ [(17, a0)], okv v a) : Gs x (sp_X7_init a0 v) v 0 0 0 (avArgs 0 [(17, a0)]) [] := by
  show Gs x _ v 0 0 0 [(0, (17, a0))] []
  unfold sp_X7_init
  refine g_aload_n F rfl 0 rfl dX7_init_0 ?_
  refine g_objinit F ol_RX7_1 oi_i oi_c (Nat.le_of_ble_eq_true rfl) (Int.not_lt.mp (Int.not_lt.mpr h0)) (Nat.le_of_ble_eq_true rfl) dX7_init_1 ?_
  refine g_aload_n F rfl 0 rfl dX7_init_4 ?_
  refine g_bipush F rfl (by decide) dX7_init_5 ?_
  refine g_chk (fun n2 => ?_)
  refine h_anewa F (n := 10) (Kz := 10) 0 ak_10 rfl cl_RX7_9 (by decide) rfl (Nat.le_of_ble_eq_true rfl) rfl n2 rfl (Nat.le_of_ble_eq_true rfl) (Nat.le_of_ble_eq_true rfl) dX7_init_7 (fun v1 => ?_)
  refine h_put F (sI := 0) fl_RX7_11 ⟨_, rfl, Or.inr ⟨rfl, rfl⟩⟩ rfl rfl (Int.not_lt.mp (Int.not_lt.mpr h0)) dX7_init_10 (fun v3 => ?_)
  refine g_aload_n F rfl 0 rfl dX7_init_13 ?_
  refine g_bipush F rfl (by decide) dX7_init_14 ?_
  refine g_chk (fun n5 => ?_)
  refine h_anewa F (n := 12) (Kz := 11) 0 ak_11 rfl cl_RX7_15 (by decide) rfl (Nat.le_of_ble_eq_true rfl) rfl n5 rfl (Nat.le_of_ble_eq_true rfl) (Nat.le_of_ble_eq_true rfl) dX7_init_16 (fun v4 => ?_)
  refine h_put F (sI := 1) fl_RX7_17 ⟨_, rfl, Or.inr ⟨rfl, rfl⟩⟩ rfl rfl (Int.not_lt.mp (Int.not_lt.mpr h0)) dX7_init_19 (fun v6 => ?_)
  refine g_aload_n F rfl 0 rfl dX7_init_22 ?_
  refine g_bipush F rfl (by decide) dX7_init_23 ?_
  refine g_chk (fun n8 => ?_)
  refine h_anewa F (n := 60) (Kz := 12) 0 ak_12 rfl cl_RX7_21 (by decide) rfl (Nat.le_of_ble_eq_true rfl) rfl n8 rfl (Nat.le_of_ble_eq_true rfl) (Nat.le_of_ble_eq_true rfl) dX7_init_25 (fun v7 => ?_)
  refine h_put F (sI := 2) fl_RX7_23 ⟨_, rfl, Or.inr ⟨rfl, rfl⟩⟩ rfl rfl (Int.not_lt.mp (Int.not_lt.mpr h0)) dX7_init_28 (fun v9 => ?_)
  refine g_aload_n F rfl 0 rfl dX7_init_31 ?_
  refine g_bipush F rfl (by decide) dX7_init_32 ?_
  refine g_chk (fun n11 => ?_)
  refine h_anewa F (n := 20) (Kz := 13) 0 ak_13 rfl cl_RX7_27 (by decide) rfl (Nat.le_of_ble_eq_true rfl) rfl n11 rfl (Nat.le_of_ble_eq_true rfl) (Nat.le_of_ble_eq_true rfl) dX7_init_34 (fun v10 => ?_)
  refine h_put F (sI := 3) fl_RX7_29 ⟨_, rfl, Or.inr ⟨rfl, rfl⟩⟩ rfl rfl (Int.not_lt.mp (Int.not_lt.mpr h0)) dX7_init_37 (fun v12 => ?_)
  refine g_aload_n F rfl 0 rfl dX7_init_40 ?_
  refine g_iconst F 0 rfl dX7_init_41 ?_
  refine g_chk (fun n14 => ?_)
  refine h_newa F (n := 4) (Kz := 14) 0 ak_14 rfl rfl aw_int rfl (Nat.le_of_ble_eq_true rfl) rfl n14 rfl (Nat.le_of_ble_eq_true rfl) (Nat.le_of_ble_eq_true rfl) dX7_init_42 (fun v13 => ?_)
  refine h_put F (sI := 4) fl_RX7_33 ⟨_, rfl, Or.inr ⟨rfl, rfl⟩⟩ rfl rfl (Int.not_lt.mp (Int.not_lt.mpr h0)) dX7_init_44 (fun v15 => ?_)
  exact g_return F rfl (Nat.le_of_ble_eq_true rfl) (Nat.le_of_ble_eq_true rfl) dX7_init_47
theorem c_X7_init (a0 : Int) (h0 : 0 ≤ a0) : ∀ l, Ct l yX7_init cX7_init 1 none ({ frames := 1, cells := 5, slots := 106, locals := 12 }) none [(17, a0)] (sp_X7_init a0) := g_method (by decide +kernel) (Nat.le_of_ble_eq_true rfl) (fun x v F ho => k_X7_init a0 h0 x v F ho)
def sp_X7_requireLand (a0 : Int) (v : V) : Res := (if a0 < 0 then (rEx 1 v)
   else (if a0 < 4 then (rOk 0 v)
   else (rEx 1 v)))
set_option maxRecDepth 100000 in
set_option maxHeartbeats 4000000 in
theorem k_X7_requireLand (a0 : Int) (x : Cx) (v : V) (F : Fx x cX7_requireLand RX7 "requireLand" ({ frames := 6, cells := 1, slots := 6, locals := 82 }) 1 none none 0) (ho : ∀ a ∈ [(0, a0)], okv v a) : Gs x (sp_X7_requireLand a0 v) v 0 0 0 (avArgs 0 [(0, a0)]) [] := by
  show Gs x _ v 0 0 0 [(0, (0, a0))] []
  unfold sp_X7_requireLand
  refine g_iload_n F rfl 0 rfl rfl dX7_requireLand_0 ?_
  refine g_if_lt F rfl (tgt := 9) rfl dX7_requireLand_1 (fun n1 => ?_) (fun n1 => ?_)
  · exact g_throwW F th_RX7_347 (Nat.le_of_ble_eq_true rfl) (Nat.le_of_ble_eq_true rfl) (Nat.le_of_ble_eq_true rfl) (Nat.le_of_ble_eq_true rfl) dX7_requireLand_9 dX7_requireLand_12 dX7_requireLand_13 dX7_requireLand_16 dX7_requireLand_19
  · refine g_iload_n F rfl 0 rfl rfl dX7_requireLand_4 ?_
    refine g_iconst F 0 rfl dX7_requireLand_5 ?_
    refine g_icmp_lt F rfl rfl (tgt := 20) rfl dX7_requireLand_6 (fun n2 => ?_) (fun n2 => ?_)
    · exact g_return F rfl (Nat.le_of_ble_eq_true rfl) (Nat.le_of_ble_eq_true rfl) dX7_requireLand_20
    · exact g_throwW F th_RX7_347 (Nat.le_of_ble_eq_true rfl) (Nat.le_of_ble_eq_true rfl) (Nat.le_of_ble_eq_true rfl) (Nat.le_of_ble_eq_true rfl) dX7_requireLand_9 dX7_requireLand_12 dX7_requireLand_13 dX7_requireLand_16 dX7_requireLand_19
theorem c_X7_requireLand (a0 : Int) : ∀ l, Ct l yX7_requireLand cX7_requireLand 1 none ({ frames := 6, cells := 1, slots := 6, locals := 82 }) none [(0, a0)] (sp_X7_requireLand a0) := g_method (by decide +kernel) (Nat.le_of_ble_eq_true rfl) (fun x v F ho => k_X7_requireLand a0 x v F ho)
def sp_X7_requireRange (a0 a1 a2 : Int) (v : V) : Res := (if a0 < a1 then (rEx 2 v)
   else (if a0 ≤ a2 then (rOk 0 v)
   else (rEx 2 v)))
set_option maxRecDepth 100000 in
set_option maxHeartbeats 4000000 in
theorem k_X7_requireRange (a0 a1 a2 : Int) (x : Cx) (v : V) (F : Fx x cX7_requireRange RX7 "requireRange" ({ frames := 6, cells := 1, slots := 6, locals := 82 }) 3 none none 0) (ho : ∀ a ∈ [(0, a0), (0, a1), (0, a2)], okv v a) : Gs x (sp_X7_requireRange a0 a1 a2 v) v 0 0 0 (avArgs 0 [(0, a0), (0, a1), (0, a2)]) [] := by
  show Gs x _ v 0 0 0 [(0, (0, a0)), (1, (0, a1)), (2, (0, a2))] []
  unfold sp_X7_requireRange
  refine g_iload_n F rfl 0 rfl rfl dX7_requireRange_0 ?_
  refine g_iload_n F rfl 1 rfl rfl dX7_requireRange_1 ?_
  refine g_icmp_lt F rfl rfl (tgt := 10) rfl dX7_requireRange_2 (fun n1 => ?_) (fun n1 => ?_)
  · exact g_throwW F th_RX7_351 (Nat.le_of_ble_eq_true rfl) (Nat.le_of_ble_eq_true rfl) (Nat.le_of_ble_eq_true rfl) (Nat.le_of_ble_eq_true rfl) dX7_requireRange_10 dX7_requireRange_13 dX7_requireRange_14 dX7_requireRange_17 dX7_requireRange_20
  · refine g_iload_n F rfl 0 rfl rfl dX7_requireRange_5 ?_
    refine g_iload_n F rfl 2 rfl rfl dX7_requireRange_6 ?_
    refine g_icmp_le F rfl rfl (tgt := 21) rfl dX7_requireRange_7 (fun n2 => ?_) (fun n2 => ?_)
    · exact g_return F rfl (Nat.le_of_ble_eq_true rfl) (Nat.le_of_ble_eq_true rfl) dX7_requireRange_21
    · exact g_throwW F th_RX7_351 (Nat.le_of_ble_eq_true rfl) (Nat.le_of_ble_eq_true rfl) (Nat.le_of_ble_eq_true rfl) (Nat.le_of_ble_eq_true rfl) dX7_requireRange_10 dX7_requireRange_13 dX7_requireRange_14 dX7_requireRange_17 dX7_requireRange_20
theorem c_X7_requireRange (a0 a1 a2 : Int) : ∀ l, Ct l yX7_requireRange cX7_requireRange 3 none ({ frames := 6, cells := 1, slots := 6, locals := 82 }) none [(0, a0), (0, a1), (0, a2)] (sp_X7_requireRange a0 a1 a2) := g_method (by decide +kernel) (Nat.le_of_ble_eq_true rfl) (fun x v F ho => k_X7_requireRange a0 a1 a2 x v F ho)
def sp_X7_requireState (a0 : Int) (v : V) : Res := (if ¬ a0 = 0 then (rOk 0 v)
   else (rEx 3 v))
set_option maxRecDepth 100000 in
set_option maxHeartbeats 4000000 in
theorem k_X7_requireState (a0 : Int) (x : Cx) (v : V) (F : Fx x cX7_requireState RX7 "requireState" ({ frames := 6, cells := 1, slots := 6, locals := 82 }) 1 none none 0) (ho : ∀ a ∈ [(2, a0)], okv v a) : Gs x (sp_X7_requireState a0 v) v 0 0 0 (avArgs 0 [(2, a0)]) [] := by
  show Gs x _ v 0 0 0 [(0, (2, a0))] []
  unfold sp_X7_requireState
  refine g_iload_n F rfl 0 rfl rfl dX7_requireState_0 ?_
  refine g_if_ne F rfl (tgt := 15) rfl dX7_requireState_1 (fun n1 => ?_) (fun n1 => ?_)
  · exact g_return F rfl (Nat.le_of_ble_eq_true rfl) (Nat.le_of_ble_eq_true rfl) dX7_requireState_15
  · exact g_throwW F th_RX7_356 (Nat.le_of_ble_eq_true rfl) (Nat.le_of_ble_eq_true rfl) (Nat.le_of_ble_eq_true rfl) (Nat.le_of_ble_eq_true rfl) dX7_requireState_4 dX7_requireState_7 dX7_requireState_8 dX7_requireState_11 dX7_requireState_14
theorem c_X7_requireState (a0 : Int) : ∀ l, Ct l yX7_requireState cX7_requireState 1 none ({ frames := 6, cells := 1, slots := 6, locals := 82 }) none [(2, a0)] (sp_X7_requireState a0) := g_method (by decide +kernel) (Nat.le_of_ble_eq_true rfl) (fun x v F ho => k_X7_requireState a0 x v F ho)
def sp_X7_party (a0 a1 a2 : Int) (v : V) : Res := (rB (sp_X7_requireLand a2 v) (fun z1 v1 => (rB (sp_X7_requireRange a1 0 1000000 v1) (fun z2 v2 => (if 10 ≤ (v2 7 a0 5) then (rB (sp_X7_requireState 0 v2) (fun z4 v4 => none))
   else (rB (sp_X7_requireState 1 v2) (fun z5 v5 => (chk ((0 : Int) ≤ (v5 7 a0 5) ∧ ¬ v5 99 3 (v5 7 a0 5) = 1) (rLet (nw v5 3 (v5 7 a0 5)) (fun v6 => (rB (sp_X3_init (v5 7 a0 5) (v6 7 a0 5) a2 a1 v6) (fun z8 v8 => (chk (0 ≤ (v8 7 a0 0)) (chk (0 ≤ (v8 7 a0 5) ∧ (v8 7 a0 5) < 10) (rLet (up v8 10 (v8 7 a0 0) (v8 7 a0 5) (v5 7 a0 5)) (fun v11 => (rLet (up v11 7 a0 5 (w32 ((v11 7 a0 5) + 1))) (fun v12 => (rOk (v12 3 (v5 7 a0 5) 0) v12)))))))))))))))))))
set_option maxRecDepth 100000 in
set_option maxHeartbeats 4000000 in
theorem k_X7_party (a0 a1 a2 : Int) (h0 : 0 ≤ a0) (x : Cx) (v : V) (F : Fx x cX7_party RX7 "party" ({ frames := 7, cells := 4, slots := 24, locals := 104 }) 4 (some 0) (some .int) 0) (ho : ∀ a ∈ [(17, a0), (0, a1), (0, a2)], okv v a) : Gs x (sp_X7_party a0 a1 a2 v) v 0 0 0 (avArgs 0 [(17, a0), (0, a1), (0, a2)]) [] := by
  show Gs x _ v 0 0 0 [(0, (17, a0)), (1, (0, a1)), (2, (0, a2))] []
  unfold sp_X7_party
  refine g_iload_n F rfl 2 rfl rfl dX7_party_0 ?_
  refine g_callS F (by decide) [(0, a2)] [0] ml_RX7_37 wt_X7_requireLand (c_X7_requireLand a2) mi_X7_requireLand rfl rfl rfl (Nat.le_of_ble_eq_true rfl) (Nat.le_of_ble_eq_true rfl) (Nat.le_of_ble_eq_true rfl) (Nat.le_of_ble_eq_true rfl) (Nat.le_of_ble_eq_true rfl) dX7_party_1 (fun z1 v1 hz1 => ?_)
  refine g_iload_n F rfl 1 rfl rfl dX7_party_4 ?_
  refine g_iconst F 2 rfl dX7_party_5 ?_
  refine g_ldc F rfl cn_RX7_41 dX7_party_6 ?_
  refine g_callS F (by decide) [(0, a1), (2, 0), (0, 1000000)] [0, 0, 0] ml_RX7_42 wt_X7_requireRange (c_X7_requireRange a1 0 1000000) mi_X7_requireRange rfl rfl rfl (Nat.le_of_ble_eq_true rfl) (Nat.le_of_ble_eq_true rfl) (Nat.le_of_ble_eq_true rfl) (Nat.le_of_ble_eq_true rfl) (Nat.le_of_ble_eq_true rfl) dX7_party_8 (fun z2 v2 hz2 => ?_)
  refine g_aload_n F rfl 0 rfl dX7_party_11 ?_
  refine g_get F (t := 0) (sI := 5) fl_RX7_46 rfl rfl (Int.not_lt.mp (Int.not_lt.mpr h0)) dX7_party_12 ?_
  refine g_bipush F rfl (by decide) dX7_party_15 ?_
  refine g_icmp_ge F rfl rfl (tgt := 24) rfl dX7_party_17 (fun n3 => ?_) (fun n3 => ?_)
  · refine g_iconst F 2 rfl dX7_party_24 ?_
    refine g_callS F (by decide) [(2, 0)] [2] ml_RX7_50 wt_X7_requireState (c_X7_requireState 0) mi_X7_requireState rfl rfl rfl (Nat.le_of_ble_eq_true rfl) (Nat.le_of_ble_eq_true rfl) (Nat.le_of_ble_eq_true rfl) (Nat.le_of_ble_eq_true rfl) (Nat.le_of_ble_eq_true rfl) dX7_party_25 (fun z4 v4 hz4 => ?_)
    exact g_none
  · refine g_iconst F 2 rfl dX7_party_20 ?_
    refine g_goto F (tgt := 25) rfl dX7_party_21 ?_
    refine g_callS F (by decide) [(2, 1)] [2] ml_RX7_50 wt_X7_requireState (c_X7_requireState 1) mi_X7_requireState rfl rfl rfl (Nat.le_of_ble_eq_true rfl) (Nat.le_of_ble_eq_true rfl) (Nat.le_of_ble_eq_true rfl) (Nat.le_of_ble_eq_true rfl) (Nat.le_of_ble_eq_true rfl) dX7_party_25 (fun z5 v5 hz5 => ?_)
    refine g_chk (fun n7 => ?_)
    refine h_new F (n := 6) (Kz := 3) (v5 7 a0 5) fn_RX7_9 rfl rfl n7 (Nat.le_of_ble_eq_true rfl) (Nat.le_of_ble_eq_true rfl) dX7_party_28 (fun v6 => ?_)
    refine g_dup F rfl dX7_party_31 ?_
    refine g_aload_n F rfl 0 rfl dX7_party_32 ?_
    refine g_get F (t := 0) (sI := 5) fl_RX7_46 rfl rfl (Int.not_lt.mp (Int.not_lt.mpr h0)) dX7_party_33 ?_
    refine g_iload_n F rfl 2 rfl rfl dX7_party_36 ?_
    refine g_iload_n F rfl 1 rfl rfl dX7_party_37 ?_
    refine g_callIN F (by decide) (K := 3) (b := (v5 7 a0 5)) [(0, (v6 7 a0 5)), (0, a2), (0, a1)] [0, 0, 0] ml_RX7_54 wi_X3_init rfl (c_X3_init (v5 7 a0 5) (v6 7 a0 5) a2 a1 (Int.not_lt.mp (Int.not_lt.mpr n7.1))) mi_X3_init (Int.not_lt.mp (Int.not_lt.mpr n7.1)) rfl rfl rfl (Nat.le_of_ble_eq_true rfl) (Nat.le_of_ble_eq_true rfl) (Nat.le_of_ble_eq_true rfl) (Nat.le_of_ble_eq_true rfl) (Nat.le_of_ble_eq_true rfl) dX7_party_38 (fun z8 v8 hz8 => ?_)
    refine g_astore_n F rfl (Nat.le_of_ble_eq_true rfl) (ls' := [(3, (13, (v5 7 a0 5))), (0, (17, a0)), (1, (0, a1)), (2, (0, a2))]) rfl dX7_party_41 ?_
    refine g_aload_n F rfl 1 rfl dX7_party_42 ?_
    refine g_get F (t := 20) (sI := 0) fl_RX7_11 rfl rfl (Int.not_lt.mp (Int.not_lt.mpr h0)) dX7_party_43 ?_
    refine g_aload_n F rfl 1 rfl dX7_party_46 ?_
    refine g_get F (t := 0) (sI := 5) fl_RX7_46 rfl rfl (Int.not_lt.mp (Int.not_lt.mpr h0)) dX7_party_47 ?_
    refine g_aload_n F rfl 0 rfl dX7_party_50 ?_
    refine g_chk (fun n9 => ?_)
    refine g_chk (fun n10 => ?_)
    refine h_aast F (K2 := 3) (n := 10) ak_10 (by decide) (Int.not_lt.mp (Int.not_lt.mpr n9)) n10 (Int.not_lt.mp (Int.not_lt.mpr n7.1)) rfl dX7_party_51 (fun v11 => ?_)
    refine g_aload_n F rfl 1 rfl dX7_party_52 ?_
    refine g_dup F rfl dX7_party_53 ?_
    refine g_get F (t := 0) (sI := 5) fl_RX7_46 rfl rfl (Int.not_lt.mp (Int.not_lt.mpr h0)) dX7_party_54 ?_
    refine g_iconst F 2 rfl dX7_party_57 ?_
    refine g_iadd F rfl rfl dX7_party_58 ?_
    refine h_put F (sI := 5) fl_RX7_46 ⟨_, rfl, Or.inl rfl⟩ rfl rfl (Int.not_lt.mp (Int.not_lt.mpr h0)) dX7_party_59 (fun v12 => ?_)
    refine g_aload_n F rfl 0 rfl dX7_party_62 ?_
    refine g_get F (t := 0) (sI := 0) fl_RX7_56 rfl rfl (Int.not_lt.mp (Int.not_lt.mpr n7.1)) dX7_party_63 ?_
    exact g_ireturn F rfl rfl rfl rfl (Nat.le_of_ble_eq_true rfl) (Nat.le_of_ble_eq_true rfl) dX7_party_66
theorem c_X7_party (a0 a1 a2 : Int) (h0 : 0 ≤ a0) : ∀ l, Ct l yX7_party cX7_party 4 (some .int) ({ frames := 7, cells := 4, slots := 24, locals := 104 }) (some 0) [(17, a0), (0, a1), (0, a2)] (sp_X7_party a0 a1 a2) := g_method (by decide +kernel) (Nat.le_of_ble_eq_true rfl) (fun x v F ho => k_X7_party a0 a1 a2 h0 x v F ho)
def sp_X7_partyAt (a0 a1 : Int) (v : V) : Res := (if a1 < 0 then (rEx 1 v)
   else (if a1 < (v 7 a0 5) then (chk (0 ≤ (v 7 a0 0)) (chk (0 ≤ a1 ∧ a1 < 10) (rOk (v 10 (v 7 a0 0) a1) v)))
   else (rEx 1 v)))
set_option maxRecDepth 100000 in
set_option maxHeartbeats 4000000 in
theorem k_X7_partyAt (a0 a1 : Int) (h0 : 0 ≤ a0) (x : Cx) (v : V) (F : Fx x cX7_partyAt RX7 "partyAt" ({ frames := 6, cells := 1, slots := 6, locals := 82 }) 2 (some 13) (some (.object "FreePort$Party")) 0) (ho : ∀ a ∈ [(17, a0), (0, a1)], okv v a) : Gs x (sp_X7_partyAt a0 a1 v) v 0 0 0 (avArgs 0 [(17, a0), (0, a1)]) [] := by
  show Gs x _ v 0 0 0 [(0, (17, a0)), (1, (0, a1))] []
  unfold sp_X7_partyAt
  refine g_iload_n F rfl 1 rfl rfl dX7_partyAt_0 ?_
  refine g_if_lt F rfl (tgt := 12) rfl dX7_partyAt_1 (fun n1 => ?_) (fun n1 => ?_)
  · exact g_throwW F th_RX7_338 (Nat.le_of_ble_eq_true rfl) (Nat.le_of_ble_eq_true rfl) (Nat.le_of_ble_eq_true rfl) (Nat.le_of_ble_eq_true rfl) dX7_partyAt_12 dX7_partyAt_15 dX7_partyAt_16 dX7_partyAt_19 dX7_partyAt_22
  · refine g_iload_n F rfl 1 rfl rfl dX7_partyAt_4 ?_
    refine g_aload_n F rfl 0 rfl dX7_partyAt_5 ?_
    refine g_get F (t := 0) (sI := 5) fl_RX7_46 rfl rfl (Int.not_lt.mp (Int.not_lt.mpr h0)) dX7_partyAt_6 ?_
    refine g_icmp_lt F rfl rfl (tgt := 23) rfl dX7_partyAt_9 (fun n2 => ?_) (fun n2 => ?_)
    · refine g_aload_n F rfl 0 rfl dX7_partyAt_23 ?_
      refine g_get F (t := 20) (sI := 0) fl_RX7_11 rfl rfl (Int.not_lt.mp (Int.not_lt.mpr h0)) dX7_partyAt_24 ?_
      refine g_iload_n F rfl 1 rfl rfl dX7_partyAt_27 ?_
      refine g_chk (fun n3 => ?_)
      refine g_chk (fun n4 => ?_)
      refine h_aald F (n := 10) ak_10 (Int.not_lt.mp (Int.not_lt.mpr n3)) n4 rfl dX7_partyAt_28 ?_
      exact g_areturn F rfl (Or.inl ⟨_, rfl⟩) (Nat.le_of_ble_eq_true rfl) (Nat.le_of_ble_eq_true rfl) dX7_partyAt_29
    · exact g_throwW F th_RX7_338 (Nat.le_of_ble_eq_true rfl) (Nat.le_of_ble_eq_true rfl) (Nat.le_of_ble_eq_true rfl) (Nat.le_of_ble_eq_true rfl) dX7_partyAt_12 dX7_partyAt_15 dX7_partyAt_16 dX7_partyAt_19 dX7_partyAt_22
theorem c_X7_partyAt (a0 a1 : Int) (h0 : 0 ≤ a0) : ∀ l, Ct l yX7_partyAt cX7_partyAt 2 (some (.object "FreePort$Party")) ({ frames := 6, cells := 1, slots := 6, locals := 82 }) (some 13) [(17, a0), (0, a1)] (sp_X7_partyAt a0 a1) := g_method (by decide +kernel) (Nat.le_of_ble_eq_true rfl) (fun x v F ho => k_X7_partyAt a0 a1 h0 x v F ho)
def sp_X7_keepLot (a0 a1 : Int) (v : V) : Res := (if 60 ≤ (v 7 a0 7) then (chk (0 ≤ a1) (rOk (v 2 a1 0) v))
   else (chk (0 ≤ (v 7 a0 2)) (chk (0 ≤ (v 7 a0 7) ∧ (v 7 a0 7) < 60) (chk (0 ≤ a1) (rLet (up v 12 (v 7 a0 2) (v 7 a0 7) a1) (fun v6 => (rLet (up v6 7 a0 7 (w32 ((v6 7 a0 7) + 1))) (fun v7 => (rOk (v7 2 a1 0) v7)))))))))
set_option maxRecDepth 100000 in
set_option maxHeartbeats 4000000 in
theorem k_X7_keepLot (a0 a1 : Int) (h0 : 0 ≤ a0) (x : Cx) (v : V) (F : Fx x cX7_keepLot RX7 "keepLot" ({ frames := 0, cells := 0, slots := 0, locals := 0 }) 2 (some 0) (some .int) 0) (ho : ∀ a ∈ [(17, a0), (12, a1)], okv v a) : Gs x (sp_X7_keepLot a0 a1 v) v 0 0 0 (avArgs 0 [(17, a0), (12, a1)]) [] := by
  show Gs x _ v 0 0 0 [(0, (17, a0)), (1, (12, a1))] []
  unfold sp_X7_keepLot
  refine g_aload_n F rfl 0 rfl dX7_keepLot_0 ?_
  refine g_get F (t := 0) (sI := 7) fl_RX7_66 rfl rfl (Int.not_lt.mp (Int.not_lt.mpr h0)) dX7_keepLot_1 ?_
  refine g_bipush F rfl (by decide) dX7_keepLot_4 ?_
  refine g_icmp_ge F rfl rfl (tgt := 29) rfl dX7_keepLot_6 (fun n1 => ?_) (fun n1 => ?_)
  · refine g_aload_n F rfl 1 rfl dX7_keepLot_29 ?_
    refine g_chk (fun n2 => ?_)
    refine g_get F (t := 0) (sI := 0) fl_RX7_312 rfl rfl (Int.not_lt.mp (Int.not_lt.mpr n2)) dX7_keepLot_30 ?_
    exact g_ireturn F rfl rfl rfl rfl (Nat.le_of_ble_eq_true rfl) (Nat.le_of_ble_eq_true rfl) dX7_keepLot_33
  · refine g_aload_n F rfl 0 rfl dX7_keepLot_9 ?_
    refine g_get F (t := 22) (sI := 2) fl_RX7_23 rfl rfl (Int.not_lt.mp (Int.not_lt.mpr h0)) dX7_keepLot_10 ?_
    refine g_aload_n F rfl 0 rfl dX7_keepLot_13 ?_
    refine g_get F (t := 0) (sI := 7) fl_RX7_66 rfl rfl (Int.not_lt.mp (Int.not_lt.mpr h0)) dX7_keepLot_14 ?_
    refine g_aload_n F rfl 1 rfl dX7_keepLot_17 ?_
    refine g_chk (fun n3 => ?_)
    refine g_chk (fun n4 => ?_)
    refine g_chk (fun n5 => ?_)
    refine h_aast F (K2 := 2) (n := 60) ak_12 (by decide) (Int.not_lt.mp (Int.not_lt.mpr n3)) n4 (Int.not_lt.mp (Int.not_lt.mpr n5)) rfl dX7_keepLot_18 (fun v6 => ?_)
    refine g_aload_n F rfl 0 rfl dX7_keepLot_19 ?_
    refine g_dup F rfl dX7_keepLot_20 ?_
    refine g_get F (t := 0) (sI := 7) fl_RX7_66 rfl rfl (Int.not_lt.mp (Int.not_lt.mpr h0)) dX7_keepLot_21 ?_
    refine g_iconst F 2 rfl dX7_keepLot_24 ?_
    refine g_iadd F rfl rfl dX7_keepLot_25 ?_
    refine h_put F (sI := 7) fl_RX7_66 ⟨_, rfl, Or.inl rfl⟩ rfl rfl (Int.not_lt.mp (Int.not_lt.mpr h0)) dX7_keepLot_26 (fun v7 => ?_)
    refine g_aload_n F rfl 1 rfl dX7_keepLot_29 ?_
    refine g_get F (t := 0) (sI := 0) fl_RX7_312 rfl rfl (Int.not_lt.mp (Int.not_lt.mpr n5)) dX7_keepLot_30 ?_
    exact g_ireturn F rfl rfl rfl rfl (Nat.le_of_ble_eq_true rfl) (Nat.le_of_ble_eq_true rfl) dX7_keepLot_33
theorem c_X7_keepLot (a0 a1 : Int) (h0 : 0 ≤ a0) : ∀ l, Ct l yX7_keepLot cX7_keepLot 2 (some .int) ({ frames := 0, cells := 0, slots := 0, locals := 0 }) (some 0) [(17, a0), (12, a1)] (sp_X7_keepLot a0 a1) := g_method (by decide +kernel) (Nat.le_of_ble_eq_true rfl) (fun x v F ho => k_X7_keepLot a0 a1 h0 x v F ho)
def sp_X7_work (a0 a1 a2 : Int) (v : V) : Res := (rB (sp_X7_partyAt a0 a1 v) (fun z1 v1 => (rB (sp_X7_requireRange a2 0 1000000 v1) (fun z2 v2 => (if 12 ≤ (v2 7 a0 6) then (rB (sp_X7_requireState 0 v2) (fun z4 v4 => none))
   else (if 60 ≤ (v2 7 a0 7) then (rB (sp_X7_requireState 0 v2) (fun z6 v6 => none))
   else (rB (sp_X7_requireState 1 v2) (fun z7 v7 => (chk ((0 : Int) ≤ (v7 7 a0 6) ∧ ¬ v7 99 6 (v7 7 a0 6) = 1) (rLet (nw v7 6 (v7 7 a0 6)) (fun v8 => (rB (sp_X6_init (v7 7 a0 6) (v8 7 a0 6) z1 a2 v8) (fun z10 v10 => (chk (0 ≤ (v10 7 a0 1)) (chk (0 ≤ (v10 7 a0 6) ∧ (v10 7 a0 6) < 12) (rLet (up v10 11 (v10 7 a0 1) (v10 7 a0 6) (v7 7 a0 6)) (fun v13 => (rLet (up v13 7 a0 6 (w32 ((v13 7 a0 6) + 1))) (fun v14 => (chk ((0 : Int) ≤ (v14 7 a0 7) ∧ ¬ v14 99 2 (v14 7 a0 7) = 1) (rLet (nw v14 2 (v14 7 a0 7)) (fun v15 => (rB (sp_X2_init (v14 7 a0 7) (v15 7 a0 7) (v7 7 a0 6) z1 60 (-1) (-1) (-1) v15) (fun z17 v17 => (rB (sp_X7_keepLot a0 (v14 7 a0 7) v17) (fun z18 v18 => (rOk (v18 6 (v7 7 a0 6) 0) v18)))))))))))))))))))))))))))
set_option maxRecDepth 100000 in
set_option maxHeartbeats 4000000 in
theorem k_X7_work (a0 a1 a2 : Int) (h0 : 0 ≤ a0) (x : Cx) (v : V) (F : Fx x cX7_work RX7 "work" ({ frames := 7, cells := 7, slots := 187, locals := 104 }) 5 (some 0) (some .int) 0) (ho : ∀ a ∈ [(17, a0), (0, a1), (0, a2)], okv v a) : Gs x (sp_X7_work a0 a1 a2 v) v 0 0 0 (avArgs 0 [(17, a0), (0, a1), (0, a2)]) [] := by
  show Gs x _ v 0 0 0 [(0, (17, a0)), (1, (0, a1)), (2, (0, a2))] []
  unfold sp_X7_work
  refine g_aload_n F rfl 0 rfl dX7_work_0 ?_
  refine g_iload_n F rfl 1 rfl rfl dX7_work_1 ?_
  refine g_callV F (by decide) (K := 7) (b := a0) [(0, a1)] [0] ml_RX7_59 wi_X7_partyAt ws_X7_partyAt (c_X7_partyAt a0 a1 (Int.not_lt.mp (Int.not_lt.mpr h0))) mi_X7_partyAt (by decide) ⟨_, rfl, rfl⟩ (Int.not_lt.mp (Int.not_lt.mpr h0)) rfl rfl rfl (Nat.le_of_ble_eq_true rfl) (Nat.le_of_ble_eq_true rfl) (Nat.le_of_ble_eq_true rfl) (Nat.le_of_ble_eq_true rfl) (Nat.le_of_ble_eq_true rfl) dX7_work_2 (fun z1 v1 hz1 => ?_)
  refine g_astore_n F rfl (Nat.le_of_ble_eq_true rfl) (ls' := [(3, (13, z1)), (0, (17, a0)), (1, (0, a1)), (2, (0, a2))]) rfl dX7_work_5 ?_
  refine g_iload_n F rfl 3 rfl rfl dX7_work_6 ?_
  refine g_iconst F 2 rfl dX7_work_7 ?_
  refine g_ldc F rfl cn_RX7_41 dX7_work_8 ?_
  refine g_callS F (by decide) [(0, a2), (2, 0), (0, 1000000)] [0, 0, 0] ml_RX7_42 wt_X7_requireRange (c_X7_requireRange a2 0 1000000) mi_X7_requireRange rfl rfl rfl (Nat.le_of_ble_eq_true rfl) (Nat.le_of_ble_eq_true rfl) (Nat.le_of_ble_eq_true rfl) (Nat.le_of_ble_eq_true rfl) (Nat.le_of_ble_eq_true rfl) dX7_work_10 (fun z2 v2 hz2 => ?_)
  refine g_aload_n F rfl 1 rfl dX7_work_13 ?_
  refine g_get F (t := 0) (sI := 6) fl_RX7_63 rfl rfl (Int.not_lt.mp (Int.not_lt.mpr h0)) dX7_work_14 ?_
  refine g_bipush F rfl (by decide) dX7_work_17 ?_
  refine g_icmp_ge F rfl rfl (tgt := 35) rfl dX7_work_19 (fun n3 => ?_) (fun n3 => ?_)
  · refine g_iconst F 2 rfl dX7_work_35 ?_
    refine g_callS F (by decide) [(2, 0)] [2] ml_RX7_50 wt_X7_requireState (c_X7_requireState 0) mi_X7_requireState rfl rfl rfl (Nat.le_of_ble_eq_true rfl) (Nat.le_of_ble_eq_true rfl) (Nat.le_of_ble_eq_true rfl) (Nat.le_of_ble_eq_true rfl) (Nat.le_of_ble_eq_true rfl) dX7_work_36 (fun z4 v4 hz4 => ?_)
    exact g_none
  · refine g_aload_n F rfl 1 rfl dX7_work_22 ?_
    refine g_get F (t := 0) (sI := 7) fl_RX7_66 rfl rfl (Int.not_lt.mp (Int.not_lt.mpr h0)) dX7_work_23 ?_
    refine g_bipush F rfl (by decide) dX7_work_26 ?_
    refine g_icmp_ge F rfl rfl (tgt := 35) rfl dX7_work_28 (fun n5 => ?_) (fun n5 => ?_)
    · refine g_iconst F 2 rfl dX7_work_35 ?_
      refine g_callS F (by decide) [(2, 0)] [2] ml_RX7_50 wt_X7_requireState (c_X7_requireState 0) mi_X7_requireState rfl rfl rfl (Nat.le_of_ble_eq_true rfl) (Nat.le_of_ble_eq_true rfl) (Nat.le_of_ble_eq_true rfl) (Nat.le_of_ble_eq_true rfl) (Nat.le_of_ble_eq_true rfl) dX7_work_36 (fun z6 v6 hz6 => ?_)
      exact g_none
    · refine g_iconst F 2 rfl dX7_work_31 ?_
      refine g_goto F (tgt := 36) rfl dX7_work_32 ?_
      refine g_callS F (by decide) [(2, 1)] [2] ml_RX7_50 wt_X7_requireState (c_X7_requireState 1) mi_X7_requireState rfl rfl rfl (Nat.le_of_ble_eq_true rfl) (Nat.le_of_ble_eq_true rfl) (Nat.le_of_ble_eq_true rfl) (Nat.le_of_ble_eq_true rfl) (Nat.le_of_ble_eq_true rfl) dX7_work_36 (fun z7 v7 hz7 => ?_)
      refine g_chk (fun n9 => ?_)
      refine h_new F (n := 10) (Kz := 6) (v7 7 a0 6) fn_RX7_15 rfl rfl n9 (Nat.le_of_ble_eq_true rfl) (Nat.le_of_ble_eq_true rfl) dX7_work_39 (fun v8 => ?_)
      refine g_dup F rfl dX7_work_42 ?_
      refine g_aload_n F rfl 1 rfl dX7_work_43 ?_
      refine g_get F (t := 0) (sI := 6) fl_RX7_63 rfl rfl (Int.not_lt.mp (Int.not_lt.mpr h0)) dX7_work_44 ?_
      refine g_aload_n F rfl 0 rfl dX7_work_47 ?_
      refine g_iload_n F rfl 3 rfl rfl dX7_work_48 ?_
      refine g_callIN F (by decide) (K := 6) (b := (v7 7 a0 6)) [(0, (v8 7 a0 6)), (13, z1), (0, a2)] [0, 13, 0] ml_RX7_69 wi_X6_init rfl (c_X6_init (v7 7 a0 6) (v8 7 a0 6) z1 a2 (Int.not_lt.mp (Int.not_lt.mpr n9.1))) mi_X6_init (Int.not_lt.mp (Int.not_lt.mpr n9.1)) rfl rfl rfl (Nat.le_of_ble_eq_true rfl) (Nat.le_of_ble_eq_true rfl) (Nat.le_of_ble_eq_true rfl) (Nat.le_of_ble_eq_true rfl) (Nat.le_of_ble_eq_true rfl) dX7_work_49 (fun z10 v10 hz10 => ?_)
      refine g_astore F (Nat.le_of_ble_eq_true rfl) (ls' := [(4, (16, (v7 7 a0 6))), (3, (13, z1)), (0, (17, a0)), (1, (0, a1)), (2, (0, a2))]) rfl dX7_work_52 ?_
      refine g_aload_n F rfl 2 rfl dX7_work_54 ?_
      refine g_get F (t := 21) (sI := 1) fl_RX7_17 rfl rfl (Int.not_lt.mp (Int.not_lt.mpr h0)) dX7_work_55 ?_
      refine g_aload_n F rfl 2 rfl dX7_work_58 ?_
      refine g_get F (t := 0) (sI := 6) fl_RX7_63 rfl rfl (Int.not_lt.mp (Int.not_lt.mpr h0)) dX7_work_59 ?_
      refine g_aload F 0 rfl dX7_work_62 ?_
      refine g_chk (fun n11 => ?_)
      refine g_chk (fun n12 => ?_)
      refine h_aast F (K2 := 6) (n := 12) ak_11 (by decide) (Int.not_lt.mp (Int.not_lt.mpr n11)) n12 (Int.not_lt.mp (Int.not_lt.mpr n9.1)) rfl dX7_work_64 (fun v13 => ?_)
      refine g_aload_n F rfl 2 rfl dX7_work_65 ?_
      refine g_dup F rfl dX7_work_66 ?_
      refine g_get F (t := 0) (sI := 6) fl_RX7_63 rfl rfl (Int.not_lt.mp (Int.not_lt.mpr h0)) dX7_work_67 ?_
      refine g_iconst F 2 rfl dX7_work_70 ?_
      refine g_iadd F rfl rfl dX7_work_71 ?_
      refine h_put F (sI := 6) fl_RX7_63 ⟨_, rfl, Or.inl rfl⟩ rfl rfl (Int.not_lt.mp (Int.not_lt.mpr h0)) dX7_work_72 (fun v14 => ?_)
      refine g_aload_n F rfl 2 rfl dX7_work_75 ?_
      refine g_chk (fun n16 => ?_)
      refine h_new F (n := 8) (Kz := 2) (v14 7 a0 7) fn_RX7_21 rfl rfl n16 (Nat.le_of_ble_eq_true rfl) (Nat.le_of_ble_eq_true rfl) dX7_work_76 (fun v15 => ?_)
      refine g_dup F rfl dX7_work_79 ?_
      refine g_aload_n F rfl 2 rfl dX7_work_80 ?_
      refine g_get F (t := 0) (sI := 7) fl_RX7_66 rfl rfl (Int.not_lt.mp (Int.not_lt.mpr h0)) dX7_work_81 ?_
      refine g_aload F 0 rfl dX7_work_84 ?_
      refine g_aload_n F rfl 1 rfl dX7_work_86 ?_
      refine g_bipush F rfl (by decide) dX7_work_87 ?_
      refine g_null F 1 dX7_work_89 ?_
      refine g_null F 2 dX7_work_90 ?_
      refine g_null F 4 dX7_work_91 ?_
      refine g_callIN F (by decide) (K := 2) (b := (v14 7 a0 7)) [(0, (v15 7 a0 7)), (16, (v7 7 a0 6)), (13, z1), (0, 60), (11, (-1)), (12, (-1)), (14, (-1))] [0, 16, 13, 0, 11, 12, 14] ml_RX7_72 wi_X2_init rfl (c_X2_init (v14 7 a0 7) (v15 7 a0 7) (v7 7 a0 6) z1 60 (-1) (-1) (-1) (Int.not_lt.mp (Int.not_lt.mpr n16.1))) mi_X2_init (Int.not_lt.mp (Int.not_lt.mpr n16.1)) rfl rfl rfl (Nat.le_of_ble_eq_true rfl) (Nat.le_of_ble_eq_true rfl) (Nat.le_of_ble_eq_true rfl) (Nat.le_of_ble_eq_true rfl) (Nat.le_of_ble_eq_true rfl) dX7_work_92 (fun z17 v17 hz17 => ?_)
      refine g_callV F (by decide) (K := 7) (b := a0) [(12, (v14 7 a0 7))] [12] ml_RX7_75 wi_X7_keepLot ws_X7_keepLot (c_X7_keepLot a0 (v14 7 a0 7) (Int.not_lt.mp (Int.not_lt.mpr h0))) mi_X7_keepLot (by decide) ⟨_, rfl, rfl⟩ (Int.not_lt.mp (Int.not_lt.mpr h0)) rfl rfl rfl (Nat.le_of_ble_eq_true rfl) (Nat.le_of_ble_eq_true rfl) (Nat.le_of_ble_eq_true rfl) (Nat.le_of_ble_eq_true rfl) (Nat.le_of_ble_eq_true rfl) dX7_work_95 (fun z18 v18 hz18 => ?_)
      refine g_pop F rfl dX7_work_98 ?_
      refine g_aload F 0 rfl dX7_work_99 ?_
      refine g_get F (t := 0) (sI := 0) fl_RX7_79 rfl rfl (Int.not_lt.mp (Int.not_lt.mpr n9.1)) dX7_work_101 ?_
      exact g_ireturn F rfl rfl rfl rfl (Nat.le_of_ble_eq_true rfl) (Nat.le_of_ble_eq_true rfl) dX7_work_104
theorem c_X7_work (a0 a1 a2 : Int) (h0 : 0 ≤ a0) : ∀ l, Ct l yX7_work cX7_work 5 (some .int) ({ frames := 7, cells := 7, slots := 187, locals := 104 }) (some 0) [(17, a0), (0, a1), (0, a2)] (sp_X7_work a0 a1 a2) := g_method (by decide +kernel) (Nat.le_of_ble_eq_true rfl) (fun x v F ho => k_X7_work a0 a1 a2 h0 x v F ho)
def sp_X7_workAt (a0 a1 : Int) (v : V) : Res := (if a1 < 0 then (rEx 1 v)
   else (if a1 < (v 7 a0 6) then (chk (0 ≤ (v 7 a0 1)) (chk (0 ≤ a1 ∧ a1 < 12) (rOk (v 11 (v 7 a0 1) a1) v)))
   else (rEx 1 v)))
set_option maxRecDepth 100000 in
set_option maxHeartbeats 4000000 in
theorem k_X7_workAt (a0 a1 : Int) (h0 : 0 ≤ a0) (x : Cx) (v : V) (F : Fx x cX7_workAt RX7 "workAt" ({ frames := 6, cells := 1, slots := 6, locals := 82 }) 2 (some 16) (some (.object "FreePort$Work")) 0) (ho : ∀ a ∈ [(17, a0), (0, a1)], okv v a) : Gs x (sp_X7_workAt a0 a1 v) v 0 0 0 (avArgs 0 [(17, a0), (0, a1)]) [] := by
  show Gs x _ v 0 0 0 [(0, (17, a0)), (1, (0, a1))] []
  unfold sp_X7_workAt
  refine g_iload_n F rfl 1 rfl rfl dX7_workAt_0 ?_
  refine g_if_lt F rfl (tgt := 12) rfl dX7_workAt_1 (fun n1 => ?_) (fun n1 => ?_)
  · exact g_throwW F th_RX7_341 (Nat.le_of_ble_eq_true rfl) (Nat.le_of_ble_eq_true rfl) (Nat.le_of_ble_eq_true rfl) (Nat.le_of_ble_eq_true rfl) dX7_workAt_12 dX7_workAt_15 dX7_workAt_16 dX7_workAt_19 dX7_workAt_22
  · refine g_iload_n F rfl 1 rfl rfl dX7_workAt_4 ?_
    refine g_aload_n F rfl 0 rfl dX7_workAt_5 ?_
    refine g_get F (t := 0) (sI := 6) fl_RX7_63 rfl rfl (Int.not_lt.mp (Int.not_lt.mpr h0)) dX7_workAt_6 ?_
    refine g_icmp_lt F rfl rfl (tgt := 23) rfl dX7_workAt_9 (fun n2 => ?_) (fun n2 => ?_)
    · refine g_aload_n F rfl 0 rfl dX7_workAt_23 ?_
      refine g_get F (t := 21) (sI := 1) fl_RX7_17 rfl rfl (Int.not_lt.mp (Int.not_lt.mpr h0)) dX7_workAt_24 ?_
      refine g_iload_n F rfl 1 rfl rfl dX7_workAt_27 ?_
      refine g_chk (fun n3 => ?_)
      refine g_chk (fun n4 => ?_)
      refine h_aald F (n := 12) ak_11 (Int.not_lt.mp (Int.not_lt.mpr n3)) n4 rfl dX7_workAt_28 ?_
      exact g_areturn F rfl (Or.inl ⟨_, rfl⟩) (Nat.le_of_ble_eq_true rfl) (Nat.le_of_ble_eq_true rfl) dX7_workAt_29
    · exact g_throwW F th_RX7_341 (Nat.le_of_ble_eq_true rfl) (Nat.le_of_ble_eq_true rfl) (Nat.le_of_ble_eq_true rfl) (Nat.le_of_ble_eq_true rfl) dX7_workAt_12 dX7_workAt_15 dX7_workAt_16 dX7_workAt_19 dX7_workAt_22
theorem c_X7_workAt (a0 a1 : Int) (h0 : 0 ≤ a0) : ∀ l, Ct l yX7_workAt cX7_workAt 2 (some (.object "FreePort$Work")) ({ frames := 6, cells := 1, slots := 6, locals := 82 }) (some 16) [(17, a0), (0, a1)] (sp_X7_workAt a0 a1) := g_method (by decide +kernel) (Nat.le_of_ble_eq_true rfl) (fun x v F ho => k_X7_workAt a0 a1 h0 x v F ho)
def sp_X7_value (a0 a1 a2 : Int) (v : V) : Res := (rB (sp_X7_workAt a0 a1 v) (fun z1 v1 => (rB (sp_X7_requireRange a2 0 1000000 v1) (fun z2 v2 => (chk (0 ≤ z1) (rLet (up v2 6 z1 5 a2) (fun v4 => (rOk (v2 6 z1 5) v4))))))))
set_option maxRecDepth 100000 in
set_option maxHeartbeats 4000000 in
theorem k_X7_value (a0 a1 a2 : Int) (h0 : 0 ≤ a0) (x : Cx) (v : V) (F : Fx x cX7_value RX7 "value" ({ frames := 7, cells := 2, slots := 12, locals := 104 }) 5 (some 0) (some .int) 0) (ho : ∀ a ∈ [(17, a0), (0, a1), (0, a2)], okv v a) : Gs x (sp_X7_value a0 a1 a2 v) v 0 0 0 (avArgs 0 [(17, a0), (0, a1), (0, a2)]) [] := by
  show Gs x _ v 0 0 0 [(0, (17, a0)), (1, (0, a1)), (2, (0, a2))] []
  unfold sp_X7_value
  refine g_aload_n F rfl 0 rfl dX7_value_0 ?_
  refine g_iload_n F rfl 1 rfl rfl dX7_value_1 ?_
  refine g_callV F (by decide) (K := 7) (b := a0) [(0, a1)] [0] ml_RX7_80 wi_X7_workAt ws_X7_workAt (c_X7_workAt a0 a1 (Int.not_lt.mp (Int.not_lt.mpr h0))) mi_X7_workAt (by decide) ⟨_, rfl, rfl⟩ (Int.not_lt.mp (Int.not_lt.mpr h0)) rfl rfl rfl (Nat.le_of_ble_eq_true rfl) (Nat.le_of_ble_eq_true rfl) (Nat.le_of_ble_eq_true rfl) (Nat.le_of_ble_eq_true rfl) (Nat.le_of_ble_eq_true rfl) dX7_value_2 (fun z1 v1 hz1 => ?_)
  refine g_astore_n F rfl (Nat.le_of_ble_eq_true rfl) (ls' := [(3, (16, z1)), (0, (17, a0)), (1, (0, a1)), (2, (0, a2))]) rfl dX7_value_5 ?_
  refine g_iload_n F rfl 3 rfl rfl dX7_value_6 ?_
  refine g_iconst F 2 rfl dX7_value_7 ?_
  refine g_ldc F rfl cn_RX7_41 dX7_value_8 ?_
  refine g_callS F (by decide) [(0, a2), (2, 0), (0, 1000000)] [0, 0, 0] ml_RX7_42 wt_X7_requireRange (c_X7_requireRange a2 0 1000000) mi_X7_requireRange rfl rfl rfl (Nat.le_of_ble_eq_true rfl) (Nat.le_of_ble_eq_true rfl) (Nat.le_of_ble_eq_true rfl) (Nat.le_of_ble_eq_true rfl) (Nat.le_of_ble_eq_true rfl) dX7_value_10 (fun z2 v2 hz2 => ?_)
  refine g_aload_n F rfl 0 rfl dX7_value_13 ?_
  refine g_chk (fun n3 => ?_)
  refine g_get F (t := 0) (sI := 5) fl_RX7_84 rfl rfl (Int.not_lt.mp (Int.not_lt.mpr n3)) dX7_value_14 ?_
  refine g_istore F rfl (Nat.le_of_ble_eq_true rfl) (ls' := [(4, (0, (v2 6 z1 5))), (3, (16, z1)), (0, (17, a0)), (1, (0, a1)), (2, (0, a2))]) rfl dX7_value_17 ?_
  refine g_aload_n F rfl 1 rfl dX7_value_19 ?_
  refine g_iload_n F rfl 4 rfl rfl dX7_value_20 ?_
  refine h_put F (sI := 5) fl_RX7_84 ⟨_, rfl, Or.inl rfl⟩ rfl rfl (Int.not_lt.mp (Int.not_lt.mpr n3)) dX7_value_21 (fun v4 => ?_)
  refine g_iload F 0 rfl rfl dX7_value_24 ?_
  exact g_ireturn F rfl rfl rfl rfl (Nat.le_of_ble_eq_true rfl) (Nat.le_of_ble_eq_true rfl) dX7_value_26
theorem c_X7_value (a0 a1 a2 : Int) (h0 : 0 ≤ a0) : ∀ l, Ct l yX7_value cX7_value 5 (some .int) ({ frames := 7, cells := 2, slots := 12, locals := 104 }) (some 0) [(17, a0), (0, a1), (0, a2)] (sp_X7_value a0 a1 a2) := g_method (by decide +kernel) (Nat.le_of_ble_eq_true rfl) (fun x v F ho => k_X7_value a0 a1 a2 h0 x v F ho)
def sp_X7_pass (a0 a1 : Int) (v : V) : Res := (rB (sp_X7_requireRange a1 1 1000 v) (fun z1 v1 => (if 20000 < (w32 ((v1 7 a0 9) + a1)) then (rB (sp_X7_requireState 0 v1) (fun z3 v3 => none))
   else (rB (sp_X7_requireState 1 v1) (fun z4 v4 => (rLet (up v4 7 a0 9 (w32 ((v4 7 a0 9) + a1))) (fun v5 => (rOk (v5 7 a0 9) v5))))))))
set_option maxRecDepth 100000 in
set_option maxHeartbeats 4000000 in
theorem k_X7_pass (a0 a1 : Int) (h0 : 0 ≤ a0) (x : Cx) (v : V) (F : Fx x cX7_pass RX7 "pass" ({ frames := 7, cells := 2, slots := 12, locals := 104 }) 2 (some 0) (some .int) 0) (ho : ∀ a ∈ [(17, a0), (0, a1)], okv v a) : Gs x (sp_X7_pass a0 a1 v) v 0 0 0 (avArgs 0 [(17, a0), (0, a1)]) [] := by
  show Gs x _ v 0 0 0 [(0, (17, a0)), (1, (0, a1))] []
  unfold sp_X7_pass
  refine g_iload_n F rfl 1 rfl rfl dX7_pass_0 ?_
  refine g_iconst F 2 rfl dX7_pass_1 ?_
  refine g_sipush F rfl (by decide) dX7_pass_2 ?_
  refine g_callS F (by decide) [(0, a1), (2, 1), (0, 1000)] [0, 0, 0] ml_RX7_42 wt_X7_requireRange (c_X7_requireRange a1 1 1000) mi_X7_requireRange rfl rfl rfl (Nat.le_of_ble_eq_true rfl) (Nat.le_of_ble_eq_true rfl) (Nat.le_of_ble_eq_true rfl) (Nat.le_of_ble_eq_true rfl) (Nat.le_of_ble_eq_true rfl) dX7_pass_5 (fun z1 v1 hz1 => ?_)
  refine g_aload_n F rfl 0 rfl dX7_pass_8 ?_
  refine g_get F (t := 0) (sI := 9) fl_RX7_87 rfl rfl (Int.not_lt.mp (Int.not_lt.mpr h0)) dX7_pass_9 ?_
  refine g_iload_n F rfl 1 rfl rfl dX7_pass_12 ?_
  refine g_iadd F rfl rfl dX7_pass_13 ?_
  refine g_sipush F rfl (by decide) dX7_pass_14 ?_
  refine g_icmp_gt F rfl rfl (tgt := 24) rfl dX7_pass_17 (fun n2 => ?_) (fun n2 => ?_)
  · refine g_iconst F 2 rfl dX7_pass_24 ?_
    refine g_callS F (by decide) [(2, 0)] [2] ml_RX7_50 wt_X7_requireState (c_X7_requireState 0) mi_X7_requireState rfl rfl rfl (Nat.le_of_ble_eq_true rfl) (Nat.le_of_ble_eq_true rfl) (Nat.le_of_ble_eq_true rfl) (Nat.le_of_ble_eq_true rfl) (Nat.le_of_ble_eq_true rfl) dX7_pass_25 (fun z3 v3 hz3 => ?_)
    exact g_none
  · refine g_iconst F 2 rfl dX7_pass_20 ?_
    refine g_goto F (tgt := 25) rfl dX7_pass_21 ?_
    refine g_callS F (by decide) [(2, 1)] [2] ml_RX7_50 wt_X7_requireState (c_X7_requireState 1) mi_X7_requireState rfl rfl rfl (Nat.le_of_ble_eq_true rfl) (Nat.le_of_ble_eq_true rfl) (Nat.le_of_ble_eq_true rfl) (Nat.le_of_ble_eq_true rfl) (Nat.le_of_ble_eq_true rfl) dX7_pass_25 (fun z4 v4 hz4 => ?_)
    refine g_aload_n F rfl 0 rfl dX7_pass_28 ?_
    refine g_dup F rfl dX7_pass_29 ?_
    refine g_get F (t := 0) (sI := 9) fl_RX7_87 rfl rfl (Int.not_lt.mp (Int.not_lt.mpr h0)) dX7_pass_30 ?_
    refine g_iload_n F rfl 1 rfl rfl dX7_pass_33 ?_
    refine g_iadd F rfl rfl dX7_pass_34 ?_
    refine h_put F (sI := 9) fl_RX7_87 ⟨_, rfl, Or.inl rfl⟩ rfl rfl (Int.not_lt.mp (Int.not_lt.mpr h0)) dX7_pass_35 (fun v5 => ?_)
    refine g_aload_n F rfl 0 rfl dX7_pass_38 ?_
    refine g_get F (t := 0) (sI := 9) fl_RX7_87 rfl rfl (Int.not_lt.mp (Int.not_lt.mpr h0)) dX7_pass_39 ?_
    exact g_ireturn F rfl rfl rfl rfl (Nat.le_of_ble_eq_true rfl) (Nat.le_of_ble_eq_true rfl) dX7_pass_42
theorem c_X7_pass (a0 a1 : Int) (h0 : 0 ≤ a0) : ∀ l, Ct l yX7_pass cX7_pass 2 (some .int) ({ frames := 7, cells := 2, slots := 12, locals := 104 }) (some 0) [(17, a0), (0, a1)] (sp_X7_pass a0 a1) := g_method (by decide +kernel) (Nat.le_of_ble_eq_true rfl) (fun x v F ho => k_X7_pass a0 a1 h0 x v F ho)
def sp_X7_weight (a0 a1 a2 : Int) (v : V) : Res := (rB (sp_X7_partyAt a0 a1 v) (fun z1 v1 => (rB (sp_X7_requireRange a2 0 9 v1) (fun z2 v2 => (chk (0 ≤ z1) (rLet (up v2 3 z1 3 a2) (fun v4 => (rOk (v2 3 z1 3) v4))))))))
set_option maxRecDepth 100000 in
set_option maxHeartbeats 4000000 in
theorem k_X7_weight (a0 a1 a2 : Int) (h0 : 0 ≤ a0) (x : Cx) (v : V) (F : Fx x cX7_weight RX7 "weight" ({ frames := 7, cells := 2, slots := 12, locals := 104 }) 5 (some 0) (some .int) 0) (ho : ∀ a ∈ [(17, a0), (0, a1), (0, a2)], okv v a) : Gs x (sp_X7_weight a0 a1 a2 v) v 0 0 0 (avArgs 0 [(17, a0), (0, a1), (0, a2)]) [] := by
  show Gs x _ v 0 0 0 [(0, (17, a0)), (1, (0, a1)), (2, (0, a2))] []
  unfold sp_X7_weight
  refine g_aload_n F rfl 0 rfl dX7_weight_0 ?_
  refine g_iload_n F rfl 1 rfl rfl dX7_weight_1 ?_
  refine g_callV F (by decide) (K := 7) (b := a0) [(0, a1)] [0] ml_RX7_59 wi_X7_partyAt ws_X7_partyAt (c_X7_partyAt a0 a1 (Int.not_lt.mp (Int.not_lt.mpr h0))) mi_X7_partyAt (by decide) ⟨_, rfl, rfl⟩ (Int.not_lt.mp (Int.not_lt.mpr h0)) rfl rfl rfl (Nat.le_of_ble_eq_true rfl) (Nat.le_of_ble_eq_true rfl) (Nat.le_of_ble_eq_true rfl) (Nat.le_of_ble_eq_true rfl) (Nat.le_of_ble_eq_true rfl) dX7_weight_2 (fun z1 v1 hz1 => ?_)
  refine g_astore_n F rfl (Nat.le_of_ble_eq_true rfl) (ls' := [(3, (13, z1)), (0, (17, a0)), (1, (0, a1)), (2, (0, a2))]) rfl dX7_weight_5 ?_
  refine g_iload_n F rfl 3 rfl rfl dX7_weight_6 ?_
  refine g_iconst F 2 rfl dX7_weight_7 ?_
  refine g_bipush F rfl (by decide) dX7_weight_8 ?_
  refine g_callS F (by decide) [(0, a2), (2, 0), (0, 9)] [0, 0, 0] ml_RX7_42 wt_X7_requireRange (c_X7_requireRange a2 0 9) mi_X7_requireRange rfl rfl rfl (Nat.le_of_ble_eq_true rfl) (Nat.le_of_ble_eq_true rfl) (Nat.le_of_ble_eq_true rfl) (Nat.le_of_ble_eq_true rfl) (Nat.le_of_ble_eq_true rfl) dX7_weight_10 (fun z2 v2 hz2 => ?_)
  refine g_aload_n F rfl 0 rfl dX7_weight_13 ?_
  refine g_chk (fun n3 => ?_)
  refine g_get F (t := 0) (sI := 3) fl_RX7_90 rfl rfl (Int.not_lt.mp (Int.not_lt.mpr n3)) dX7_weight_14 ?_
  refine g_istore F rfl (Nat.le_of_ble_eq_true rfl) (ls' := [(4, (0, (v2 3 z1 3))), (3, (13, z1)), (0, (17, a0)), (1, (0, a1)), (2, (0, a2))]) rfl dX7_weight_17 ?_
  refine g_aload_n F rfl 1 rfl dX7_weight_19 ?_
  refine g_iload_n F rfl 4 rfl rfl dX7_weight_20 ?_
  refine h_put F (sI := 3) fl_RX7_90 ⟨_, rfl, Or.inl rfl⟩ rfl rfl (Int.not_lt.mp (Int.not_lt.mpr n3)) dX7_weight_21 (fun v4 => ?_)
  refine g_iload F 0 rfl rfl dX7_weight_24 ?_
  exact g_ireturn F rfl rfl rfl rfl (Nat.le_of_ble_eq_true rfl) (Nat.le_of_ble_eq_true rfl) dX7_weight_26
theorem c_X7_weight (a0 a1 a2 : Int) (h0 : 0 ≤ a0) : ∀ l, Ct l yX7_weight cX7_weight 5 (some .int) ({ frames := 7, cells := 2, slots := 12, locals := 104 }) (some 0) [(17, a0), (0, a1), (0, a2)] (sp_X7_weight a0 a1 a2) := g_method (by decide +kernel) (Nat.le_of_ble_eq_true rfl) (fun x v F ho => k_X7_weight a0 a1 a2 h0 x v F ho)
def sp_X7_word (a0 a1 a2 a3 : Int) (v : V) : Res := (rB (sp_X7_partyAt a0 a1 v) (fun z1 v1 => (rB (sp_X7_workAt a0 a2 v1) (fun z2 v2 => (chk (0 ≤ z2) (if 50 ≤ (v2 6 z2 4) then (rB (sp_X7_requireState 0 v2) (fun z5 v5 => none))
   else (rB (sp_X7_requireState 1 v2) (fun z6 v6 => (chk ((0 : Int) ≤ (50 * z2 + v6 6 z2 4) ∧ ¬ v6 99 5 (50 * z2 + v6 6 z2 4) = 1) (rLet (nw v6 5 (50 * z2 + v6 6 z2 4)) (fun v7 => (rB (sp_X5_init (50 * z2 + v6 6 z2 4) z1 (v7 7 a0 9) a3 v7) (fun z9 v9 => (chk (0 ≤ (v6 6 z2 2)) (chk (0 ≤ (v6 6 z2 4) ∧ (v6 6 z2 4) < 50) (rLet (up v9 15 (v6 6 z2 2) (v6 6 z2 4) (50 * z2 + v6 6 z2 4)) (fun v12 => (rLet (up v12 6 z2 4 (w32 ((v12 6 z2 4) + 1))) (fun v13 => (rOk (v13 6 z2 4) v13))))))))))))))))))))
set_option maxRecDepth 100000 in
set_option maxHeartbeats 4000000 in
theorem k_X7_word (a0 a1 a2 a3 : Int) (h0 : 0 ≤ a0) (x : Cx) (v : V) (F : Fx x cX7_word RX7 "word" ({ frames := 7, cells := 4, slots := 21, locals := 103 }) 6 (some 0) (some .int) 0) (ho : ∀ a ∈ [(17, a0), (0, a1), (0, a2), (2, a3)], okv v a) : Gs x (sp_X7_word a0 a1 a2 a3 v) v 0 0 0 (avArgs 0 [(17, a0), (0, a1), (0, a2), (2, a3)]) [] := by
  show Gs x _ v 0 0 0 [(0, (17, a0)), (1, (0, a1)), (2, (0, a2)), (3, (2, a3))] []
  unfold sp_X7_word
  refine g_aload_n F rfl 0 rfl dX7_word_0 ?_
  refine g_iload_n F rfl 1 rfl rfl dX7_word_1 ?_
  refine g_callV F (by decide) (K := 7) (b := a0) [(0, a1)] [0] ml_RX7_59 wi_X7_partyAt ws_X7_partyAt (c_X7_partyAt a0 a1 (Int.not_lt.mp (Int.not_lt.mpr h0))) mi_X7_partyAt (by decide) ⟨_, rfl, rfl⟩ (Int.not_lt.mp (Int.not_lt.mpr h0)) rfl rfl rfl (Nat.le_of_ble_eq_true rfl) (Nat.le_of_ble_eq_true rfl) (Nat.le_of_ble_eq_true rfl) (Nat.le_of_ble_eq_true rfl) (Nat.le_of_ble_eq_true rfl) dX7_word_2 (fun z1 v1 hz1 => ?_)
  refine g_astore F (Nat.le_of_ble_eq_true rfl) (ls' := [(4, (13, z1)), (0, (17, a0)), (1, (0, a1)), (2, (0, a2)), (3, (2, a3))]) rfl dX7_word_5 ?_
  refine g_aload_n F rfl 1 rfl dX7_word_7 ?_
  refine g_iload_n F rfl 3 rfl rfl dX7_word_8 ?_
  refine g_callV F (by decide) (K := 7) (b := a0) [(0, a2)] [0] ml_RX7_80 wi_X7_workAt ws_X7_workAt (c_X7_workAt a0 a2 (Int.not_lt.mp (Int.not_lt.mpr h0))) mi_X7_workAt (by decide) ⟨_, rfl, rfl⟩ (Int.not_lt.mp (Int.not_lt.mpr h0)) rfl rfl rfl (Nat.le_of_ble_eq_true rfl) (Nat.le_of_ble_eq_true rfl) (Nat.le_of_ble_eq_true rfl) (Nat.le_of_ble_eq_true rfl) (Nat.le_of_ble_eq_true rfl) dX7_word_9 (fun z2 v2 hz2 => ?_)
  refine g_astore F (Nat.le_of_ble_eq_true rfl) (ls' := [(5, (16, z2)), (4, (13, z1)), (0, (17, a0)), (1, (0, a1)), (2, (0, a2)), (3, (2, a3))]) rfl dX7_word_12 ?_
  refine g_aload F 0 rfl dX7_word_14 ?_
  refine g_chk (fun n3 => ?_)
  refine g_get F (t := 0) (sI := 4) fl_RX7_93 rfl rfl (Int.not_lt.mp (Int.not_lt.mpr n3)) dX7_word_16 ?_
  refine g_bipush F rfl (by decide) dX7_word_19 ?_
  refine g_icmp_ge F rfl rfl (tgt := 28) rfl dX7_word_21 (fun n4 => ?_) (fun n4 => ?_)
  · refine g_iconst F 2 rfl dX7_word_28 ?_
    refine g_callS F (by decide) [(2, 0)] [2] ml_RX7_50 wt_X7_requireState (c_X7_requireState 0) mi_X7_requireState rfl rfl rfl (Nat.le_of_ble_eq_true rfl) (Nat.le_of_ble_eq_true rfl) (Nat.le_of_ble_eq_true rfl) (Nat.le_of_ble_eq_true rfl) (Nat.le_of_ble_eq_true rfl) dX7_word_29 (fun z5 v5 hz5 => ?_)
    exact g_none
  · refine g_iconst F 2 rfl dX7_word_24 ?_
    refine g_goto F (tgt := 29) rfl dX7_word_25 ?_
    refine g_callS F (by decide) [(2, 1)] [2] ml_RX7_50 wt_X7_requireState (c_X7_requireState 1) mi_X7_requireState rfl rfl rfl (Nat.le_of_ble_eq_true rfl) (Nat.le_of_ble_eq_true rfl) (Nat.le_of_ble_eq_true rfl) (Nat.le_of_ble_eq_true rfl) (Nat.le_of_ble_eq_true rfl) dX7_word_29 (fun z6 v6 hz6 => ?_)
    refine g_aload F 0 rfl dX7_word_32 ?_
    refine g_get F (t := 25) (sI := 2) fl_RX7_96 rfl rfl (Int.not_lt.mp (Int.not_lt.mpr n3)) dX7_word_34 ?_
    refine g_aload F 0 rfl dX7_word_37 ?_
    refine g_get F (t := 0) (sI := 4) fl_RX7_93 rfl rfl (Int.not_lt.mp (Int.not_lt.mpr n3)) dX7_word_39 ?_
    refine g_chk (fun n8 => ?_)
    refine h_new F (n := 3) (Kz := 5) (50 * z2 + v6 6 z2 4) fn_RX7_100 rfl rfl n8 (Nat.le_of_ble_eq_true rfl) (Nat.le_of_ble_eq_true rfl) dX7_word_42 (fun v7 => ?_)
    refine g_dup F rfl dX7_word_45 ?_
    refine g_aload F 1 rfl dX7_word_46 ?_
    refine g_aload_n F rfl 2 rfl dX7_word_48 ?_
    refine g_get F (t := 0) (sI := 9) fl_RX7_87 rfl rfl (Int.not_lt.mp (Int.not_lt.mpr h0)) dX7_word_49 ?_
    refine g_iload_n F rfl 5 rfl rfl dX7_word_52 ?_
    refine g_callIN F (by decide) (K := 5) (b := (50 * z2 + v6 6 z2 4)) [(13, z1), (0, (v7 7 a0 9)), (2, a3)] [13, 0, 2] ml_RX7_102 wi_X5_init rfl (c_X5_init (50 * z2 + v6 6 z2 4) z1 (v7 7 a0 9) a3 (Int.not_lt.mp (Int.not_lt.mpr n8.1))) mi_X5_init (Int.not_lt.mp (Int.not_lt.mpr n8.1)) rfl rfl rfl (Nat.le_of_ble_eq_true rfl) (Nat.le_of_ble_eq_true rfl) (Nat.le_of_ble_eq_true rfl) (Nat.le_of_ble_eq_true rfl) (Nat.le_of_ble_eq_true rfl) dX7_word_53 (fun z9 v9 hz9 => ?_)
    refine g_chk (fun n10 => ?_)
    refine g_chk (fun n11 => ?_)
    refine h_aast F (K2 := 5) (n := 50) ak_15 (by decide) (Int.not_lt.mp (Int.not_lt.mpr n10)) n11 (Int.not_lt.mp (Int.not_lt.mpr n8.1)) rfl dX7_word_56 (fun v12 => ?_)
    refine g_aload F 0 rfl dX7_word_57 ?_
    refine g_dup F rfl dX7_word_59 ?_
    refine g_get F (t := 0) (sI := 4) fl_RX7_93 rfl rfl (Int.not_lt.mp (Int.not_lt.mpr n3)) dX7_word_60 ?_
    refine g_iconst F 2 rfl dX7_word_63 ?_
    refine g_iadd F rfl rfl dX7_word_64 ?_
    refine h_put F (sI := 4) fl_RX7_93 ⟨_, rfl, Or.inl rfl⟩ rfl rfl (Int.not_lt.mp (Int.not_lt.mpr n3)) dX7_word_65 (fun v13 => ?_)
    refine g_aload F 0 rfl dX7_word_68 ?_
    refine g_get F (t := 0) (sI := 4) fl_RX7_93 rfl rfl (Int.not_lt.mp (Int.not_lt.mpr n3)) dX7_word_70 ?_
    exact g_ireturn F rfl rfl rfl rfl (Nat.le_of_ble_eq_true rfl) (Nat.le_of_ble_eq_true rfl) dX7_word_73
theorem c_X7_word (a0 a1 a2 a3 : Int) (h0 : 0 ≤ a0) : ∀ l, Ct l yX7_word cX7_word 6 (some .int) ({ frames := 7, cells := 4, slots := 21, locals := 103 }) (some 0) [(17, a0), (0, a1), (0, a2), (2, a3)] (sp_X7_word a0 a1 a2 a3) := g_method (by decide +kernel) (Nat.le_of_ble_eq_true rfl) (fun x v F ho => k_X7_word a0 a1 a2 a3 h0 x v F ho)
def sp_X7_requireYears (a0 a1 : Int) (v : V) : Res := (rB (sp_X7_requireRange a0 1900 2000 v) (fun z1 v1 => (rB (sp_X7_requireRange a1 a0 2000 v1) (fun z2 v2 => (rOk 0 v2)))))
set_option maxRecDepth 100000 in
set_option maxHeartbeats 4000000 in
theorem k_X7_requireYears (a0 a1 : Int) (x : Cx) (v : V) (F : Fx x cX7_requireYears RX7 "requireYears" ({ frames := 7, cells := 2, slots := 12, locals := 104 }) 2 none none 0) (ho : ∀ a ∈ [(0, a0), (0, a1)], okv v a) : Gs x (sp_X7_requireYears a0 a1 v) v 0 0 0 (avArgs 0 [(0, a0), (0, a1)]) [] := by
  show Gs x _ v 0 0 0 [(0, (0, a0)), (1, (0, a1))] []
  unfold sp_X7_requireYears
  refine g_iload_n F rfl 0 rfl rfl dX7_requireYears_0 ?_
  refine g_sipush F rfl (by decide) dX7_requireYears_1 ?_
  refine g_sipush F rfl (by decide) dX7_requireYears_4 ?_
  refine g_callS F (by decide) [(0, a0), (0, 1900), (0, 2000)] [0, 0, 0] ml_RX7_42 wt_X7_requireRange (c_X7_requireRange a0 1900 2000) mi_X7_requireRange rfl rfl rfl (Nat.le_of_ble_eq_true rfl) (Nat.le_of_ble_eq_true rfl) (Nat.le_of_ble_eq_true rfl) (Nat.le_of_ble_eq_true rfl) (Nat.le_of_ble_eq_true rfl) dX7_requireYears_7 (fun z1 v1 hz1 => ?_)
  refine g_iload_n F rfl 1 rfl rfl dX7_requireYears_10 ?_
  refine g_iload_n F rfl 0 rfl rfl dX7_requireYears_11 ?_
  refine g_sipush F rfl (by decide) dX7_requireYears_12 ?_
  refine g_callS F (by decide) [(0, a1), (0, a0), (0, 2000)] [0, 0, 0] ml_RX7_42 wt_X7_requireRange (c_X7_requireRange a1 a0 2000) mi_X7_requireRange rfl rfl rfl (Nat.le_of_ble_eq_true rfl) (Nat.le_of_ble_eq_true rfl) (Nat.le_of_ble_eq_true rfl) (Nat.le_of_ble_eq_true rfl) (Nat.le_of_ble_eq_true rfl) dX7_requireYears_15 (fun z2 v2 hz2 => ?_)
  exact g_return F rfl (Nat.le_of_ble_eq_true rfl) (Nat.le_of_ble_eq_true rfl) dX7_requireYears_18
theorem c_X7_requireYears (a0 a1 : Int) : ∀ l, Ct l yX7_requireYears cX7_requireYears 2 none ({ frames := 7, cells := 2, slots := 12, locals := 104 }) none [(0, a0), (0, a1)] (sp_X7_requireYears a0 a1) := g_method (by decide +kernel) (Nat.le_of_ble_eq_true rfl) (fun x v F ho => k_X7_requireYears a0 a1 x v F ho)
def lp_X7_paper_15 (l0 l1 l2 l3 l4 : Int) (k : V → Int → Res) : Nat → V → Int → Res
  | 0, _, _ => none
  | n + 1, v, l5 => (if l3 < l5 then (k v l5)
   else (chk (0 ≤ l4) (chk (0 ≤ (v 6 l4 3)) (chk (0 ≤ (w32 (l5 - 1900)) ∧ (w32 (l5 - 1900)) < 101) (rLet (up v 16 (v 6 l4 3) (w32 (l5 - 1900)) 1) (fun v7 => (lp_X7_paper_15 l0 l1 l2 l3 l4 k n v7 (w32 (l5 + 1)))))))))
set_option maxRecDepth 100000 in
set_option maxHeartbeats 4000000 in
theorem kl_X7_paper_15 {l0 l1 l2 l3 l4 : Int} (h0 : 0 ≤ l0) {x : Cx} (F : Fx x cX7_paper RX7 "paper" ({ frames := 8, cells := 3, slots := 18, locals := 125 }) 6 none none 0) {k : V → Int → Res} (hk : ∀ (v : V) (l5 : Int), Gs x (k v l5) v 3 18 40 [(0, (17, l0)), (1, (0, l1)), (2, (0, l2)), (3, (0, l3)), (4, (16, l4)), (5, (0, l5))] []) : ∀ (n : Nat) (v : V) (l5 : Int), Gs x (lp_X7_paper_15 l0 l1 l2 l3 l4 k n v l5) v 3 18 15 [(0, (17, l0)), (1, (0, l1)), (2, (0, l2)), (3, (0, l3)), (4, (16, l4)), (5, (0, l5))] [] := by
  intro n
  induction n with
  | zero => intro v l5; exact g_none
  | succ n ih =>
    intro v l5
    rw [lp_X7_paper_15]
    refine g_iload F 5 rfl rfl dX7_paper_15 ?_
    refine g_iload_n F rfl 3 rfl rfl dX7_paper_17 ?_
    refine g_icmp_gt F rfl rfl (tgt := 40) rfl dX7_paper_18 (fun n3 => ?_) (fun n3 => ?_)
    · refine g_loc [(0, 17), (1, 0), (2, 0), (3, 0), (4, 16), (5, 0)] rfl ?_
      exact hk v l5
    · refine g_aload F 4 rfl dX7_paper_21 ?_
      refine g_chk (fun n4 => ?_)
      refine g_get F (t := 26) (sI := 3) fl_RX7_109 rfl rfl (Int.not_lt.mp (Int.not_lt.mpr n4)) dX7_paper_23 ?_
      refine g_iload F 5 rfl rfl dX7_paper_26 ?_
      refine g_sipush F rfl (by decide) dX7_paper_28 ?_
      refine g_isub F rfl rfl dX7_paper_31 ?_
      refine g_iconst F 2 rfl dX7_paper_32 ?_
      refine g_chk (fun n5 => ?_)
      refine g_chk (fun n6 => ?_)
      refine h_zast F (n := 101) ak_16 rfl (Int.not_lt.mp (Int.not_lt.mpr n5)) n6 rfl dX7_paper_33 (fun v7 => ?_)
      refine g_iinc F 5 rfl rfl (Nat.le_of_ble_eq_true rfl) (ls' := [(5, (0, (w32 (l5 + 1)))), (0, (17, l0)), (1, (0, l1)), (2, (0, l2)), (3, (0, l3)), (4, (16, l4))]) rfl dX7_paper_34 ?_
      refine g_goto F (tgt := 15) rfl dX7_paper_37 ?_
      refine g_loc [(1, 17), (2, 0), (3, 0), (4, 0), (5, 16), (0, 0)] rfl ?_
      exact ih v7 (w32 (l5 + 1))
def sp_X7_paper (a0 a1 a2 a3 : Int) (v : V) : Res := (rB (sp_X7_workAt a0 a1 v) (fun z1 v1 => (rB (sp_X7_requireYears a2 a3 v1) (fun z2 v2 => (lp_X7_paper_15 a0 a1 a2 a3 z1 (fun v8 u8_5 => (rOk 0 v8)) 200 v2 a2)))))
set_option maxRecDepth 100000 in
set_option maxHeartbeats 4000000 in
theorem k_X7_paper (a0 a1 a2 a3 : Int) (h0 : 0 ≤ a0) (x : Cx) (v : V) (F : Fx x cX7_paper RX7 "paper" ({ frames := 8, cells := 3, slots := 18, locals := 125 }) 6 none none 0) (ho : ∀ a ∈ [(17, a0), (0, a1), (0, a2), (0, a3)], okv v a) : Gs x (sp_X7_paper a0 a1 a2 a3 v) v 0 0 0 (avArgs 0 [(17, a0), (0, a1), (0, a2), (0, a3)]) [] := by
  show Gs x _ v 0 0 0 [(0, (17, a0)), (1, (0, a1)), (2, (0, a2)), (3, (0, a3))] []
  unfold sp_X7_paper
  refine g_aload_n F rfl 0 rfl dX7_paper_0 ?_
  refine g_iload_n F rfl 1 rfl rfl dX7_paper_1 ?_
  refine g_callV F (by decide) (K := 7) (b := a0) [(0, a1)] [0] ml_RX7_80 wi_X7_workAt ws_X7_workAt (c_X7_workAt a0 a1 (Int.not_lt.mp (Int.not_lt.mpr h0))) mi_X7_workAt (by decide) ⟨_, rfl, rfl⟩ (Int.not_lt.mp (Int.not_lt.mpr h0)) rfl rfl rfl (Nat.le_of_ble_eq_true rfl) (Nat.le_of_ble_eq_true rfl) (Nat.le_of_ble_eq_true rfl) (Nat.le_of_ble_eq_true rfl) (Nat.le_of_ble_eq_true rfl) dX7_paper_2 (fun z1 v1 hz1 => ?_)
  refine g_astore F (Nat.le_of_ble_eq_true rfl) (ls' := [(4, (16, z1)), (0, (17, a0)), (1, (0, a1)), (2, (0, a2)), (3, (0, a3))]) rfl dX7_paper_5 ?_
  refine g_iload_n F rfl 3 rfl rfl dX7_paper_7 ?_
  refine g_iload_n F rfl 4 rfl rfl dX7_paper_8 ?_
  refine g_callS F (by decide) [(0, a2), (0, a3)] [0, 0] ml_RX7_105 wt_X7_requireYears (c_X7_requireYears a2 a3) mi_X7_requireYears rfl rfl rfl (Nat.le_of_ble_eq_true rfl) (Nat.le_of_ble_eq_true rfl) (Nat.le_of_ble_eq_true rfl) (Nat.le_of_ble_eq_true rfl) (Nat.le_of_ble_eq_true rfl) dX7_paper_9 (fun z2 v2 hz2 => ?_)
  refine g_iload_n F rfl 3 rfl rfl dX7_paper_12 ?_
  refine g_istore F rfl (Nat.le_of_ble_eq_true rfl) (ls' := [(5, (0, a2)), (4, (16, z1)), (0, (17, a0)), (1, (0, a1)), (2, (0, a2)), (3, (0, a3))]) rfl dX7_paper_13 ?_
  refine g_loc [(2, 17), (3, 0), (4, 0), (5, 0), (1, 16), (0, 0)] rfl ?_
  refine kl_X7_paper_15 (Int.not_lt.mp (Int.not_lt.mpr h0)) F (fun v8 u8_5 => ?_) 200 v2 a2
  exact g_return F rfl (Nat.le_of_ble_eq_true rfl) (Nat.le_of_ble_eq_true rfl) dX7_paper_40
theorem c_X7_paper (a0 a1 a2 a3 : Int) (h0 : 0 ≤ a0) : ∀ l, Ct l yX7_paper cX7_paper 6 none ({ frames := 8, cells := 3, slots := 18, locals := 125 }) none [(17, a0), (0, a1), (0, a2), (0, a3)] (sp_X7_paper a0 a1 a2 a3) := g_method (by decide +kernel) (Nat.le_of_ble_eq_true rfl) (fun x v F ho => k_X7_paper a0 a1 a2 a3 h0 x v F ho)
def sp_X7_right (a0 a1 a2 : Int) (v : V) : Res := (rB (sp_X7_requireLand a1 v) (fun z1 v1 => (rB (sp_X7_requireRange a2 0 20 v1) (fun z2 v2 => (chk (0 ≤ (v2 7 a0 4)) (chk (0 ≤ a1 ∧ a1 < 4) (rLet (up v2 14 (v2 7 a0 4) a1 a2) (fun v5 => (rOk (v2 14 (v2 7 a0 4) a1) v5)))))))))
set_option maxRecDepth 100000 in
set_option maxHeartbeats 4000000 in
theorem k_X7_right (a0 a1 a2 : Int) (h0 : 0 ≤ a0) (x : Cx) (v : V) (F : Fx x cX7_right RX7 "right" ({ frames := 7, cells := 2, slots := 12, locals := 104 }) 4 (some 0) (some .int) 0) (ho : ∀ a ∈ [(17, a0), (0, a1), (0, a2)], okv v a) : Gs x (sp_X7_right a0 a1 a2 v) v 0 0 0 (avArgs 0 [(17, a0), (0, a1), (0, a2)]) [] := by
  show Gs x _ v 0 0 0 [(0, (17, a0)), (1, (0, a1)), (2, (0, a2))] []
  unfold sp_X7_right
  refine g_iload_n F rfl 1 rfl rfl dX7_right_0 ?_
  refine g_callS F (by decide) [(0, a1)] [0] ml_RX7_37 wt_X7_requireLand (c_X7_requireLand a1) mi_X7_requireLand rfl rfl rfl (Nat.le_of_ble_eq_true rfl) (Nat.le_of_ble_eq_true rfl) (Nat.le_of_ble_eq_true rfl) (Nat.le_of_ble_eq_true rfl) (Nat.le_of_ble_eq_true rfl) dX7_right_1 (fun z1 v1 hz1 => ?_)
  refine g_iload_n F rfl 2 rfl rfl dX7_right_4 ?_
  refine g_iconst F 2 rfl dX7_right_5 ?_
  refine g_bipush F rfl (by decide) dX7_right_6 ?_
  refine g_callS F (by decide) [(0, a2), (2, 0), (0, 20)] [0, 0, 0] ml_RX7_42 wt_X7_requireRange (c_X7_requireRange a2 0 20) mi_X7_requireRange rfl rfl rfl (Nat.le_of_ble_eq_true rfl) (Nat.le_of_ble_eq_true rfl) (Nat.le_of_ble_eq_true rfl) (Nat.le_of_ble_eq_true rfl) (Nat.le_of_ble_eq_true rfl) dX7_right_8 (fun z2 v2 hz2 => ?_)
  refine g_aload_n F rfl 0 rfl dX7_right_11 ?_
  refine g_get F (t := 24) (sI := 4) fl_RX7_33 rfl rfl (Int.not_lt.mp (Int.not_lt.mpr h0)) dX7_right_12 ?_
  refine g_iload_n F rfl 1 rfl rfl dX7_right_15 ?_
  refine g_chk (fun n3 => ?_)
  refine g_chk (fun n4 => ?_)
  refine h_iald F (n := 4) ak_14 (Int.not_lt.mp (Int.not_lt.mpr n3)) n4 rfl dX7_right_16 ?_
  refine g_istore_n F rfl rfl (Nat.le_of_ble_eq_true rfl) (ls' := [(3, (0, (v2 14 (v2 7 a0 4) a1))), (0, (17, a0)), (1, (0, a1)), (2, (0, a2))]) rfl dX7_right_17 ?_
  refine g_aload_n F rfl 1 rfl dX7_right_18 ?_
  refine g_get F (t := 24) (sI := 4) fl_RX7_33 rfl rfl (Int.not_lt.mp (Int.not_lt.mpr h0)) dX7_right_19 ?_
  refine g_iload_n F rfl 2 rfl rfl dX7_right_22 ?_
  refine g_iload_n F rfl 3 rfl rfl dX7_right_23 ?_
  refine h_iast F (n := 4) ak_14 rfl (Int.not_lt.mp (Int.not_lt.mpr n3)) n4 rfl dX7_right_24 (fun v5 => ?_)
  refine g_iload_n F rfl 0 rfl rfl dX7_right_25 ?_
  exact g_ireturn F rfl rfl rfl rfl (Nat.le_of_ble_eq_true rfl) (Nat.le_of_ble_eq_true rfl) dX7_right_26
theorem c_X7_right (a0 a1 a2 : Int) (h0 : 0 ≤ a0) : ∀ l, Ct l yX7_right cX7_right 4 (some .int) ({ frames := 7, cells := 2, slots := 12, locals := 104 }) (some 0) [(17, a0), (0, a1), (0, a2)] (sp_X7_right a0 a1 a2) := g_method (by decide +kernel) (Nat.le_of_ble_eq_true rfl) (fun x v F ho => k_X7_right a0 a1 a2 h0 x v F ho)
def sp_X7_bar (a0 a1 a2 : Int) (v : V) : Res := (rB (sp_X7_workAt a0 a1 v) (fun z1 v1 => (rB (sp_X7_requireRange a2 0 1000 v1) (fun z2 v2 => (chk (0 ≤ z1) (rB (sp_X6_barDaysLeft z1 (v2 7 a0 9) v2) (fun z3 v3 => (rLet (up v3 6 z1 8 (w32 ((v3 7 a0 9) + a2))) (fun v5 => (rOk z3 v5))))))))))
set_option maxRecDepth 100000 in
set_option maxHeartbeats 4000000 in
theorem k_X7_bar (a0 a1 a2 : Int) (h0 : 0 ≤ a0) (x : Cx) (v : V) (F : Fx x cX7_bar RX7 "bar" ({ frames := 7, cells := 2, slots := 12, locals := 104 }) 5 (some 0) (some .int) 0) (ho : ∀ a ∈ [(17, a0), (0, a1), (0, a2)], okv v a) : Gs x (sp_X7_bar a0 a1 a2 v) v 0 0 0 (avArgs 0 [(17, a0), (0, a1), (0, a2)]) [] := by
  show Gs x _ v 0 0 0 [(0, (17, a0)), (1, (0, a1)), (2, (0, a2))] []
  unfold sp_X7_bar
  refine g_aload_n F rfl 0 rfl dX7_bar_0 ?_
  refine g_iload_n F rfl 1 rfl rfl dX7_bar_1 ?_
  refine g_callV F (by decide) (K := 7) (b := a0) [(0, a1)] [0] ml_RX7_80 wi_X7_workAt ws_X7_workAt (c_X7_workAt a0 a1 (Int.not_lt.mp (Int.not_lt.mpr h0))) mi_X7_workAt (by decide) ⟨_, rfl, rfl⟩ (Int.not_lt.mp (Int.not_lt.mpr h0)) rfl rfl rfl (Nat.le_of_ble_eq_true rfl) (Nat.le_of_ble_eq_true rfl) (Nat.le_of_ble_eq_true rfl) (Nat.le_of_ble_eq_true rfl) (Nat.le_of_ble_eq_true rfl) dX7_bar_2 (fun z1 v1 hz1 => ?_)
  refine g_astore_n F rfl (Nat.le_of_ble_eq_true rfl) (ls' := [(3, (16, z1)), (0, (17, a0)), (1, (0, a1)), (2, (0, a2))]) rfl dX7_bar_5 ?_
  refine g_iload_n F rfl 3 rfl rfl dX7_bar_6 ?_
  refine g_iconst F 2 rfl dX7_bar_7 ?_
  refine g_sipush F rfl (by decide) dX7_bar_8 ?_
  refine g_callS F (by decide) [(0, a2), (2, 0), (0, 1000)] [0, 0, 0] ml_RX7_42 wt_X7_requireRange (c_X7_requireRange a2 0 1000) mi_X7_requireRange rfl rfl rfl (Nat.le_of_ble_eq_true rfl) (Nat.le_of_ble_eq_true rfl) (Nat.le_of_ble_eq_true rfl) (Nat.le_of_ble_eq_true rfl) (Nat.le_of_ble_eq_true rfl) dX7_bar_11 (fun z2 v2 hz2 => ?_)
  refine g_aload_n F rfl 0 rfl dX7_bar_14 ?_
  refine g_aload_n F rfl 1 rfl dX7_bar_15 ?_
  refine g_get F (t := 0) (sI := 9) fl_RX7_87 rfl rfl (Int.not_lt.mp (Int.not_lt.mpr h0)) dX7_bar_16 ?_
  refine g_chk (fun n4 => ?_)
  refine g_callVN F (by decide) (K := 6) (b := z1) [(0, (v2 7 a0 9))] [0] ml_RX7_113 wi_X6_barDaysLeft ws_X6_barDaysLeft (c_X6_barDaysLeft z1 (v2 7 a0 9) (Int.not_lt.mp (Int.not_lt.mpr n4))) mi_X6_barDaysLeft (by decide) ⟨_, rfl, rfl⟩ (Int.not_lt.mp (Int.not_lt.mpr n4)) rfl rfl rfl (Nat.le_of_ble_eq_true rfl) (Nat.le_of_ble_eq_true rfl) (Nat.le_of_ble_eq_true rfl) (Nat.le_of_ble_eq_true rfl) (Nat.le_of_ble_eq_true rfl) dX7_bar_19 (fun z3 v3 hz3 => ?_)
  refine g_istore F rfl (Nat.le_of_ble_eq_true rfl) (ls' := [(4, (0, z3)), (3, (16, z1)), (0, (17, a0)), (1, (0, a1)), (2, (0, a2))]) rfl dX7_bar_22 ?_
  refine g_aload_n F rfl 1 rfl dX7_bar_24 ?_
  refine g_aload_n F rfl 2 rfl dX7_bar_25 ?_
  refine g_get F (t := 0) (sI := 9) fl_RX7_87 rfl rfl (Int.not_lt.mp (Int.not_lt.mpr h0)) dX7_bar_26 ?_
  refine g_iload_n F rfl 4 rfl rfl dX7_bar_29 ?_
  refine g_iadd F rfl rfl dX7_bar_30 ?_
  refine h_put F (sI := 8) fl_RX7_117 ⟨_, rfl, Or.inl rfl⟩ rfl rfl (Int.not_lt.mp (Int.not_lt.mpr n4)) dX7_bar_31 (fun v5 => ?_)
  refine g_iload F 0 rfl rfl dX7_bar_34 ?_
  exact g_ireturn F rfl rfl rfl rfl (Nat.le_of_ble_eq_true rfl) (Nat.le_of_ble_eq_true rfl) dX7_bar_36
theorem c_X7_bar (a0 a1 a2 : Int) (h0 : 0 ≤ a0) : ∀ l, Ct l yX7_bar cX7_bar 5 (some .int) ({ frames := 7, cells := 2, slots := 12, locals := 104 }) (some 0) [(17, a0), (0, a1), (0, a2)] (sp_X7_bar a0 a1 a2) := g_method (by decide +kernel) (Nat.le_of_ble_eq_true rfl) (fun x v F ho => k_X7_bar a0 a1 a2 h0 x v F ho)
def sp_X7_seal (a0 a1 a2 : Int) (v : V) : Res := (rB (sp_X7_workAt a0 a1 v) (fun z1 v1 => (if a2 = 0 then (rB (sp_X7_requireState 1 v1) (fun z3 v3 => (chk (0 ≤ z1) (rLet (up v3 6 z1 7 a2) (fun v5 => (rOk (v3 6 z1 7) v5))))))
   else (chk (0 ≤ z1) (if ¬ (v1 6 z1 6) = 0 then (rB (sp_X7_requireState 0 v1) (fun z8 v8 => none))
   else (rB (sp_X7_requireState 1 v1) (fun z9 v9 => (rLet (up v9 6 z1 7 a2) (fun v10 => (rOk (v9 6 z1 7) v10))))))))))
set_option maxRecDepth 100000 in
set_option maxHeartbeats 4000000 in
theorem k_X7_seal (a0 a1 a2 : Int) (h0 : 0 ≤ a0) (x : Cx) (v : V) (F : Fx x cX7_seal RX7 "seal" ({ frames := 7, cells := 2, slots := 12, locals := 103 }) 5 (some 2) (some .boolean) 0) (ho : ∀ a ∈ [(17, a0), (0, a1), (2, a2)], okv v a) : Gs x (sp_X7_seal a0 a1 a2 v) v 0 0 0 (avArgs 0 [(17, a0), (0, a1), (2, a2)]) [] := by
  show Gs x _ v 0 0 0 [(0, (17, a0)), (1, (0, a1)), (2, (2, a2))] []
  unfold sp_X7_seal
  refine g_aload_n F rfl 0 rfl dX7_seal_0 ?_
  refine g_iload_n F rfl 1 rfl rfl dX7_seal_1 ?_
  refine g_callV F (by decide) (K := 7) (b := a0) [(0, a1)] [0] ml_RX7_80 wi_X7_workAt ws_X7_workAt (c_X7_workAt a0 a1 (Int.not_lt.mp (Int.not_lt.mpr h0))) mi_X7_workAt (by decide) ⟨_, rfl, rfl⟩ (Int.not_lt.mp (Int.not_lt.mpr h0)) rfl rfl rfl (Nat.le_of_ble_eq_true rfl) (Nat.le_of_ble_eq_true rfl) (Nat.le_of_ble_eq_true rfl) (Nat.le_of_ble_eq_true rfl) (Nat.le_of_ble_eq_true rfl) dX7_seal_2 (fun z1 v1 hz1 => ?_)
  refine g_astore_n F rfl (Nat.le_of_ble_eq_true rfl) (ls' := [(3, (16, z1)), (0, (17, a0)), (1, (0, a1)), (2, (2, a2))]) rfl dX7_seal_5 ?_
  refine g_iload_n F rfl 3 rfl rfl dX7_seal_6 ?_
  refine g_if_eq F rfl (tgt := 17) rfl dX7_seal_7 (fun n2 => ?_) (fun n2 => ?_)
  · refine g_iconst F 2 rfl dX7_seal_17 ?_
    refine g_goto F (tgt := 22) rfl dX7_seal_18 ?_
    refine g_callS F (by decide) [(2, 1)] [2] ml_RX7_50 wt_X7_requireState (c_X7_requireState 1) mi_X7_requireState rfl rfl rfl (Nat.le_of_ble_eq_true rfl) (Nat.le_of_ble_eq_true rfl) (Nat.le_of_ble_eq_true rfl) (Nat.le_of_ble_eq_true rfl) (Nat.le_of_ble_eq_true rfl) dX7_seal_22 (fun z3 v3 hz3 => ?_)
    refine g_aload_n F rfl 0 rfl dX7_seal_25 ?_
    refine g_chk (fun n4 => ?_)
    refine g_get F (t := 2) (sI := 7) fl_RX7_123 rfl rfl (Int.not_lt.mp (Int.not_lt.mpr n4)) dX7_seal_26 ?_
    refine g_istore F rfl (Nat.le_of_ble_eq_true rfl) (ls' := [(4, (2, (v3 6 z1 7))), (3, (16, z1)), (0, (17, a0)), (1, (0, a1)), (2, (2, a2))]) rfl dX7_seal_29 ?_
    refine g_aload_n F rfl 1 rfl dX7_seal_31 ?_
    refine g_iload_n F rfl 4 rfl rfl dX7_seal_32 ?_
    refine h_put F (sI := 7) fl_RX7_123 ⟨_, rfl, Or.inl rfl⟩ rfl rfl (Int.not_lt.mp (Int.not_lt.mpr n4)) dX7_seal_33 (fun v5 => ?_)
    refine g_iload F 0 rfl rfl dX7_seal_36 ?_
    exact g_ireturn F rfl rfl rfl rfl (Nat.le_of_ble_eq_true rfl) (Nat.le_of_ble_eq_true rfl) dX7_seal_38
  · refine g_aload_n F rfl 0 rfl dX7_seal_10 ?_
    refine g_chk (fun n6 => ?_)
    refine g_get F (t := 0) (sI := 6) fl_RX7_120 rfl rfl (Int.not_lt.mp (Int.not_lt.mpr n6)) dX7_seal_11 ?_
    refine g_if_ne F rfl (tgt := 21) rfl dX7_seal_14 (fun n7 => ?_) (fun n7 => ?_)
    · refine g_iconst F 2 rfl dX7_seal_21 ?_
      refine g_callS F (by decide) [(2, 0)] [2] ml_RX7_50 wt_X7_requireState (c_X7_requireState 0) mi_X7_requireState rfl rfl rfl (Nat.le_of_ble_eq_true rfl) (Nat.le_of_ble_eq_true rfl) (Nat.le_of_ble_eq_true rfl) (Nat.le_of_ble_eq_true rfl) (Nat.le_of_ble_eq_true rfl) dX7_seal_22 (fun z8 v8 hz8 => ?_)
      exact g_none
    · refine g_iconst F 2 rfl dX7_seal_17 ?_
      refine g_goto F (tgt := 22) rfl dX7_seal_18 ?_
      refine g_callS F (by decide) [(2, 1)] [2] ml_RX7_50 wt_X7_requireState (c_X7_requireState 1) mi_X7_requireState rfl rfl rfl (Nat.le_of_ble_eq_true rfl) (Nat.le_of_ble_eq_true rfl) (Nat.le_of_ble_eq_true rfl) (Nat.le_of_ble_eq_true rfl) (Nat.le_of_ble_eq_true rfl) dX7_seal_22 (fun z9 v9 hz9 => ?_)
      refine g_aload_n F rfl 0 rfl dX7_seal_25 ?_
      refine g_get F (t := 2) (sI := 7) fl_RX7_123 rfl rfl (Int.not_lt.mp (Int.not_lt.mpr n6)) dX7_seal_26 ?_
      refine g_istore F rfl (Nat.le_of_ble_eq_true rfl) (ls' := [(4, (2, (v9 6 z1 7))), (3, (16, z1)), (0, (17, a0)), (1, (0, a1)), (2, (2, a2))]) rfl dX7_seal_29 ?_
      refine g_aload_n F rfl 1 rfl dX7_seal_31 ?_
      refine g_iload_n F rfl 4 rfl rfl dX7_seal_32 ?_
      refine h_put F (sI := 7) fl_RX7_123 ⟨_, rfl, Or.inl rfl⟩ rfl rfl (Int.not_lt.mp (Int.not_lt.mpr n6)) dX7_seal_33 (fun v10 => ?_)
      refine g_iload F 0 rfl rfl dX7_seal_36 ?_
      exact g_ireturn F rfl rfl rfl rfl (Nat.le_of_ble_eq_true rfl) (Nat.le_of_ble_eq_true rfl) dX7_seal_38
theorem c_X7_seal (a0 a1 a2 : Int) (h0 : 0 ≤ a0) : ∀ l, Ct l yX7_seal cX7_seal 5 (some .boolean) ({ frames := 7, cells := 2, slots := 12, locals := 103 }) (some 2) [(17, a0), (0, a1), (2, a2)] (sp_X7_seal a0 a1 a2) := g_method (by decide +kernel) (Nat.le_of_ble_eq_true rfl) (fun x v F ho => k_X7_seal a0 a1 a2 h0 x v F ho)

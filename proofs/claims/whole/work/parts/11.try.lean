/-! facts and methods, by the walker -/
theorem fl_RX3_19 : FL RX3 19 3 5 := ⟨by decide, _, rfl, by decide, Or.inl (gw 279 _ (by decide +kernel) (by decide +kernel))⟩
theorem fl_RX3_7 : FL RX3 7 3 0 := ⟨by decide, _, rfl, by decide, Or.inl (gw 267 _ (by decide +kernel) (by decide +kernel))⟩
theorem th_RX7_338 : TH RX7 "no such party" 336 338 340 1 := ⟨by decide +kernel, gw 155 _ (by decide +kernel) (by decide +kernel), gw 66 _ (by decide +kernel) (by decide +kernel), by decide +kernel, by decide +kernel, by decide +kernel⟩
theorem fl_RX7_46 : FL RX7 46 7 5 := ⟨by decide, _, rfl, by decide, Or.inl (gw 99 _ (by decide +kernel) (by decide +kernel))⟩
theorem fl_RX7_11 : FL RX7 11 7 0 := ⟨by decide, _, rfl, by decide, Or.inl (gw 94 _ (by decide +kernel) (by decide +kernel))⟩
theorem ak_10 : AK 10 13 (.object "FreePort$Party") 10 := ak_of rfl rfl rfl rfl
theorem th_RX7_347 : TH RX7 "no such land" 336 347 340 1 := ⟨by decide +kernel, gw 155 _ (by decide +kernel) (by decide +kernel), gw 66 _ (by decide +kernel) (by decide +kernel), by decide +kernel, by decide +kernel, by decide +kernel⟩
theorem th_RX7_351 : TH RX7 "out of its range" 349 351 353 2 := ⟨by decide +kernel, gw 227 _ (by decide +kernel) (by decide +kernel), gw 67 _ (by decide +kernel) (by decide +kernel), by decide +kernel, by decide +kernel, by decide +kernel⟩
theorem th_RX7_356 : TH RX7 "not possible now" 173 356 177 3 := ⟨by decide +kernel, gw 246 _ (by decide +kernel) (by decide +kernel), gw 68 _ (by decide +kernel) (by decide +kernel), by decide +kernel, by decide +kernel, by decide +kernel⟩
theorem ol_RX3_1 : Cond.methodLink RX3 1 Lib.objectInit ∈ gtbl := gw 266 _ (by decide +kernel) (by decide +kernel)
theorem oi_i : Cond.instanceMethod Lib.objectInit ∈ gtbl := gw 84 _ (by decide +kernel) (by decide +kernel)
theorem oi_c : Cond.code Lib.objectInit ⟨#[0xb1]⟩ 1 none ∈ gtbl := gw 85 _ (by decide +kernel) (by decide +kernel)
theorem fl_RX3_13 : FL RX3 13 3 1 := ⟨by decide, _, rfl, by decide, Or.inl (gw 271 _ (by decide +kernel) (by decide +kernel))⟩
theorem fl_RX3_16 : FL RX3 16 3 2 := ⟨by decide, _, rfl, by decide, Or.inl (gw 274 _ (by decide +kernel) (by decide +kernel))⟩
theorem ml_RX7_37 : Cond.methodLink RX7 37 yX7_requireLand ∈ gtbl := gw 152 _ (by decide +kernel) (by decide +kernel)
theorem wt_X7_requireLand : Cond.static yX7_requireLand ∈ gtbl := gw 153 _ (by decide +kernel) (by decide +kernel)
theorem mi_X7_requireLand : MI yX7_requireLand cX7_requireLand 1 none 1 := ⟨gw 154 _ (by decide +kernel) (by decide +kernel), ⟨by decide +kernel, by decide +kernel⟩, by decide +kernel, gw 61 _ (by decide +kernel) (by decide +kernel)⟩
theorem cn_RX7_41 : Cond.constant RX7 41 (Int32.ofInt 1000000) ∈ gtbl := gw 223 _ (by decide +kernel) (by decide +kernel)
theorem ml_RX7_42 : Cond.methodLink RX7 42 yX7_requireRange ∈ gtbl := gw 224 _ (by decide +kernel) (by decide +kernel)
theorem wt_X7_requireRange : Cond.static yX7_requireRange ∈ gtbl := gw 225 _ (by decide +kernel) (by decide +kernel)
theorem mi_X7_requireRange : MI yX7_requireRange cX7_requireRange 3 none 3 := ⟨gw 226 _ (by decide +kernel) (by decide +kernel), ⟨by decide +kernel, by decide +kernel⟩, by decide +kernel, gw 61 _ (by decide +kernel) (by decide +kernel)⟩
theorem ml_RX7_50 : Cond.methodLink RX7 50 yX7_requireState ∈ gtbl := gw 243 _ (by decide +kernel) (by decide +kernel)
theorem wt_X7_requireState : Cond.static yX7_requireState ∈ gtbl := gw 244 _ (by decide +kernel) (by decide +kernel)
theorem mi_X7_requireState : MI yX7_requireState cX7_requireState 1 none 1 := ⟨gw 245 _ (by decide +kernel) (by decide +kernel), ⟨by decide +kernel, by decide +kernel⟩, by decide +kernel, gw 61 _ (by decide +kernel) (by decide +kernel)⟩
theorem fn_RX7_9 : FN RX7 9 3 := ⟨by decide, _, rfl, gw 86 _ (by decide +kernel) (by decide +kernel), gw 262 _ (by decide +kernel) (by decide +kernel), gw 69 _ (by decide +kernel) (by decide +kernel)⟩
theorem ml_RX7_54 : Cond.methodLinkNest RX7 54 yX3_init "FreePort" ∈ gtbl := gw 263 _ (by decide +kernel) (by decide +kernel)
theorem wi_X3_init : Cond.instanceMethod yX3_init ∈ gtbl := gw 264 _ (by decide +kernel) (by decide +kernel)
theorem mi_X3_init : MI yX3_init cX3_init 4 none 3 := ⟨gw 265 _ (by decide +kernel) (by decide +kernel), ⟨by decide +kernel, by decide +kernel⟩, by decide +kernel, gw 69 _ (by decide +kernel) (by decide +kernel)⟩
theorem fl_RX7_56 : FL RX7 56 3 0 := ⟨by decide, _, rfl, by decide, Or.inr ⟨"FreePort", gw 269 _ (by decide +kernel) (by decide +kernel)⟩⟩
def sp_X3_punishBy (a0 a1 : Int) (v : V) : Res := (chk (0 ≤ a1) (rLet (up v 3 a0 5 (or32 (v 3 a0 5) (shl32 1 (v 3 a1 0)))) (fun v2 => (rOk 0 v2))))
set_option maxRecDepth 100000 in
set_option maxHeartbeats 4000000 in
theorem k_X3_punishBy (a0 a1 : Int) (h0 : 0 ≤ a0) (x : Cx) (v : V) (F : Fx x cX3_punishBy RX3 "punishBy" ({ frames := 0, cells := 0, slots := 0, locals := 0 }) 2 none none) (ho : ∀ a ∈ [(13, a0), (13, a1)], okv v a) : Gs x (sp_X3_punishBy a0 a1 v) v 0 0 0 (avArgs 0 [(13, a0), (13, a1)]) [] := by
  show Gs x _ v 0 0 0 [(0, (13, a0)), (1, (13, a1))] []
  unfold sp_X3_punishBy
  refine g_aload_n F rfl 0 rfl dX3_punishBy_0 ?_
  refine g_dup F rfl dX3_punishBy_1 ?_
  refine g_get F (t := 0) (sI := 5) fl_RX3_19 rfl rfl (Int.not_lt.mp (Int.not_lt.mpr h0)) dX3_punishBy_2 ?_
  refine g_iconst F 2 rfl dX3_punishBy_5 ?_
  refine g_aload_n F rfl 1 rfl dX3_punishBy_6 ?_
  refine g_chk (fun n1 => ?_)
  refine g_get F (t := 0) (sI := 0) fl_RX3_7 rfl rfl (Int.not_lt.mp (Int.not_lt.mpr n1)) dX3_punishBy_7 ?_
  refine g_ishl F rfl rfl dX3_punishBy_10 ?_
  refine g_ior F rfl rfl dX3_punishBy_11 ?_
  refine h_put F (sI := 5) fl_RX3_19 ⟨_, rfl, Or.inl rfl⟩ rfl rfl (Int.not_lt.mp (Int.not_lt.mpr h0)) dX3_punishBy_12 (fun v2 => ?_)
  exact g_return F (Nat.le_of_ble_eq_true rfl) (Nat.le_of_ble_eq_true rfl) dX3_punishBy_15
theorem c_X3_punishBy (a0 a1 : Int) (h0 : 0 ≤ a0) : ∀ l, Ct l yX3_punishBy cX3_punishBy 2 none ({ frames := 0, cells := 0, slots := 0, locals := 0 }) none [(13, a0), (13, a1)] (sp_X3_punishBy a0 a1) := g_method (by decide +kernel) (Nat.le_of_ble_eq_true rfl) (fun x v F ho => k_X3_punishBy a0 a1 h0 x v F ho)
def sp_X7_partyAt (a0 a1 : Int) (v : V) : Res := (if a1 < 0 then (rEx 1 v)
   else (if a1 < (v 7 a0 5) then (chk (0 ≤ (v 7 a0 0)) (chk (0 ≤ a1 ∧ a1 < 10) (rOk (v 10 (v 7 a0 0) a1) v)))
   else (rEx 1 v)))
set_option maxRecDepth 100000 in
set_option maxHeartbeats 4000000 in
theorem k_X7_partyAt (a0 a1 : Int) (h0 : 0 ≤ a0) (x : Cx) (v : V) (F : Fx x cX7_partyAt RX7 "partyAt" ({ frames := 6, cells := 1, slots := 6, locals := 82 }) 2 (some 13) (some (.object "FreePort$Party"))) (ho : ∀ a ∈ [(17, a0), (0, a1)], okv v a) : Gs x (sp_X7_partyAt a0 a1 v) v 0 0 0 (avArgs 0 [(17, a0), (0, a1)]) [] := by
  show Gs x _ v 0 0 0 [(0, (17, a0)), (1, (0, a1))] []
  unfold sp_X7_partyAt
  refine g_iload_n F rfl 1 rfl rfl dX7_partyAt_0 ?_
  refine g_if_lt F rfl (tgt := 12) rfl dX7_partyAt_1 (fun n1 => ?_) (fun n1 => ?_)
  · exact g_throwW F th_RX7_338 (Nat.le_of_ble_eq_true rfl) (Nat.le_of_ble_eq_true rfl) (Nat.le_of_ble_eq_true rfl) (Nat.le_of_ble_eq_true rfl) dX7_partyAt_12 dX7_partyAt_15 dX7_partyAt_16 dX7_partyAt_19 dX7_partyAt_22
  · refine g_iload_n F rfl 1 rfl rfl dX7_partyAt_4 ?_
    refine g_aload_n F rfl 0 rfl dX7_partyAt_5 ?_
    refine g_get F (t := 0) (sI := 5) fl_RX7_46 rfl rfl (Int.not_lt.mp (Int.not_lt.mpr h0)) dX7_partyAt_6 ?_
    refine g_icmp_lt F rfl rfl (tgt := 23) rfl dX7_partyAt_9 (fun n2 => ?_) (fun n2 => ?_)
    · refine g_aload_n F rfl 0 rfl dX7_partyAt_23 ?_
      refine g_get F (t := 20) (sI := 0) fl_RX7_11 rfl rfl (Int.not_lt.mp (Int.not_lt.mpr h0)) dX7_partyAt_24 ?_
      refine g_iload_n F rfl 1 rfl rfl dX7_partyAt_27 ?_
      refine g_chk (fun n3 => ?_)
      refine g_chk (fun n4 => ?_)
      refine h_aald F (n := 10) ak_10 (Int.not_lt.mp (Int.not_lt.mpr n3)) n4 rfl dX7_partyAt_28 ?_
      exact g_areturn F (Or.inl ⟨_, rfl⟩) (Nat.le_of_ble_eq_true rfl) (Nat.le_of_ble_eq_true rfl) dX7_partyAt_29
    · exact g_throwW F th_RX7_338 (Nat.le_of_ble_eq_true rfl) (Nat.le_of_ble_eq_true rfl) (Nat.le_of_ble_eq_true rfl) (Nat.le_of_ble_eq_true rfl) dX7_partyAt_12 dX7_partyAt_15 dX7_partyAt_16 dX7_partyAt_19 dX7_partyAt_22
theorem c_X7_partyAt (a0 a1 : Int) (h0 : 0 ≤ a0) : ∀ l, Ct l yX7_partyAt cX7_partyAt 2 (some (.object "FreePort$Party")) ({ frames := 6, cells := 1, slots := 6, locals := 82 }) (some 13) [(17, a0), (0, a1)] (sp_X7_partyAt a0 a1) := g_method (by decide +kernel) (Nat.le_of_ble_eq_true rfl) (fun x v F ho => k_X7_partyAt a0 a1 h0 x v F ho)
def sp_X7_requireLand (a0 : Int) (v : V) : Res := (if a0 < 0 then (rEx 1 v)
   else (if a0 < 4 then (rOk 0 v)
   else (rEx 1 v)))
set_option maxRecDepth 100000 in
set_option maxHeartbeats 4000000 in
theorem k_X7_requireLand (a0 : Int) (x : Cx) (v : V) (F : Fx x cX7_requireLand RX7 "requireLand" ({ frames := 6, cells := 1, slots := 6, locals := 82 }) 1 none none) (ho : ∀ a ∈ [(0, a0)], okv v a) : Gs x (sp_X7_requireLand a0 v) v 0 0 0 (avArgs 0 [(0, a0)]) [] := by
  show Gs x _ v 0 0 0 [(0, (0, a0))] []
  unfold sp_X7_requireLand
  refine g_iload_n F rfl 0 rfl rfl dX7_requireLand_0 ?_
  refine g_if_lt F rfl (tgt := 9) rfl dX7_requireLand_1 (fun n1 => ?_) (fun n1 => ?_)
  · exact g_throwW F th_RX7_347 (Nat.le_of_ble_eq_true rfl) (Nat.le_of_ble_eq_true rfl) (Nat.le_of_ble_eq_true rfl) (Nat.le_of_ble_eq_true rfl) dX7_requireLand_9 dX7_requireLand_12 dX7_requireLand_13 dX7_requireLand_16 dX7_requireLand_19
  · refine g_iload_n F rfl 0 rfl rfl dX7_requireLand_4 ?_
    refine g_iconst F 0 rfl dX7_requireLand_5 ?_
    refine g_icmp_lt F rfl rfl (tgt := 20) rfl dX7_requireLand_6 (fun n2 => ?_) (fun n2 => ?_)
    · exact g_return F (Nat.le_of_ble_eq_true rfl) (Nat.le_of_ble_eq_true rfl) dX7_requireLand_20
    · exact g_throwW F th_RX7_347 (Nat.le_of_ble_eq_true rfl) (Nat.le_of_ble_eq_true rfl) (Nat.le_of_ble_eq_true rfl) (Nat.le_of_ble_eq_true rfl) dX7_requireLand_9 dX7_requireLand_12 dX7_requireLand_13 dX7_requireLand_16 dX7_requireLand_19
theorem c_X7_requireLand (a0 : Int) : ∀ l, Ct l yX7_requireLand cX7_requireLand 1 none ({ frames := 6, cells := 1, slots := 6, locals := 82 }) none [(0, a0)] (sp_X7_requireLand a0) := g_method (by decide +kernel) (Nat.le_of_ble_eq_true rfl) (fun x v F ho => k_X7_requireLand a0 x v F ho)
def sp_X7_requireRange (a0 a1 a2 : Int) (v : V) : Res := (if a0 < a1 then (rEx 2 v)
   else (if a0 ≤ a2 then (rOk 0 v)
   else (rEx 2 v)))
set_option maxRecDepth 100000 in
set_option maxHeartbeats 4000000 in
theorem k_X7_requireRange (a0 a1 a2 : Int) (x : Cx) (v : V) (F : Fx x cX7_requireRange RX7 "requireRange" ({ frames := 6, cells := 1, slots := 6, locals := 82 }) 3 none none) (ho : ∀ a ∈ [(0, a0), (0, a1), (0, a2)], okv v a) : Gs x (sp_X7_requireRange a0 a1 a2 v) v 0 0 0 (avArgs 0 [(0, a0), (0, a1), (0, a2)]) [] := by
  show Gs x _ v 0 0 0 [(0, (0, a0)), (1, (0, a1)), (2, (0, a2))] []
  unfold sp_X7_requireRange
  refine g_iload_n F rfl 0 rfl rfl dX7_requireRange_0 ?_
  refine g_iload_n F rfl 1 rfl rfl dX7_requireRange_1 ?_
  refine g_icmp_lt F rfl rfl (tgt := 10) rfl dX7_requireRange_2 (fun n1 => ?_) (fun n1 => ?_)
  · exact g_throwW F th_RX7_351 (Nat.le_of_ble_eq_true rfl) (Nat.le_of_ble_eq_true rfl) (Nat.le_of_ble_eq_true rfl) (Nat.le_of_ble_eq_true rfl) dX7_requireRange_10 dX7_requireRange_13 dX7_requireRange_14 dX7_requireRange_17 dX7_requireRange_20
  · refine g_iload_n F rfl 0 rfl rfl dX7_requireRange_5 ?_
    refine g_iload_n F rfl 2 rfl rfl dX7_requireRange_6 ?_
    refine g_icmp_le F rfl rfl (tgt := 21) rfl dX7_requireRange_7 (fun n2 => ?_) (fun n2 => ?_)
    · exact g_return F (Nat.le_of_ble_eq_true rfl) (Nat.le_of_ble_eq_true rfl) dX7_requireRange_21
    · exact g_throwW F th_RX7_351 (Nat.le_of_ble_eq_true rfl) (Nat.le_of_ble_eq_true rfl) (Nat.le_of_ble_eq_true rfl) (Nat.le_of_ble_eq_true rfl) dX7_requireRange_10 dX7_requireRange_13 dX7_requireRange_14 dX7_requireRange_17 dX7_requireRange_20
theorem c_X7_requireRange (a0 a1 a2 : Int) : ∀ l, Ct l yX7_requireRange cX7_requireRange 3 none ({ frames := 6, cells := 1, slots := 6, locals := 82 }) none [(0, a0), (0, a1), (0, a2)] (sp_X7_requireRange a0 a1 a2) := g_method (by decide +kernel) (Nat.le_of_ble_eq_true rfl) (fun x v F ho => k_X7_requireRange a0 a1 a2 x v F ho)
def sp_X7_requireState (a0 : Int) (v : V) : Res := (if ¬ a0 = 0 then (rOk 0 v)
   else (rEx 3 v))
set_option maxRecDepth 100000 in
set_option maxHeartbeats 4000000 in
theorem k_X7_requireState (a0 : Int) (x : Cx) (v : V) (F : Fx x cX7_requireState RX7 "requireState" ({ frames := 6, cells := 1, slots := 6, locals := 82 }) 1 none none) (ho : ∀ a ∈ [(2, a0)], okv v a) : Gs x (sp_X7_requireState a0 v) v 0 0 0 (avArgs 0 [(2, a0)]) [] := by
  show Gs x _ v 0 0 0 [(0, (2, a0))] []
  unfold sp_X7_requireState
  refine g_iload_n F rfl 0 rfl rfl dX7_requireState_0 ?_
  refine g_if_ne F rfl (tgt := 15) rfl dX7_requireState_1 (fun n1 => ?_) (fun n1 => ?_)
  · exact g_return F (Nat.le_of_ble_eq_true rfl) (Nat.le_of_ble_eq_true rfl) dX7_requireState_15
  · exact g_throwW F th_RX7_356 (Nat.le_of_ble_eq_true rfl) (Nat.le_of_ble_eq_true rfl) (Nat.le_of_ble_eq_true rfl) (Nat.le_of_ble_eq_true rfl) dX7_requireState_4 dX7_requireState_7 dX7_requireState_8 dX7_requireState_11 dX7_requireState_14
theorem c_X7_requireState (a0 : Int) : ∀ l, Ct l yX7_requireState cX7_requireState 1 none ({ frames := 6, cells := 1, slots := 6, locals := 82 }) none [(2, a0)] (sp_X7_requireState a0) := g_method (by decide +kernel) (Nat.le_of_ble_eq_true rfl) (fun x v F ho => k_X7_requireState a0 x v F ho)
def sp_X3_init (a0 a1 a2 a3 : Int) (v : V) : Res := (rLet (up v 3 a0 0 a1) (fun v1 => (rLet (up v1 3 a0 1 a2) (fun v2 => (rLet (up v2 3 a0 2 a3) (fun v3 => (rOk 0 v3)))))))
set_option maxRecDepth 100000 in
set_option maxHeartbeats 4000000 in
theorem k_X3_init (a0 a1 a2 a3 : Int) (h0 : 0 ≤ a0) (x : Cx) (v : V) (F : Fx x cX3_init RX3 "<init>" ({ frames := 1, cells := 0, slots := 0, locals := 12 }) 4 none none) (ho : ∀ a ∈ [(13, a0), (0, a1), (0, a2), (0, a3)], okv v a) : Gs x (sp_X3_init a0 a1 a2 a3 v) v 0 0 0 (avArgs 0 [(13, a0), (0, a1), (0, a2), (0, a3)]) [] := by
  show Gs x _ v 0 0 0 [(0, (13, a0)), (1, (0, a1)), (2, (0, a2)), (3, (0, a3))] []
  unfold sp_X3_init
  refine g_aload_n F rfl 0 rfl dX3_init_0 ?_
  refine g_objinit F ol_RX3_1 oi_i oi_c (Nat.le_of_ble_eq_true rfl) (Int.not_lt.mp (Int.not_lt.mpr h0)) (Nat.le_of_ble_eq_true rfl) dX3_init_1 ?_
  refine g_aload_n F rfl 0 rfl dX3_init_4 ?_
  refine g_iload_n F rfl 1 rfl rfl dX3_init_5 ?_
  refine h_put F (sI := 0) fl_RX3_7 ⟨_, rfl, Or.inr ⟨rfl, rfl⟩⟩ rfl rfl (Int.not_lt.mp (Int.not_lt.mpr h0)) dX3_init_6 (fun v1 => ?_)
  refine g_aload_n F rfl 0 rfl dX3_init_9 ?_
  refine g_iload_n F rfl 2 rfl rfl dX3_init_10 ?_
  refine h_put F (sI := 1) fl_RX3_13 ⟨_, rfl, Or.inr ⟨rfl, rfl⟩⟩ rfl rfl (Int.not_lt.mp (Int.not_lt.mpr h0)) dX3_init_11 (fun v2 => ?_)
  refine g_aload_n F rfl 0 rfl dX3_init_14 ?_
  refine g_iload_n F rfl 3 rfl rfl dX3_init_15 ?_
  refine h_put F (sI := 2) fl_RX3_16 ⟨_, rfl, Or.inl rfl⟩ rfl rfl (Int.not_lt.mp (Int.not_lt.mpr h0)) dX3_init_16 (fun v3 => ?_)
  exact g_return F (Nat.le_of_ble_eq_true rfl) (Nat.le_of_ble_eq_true rfl) dX3_init_19
theorem c_X3_init (a0 a1 a2 a3 : Int) (h0 : 0 ≤ a0) : ∀ l, Ct l yX3_init cX3_init 4 none ({ frames := 1, cells := 0, slots := 0, locals := 12 }) none [(13, a0), (0, a1), (0, a2), (0, a3)] (sp_X3_init a0 a1 a2 a3) := g_method (by decide +kernel) (Nat.le_of_ble_eq_true rfl) (fun x v F ho => k_X3_init a0 a1 a2 a3 h0 x v F ho)
def sp_X7_party (a0 a1 a2 : Int) (v : V) : Res := (rB (sp_X7_requireLand a2 v) (fun z1 v1 => (rB (sp_X7_requireRange a1 0 1000000 v1) (fun z2 v2 => (if 10 ≤ (v2 7 a0 5) then (rB (sp_X7_requireState 0 v2) (fun z4 v4 => (chk (0 ≤ (v4 7 a0 5) ∧ ¬ v4 99 3 (v4 7 a0 5) = 1) (rLet (nw v4 3 (v4 7 a0 5)) (fun v5 => (rB (sp_X3_init (v4 7 a0 5) (v5 7 a0 5) a2 a1 v5) (fun z7 v7 => (chk (0 ≤ (v7 7 a0 0)) (chk (0 ≤ (v7 7 a0 5) ∧ (v7 7 a0 5) < 10) (rLet (up v7 10 (v7 7 a0 0) (v7 7 a0 5) (v4 7 a0 5)) (fun v10 => (rLet (up v10 7 a0 5 (w32 ((v10 7 a0 5) + 1))) (fun v11 => (rOk (v11 3 (v4 7 a0 5) 0) v11))))))))))))))
   else (rB (sp_X7_requireState 1 v2) (fun z12 v12 => (chk (0 ≤ (v12 7 a0 5) ∧ ¬ v12 99 3 (v12 7 a0 5) = 1) (rLet (nw v12 3 (v12 7 a0 5)) (fun v13 => (rB (sp_X3_init (v12 7 a0 5) (v13 7 a0 5) a2 a1 v13) (fun z15 v15 => (chk (0 ≤ (v15 7 a0 0)) (chk (0 ≤ (v15 7 a0 5) ∧ (v15 7 a0 5) < 10) (rLet (up v15 10 (v15 7 a0 0) (v15 7 a0 5) (v12 7 a0 5)) (fun v18 => (rLet (up v18 7 a0 5 (w32 ((v18 7 a0 5) + 1))) (fun v19 => (rOk (v19 3 (v12 7 a0 5) 0) v19)))))))))))))))))))
set_option maxRecDepth 100000 in
set_option maxHeartbeats 4000000 in
theorem k_X7_party (a0 a1 a2 : Int) (h0 : 0 ≤ a0) (x : Cx) (v : V) (F : Fx x cX7_party RX7 "party" ({ frames := 7, cells := 4, slots := 24, locals := 104 }) 4 (some 0) (some .int)) (ho : ∀ a ∈ [(17, a0), (0, a1), (0, a2)], okv v a) : Gs x (sp_X7_party a0 a1 a2 v) v 0 0 0 (avArgs 0 [(17, a0), (0, a1), (0, a2)]) [] := by
  show Gs x _ v 0 0 0 [(0, (17, a0)), (1, (0, a1)), (2, (0, a2))] []
  unfold sp_X7_party
  refine g_iload_n F rfl 2 rfl rfl dX7_party_0 ?_
  refine g_callS F [(0, a2)] [0] ml_RX7_37 wt_X7_requireLand (c_X7_requireLand a2) mi_X7_requireLand rfl rfl rfl (Nat.le_of_ble_eq_true rfl) (Nat.le_of_ble_eq_true rfl) (Nat.le_of_ble_eq_true rfl) (Nat.le_of_ble_eq_true rfl) (Nat.le_of_ble_eq_true rfl) dX7_party_1 (fun z1 v1 hz1 => ?_)
  refine g_iload_n F rfl 1 rfl rfl dX7_party_4 ?_
  refine g_iconst F 2 rfl dX7_party_5 ?_
  refine g_ldc F rfl cn_RX7_41 dX7_party_6 ?_
  refine g_callS F [(0, a1), (2, 0), (0, 1000000)] [0, 0, 0] ml_RX7_42 wt_X7_requireRange (c_X7_requireRange a1 0 1000000) mi_X7_requireRange rfl rfl rfl (Nat.le_of_ble_eq_true rfl) (Nat.le_of_ble_eq_true rfl) (Nat.le_of_ble_eq_true rfl) (Nat.le_of_ble_eq_true rfl) (Nat.le_of_ble_eq_true rfl) dX7_party_8 (fun z2 v2 hz2 => ?_)
  refine g_aload_n F rfl 0 rfl dX7_party_11 ?_
  refine g_get F (t := 0) (sI := 5) fl_RX7_46 rfl rfl (Int.not_lt.mp (Int.not_lt.mpr h0)) dX7_party_12 ?_
  refine g_bipush F rfl (by decide) dX7_party_15 ?_
  refine g_icmp_ge F rfl rfl (tgt := 24) rfl dX7_party_17 (fun n3 => ?_) (fun n3 => ?_)
  · refine g_iconst F 2 rfl dX7_party_24 ?_
    refine g_callS F [(2, 0)] [2] ml_RX7_50 wt_X7_requireState (c_X7_requireState 0) mi_X7_requireState rfl rfl rfl (Nat.le_of_ble_eq_true rfl) (Nat.le_of_ble_eq_true rfl) (Nat.le_of_ble_eq_true rfl) (Nat.le_of_ble_eq_true rfl) (Nat.le_of_ble_eq_true rfl) dX7_party_25 (fun z4 v4 hz4 => ?_)
    refine g_chk (fun n6 => ?_)
    refine h_new F (n := 6) (Kz := 3) (v4 7 a0 5) fn_RX7_9 rfl rfl n6 (Nat.le_of_ble_eq_true rfl) (Nat.le_of_ble_eq_true rfl) dX7_party_28 (fun v5 => ?_)
    refine g_dup F rfl dX7_party_31 ?_
    refine g_aload_n F rfl 0 rfl dX7_party_32 ?_
    refine g_get F (t := 0) (sI := 5) fl_RX7_46 rfl rfl (Int.not_lt.mp (Int.not_lt.mpr h0)) dX7_party_33 ?_
    refine g_iload_n F rfl 2 rfl rfl dX7_party_36 ?_
    refine g_iload_n F rfl 1 rfl rfl dX7_party_37 ?_
    refine g_callIN F (K := 3) (b := (v4 7 a0 5)) [(0, (v5 7 a0 5)), (0, a2), (0, a1)] [0, 0, 0] ml_RX7_54 wi_X3_init rfl (c_X3_init (v4 7 a0 5) (v5 7 a0 5) a2 a1 (Int.not_lt.mp (Int.not_lt.mpr n6.1))) mi_X3_init (Int.not_lt.mp (Int.not_lt.mpr n6.1)) rfl rfl rfl (Nat.le_of_ble_eq_true rfl) (Nat.le_of_ble_eq_true rfl) (Nat.le_of_ble_eq_true rfl) (Nat.le_of_ble_eq_true rfl) (Nat.le_of_ble_eq_true rfl) dX7_party_38 (fun z7 v7 hz7 => ?_)
    refine g_astore_n F rfl (Nat.le_of_ble_eq_true rfl) (ls' := [(3, (13, (v4 7 a0 5))), (0, (17, a0)), (1, (0, a1)), (2, (0, a2))]) rfl dX7_party_41 ?_
    refine g_aload_n F rfl 1 rfl dX7_party_42 ?_
    refine g_get F (t := 20) (sI := 0) fl_RX7_11 rfl rfl (Int.not_lt.mp (Int.not_lt.mpr h0)) dX7_party_43 ?_
    refine g_aload_n F rfl 1 rfl dX7_party_46 ?_
    refine g_get F (t := 0) (sI := 5) fl_RX7_46 rfl rfl (Int.not_lt.mp (Int.not_lt.mpr h0)) dX7_party_47 ?_
    refine g_aload_n F rfl 0 rfl dX7_party_50 ?_
    refine g_chk (fun n8 => ?_)
    refine g_chk (fun n9 => ?_)
    refine h_aast F (K2 := 3) (n := 10) ak_10 (by decide) (Int.not_lt.mp (Int.not_lt.mpr n8)) n9 (Int.not_lt.mp (Int.not_lt.mpr n6.1)) rfl dX7_party_51 (fun v10 => ?_)
    refine g_aload_n F rfl 1 rfl dX7_party_52 ?_
    refine g_dup F rfl dX7_party_53 ?_
    refine g_get F (t := 0) (sI := 5) fl_RX7_46 rfl rfl (Int.not_lt.mp (Int.not_lt.mpr h0)) dX7_party_54 ?_
    refine g_iconst F 2 rfl dX7_party_57 ?_
    refine g_iadd F rfl rfl dX7_party_58 ?_
    refine h_put F (sI := 5) fl_RX7_46 ⟨_, rfl, Or.inl rfl⟩ rfl rfl (Int.not_lt.mp (Int.not_lt.mpr h0)) dX7_party_59 (fun v11 => ?_)
    refine g_aload_n F rfl 0 rfl dX7_party_62 ?_
    refine g_get F (t := 0) (sI := 0) fl_RX7_56 rfl rfl (Int.not_lt.mp (Int.not_lt.mpr n6.1)) dX7_party_63 ?_
    exact g_ireturn F rfl rfl rfl (Nat.le_of_ble_eq_true rfl) (Nat.le_of_ble_eq_true rfl) dX7_party_66
  · refine g_iconst F 2 rfl dX7_party_20 ?_
    refine g_goto F (tgt := 25) rfl dX7_party_21 ?_
    refine g_callS F [(2, 1)] [2] ml_RX7_50 wt_X7_requireState (c_X7_requireState 1) mi_X7_requireState rfl rfl rfl (Nat.le_of_ble_eq_true rfl) (Nat.le_of_ble_eq_true rfl) (Nat.le_of_ble_eq_true rfl) (Nat.le_of_ble_eq_true rfl) (Nat.le_of_ble_eq_true rfl) dX7_party_25 (fun z12 v12 hz12 => ?_)
    refine g_chk (fun n14 => ?_)
    refine h_new F (n := 6) (Kz := 3) (v12 7 a0 5) fn_RX7_9 rfl rfl n14 (Nat.le_of_ble_eq_true rfl) (Nat.le_of_ble_eq_true rfl) dX7_party_28 (fun v13 => ?_)
    refine g_dup F rfl dX7_party_31 ?_
    refine g_aload_n F rfl 0 rfl dX7_party_32 ?_
    refine g_get F (t := 0) (sI := 5) fl_RX7_46 rfl rfl (Int.not_lt.mp (Int.not_lt.mpr h0)) dX7_party_33 ?_
    refine g_iload_n F rfl 2 rfl rfl dX7_party_36 ?_
    refine g_iload_n F rfl 1 rfl rfl dX7_party_37 ?_
    refine g_callIN F (K := 3) (b := (v12 7 a0 5)) [(0, (v13 7 a0 5)), (0, a2), (0, a1)] [0, 0, 0] ml_RX7_54 wi_X3_init rfl (c_X3_init (v12 7 a0 5) (v13 7 a0 5) a2 a1 (Int.not_lt.mp (Int.not_lt.mpr n14.1))) mi_X3_init (Int.not_lt.mp (Int.not_lt.mpr n14.1)) rfl rfl rfl (Nat.le_of_ble_eq_true rfl) (Nat.le_of_ble_eq_true rfl) (Nat.le_of_ble_eq_true rfl) (Nat.le_of_ble_eq_true rfl) (Nat.le_of_ble_eq_true rfl) dX7_party_38 (fun z15 v15 hz15 => ?_)
    refine g_astore_n F rfl (Nat.le_of_ble_eq_true rfl) (ls' := [(3, (13, (v12 7 a0 5))), (0, (17, a0)), (1, (0, a1)), (2, (0, a2))]) rfl dX7_party_41 ?_
    refine g_aload_n F rfl 1 rfl dX7_party_42 ?_
    refine g_get F (t := 20) (sI := 0) fl_RX7_11 rfl rfl (Int.not_lt.mp (Int.not_lt.mpr h0)) dX7_party_43 ?_
    refine g_aload_n F rfl 1 rfl dX7_party_46 ?_
    refine g_get F (t := 0) (sI := 5) fl_RX7_46 rfl rfl (Int.not_lt.mp (Int.not_lt.mpr h0)) dX7_party_47 ?_
    refine g_aload_n F rfl 0 rfl dX7_party_50 ?_
    refine g_chk (fun n16 => ?_)
    refine g_chk (fun n17 => ?_)
    refine h_aast F (K2 := 3) (n := 10) ak_10 (by decide) (Int.not_lt.mp (Int.not_lt.mpr n16)) n17 (Int.not_lt.mp (Int.not_lt.mpr n14.1)) rfl dX7_party_51 (fun v18 => ?_)
    refine g_aload_n F rfl 1 rfl dX7_party_52 ?_
    refine g_dup F rfl dX7_party_53 ?_
    refine g_get F (t := 0) (sI := 5) fl_RX7_46 rfl rfl (Int.not_lt.mp (Int.not_lt.mpr h0)) dX7_party_54 ?_
    refine g_iconst F 2 rfl dX7_party_57 ?_
    refine g_iadd F rfl rfl dX7_party_58 ?_
    refine h_put F (sI := 5) fl_RX7_46 ⟨_, rfl, Or.inl rfl⟩ rfl rfl (Int.not_lt.mp (Int.not_lt.mpr h0)) dX7_party_59 (fun v19 => ?_)
    refine g_aload_n F rfl 0 rfl dX7_party_62 ?_
    refine g_get F (t := 0) (sI := 0) fl_RX7_56 rfl rfl (Int.not_lt.mp (Int.not_lt.mpr n14.1)) dX7_party_63 ?_
    exact g_ireturn F rfl rfl rfl (Nat.le_of_ble_eq_true rfl) (Nat.le_of_ble_eq_true rfl) dX7_party_66
theorem c_X7_party (a0 a1 a2 : Int) (h0 : 0 ≤ a0) : ∀ l, Ct l yX7_party cX7_party 4 (some .int) ({ frames := 7, cells := 4, slots := 24, locals := 104 }) (some 0) [(17, a0), (0, a1), (0, a2)] (sp_X7_party a0 a1 a2) := g_method (by decide +kernel) (Nat.le_of_ble_eq_true rfl) (fun x v F ho => k_X7_party a0 a1 a2 h0 x v F ho)

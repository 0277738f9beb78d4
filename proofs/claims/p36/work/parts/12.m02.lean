/-! methods, by the walker -/
def lp_X7_worthUnder_4 (l0 l1 : Int) (k : V → Int → Int → Res) : Nat → V → Int → Int → Res
  | 0, _, _, _ => none
  | n + 1, v, l2, l3 => (if (v 7 l0 7) ≤ l3 then (k v l2 l3)
   else (chk (0 ≤ (v 7 l0 2)) (chk (0 ≤ l3 ∧ l3 < 60) (chk (0 ≤ (v 12 (v 7 l0 2) l3)) (if (v 2 (v 12 (v 7 l0 2) l3) 5) = l1 then (rB (sp_X2_worth (v 12 (v 7 l0 2) l3) (v 7 l0 9) v) (fun z6 v6 => (lp_X7_worthUnder_4 l0 l1 k n v6 (w32 (l2 + z6)) (w32 (l3 + 1)))))
   else (lp_X7_worthUnder_4 l0 l1 k n v l2 (w32 (l3 + 1))))))))
set_option maxRecDepth 100000 in
set_option maxHeartbeats 4000000 in
theorem kl_X7_worthUnder_4 {l0 l1 : Int} (h0 : 0 ≤ l0) {x : Cx} (F : Fx x cX7_worthUnder RX7 "worthUnder" ({ frames := 3, cells := 0, slots := 0, locals := 68 }) 4 (some 0) (some .int) 0) {k : V → Int → Int → Res} (hk : ∀ (v : V) (l2 l3 : Int), Gs x (k v l2 l3) v 0 0 47 [(0, (17, l0)), (1, (11, l1)), (2, (0, l2)), (3, (0, l3))] []) : ∀ (n : Nat) (v : V) (l2 l3 : Int), Gs x (lp_X7_worthUnder_4 l0 l1 k n v l2 l3) v 0 0 4 [(0, (17, l0)), (1, (11, l1)), (2, (0, l2)), (3, (0, l3))] [] := by
  intro n
  induction n with
  | zero => intro v l2 l3; exact g_none
  | succ n ih =>
    intro v l2 l3
    rw [lp_X7_worthUnder_4]
    refine g_iload_n F rfl 3 rfl rfl dX7_worthUnder_4 ?_
    refine g_aload_n F rfl 0 rfl dX7_worthUnder_5 ?_
    refine g_get F (t := 0) (sI := 7) fl_RX7_66 rfl rfl (Int.not_lt.mp (Int.not_lt.mpr h0)) dX7_worthUnder_6 ?_
    refine g_icmp_ge F rfl rfl (tgt := 47) rfl dX7_worthUnder_9 (fun n1 => ?_) (fun n1 => ?_)
    · refine g_loc [(0, 17), (1, 11), (2, 0), (3, 0)] rfl ?_
      exact hk v l2 l3
    · refine g_aload_n F rfl 0 rfl dX7_worthUnder_12 ?_
      refine g_get F (t := 22) (sI := 2) fl_RX7_23 rfl rfl (Int.not_lt.mp (Int.not_lt.mpr h0)) dX7_worthUnder_13 ?_
      refine g_iload_n F rfl 3 rfl rfl dX7_worthUnder_16 ?_
      refine g_chk (fun n2 => ?_)
      refine g_chk (fun n3 => ?_)
      refine h_aald F (n := 60) ak_12 (Int.not_lt.mp (Int.not_lt.mpr n2)) n3 rfl dX7_worthUnder_17 ?_
      refine g_chk (fun n4 => ?_)
      refine g_get F (t := 11) (sI := 5) fl_RX7_218 rfl rfl (Int.not_lt.mp (Int.not_lt.mpr n4)) dX7_worthUnder_18 ?_
      refine g_aload_n F rfl 1 rfl dX7_worthUnder_21 ?_
      refine g_acmp_ne F (by decide) (tgt := 41) rfl dX7_worthUnder_22 (fun n5 => ?_) (fun n5 => ?_)
      · refine g_iload_n F rfl 2 rfl rfl dX7_worthUnder_25 ?_
        refine g_aload_n F rfl 0 rfl dX7_worthUnder_26 ?_
        refine g_get F (t := 22) (sI := 2) fl_RX7_23 rfl rfl (Int.not_lt.mp (Int.not_lt.mpr h0)) dX7_worthUnder_27 ?_
        refine g_iload_n F rfl 3 rfl rfl dX7_worthUnder_30 ?_
        refine h_aald F (n := 60) ak_12 (Int.not_lt.mp (Int.not_lt.mpr n2)) n3 rfl dX7_worthUnder_31 ?_
        refine g_aload_n F rfl 0 rfl dX7_worthUnder_32 ?_
        refine g_get F (t := 0) (sI := 9) fl_RX7_87 rfl rfl (Int.not_lt.mp (Int.not_lt.mpr h0)) dX7_worthUnder_33 ?_
        refine g_callVN F (by decide) (K := 2) (b := (v 12 (v 7 l0 2) l3)) [(0, (v 7 l0 9))] [0] ml_RX7_225 wi_X2_worth ws_X2_worth (c_X2_worth (v 12 (v 7 l0 2) l3) (v 7 l0 9) (Int.not_lt.mp (Int.not_lt.mpr n4))) mi_X2_worth (by decide) ⟨_, rfl, rfl⟩ (Int.not_lt.mp (Int.not_lt.mpr n4)) rfl rfl rfl (Nat.le_of_ble_eq_true rfl) (Nat.le_of_ble_eq_true rfl) (Nat.le_of_ble_eq_true rfl) (Nat.le_of_ble_eq_true rfl) (Nat.le_of_ble_eq_true rfl) dX7_worthUnder_36 (fun z6 v6 hz6 => ?_)
        refine g_iadd F rfl rfl dX7_worthUnder_39 ?_
        refine g_istore_n F rfl rfl (Nat.le_of_ble_eq_true rfl) (ls' := [(2, (0, (w32 (l2 + z6)))), (0, (17, l0)), (1, (11, l1)), (3, (0, l3))]) rfl dX7_worthUnder_40 ?_
        refine g_iinc F 3 rfl rfl (Nat.le_of_ble_eq_true rfl) (ls' := [(3, (0, (w32 (l3 + 1)))), (2, (0, (w32 (l2 + z6)))), (0, (17, l0)), (1, (11, l1))]) rfl dX7_worthUnder_41 ?_
        refine g_goto F (tgt := 4) rfl dX7_worthUnder_44 ?_
        refine g_loc [(2, 17), (3, 11), (1, 0), (0, 0)] rfl ?_
        exact ih v6 (w32 (l2 + z6)) (w32 (l3 + 1))
      · refine g_iinc F 3 rfl rfl (Nat.le_of_ble_eq_true rfl) (ls' := [(3, (0, (w32 (l3 + 1)))), (0, (17, l0)), (1, (11, l1)), (2, (0, l2))]) rfl dX7_worthUnder_41 ?_
        refine g_goto F (tgt := 4) rfl dX7_worthUnder_44 ?_
        refine g_loc [(1, 17), (2, 11), (3, 0), (0, 0)] rfl ?_
        exact ih v l2 (w32 (l3 + 1))
def sp_X7_worthUnder (a0 a1 : Int) (v : V) : Res := (lp_X7_worthUnder_4 a0 a1 (fun v7 u7_2 u7_3 => (rOk u7_2 v7)) 200 v 0 0)
set_option maxRecDepth 100000 in
set_option maxHeartbeats 4000000 in
theorem k_X7_worthUnder (a0 a1 : Int) (h0 : 0 ≤ a0) (x : Cx) (v : V) (F : Fx x cX7_worthUnder RX7 "worthUnder" ({ frames := 3, cells := 0, slots := 0, locals := 68 }) 4 (some 0) (some .int) 0) (ho : ∀ a ∈ [(17, a0), (11, a1)], okv v a) : Gs x (sp_X7_worthUnder a0 a1 v) v 0 0 0 (avArgs 0 [(17, a0), (11, a1)]) [] := by
  show Gs x _ v 0 0 0 [(0, (17, a0)), (1, (11, a1))] []
  unfold sp_X7_worthUnder
  refine g_iconst F 2 rfl dX7_worthUnder_0 ?_
  refine g_istore_n F rfl rfl (Nat.le_of_ble_eq_true rfl) (ls' := [(2, (2, 0)), (0, (17, a0)), (1, (11, a1))]) rfl dX7_worthUnder_1 ?_
  refine g_iconst F 2 rfl dX7_worthUnder_2 ?_
  refine g_istore_n F rfl rfl (Nat.le_of_ble_eq_true rfl) (ls' := [(3, (2, 0)), (2, (2, 0)), (0, (17, a0)), (1, (11, a1))]) rfl dX7_worthUnder_3 ?_
  refine g_loc [(2, 17), (3, 11), (1, 0), (0, 0)] rfl ?_
  refine kl_X7_worthUnder_4 (Int.not_lt.mp (Int.not_lt.mpr h0)) F (fun v7 u7_2 u7_3 => ?_) 200 v 0 0
  refine g_iload_n F rfl 2 rfl rfl dX7_worthUnder_47 ?_
  exact g_ireturn F rfl rfl rfl rfl (Nat.le_of_ble_eq_true rfl) (Nat.le_of_ble_eq_true rfl) dX7_worthUnder_48
theorem c_X7_worthUnder (a0 a1 : Int) (h0 : 0 ≤ a0) : ∀ l, Ct l yX7_worthUnder cX7_worthUnder 4 (some .int) ({ frames := 3, cells := 0, slots := 0, locals := 68 }) (some 0) [(17, a0), (11, a1)] (sp_X7_worthUnder a0 a1) := g_method (by decide +kernel) (Nat.le_of_ble_eq_true rfl) (fun x v F ho => k_X7_worthUnder a0 a1 h0 x v F ho)
def sp_X7_isSeizable (a0 a1 : Int) (v : V) : Res := (chk (0 ≤ a1) (if (v 1 a1 7) = 0 then (if (v 1 a1 5) < (v 7 a0 9) then (rOk 1 v)
   else (rB (sp_X1_owed a1 (v 7 a0 9) v) (fun z4 v4 => (rB (sp_X7_worthUnder a0 a1 v4) (fun z5 v5 => (if (lcmp (w64 (10 * z4)) (w64 (7 * z5))) ≤ 0 then (rOk 0 v5)
   else (rOk 1 v5)))))))
   else (rOk 0 v)))
set_option maxRecDepth 100000 in
set_option maxHeartbeats 4000000 in
theorem k_X7_isSeizable (a0 a1 : Int) (h0 : 0 ≤ a0) (x : Cx) (v : V) (F : Fx x cX7_isSeizable RX7 "isSeizable" ({ frames := 4, cells := 0, slots := 0, locals := 91 }) 2 (some 2) (some .boolean) 0) (ho : ∀ a ∈ [(17, a0), (11, a1)], okv v a) : Gs x (sp_X7_isSeizable a0 a1 v) v 0 0 0 (avArgs 0 [(17, a0), (11, a1)]) [] := by
  show Gs x _ v 0 0 0 [(0, (17, a0)), (1, (11, a1))] []
  unfold sp_X7_isSeizable
  refine g_aload_n F rfl 1 rfl dX7_isSeizable_0 ?_
  refine g_chk (fun n1 => ?_)
  refine g_get F (t := 2) (sI := 7) fl_RX7_246 rfl rfl (Int.not_lt.mp (Int.not_lt.mpr n1)) dX7_isSeizable_1 ?_
  refine g_if_eq F rfl (tgt := 9) rfl dX7_isSeizable_4 (fun n2 => ?_) (fun n2 => ?_)
  · refine g_aload_n F rfl 0 rfl dX7_isSeizable_9 ?_
    refine g_get F (t := 0) (sI := 9) fl_RX7_87 rfl rfl (Int.not_lt.mp (Int.not_lt.mpr h0)) dX7_isSeizable_10 ?_
    refine g_aload_n F rfl 1 rfl dX7_isSeizable_13 ?_
    refine g_get F (t := 0) (sI := 5) fl_RX7_320 rfl rfl (Int.not_lt.mp (Int.not_lt.mpr n1)) dX7_isSeizable_14 ?_
    refine g_icmp_gt F rfl rfl (tgt := 47) rfl dX7_isSeizable_17 (fun n3 => ?_) (fun n3 => ?_)
    · refine g_iconst F 2 rfl dX7_isSeizable_47 ?_
      refine g_goto F (tgt := 52) rfl dX7_isSeizable_48 ?_
      exact g_ireturn F rfl rfl rfl rfl (Nat.le_of_ble_eq_true rfl) (Nat.le_of_ble_eq_true rfl) dX7_isSeizable_52
    · refine g_ldc2 F rfl cn_RX7_387 dX7_isSeizable_20 ?_
      refine g_aload_n F rfl 1 rfl dX7_isSeizable_23 ?_
      refine g_aload_n F rfl 0 rfl dX7_isSeizable_24 ?_
      refine g_get F (t := 0) (sI := 9) fl_RX7_87 rfl rfl (Int.not_lt.mp (Int.not_lt.mpr h0)) dX7_isSeizable_25 ?_
      refine g_callVN F (by decide) (K := 1) (b := a1) [(0, (v 7 a0 9))] [0] ml_RX7_243 wi_X1_owed ws_X1_owed (c_X1_owed a1 (v 7 a0 9) (Int.not_lt.mp (Int.not_lt.mpr n1))) mi_X1_owed (by decide) ⟨_, rfl, rfl⟩ (Int.not_lt.mp (Int.not_lt.mpr n1)) rfl rfl rfl (Nat.le_of_ble_eq_true rfl) (Nat.le_of_ble_eq_true rfl) (Nat.le_of_ble_eq_true rfl) (Nat.le_of_ble_eq_true rfl) (Nat.le_of_ble_eq_true rfl) dX7_isSeizable_28 (fun z4 v4 hz4 => ?_)
      refine g_i2l F rfl dX7_isSeizable_31 ?_
      refine g_lmul F dX7_isSeizable_32 ?_
      refine g_ldc2 F rfl cn_RX7_389 dX7_isSeizable_33 ?_
      refine g_aload_n F rfl 0 rfl dX7_isSeizable_36 ?_
      refine g_aload_n F rfl 1 rfl dX7_isSeizable_37 ?_
      refine g_callV F (by decide) (K := 7) (b := a0) [(11, a1)] [11] ml_RX7_391 wi_X7_worthUnder ws_X7_worthUnder (c_X7_worthUnder a0 a1 (Int.not_lt.mp (Int.not_lt.mpr h0))) mi_X7_worthUnder (by decide) ⟨_, rfl, rfl⟩ (Int.not_lt.mp (Int.not_lt.mpr h0)) rfl rfl rfl (Nat.le_of_ble_eq_true rfl) (Nat.le_of_ble_eq_true rfl) (Nat.le_of_ble_eq_true rfl) (Nat.le_of_ble_eq_true rfl) (Nat.le_of_ble_eq_true rfl) dX7_isSeizable_38 (fun z5 v5 hz5 => ?_)
      refine g_i2l F rfl dX7_isSeizable_41 ?_
      refine g_lmul F dX7_isSeizable_42 ?_
      refine g_lcmp F dX7_isSeizable_43 ?_
      refine g_if_le F rfl (tgt := 51) rfl dX7_isSeizable_44 (fun n6 => ?_) (fun n6 => ?_)
      · refine g_iconst F 2 rfl dX7_isSeizable_51 ?_
        exact g_ireturn F rfl rfl rfl rfl (Nat.le_of_ble_eq_true rfl) (Nat.le_of_ble_eq_true rfl) dX7_isSeizable_52
      · refine g_iconst F 2 rfl dX7_isSeizable_47 ?_
        refine g_goto F (tgt := 52) rfl dX7_isSeizable_48 ?_
        exact g_ireturn F rfl rfl rfl rfl (Nat.le_of_ble_eq_true rfl) (Nat.le_of_ble_eq_true rfl) dX7_isSeizable_52
  · refine g_iconst F 2 rfl dX7_isSeizable_7 ?_
    exact g_ireturn F rfl rfl rfl rfl (Nat.le_of_ble_eq_true rfl) (Nat.le_of_ble_eq_true rfl) dX7_isSeizable_8
theorem c_X7_isSeizable (a0 a1 : Int) (h0 : 0 ≤ a0) : ∀ l, Ct l yX7_isSeizable cX7_isSeizable 2 (some .boolean) ({ frames := 4, cells := 0, slots := 0, locals := 91 }) (some 2) [(17, a0), (11, a1)] (sp_X7_isSeizable a0 a1) := g_method (by decide +kernel) (Nat.le_of_ble_eq_true rfl) (fun x v F ho => k_X7_isSeizable a0 a1 h0 x v F ho)
def lp_X7_seize_34 (l0 l1 l2 : Int) (k : V → Int → Res) : Nat → V → Int → Res
  | 0, _, _ => none
  | n + 1, v, l3 => (if (v 7 l0 7) ≤ l3 then (k v l3)
   else (chk (0 ≤ (v 7 l0 2)) (chk (0 ≤ l3 ∧ l3 < 60) (chk (0 ≤ (v 12 (v 7 l0 2) l3)) (if (v 2 (v 12 (v 7 l0 2) l3) 5) = l2 then (chk (0 ≤ l2) (rB (sp_X2_takeOver (v 12 (v 7 l0 2) l3) (v 1 l2 6) v) (fun z16 v16 => (lp_X7_seize_34 l0 l1 l2 k n v16 (w32 (l3 + 1))))))
   else (lp_X7_seize_34 l0 l1 l2 k n v (w32 (l3 + 1))))))))
set_option maxRecDepth 100000 in
set_option maxHeartbeats 4000000 in
theorem kl_X7_seize_34 {l0 l1 l2 : Int} (h0 : 0 ≤ l0) {x : Cx} (F : Fx x cX7_seize RX7 "seize" ({ frames := 7, cells := 2, slots := 12, locals := 112 }) 4 (some 0) (some .int) 0) {k : V → Int → Res} (hk : ∀ (v : V) (l3 : Int), Gs x (k v l3) v 2 12 74 [(0, (17, l0)), (1, (0, l1)), (2, (11, l2)), (3, (0, l3))] []) : ∀ (n : Nat) (v : V) (l3 : Int), Gs x (lp_X7_seize_34 l0 l1 l2 k n v l3) v 2 12 34 [(0, (17, l0)), (1, (0, l1)), (2, (11, l2)), (3, (0, l3))] [] := by
  intro n
  induction n with
  | zero => intro v l3; exact g_none
  | succ n ih =>
    intro v l3
    rw [lp_X7_seize_34]
    refine g_iload_n F rfl 3 rfl rfl dX7_seize_34 ?_
    refine g_aload_n F rfl 0 rfl dX7_seize_35 ?_
    refine g_get F (t := 0) (sI := 7) fl_RX7_66 rfl rfl (Int.not_lt.mp (Int.not_lt.mpr h0)) dX7_seize_36 ?_
    refine g_icmp_ge F rfl rfl (tgt := 74) rfl dX7_seize_39 (fun n10 => ?_) (fun n10 => ?_)
    · refine g_loc [(0, 17), (1, 0), (2, 11), (3, 0)] rfl ?_
      exact hk v l3
    · refine g_aload_n F rfl 0 rfl dX7_seize_42 ?_
      refine g_get F (t := 22) (sI := 2) fl_RX7_23 rfl rfl (Int.not_lt.mp (Int.not_lt.mpr h0)) dX7_seize_43 ?_
      refine g_iload_n F rfl 3 rfl rfl dX7_seize_46 ?_
      refine g_chk (fun n11 => ?_)
      refine g_chk (fun n12 => ?_)
      refine h_aald F (n := 60) ak_12 (Int.not_lt.mp (Int.not_lt.mpr n11)) n12 rfl dX7_seize_47 ?_
      refine g_chk (fun n13 => ?_)
      refine g_get F (t := 11) (sI := 5) fl_RX7_218 rfl rfl (Int.not_lt.mp (Int.not_lt.mpr n13)) dX7_seize_48 ?_
      refine g_aload_n F rfl 2 rfl dX7_seize_51 ?_
      refine g_acmp_ne F (by decide) (tgt := 68) rfl dX7_seize_52 (fun n14 => ?_) (fun n14 => ?_)
      · refine g_aload_n F rfl 0 rfl dX7_seize_55 ?_
        refine g_get F (t := 22) (sI := 2) fl_RX7_23 rfl rfl (Int.not_lt.mp (Int.not_lt.mpr h0)) dX7_seize_56 ?_
        refine g_iload_n F rfl 3 rfl rfl dX7_seize_59 ?_
        refine h_aald F (n := 60) ak_12 (Int.not_lt.mp (Int.not_lt.mpr n11)) n12 rfl dX7_seize_60 ?_
        refine g_aload_n F rfl 2 rfl dX7_seize_61 ?_
        refine g_chk (fun n15 => ?_)
        refine g_get F (t := 13) (sI := 6) fl_RX7_252 rfl rfl (Int.not_lt.mp (Int.not_lt.mpr n15)) dX7_seize_62 ?_
        refine g_callVN F (by decide) (K := 2) (b := (v 12 (v 7 l0 2) l3)) [(13, (v 1 l2 6))] [13] ml_RX7_215 wi_X2_takeOver ws_X2_takeOver (c_X2_takeOver (v 12 (v 7 l0 2) l3) (v 1 l2 6) (Int.not_lt.mp (Int.not_lt.mpr n13))) mi_X2_takeOver (by decide) ⟨_, rfl, rfl⟩ (Int.not_lt.mp (Int.not_lt.mpr n13)) rfl rfl rfl (Nat.le_of_ble_eq_true rfl) (Nat.le_of_ble_eq_true rfl) (Nat.le_of_ble_eq_true rfl) (Nat.le_of_ble_eq_true rfl) (Nat.le_of_ble_eq_true rfl) dX7_seize_65 (fun z16 v16 hz16 => ?_)
        refine g_iinc F 3 rfl rfl (Nat.le_of_ble_eq_true rfl) (ls' := [(3, (0, (w32 (l3 + 1)))), (0, (17, l0)), (1, (0, l1)), (2, (11, l2))]) rfl dX7_seize_68 ?_
        refine g_goto F (tgt := 34) rfl dX7_seize_71 ?_
        refine g_loc [(1, 17), (2, 0), (3, 11), (0, 0)] rfl ?_
        exact ih v16 (w32 (l3 + 1))
      · refine g_iinc F 3 rfl rfl (Nat.le_of_ble_eq_true rfl) (ls' := [(3, (0, (w32 (l3 + 1)))), (0, (17, l0)), (1, (0, l1)), (2, (11, l2))]) rfl dX7_seize_68 ?_
        refine g_goto F (tgt := 34) rfl dX7_seize_71 ?_
        refine g_loc [(1, 17), (2, 0), (3, 11), (0, 0)] rfl ?_
        exact ih v (w32 (l3 + 1))
def sp_X7_seize (a0 a1 : Int) (v : V) : Res := (rB (sp_X7_loanAt a0 a1 v) (fun z1 v1 => (chk (0 ≤ z1) (chk (0 ≤ (v1 1 z1 6)) (if ¬ (v1 3 (v1 1 z1 6) 4) = 0 then (rB (sp_X7_requireState 0 v1) (fun z5 v5 => none))
   else (rB (sp_X7_isSeizable a0 z1 v1) (fun z6 v6 => (if z6 = 0 then (rB (sp_X7_requireState 0 v6) (fun z8 v8 => none))
   else (rB (sp_X7_requireState 1 v6) (fun z9 v9 => (lp_X7_seize_34 a0 a1 z1 (fun v17 u17_3 => (rB (sp_X7_release a0 z1 v17) (fun z18 v18 => (rOk z18 v18)))) 200 v9 0)))))))))))
set_option maxRecDepth 100000 in
set_option maxHeartbeats 4000000 in
theorem k_X7_seize (a0 a1 : Int) (h0 : 0 ≤ a0) (x : Cx) (v : V) (F : Fx x cX7_seize RX7 "seize" ({ frames := 7, cells := 2, slots := 12, locals := 112 }) 4 (some 0) (some .int) 0) (ho : ∀ a ∈ [(17, a0), (0, a1)], okv v a) : Gs x (sp_X7_seize a0 a1 v) v 0 0 0 (avArgs 0 [(17, a0), (0, a1)]) [] := by
  show Gs x _ v 0 0 0 [(0, (17, a0)), (1, (0, a1))] []
  unfold sp_X7_seize
  refine g_aload_n F rfl 0 rfl dX7_seize_0 ?_
  refine g_iload_n F rfl 1 rfl rfl dX7_seize_1 ?_
  refine g_callV F (by decide) (K := 7) (b := a0) [(0, a1)] [0] ml_RX7_239 wi_X7_loanAt ws_X7_loanAt (c_X7_loanAt a0 a1 (Int.not_lt.mp (Int.not_lt.mpr h0))) mi_X7_loanAt (by decide) ⟨_, rfl, rfl⟩ (Int.not_lt.mp (Int.not_lt.mpr h0)) rfl rfl rfl (Nat.le_of_ble_eq_true rfl) (Nat.le_of_ble_eq_true rfl) (Nat.le_of_ble_eq_true rfl) (Nat.le_of_ble_eq_true rfl) (Nat.le_of_ble_eq_true rfl) dX7_seize_2 (fun z1 v1 hz1 => ?_)
  refine g_astore_n F rfl (Nat.le_of_ble_eq_true rfl) (ls' := [(2, (11, z1)), (0, (17, a0)), (1, (0, a1))]) rfl dX7_seize_5 ?_
  refine g_aload_n F rfl 0 rfl dX7_seize_6 ?_
  refine g_chk (fun n2 => ?_)
  refine g_get F (t := 13) (sI := 6) fl_RX7_252 rfl rfl (Int.not_lt.mp (Int.not_lt.mpr n2)) dX7_seize_7 ?_
  refine g_chk (fun n3 => ?_)
  refine g_get F (t := 2) (sI := 4) fl_RX7_130 rfl rfl (Int.not_lt.mp (Int.not_lt.mpr n3)) dX7_seize_10 ?_
  refine g_if_ne F rfl (tgt := 28) rfl dX7_seize_13 (fun n4 => ?_) (fun n4 => ?_)
  · refine g_iconst F 2 rfl dX7_seize_28 ?_
    refine g_callS F (by decide) [(2, 0)] [2] ml_RX7_50 wt_X7_requireState (c_X7_requireState 0) mi_X7_requireState rfl rfl rfl (Nat.le_of_ble_eq_true rfl) (Nat.le_of_ble_eq_true rfl) (Nat.le_of_ble_eq_true rfl) (Nat.le_of_ble_eq_true rfl) (Nat.le_of_ble_eq_true rfl) dX7_seize_29 (fun z5 v5 hz5 => ?_)
    exact g_none
  · refine g_aload_n F rfl 1 rfl dX7_seize_16 ?_
    refine g_aload_n F rfl 0 rfl dX7_seize_17 ?_
    refine g_callV F (by decide) (K := 7) (b := a0) [(11, z1)] [11] ml_RX7_259 wi_X7_isSeizable ws_X7_isSeizable (c_X7_isSeizable a0 z1 (Int.not_lt.mp (Int.not_lt.mpr h0))) mi_X7_isSeizable (by decide) ⟨_, rfl, rfl⟩ (Int.not_lt.mp (Int.not_lt.mpr h0)) rfl rfl rfl (Nat.le_of_ble_eq_true rfl) (Nat.le_of_ble_eq_true rfl) (Nat.le_of_ble_eq_true rfl) (Nat.le_of_ble_eq_true rfl) (Nat.le_of_ble_eq_true rfl) dX7_seize_18 (fun z6 v6 hz6 => ?_)
    refine g_if_eq F rfl (tgt := 28) rfl dX7_seize_21 (fun n7 => ?_) (fun n7 => ?_)
    · refine g_iconst F 2 rfl dX7_seize_28 ?_
      refine g_callS F (by decide) [(2, 0)] [2] ml_RX7_50 wt_X7_requireState (c_X7_requireState 0) mi_X7_requireState rfl rfl rfl (Nat.le_of_ble_eq_true rfl) (Nat.le_of_ble_eq_true rfl) (Nat.le_of_ble_eq_true rfl) (Nat.le_of_ble_eq_true rfl) (Nat.le_of_ble_eq_true rfl) dX7_seize_29 (fun z8 v8 hz8 => ?_)
      exact g_none
    · refine g_iconst F 2 rfl dX7_seize_24 ?_
      refine g_goto F (tgt := 29) rfl dX7_seize_25 ?_
      refine g_callS F (by decide) [(2, 1)] [2] ml_RX7_50 wt_X7_requireState (c_X7_requireState 1) mi_X7_requireState rfl rfl rfl (Nat.le_of_ble_eq_true rfl) (Nat.le_of_ble_eq_true rfl) (Nat.le_of_ble_eq_true rfl) (Nat.le_of_ble_eq_true rfl) (Nat.le_of_ble_eq_true rfl) dX7_seize_29 (fun z9 v9 hz9 => ?_)
      refine g_iconst F 2 rfl dX7_seize_32 ?_
      refine g_istore_n F rfl rfl (Nat.le_of_ble_eq_true rfl) (ls' := [(3, (2, 0)), (2, (11, z1)), (0, (17, a0)), (1, (0, a1))]) rfl dX7_seize_33 ?_
      refine g_loc [(2, 17), (3, 0), (1, 11), (0, 0)] rfl ?_
      refine kl_X7_seize_34 (Int.not_lt.mp (Int.not_lt.mpr h0)) F (fun v17 u17_3 => ?_) 200 v9 0
      refine g_aload_n F rfl 0 rfl dX7_seize_74 ?_
      refine g_aload_n F rfl 2 rfl dX7_seize_75 ?_
      refine g_callV F (by decide) (K := 7) (b := a0) [(11, z1)] [11] ml_RX7_255 wi_X7_release ws_X7_release (c_X7_release a0 z1 (Int.not_lt.mp (Int.not_lt.mpr h0))) mi_X7_release (by decide) ⟨_, rfl, rfl⟩ (Int.not_lt.mp (Int.not_lt.mpr h0)) rfl rfl rfl (Nat.le_of_ble_eq_true rfl) (Nat.le_of_ble_eq_true rfl) (Nat.le_of_ble_eq_true rfl) (Nat.le_of_ble_eq_true rfl) (Nat.le_of_ble_eq_true rfl) dX7_seize_76 (fun z18 v18 hz18 => ?_)
      exact g_ireturn F rfl rfl rfl rfl (Nat.le_of_ble_eq_true rfl) (Nat.le_of_ble_eq_true rfl) dX7_seize_79
theorem c_X7_seize (a0 a1 : Int) (h0 : 0 ≤ a0) : ∀ l, Ct l yX7_seize cX7_seize 4 (some .int) ({ frames := 7, cells := 2, slots := 12, locals := 112 }) (some 0) [(17, a0), (0, a1)] (sp_X7_seize a0 a1) := g_method (by decide +kernel) (Nat.le_of_ble_eq_true rfl) (fun x v F ho => k_X7_seize a0 a1 h0 x v F ho)
def sp_X7_assign (a0 a1 a2 a3 : Int) (v : V) : Res := (rB (sp_X7_loanAt a0 a1 v) (fun z1 v1 => (rB (sp_X7_partyAt a0 a2 v1) (fun z2 v2 => (chk (0 ≤ z1) (rB (sp_X7_requireRange a3 0 1000000 v2) (fun z4 v4 => (rB (sp_X7_requireOther z2 (v2 1 z1 6) v4) (fun z5 v5 => (rB (sp_X7_requireOther z2 (v5 1 z1 1) v5) (fun z6 v6 => (if ¬ (v6 1 z1 7) = 0 then (rB (sp_X7_requireState 0 v6) (fun z8 v8 => none))
   else (chk (0 ≤ (v2 1 z1 6)) (if ¬ (v6 3 (v2 1 z1 6) 4) = 0 then (rB (sp_X7_requireState 0 v6) (fun z11 v11 => none))
   else (chk (0 ≤ z2) (if ¬ (v6 3 z2 4) = 0 then (rB (sp_X7_requireState 0 v6) (fun z14 v14 => none))
   else (if (v6 3 z2 2) < a3 then (rB (sp_X7_requireState 0 v6) (fun z16 v16 => none))
   else (rB (sp_X7_requireState 1 v6) (fun z17 v17 => (rB (sp_X7_pay z2 (v2 1 z1 6) a3 v17) (fun z18 v18 => (rLet (up v18 1 z1 6 z2) (fun v19 => (rOk (v19 3 (v2 1 z1 6) 0) v19))))))))))))))))))))))))
set_option maxRecDepth 100000 in
set_option maxHeartbeats 4000000 in
theorem k_X7_assign (a0 a1 a2 a3 : Int) (h0 : 0 ≤ a0) (x : Cx) (v : V) (F : Fx x cX7_assign RX7 "assign" ({ frames := 7, cells := 6, slots := 36, locals := 104 }) 7 (some 0) (some .int) 0) (ho : ∀ a ∈ [(17, a0), (0, a1), (0, a2), (0, a3)], okv v a) : Gs x (sp_X7_assign a0 a1 a2 a3 v) v 0 0 0 (avArgs 0 [(17, a0), (0, a1), (0, a2), (0, a3)]) [] := by
  show Gs x _ v 0 0 0 [(0, (17, a0)), (1, (0, a1)), (2, (0, a2)), (3, (0, a3))] []
  unfold sp_X7_assign
  refine g_aload_n F rfl 0 rfl dX7_assign_0 ?_
  refine g_iload_n F rfl 1 rfl rfl dX7_assign_1 ?_
  refine g_callV F (by decide) (K := 7) (b := a0) [(0, a1)] [0] ml_RX7_239 wi_X7_loanAt ws_X7_loanAt (c_X7_loanAt a0 a1 (Int.not_lt.mp (Int.not_lt.mpr h0))) mi_X7_loanAt (by decide) ⟨_, rfl, rfl⟩ (Int.not_lt.mp (Int.not_lt.mpr h0)) rfl rfl rfl (Nat.le_of_ble_eq_true rfl) (Nat.le_of_ble_eq_true rfl) (Nat.le_of_ble_eq_true rfl) (Nat.le_of_ble_eq_true rfl) (Nat.le_of_ble_eq_true rfl) dX7_assign_2 (fun z1 v1 hz1 => ?_)
  refine g_astore F (Nat.le_of_ble_eq_true rfl) (ls' := [(4, (11, z1)), (0, (17, a0)), (1, (0, a1)), (2, (0, a2)), (3, (0, a3))]) rfl dX7_assign_5 ?_
  refine g_aload_n F rfl 1 rfl dX7_assign_7 ?_
  refine g_iload_n F rfl 3 rfl rfl dX7_assign_8 ?_
  refine g_callV F (by decide) (K := 7) (b := a0) [(0, a2)] [0] ml_RX7_59 wi_X7_partyAt ws_X7_partyAt (c_X7_partyAt a0 a2 (Int.not_lt.mp (Int.not_lt.mpr h0))) mi_X7_partyAt (by decide) ⟨_, rfl, rfl⟩ (Int.not_lt.mp (Int.not_lt.mpr h0)) rfl rfl rfl (Nat.le_of_ble_eq_true rfl) (Nat.le_of_ble_eq_true rfl) (Nat.le_of_ble_eq_true rfl) (Nat.le_of_ble_eq_true rfl) (Nat.le_of_ble_eq_true rfl) dX7_assign_9 (fun z2 v2 hz2 => ?_)
  refine g_astore F (Nat.le_of_ble_eq_true rfl) (ls' := [(5, (13, z2)), (4, (11, z1)), (0, (17, a0)), (1, (0, a1)), (2, (0, a2)), (3, (0, a3))]) rfl dX7_assign_12 ?_
  refine g_aload F 1 rfl dX7_assign_14 ?_
  refine g_chk (fun n3 => ?_)
  refine g_get F (t := 13) (sI := 6) fl_RX7_252 rfl rfl (Int.not_lt.mp (Int.not_lt.mpr n3)) dX7_assign_16 ?_
  refine g_astore F (Nat.le_of_ble_eq_true rfl) (ls' := [(6, (13, (v2 1 z1 6))), (5, (13, z2)), (4, (11, z1)), (0, (17, a0)), (1, (0, a1)), (2, (0, a2)), (3, (0, a3))]) rfl dX7_assign_19 ?_
  refine g_iload_n F rfl 6 rfl rfl dX7_assign_21 ?_
  refine g_iconst F 2 rfl dX7_assign_22 ?_
  refine g_ldc F rfl cn_RX7_41 dX7_assign_23 ?_
  refine g_callS F (by decide) [(0, a3), (2, 0), (0, 1000000)] [0, 0, 0] ml_RX7_42 wt_X7_requireRange (c_X7_requireRange a3 0 1000000) mi_X7_requireRange rfl rfl rfl (Nat.le_of_ble_eq_true rfl) (Nat.le_of_ble_eq_true rfl) (Nat.le_of_ble_eq_true rfl) (Nat.le_of_ble_eq_true rfl) (Nat.le_of_ble_eq_true rfl) dX7_assign_25 (fun z4 v4 hz4 => ?_)
  refine g_aload F 1 rfl dX7_assign_28 ?_
  refine g_aload F 0 rfl dX7_assign_30 ?_
  refine g_callS F (by decide) [(13, z2), (13, (v2 1 z1 6))] [13, 13] ml_RX7_161 wt_X7_requireOther (c_X7_requireOther z2 (v2 1 z1 6)) mi_X7_requireOther rfl rfl rfl (Nat.le_of_ble_eq_true rfl) (Nat.le_of_ble_eq_true rfl) (Nat.le_of_ble_eq_true rfl) (Nat.le_of_ble_eq_true rfl) (Nat.le_of_ble_eq_true rfl) dX7_assign_32 (fun z5 v5 hz5 => ?_)
  refine g_aload F 1 rfl dX7_assign_35 ?_
  refine g_aload F 2 rfl dX7_assign_37 ?_
  refine g_get F (t := 13) (sI := 1) fl_RX7_249 rfl rfl (Int.not_lt.mp (Int.not_lt.mpr n3)) dX7_assign_39 ?_
  refine g_callS F (by decide) [(13, z2), (13, (v5 1 z1 1))] [13, 13] ml_RX7_161 wt_X7_requireOther (c_X7_requireOther z2 (v5 1 z1 1)) mi_X7_requireOther rfl rfl rfl (Nat.le_of_ble_eq_true rfl) (Nat.le_of_ble_eq_true rfl) (Nat.le_of_ble_eq_true rfl) (Nat.le_of_ble_eq_true rfl) (Nat.le_of_ble_eq_true rfl) dX7_assign_42 (fun z6 v6 hz6 => ?_)
  refine g_aload F 2 rfl dX7_assign_45 ?_
  refine g_get F (t := 2) (sI := 7) fl_RX7_246 rfl rfl (Int.not_lt.mp (Int.not_lt.mpr n3)) dX7_assign_47 ?_
  refine g_if_ne F rfl (tgt := 82) rfl dX7_assign_50 (fun n7 => ?_) (fun n7 => ?_)
  · refine g_iconst F 2 rfl dX7_assign_82 ?_
    refine g_callS F (by decide) [(2, 0)] [2] ml_RX7_50 wt_X7_requireState (c_X7_requireState 0) mi_X7_requireState rfl rfl rfl (Nat.le_of_ble_eq_true rfl) (Nat.le_of_ble_eq_true rfl) (Nat.le_of_ble_eq_true rfl) (Nat.le_of_ble_eq_true rfl) (Nat.le_of_ble_eq_true rfl) dX7_assign_83 (fun z8 v8 hz8 => ?_)
    exact g_none
  · refine g_aload F 0 rfl dX7_assign_53 ?_
    refine g_chk (fun n9 => ?_)
    refine g_get F (t := 2) (sI := 4) fl_RX7_130 rfl rfl (Int.not_lt.mp (Int.not_lt.mpr n9)) dX7_assign_55 ?_
    refine g_if_ne F rfl (tgt := 82) rfl dX7_assign_58 (fun n10 => ?_) (fun n10 => ?_)
    · refine g_iconst F 2 rfl dX7_assign_82 ?_
      refine g_callS F (by decide) [(2, 0)] [2] ml_RX7_50 wt_X7_requireState (c_X7_requireState 0) mi_X7_requireState rfl rfl rfl (Nat.le_of_ble_eq_true rfl) (Nat.le_of_ble_eq_true rfl) (Nat.le_of_ble_eq_true rfl) (Nat.le_of_ble_eq_true rfl) (Nat.le_of_ble_eq_true rfl) dX7_assign_83 (fun z11 v11 hz11 => ?_)
      exact g_none
    · refine g_aload F 1 rfl dX7_assign_61 ?_
      refine g_chk (fun n12 => ?_)
      refine g_get F (t := 2) (sI := 4) fl_RX7_130 rfl rfl (Int.not_lt.mp (Int.not_lt.mpr n12)) dX7_assign_63 ?_
      refine g_if_ne F rfl (tgt := 82) rfl dX7_assign_66 (fun n13 => ?_) (fun n13 => ?_)
      · refine g_iconst F 2 rfl dX7_assign_82 ?_
        refine g_callS F (by decide) [(2, 0)] [2] ml_RX7_50 wt_X7_requireState (c_X7_requireState 0) mi_X7_requireState rfl rfl rfl (Nat.le_of_ble_eq_true rfl) (Nat.le_of_ble_eq_true rfl) (Nat.le_of_ble_eq_true rfl) (Nat.le_of_ble_eq_true rfl) (Nat.le_of_ble_eq_true rfl) dX7_assign_83 (fun z14 v14 hz14 => ?_)
        exact g_none
      · refine g_aload F 1 rfl dX7_assign_69 ?_
        refine g_get F (t := 0) (sI := 2) fl_RX7_222 rfl rfl (Int.not_lt.mp (Int.not_lt.mpr n12)) dX7_assign_71 ?_
        refine g_iload_n F rfl 6 rfl rfl dX7_assign_74 ?_
        refine g_icmp_lt F rfl rfl (tgt := 82) rfl dX7_assign_75 (fun n15 => ?_) (fun n15 => ?_)
        · refine g_iconst F 2 rfl dX7_assign_82 ?_
          refine g_callS F (by decide) [(2, 0)] [2] ml_RX7_50 wt_X7_requireState (c_X7_requireState 0) mi_X7_requireState rfl rfl rfl (Nat.le_of_ble_eq_true rfl) (Nat.le_of_ble_eq_true rfl) (Nat.le_of_ble_eq_true rfl) (Nat.le_of_ble_eq_true rfl) (Nat.le_of_ble_eq_true rfl) dX7_assign_83 (fun z16 v16 hz16 => ?_)
          exact g_none
        · refine g_iconst F 2 rfl dX7_assign_78 ?_
          refine g_goto F (tgt := 83) rfl dX7_assign_79 ?_
          refine g_callS F (by decide) [(2, 1)] [2] ml_RX7_50 wt_X7_requireState (c_X7_requireState 1) mi_X7_requireState rfl rfl rfl (Nat.le_of_ble_eq_true rfl) (Nat.le_of_ble_eq_true rfl) (Nat.le_of_ble_eq_true rfl) (Nat.le_of_ble_eq_true rfl) (Nat.le_of_ble_eq_true rfl) dX7_assign_83 (fun z17 v17 hz17 => ?_)
          refine g_aload F 1 rfl dX7_assign_86 ?_
          refine g_aload F 0 rfl dX7_assign_88 ?_
          refine g_iload_n F rfl 6 rfl rfl dX7_assign_90 ?_
          refine g_callS F (by decide) [(13, z2), (13, (v2 1 z1 6)), (0, a3)] [13, 13, 0] ml_RX7_234 wt_X7_pay (c_X7_pay z2 (v2 1 z1 6) a3) mi_X7_pay rfl rfl rfl (Nat.le_of_ble_eq_true rfl) (Nat.le_of_ble_eq_true rfl) (Nat.le_of_ble_eq_true rfl) (Nat.le_of_ble_eq_true rfl) (Nat.le_of_ble_eq_true rfl) dX7_assign_91 (fun z18 v18 hz18 => ?_)
          refine g_aload F 2 rfl dX7_assign_94 ?_
          refine g_aload F 1 rfl dX7_assign_96 ?_
          refine h_put F (sI := 6) fl_RX7_252 ⟨_, rfl, Or.inl rfl⟩ rfl rfl (Int.not_lt.mp (Int.not_lt.mpr n3)) dX7_assign_98 (fun v19 => ?_)
          refine g_aload F 0 rfl dX7_assign_101 ?_
          refine g_get F (t := 0) (sI := 0) fl_RX7_56 rfl rfl (Int.not_lt.mp (Int.not_lt.mpr n9)) dX7_assign_103 ?_
          exact g_ireturn F rfl rfl rfl rfl (Nat.le_of_ble_eq_true rfl) (Nat.le_of_ble_eq_true rfl) dX7_assign_106
theorem c_X7_assign (a0 a1 a2 a3 : Int) (h0 : 0 ≤ a0) : ∀ l, Ct l yX7_assign cX7_assign 7 (some .int) ({ frames := 7, cells := 6, slots := 36, locals := 104 }) (some 0) [(17, a0), (0, a1), (0, a2), (0, a3)] (sp_X7_assign a0 a1 a2 a3) := g_method (by decide +kernel) (Nat.le_of_ble_eq_true rfl) (fun x v F ho => k_X7_assign a0 a1 a2 a3 h0 x v F ho)
def sp_X7_bars (a0 a1 a2 a3 a4 : Int) (v : V) : Res := (rB (sp_X7_lotAt a0 a1 v) (fun z1 v1 => (rB (sp_X7_partyAt a0 a3 v1) (fun z2 v2 => (rB (sp_X7_requireOffer z1 a2 z2 a4 v2) (fun z3 v3 => (rB (sp_X7_barOfSale a0 z1 a2 z2 a4 v3) (fun z4 v4 => (rOk z4 v4)))))))))
set_option maxRecDepth 100000 in
set_option maxHeartbeats 4000000 in
theorem k_X7_bars (a0 a1 a2 a3 a4 : Int) (h0 : 0 ≤ a0) (x : Cx) (v : V) (F : Fx x cX7_bars RX7 "bars" ({ frames := 8, cells := 5, slots := 30, locals := 127 }) 7 (some 0) (some .int) 0) (ho : ∀ a ∈ [(17, a0), (0, a1), (0, a2), (0, a3), (0, a4)], okv v a) : Gs x (sp_X7_bars a0 a1 a2 a3 a4 v) v 0 0 0 (avArgs 0 [(17, a0), (0, a1), (0, a2), (0, a3), (0, a4)]) [] := by
  show Gs x _ v 0 0 0 [(0, (17, a0)), (1, (0, a1)), (2, (0, a2)), (3, (0, a3)), (4, (0, a4))] []
  unfold sp_X7_bars
  refine g_aload_n F rfl 0 rfl dX7_bars_0 ?_
  refine g_iload_n F rfl 1 rfl rfl dX7_bars_1 ?_
  refine g_callV F (by decide) (K := 7) (b := a0) [(0, a1)] [0] ml_RX7_141 wi_X7_lotAt ws_X7_lotAt (c_X7_lotAt a0 a1 (Int.not_lt.mp (Int.not_lt.mpr h0))) mi_X7_lotAt (by decide) ⟨_, rfl, rfl⟩ (Int.not_lt.mp (Int.not_lt.mpr h0)) rfl rfl rfl (Nat.le_of_ble_eq_true rfl) (Nat.le_of_ble_eq_true rfl) (Nat.le_of_ble_eq_true rfl) (Nat.le_of_ble_eq_true rfl) (Nat.le_of_ble_eq_true rfl) dX7_bars_2 (fun z1 v1 hz1 => ?_)
  refine g_astore F (Nat.le_of_ble_eq_true rfl) (ls' := [(5, (12, z1)), (0, (17, a0)), (1, (0, a1)), (2, (0, a2)), (3, (0, a3)), (4, (0, a4))]) rfl dX7_bars_5 ?_
  refine g_aload_n F rfl 1 rfl dX7_bars_7 ?_
  refine g_iload_n F rfl 4 rfl rfl dX7_bars_8 ?_
  refine g_callV F (by decide) (K := 7) (b := a0) [(0, a3)] [0] ml_RX7_59 wi_X7_partyAt ws_X7_partyAt (c_X7_partyAt a0 a3 (Int.not_lt.mp (Int.not_lt.mpr h0))) mi_X7_partyAt (by decide) ⟨_, rfl, rfl⟩ (Int.not_lt.mp (Int.not_lt.mpr h0)) rfl rfl rfl (Nat.le_of_ble_eq_true rfl) (Nat.le_of_ble_eq_true rfl) (Nat.le_of_ble_eq_true rfl) (Nat.le_of_ble_eq_true rfl) (Nat.le_of_ble_eq_true rfl) dX7_bars_9 (fun z2 v2 hz2 => ?_)
  refine g_astore F (Nat.le_of_ble_eq_true rfl) (ls' := [(6, (13, z2)), (5, (12, z1)), (0, (17, a0)), (1, (0, a1)), (2, (0, a2)), (3, (0, a3)), (4, (0, a4))]) rfl dX7_bars_12 ?_
  refine g_aload F 1 rfl dX7_bars_14 ?_
  refine g_iload_n F rfl 4 rfl rfl dX7_bars_16 ?_
  refine g_aload F 0 rfl dX7_bars_17 ?_
  refine g_iload F 6 rfl rfl dX7_bars_19 ?_
  refine g_callS F (by decide) [(12, z1), (0, a2), (13, z2), (0, a4)] [12, 0, 13, 0] ml_RX7_145 wt_X7_requireOffer (c_X7_requireOffer z1 a2 z2 a4) mi_X7_requireOffer rfl rfl rfl (Nat.le_of_ble_eq_true rfl) (Nat.le_of_ble_eq_true rfl) (Nat.le_of_ble_eq_true rfl) (Nat.le_of_ble_eq_true rfl) (Nat.le_of_ble_eq_true rfl) dX7_bars_21 (fun z3 v3 hz3 => ?_)
  refine g_aload_n F rfl 2 rfl dX7_bars_24 ?_
  refine g_aload F 1 rfl dX7_bars_25 ?_
  refine g_iload_n F rfl 4 rfl rfl dX7_bars_27 ?_
  refine g_aload F 0 rfl dX7_bars_28 ?_
  refine g_iload F 6 rfl rfl dX7_bars_30 ?_
  refine g_callV F (by decide) (K := 7) (b := a0) [(12, z1), (0, a2), (13, z2), (0, a4)] [12, 0, 13, 0] ml_RX7_149 wi_X7_barOfSale ws_X7_barOfSale (c_X7_barOfSale a0 z1 a2 z2 a4 (Int.not_lt.mp (Int.not_lt.mpr h0))) mi_X7_barOfSale (by decide) ⟨_, rfl, rfl⟩ (Int.not_lt.mp (Int.not_lt.mpr h0)) rfl rfl rfl (Nat.le_of_ble_eq_true rfl) (Nat.le_of_ble_eq_true rfl) (Nat.le_of_ble_eq_true rfl) (Nat.le_of_ble_eq_true rfl) (Nat.le_of_ble_eq_true rfl) dX7_bars_32 (fun z4 v4 hz4 => ?_)
  exact g_ireturn F rfl rfl rfl rfl (Nat.le_of_ble_eq_true rfl) (Nat.le_of_ble_eq_true rfl) dX7_bars_35
theorem c_X7_bars (a0 a1 a2 a3 a4 : Int) (h0 : 0 ≤ a0) : ∀ l, Ct l yX7_bars cX7_bars 7 (some .int) ({ frames := 8, cells := 5, slots := 30, locals := 127 }) (some 0) [(17, a0), (0, a1), (0, a2), (0, a3), (0, a4)] (sp_X7_bars a0 a1 a2 a3 a4) := g_method (by decide +kernel) (Nat.le_of_ble_eq_true rfl) (fun x v F ho => k_X7_bars a0 a1 a2 a3 a4 h0 x v F ho)
def sp_X7_numberOf (a0 : Int) (v : V) : Res := (if a0 < 0 then (rOk (-1) v)
   else (rOk (v 3 a0 0) v))
set_option maxRecDepth 100000 in
set_option maxHeartbeats 4000000 in
theorem k_X7_numberOf (a0 : Int) (x : Cx) (v : V) (F : Fx x cX7_numberOf RX7 "numberOf" ({ frames := 0, cells := 0, slots := 0, locals := 0 }) 1 (some 0) (some .int) 0) (ho : ∀ a ∈ [(13, a0)], okv v a) : Gs x (sp_X7_numberOf a0 v) v 0 0 0 (avArgs 0 [(13, a0)]) [] := by
  show Gs x _ v 0 0 0 [(0, (13, a0))] []
  unfold sp_X7_numberOf
  refine g_aload_n F rfl 0 rfl dX7_numberOf_0 ?_
  refine g_ifnonnull F (tgt := 8) rfl dX7_numberOf_1 (fun n1 => ?_) (fun n1 => ?_)
  · refine g_iconst F 0 rfl dX7_numberOf_4 ?_
    refine g_goto F (tgt := 12) rfl dX7_numberOf_5 ?_
    exact g_ireturn F rfl rfl rfl rfl (Nat.le_of_ble_eq_true rfl) (Nat.le_of_ble_eq_true rfl) dX7_numberOf_12
  · refine g_aload_n F rfl 0 rfl dX7_numberOf_8 ?_
    refine g_get F (t := 0) (sI := 0) fl_RX7_56 rfl rfl (Int.not_lt.mp n1) dX7_numberOf_9 ?_
    exact g_ireturn F rfl rfl rfl rfl (Nat.le_of_ble_eq_true rfl) (Nat.le_of_ble_eq_true rfl) dX7_numberOf_12
theorem c_X7_numberOf (a0 : Int) : ∀ l, Ct l yX7_numberOf cX7_numberOf 1 (some .int) ({ frames := 0, cells := 0, slots := 0, locals := 0 }) (some 0) [(13, a0)] (sp_X7_numberOf a0) := g_method (by decide +kernel) (Nat.le_of_ble_eq_true rfl) (fun x v F ho => k_X7_numberOf a0 x v F ho)
def sp_X7_barredBy (a0 a1 a2 a3 a4 : Int) (v : V) : Res := (rB (sp_X7_lotAt a0 a1 v) (fun z1 v1 => (rB (sp_X7_partyAt a0 a3 v1) (fun z2 v2 => (rB (sp_X7_requireOffer z1 a2 z2 a4 v2) (fun z3 v3 => (rB (sp_X7_barOfSale a0 z1 a2 z2 a4 v3) (fun z4 v4 => (if z4 = 1 then (chk (0 ≤ z1) (chk (0 ≤ (v4 2 z1 3)) (if (v4 3 (v4 2 z1 3) 4) = 0 then (chk (0 ≤ z2) (rOk (v4 3 z2 0) v4))
   else (rOk (v4 3 (v4 2 z1 3) 0) v4))))
   else (if z4 = 2 then (chk (0 ≤ z1) (rOk (w32 (a2 - (v4 2 z1 4))) v4))
   else (if z4 = 3 then (chk (0 ≤ z1) (rB (sp_X2_dealer z1  v4) (fun z13 v13 => (rB (sp_X7_numberOf z13 v13) (fun z15 v15 => (rOk z15 v15))))))
   else (if z4 = 4 then (chk (0 ≤ z1) (chk (0 ≤ (v4 2 z1 1)) (rB (sp_X6_barDaysLeft (v4 2 z1 1) (v4 7 a0 9) v4) (fun z18 v18 => (rOk z18 v18)))))
   else (if z4 = 5 then (chk (0 ≤ z2) (rOk (w32 (a4 - (v4 3 z2 2))) v4))
   else (if z4 = 6 then (chk (0 ≤ z1) (chk (0 ≤ (v4 2 z1 1)) (chk (0 ≤ (v4 6 (v4 2 z1 1) 1)) (rOk (v4 3 (v4 6 (v4 2 z1 1) 1) 0) v4))))
   else (if z4 = 7 then (rOk 60 v4)
   else (rOk (-1) v4))))))))))))))))
set_option maxRecDepth 100000 in
set_option maxHeartbeats 4000000 in
theorem k_X7_barredBy (a0 a1 a2 a3 a4 : Int) (h0 : 0 ≤ a0) (x : Cx) (v : V) (F : Fx x cX7_barredBy RX7 "barredBy" ({ frames := 8, cells := 5, slots := 30, locals := 127 }) 7 (some 0) (some .int) 0) (ho : ∀ a ∈ [(17, a0), (0, a1), (0, a2), (0, a3), (0, a4)], okv v a) : Gs x (sp_X7_barredBy a0 a1 a2 a3 a4 v) v 0 0 0 (avArgs 0 [(17, a0), (0, a1), (0, a2), (0, a3), (0, a4)]) [] := by
  show Gs x _ v 0 0 0 [(0, (17, a0)), (1, (0, a1)), (2, (0, a2)), (3, (0, a3)), (4, (0, a4))] []
  unfold sp_X7_barredBy
  refine g_aload_n F rfl 0 rfl dX7_barredBy_0 ?_
  refine g_iload_n F rfl 1 rfl rfl dX7_barredBy_1 ?_
  refine g_callV F (by decide) (K := 7) (b := a0) [(0, a1)] [0] ml_RX7_141 wi_X7_lotAt ws_X7_lotAt (c_X7_lotAt a0 a1 (Int.not_lt.mp (Int.not_lt.mpr h0))) mi_X7_lotAt (by decide) ⟨_, rfl, rfl⟩ (Int.not_lt.mp (Int.not_lt.mpr h0)) rfl rfl rfl (Nat.le_of_ble_eq_true rfl) (Nat.le_of_ble_eq_true rfl) (Nat.le_of_ble_eq_true rfl) (Nat.le_of_ble_eq_true rfl) (Nat.le_of_ble_eq_true rfl) dX7_barredBy_2 (fun z1 v1 hz1 => ?_)
  refine g_astore F (Nat.le_of_ble_eq_true rfl) (ls' := [(5, (12, z1)), (0, (17, a0)), (1, (0, a1)), (2, (0, a2)), (3, (0, a3)), (4, (0, a4))]) rfl dX7_barredBy_5 ?_
  refine g_aload_n F rfl 1 rfl dX7_barredBy_7 ?_
  refine g_iload_n F rfl 4 rfl rfl dX7_barredBy_8 ?_
  refine g_callV F (by decide) (K := 7) (b := a0) [(0, a3)] [0] ml_RX7_59 wi_X7_partyAt ws_X7_partyAt (c_X7_partyAt a0 a3 (Int.not_lt.mp (Int.not_lt.mpr h0))) mi_X7_partyAt (by decide) ⟨_, rfl, rfl⟩ (Int.not_lt.mp (Int.not_lt.mpr h0)) rfl rfl rfl (Nat.le_of_ble_eq_true rfl) (Nat.le_of_ble_eq_true rfl) (Nat.le_of_ble_eq_true rfl) (Nat.le_of_ble_eq_true rfl) (Nat.le_of_ble_eq_true rfl) dX7_barredBy_9 (fun z2 v2 hz2 => ?_)
  refine g_astore F (Nat.le_of_ble_eq_true rfl) (ls' := [(6, (13, z2)), (5, (12, z1)), (0, (17, a0)), (1, (0, a1)), (2, (0, a2)), (3, (0, a3)), (4, (0, a4))]) rfl dX7_barredBy_12 ?_
  refine g_aload F 1 rfl dX7_barredBy_14 ?_
  refine g_iload_n F rfl 4 rfl rfl dX7_barredBy_16 ?_
  refine g_aload F 0 rfl dX7_barredBy_17 ?_
  refine g_iload F 6 rfl rfl dX7_barredBy_19 ?_
  refine g_callS F (by decide) [(12, z1), (0, a2), (13, z2), (0, a4)] [12, 0, 13, 0] ml_RX7_145 wt_X7_requireOffer (c_X7_requireOffer z1 a2 z2 a4) mi_X7_requireOffer rfl rfl rfl (Nat.le_of_ble_eq_true rfl) (Nat.le_of_ble_eq_true rfl) (Nat.le_of_ble_eq_true rfl) (Nat.le_of_ble_eq_true rfl) (Nat.le_of_ble_eq_true rfl) dX7_barredBy_21 (fun z3 v3 hz3 => ?_)
  refine g_aload_n F rfl 2 rfl dX7_barredBy_24 ?_
  refine g_aload F 1 rfl dX7_barredBy_25 ?_
  refine g_iload_n F rfl 4 rfl rfl dX7_barredBy_27 ?_
  refine g_aload F 0 rfl dX7_barredBy_28 ?_
  refine g_iload F 6 rfl rfl dX7_barredBy_30 ?_
  refine g_callV F (by decide) (K := 7) (b := a0) [(12, z1), (0, a2), (13, z2), (0, a4)] [12, 0, 13, 0] ml_RX7_149 wi_X7_barOfSale ws_X7_barOfSale (c_X7_barOfSale a0 z1 a2 z2 a4 (Int.not_lt.mp (Int.not_lt.mpr h0))) mi_X7_barOfSale (by decide) ⟨_, rfl, rfl⟩ (Int.not_lt.mp (Int.not_lt.mpr h0)) rfl rfl rfl (Nat.le_of_ble_eq_true rfl) (Nat.le_of_ble_eq_true rfl) (Nat.le_of_ble_eq_true rfl) (Nat.le_of_ble_eq_true rfl) (Nat.le_of_ble_eq_true rfl) dX7_barredBy_32 (fun z4 v4 hz4 => ?_)
  refine g_if (fun n5 => ?_) (fun n5 => ?_)
  · refine g_tabIn F rfl (by omega) (by omega) (off := 41) (by rw [n5]; rfl) (tgt := 76) rfl dX7_barredBy_35 ?_
    refine g_aload F 1 rfl dX7_barredBy_76 ?_
    refine g_chk (fun n6 => ?_)
    refine g_get F (t := 13) (sI := 3) fl_RX7_153 rfl rfl (Int.not_lt.mp (Int.not_lt.mpr n6)) dX7_barredBy_78 ?_
    refine g_chk (fun n7 => ?_)
    refine g_get F (t := 2) (sI := 4) fl_RX7_130 rfl rfl (Int.not_lt.mp (Int.not_lt.mpr n7)) dX7_barredBy_81 ?_
    refine g_if_eq F rfl (tgt := 98) rfl dX7_barredBy_84 (fun n8 => ?_) (fun n8 => ?_)
    · refine g_aload F 0 rfl dX7_barredBy_98 ?_
      refine g_chk (fun n9 => ?_)
      refine g_get F (t := 0) (sI := 0) fl_RX7_56 rfl rfl (Int.not_lt.mp (Int.not_lt.mpr n9)) dX7_barredBy_100 ?_
      exact g_ireturn F rfl rfl rfl rfl (Nat.le_of_ble_eq_true rfl) (Nat.le_of_ble_eq_true rfl) dX7_barredBy_103
    · refine g_aload F 1 rfl dX7_barredBy_87 ?_
      refine g_get F (t := 13) (sI := 3) fl_RX7_153 rfl rfl (Int.not_lt.mp (Int.not_lt.mpr n6)) dX7_barredBy_89 ?_
      refine g_get F (t := 0) (sI := 0) fl_RX7_56 rfl rfl (Int.not_lt.mp (Int.not_lt.mpr n7)) dX7_barredBy_92 ?_
      refine g_goto F (tgt := 103) rfl dX7_barredBy_95 ?_
      exact g_ireturn F rfl rfl rfl rfl (Nat.le_of_ble_eq_true rfl) (Nat.le_of_ble_eq_true rfl) dX7_barredBy_103
  · refine g_if (fun n10 => ?_) (fun n10 => ?_)
    · refine g_tabIn F rfl (by omega) (by omega) (off := 69) (by rw [n10]; rfl) (tgt := 104) rfl dX7_barredBy_35 ?_
      refine g_iload_n F rfl 4 rfl rfl dX7_barredBy_104 ?_
      refine g_aload F 1 rfl dX7_barredBy_105 ?_
      refine g_chk (fun n11 => ?_)
      refine g_get F (t := 0) (sI := 4) fl_RX7_165 rfl rfl (Int.not_lt.mp (Int.not_lt.mpr n11)) dX7_barredBy_107 ?_
      refine g_isub F rfl rfl dX7_barredBy_110 ?_
      exact g_ireturn F rfl rfl rfl rfl (Nat.le_of_ble_eq_true rfl) (Nat.le_of_ble_eq_true rfl) dX7_barredBy_111
    · refine g_if (fun n12 => ?_) (fun n12 => ?_)
      · refine g_tabIn F rfl (by omega) (by omega) (off := 77) (by rw [n12]; rfl) (tgt := 112) rfl dX7_barredBy_35 ?_
        refine g_aload F 1 rfl dX7_barredBy_112 ?_
        refine g_chk (fun n14 => ?_)
        refine g_callVN F (by decide) (K := 2) (b := z1) [] [] ml_RX7_133 wi_X2_dealer ws_X2_dealer (c_X2_dealer z1  (Int.not_lt.mp (Int.not_lt.mpr n14))) mi_X2_dealer (by decide) ⟨_, rfl, rfl⟩ (Int.not_lt.mp (Int.not_lt.mpr n14)) rfl rfl rfl (Nat.le_of_ble_eq_true rfl) (Nat.le_of_ble_eq_true rfl) (Nat.le_of_ble_eq_true rfl) (Nat.le_of_ble_eq_true rfl) (Nat.le_of_ble_eq_true rfl) dX7_barredBy_114 (fun z13 v13 hz13 => ?_)
        refine g_callS F (by decide) [(13, z13)] [13] ml_RX7_263 wt_X7_numberOf (c_X7_numberOf z13) mi_X7_numberOf rfl rfl rfl (Nat.le_of_ble_eq_true rfl) (Nat.le_of_ble_eq_true rfl) (Nat.le_of_ble_eq_true rfl) (Nat.le_of_ble_eq_true rfl) (Nat.le_of_ble_eq_true rfl) dX7_barredBy_117 (fun z15 v15 hz15 => ?_)
        exact g_ireturn F rfl rfl rfl rfl (Nat.le_of_ble_eq_true rfl) (Nat.le_of_ble_eq_true rfl) dX7_barredBy_120
      · refine g_if (fun n16 => ?_) (fun n16 => ?_)
        · refine g_tabIn F rfl (by omega) (by omega) (off := 86) (by rw [n16]; rfl) (tgt := 121) rfl dX7_barredBy_35 ?_
          refine g_aload F 1 rfl dX7_barredBy_121 ?_
          refine g_chk (fun n17 => ?_)
          refine g_get F (t := 16) (sI := 1) fl_RX7_267 rfl rfl (Int.not_lt.mp (Int.not_lt.mpr n17)) dX7_barredBy_123 ?_
          refine g_aload_n F rfl 2 rfl dX7_barredBy_126 ?_
          refine g_get F (t := 0) (sI := 9) fl_RX7_87 rfl rfl (Int.not_lt.mp (Int.not_lt.mpr h0)) dX7_barredBy_127 ?_
          refine g_chk (fun n19 => ?_)
          refine g_callVN F (by decide) (K := 6) (b := (v4 2 z1 1)) [(0, (v4 7 a0 9))] [0] ml_RX7_113 wi_X6_barDaysLeft ws_X6_barDaysLeft (c_X6_barDaysLeft (v4 2 z1 1) (v4 7 a0 9) (Int.not_lt.mp (Int.not_lt.mpr n19))) mi_X6_barDaysLeft (by decide) ⟨_, rfl, rfl⟩ (Int.not_lt.mp (Int.not_lt.mpr n19)) rfl rfl rfl (Nat.le_of_ble_eq_true rfl) (Nat.le_of_ble_eq_true rfl) (Nat.le_of_ble_eq_true rfl) (Nat.le_of_ble_eq_true rfl) (Nat.le_of_ble_eq_true rfl) dX7_barredBy_130 (fun z18 v18 hz18 => ?_)
          exact g_ireturn F rfl rfl rfl rfl (Nat.le_of_ble_eq_true rfl) (Nat.le_of_ble_eq_true rfl) dX7_barredBy_133
        · refine g_if (fun n20 => ?_) (fun n20 => ?_)
          · refine g_tabIn F rfl (by omega) (by omega) (off := 99) (by rw [n20]; rfl) (tgt := 134) rfl dX7_barredBy_35 ?_
            refine g_iload F 6 rfl rfl dX7_barredBy_134 ?_
            refine g_aload F 0 rfl dX7_barredBy_136 ?_
            refine g_chk (fun n21 => ?_)
            refine g_get F (t := 0) (sI := 2) fl_RX7_222 rfl rfl (Int.not_lt.mp (Int.not_lt.mpr n21)) dX7_barredBy_138 ?_
            refine g_isub F rfl rfl dX7_barredBy_141 ?_
            exact g_ireturn F rfl rfl rfl rfl (Nat.le_of_ble_eq_true rfl) (Nat.le_of_ble_eq_true rfl) dX7_barredBy_142
          · refine g_if (fun n22 => ?_) (fun n22 => ?_)
            · refine g_tabIn F rfl (by omega) (by omega) (off := 108) (by rw [n22]; rfl) (tgt := 143) rfl dX7_barredBy_35 ?_
              refine g_aload F 1 rfl dX7_barredBy_143 ?_
              refine g_chk (fun n23 => ?_)
              refine g_get F (t := 16) (sI := 1) fl_RX7_267 rfl rfl (Int.not_lt.mp (Int.not_lt.mpr n23)) dX7_barredBy_145 ?_
              refine g_chk (fun n24 => ?_)
              refine g_get F (t := 13) (sI := 1) fl_RX7_271 rfl rfl (Int.not_lt.mp (Int.not_lt.mpr n24)) dX7_barredBy_148 ?_
              refine g_chk (fun n25 => ?_)
              refine g_get F (t := 0) (sI := 0) fl_RX7_56 rfl rfl (Int.not_lt.mp (Int.not_lt.mpr n25)) dX7_barredBy_151 ?_
              exact g_ireturn F rfl rfl rfl rfl (Nat.le_of_ble_eq_true rfl) (Nat.le_of_ble_eq_true rfl) dX7_barredBy_154
            · refine g_if (fun n26 => ?_) (fun n26 => ?_)
              · refine g_tabIn F rfl (by omega) (by omega) (off := 120) (by rw [n26]; rfl) (tgt := 155) rfl dX7_barredBy_35 ?_
                refine g_bipush F rfl (by decide) dX7_barredBy_155 ?_
                exact g_ireturn F rfl rfl rfl rfl (Nat.le_of_ble_eq_true rfl) (Nat.le_of_ble_eq_true rfl) dX7_barredBy_157
              · refine g_tabOut F rfl (by omega) (tgt := 158) rfl dX7_barredBy_35 ?_
                refine g_iconst F 0 rfl dX7_barredBy_158 ?_
                exact g_ireturn F rfl rfl rfl rfl (Nat.le_of_ble_eq_true rfl) (Nat.le_of_ble_eq_true rfl) dX7_barredBy_159
theorem c_X7_barredBy (a0 a1 a2 a3 a4 : Int) (h0 : 0 ≤ a0) : ∀ l, Ct l yX7_barredBy cX7_barredBy 7 (some .int) ({ frames := 8, cells := 5, slots := 30, locals := 127 }) (some 0) [(17, a0), (0, a1), (0, a2), (0, a3), (0, a4)] (sp_X7_barredBy a0 a1 a2 a3 a4) := g_method (by decide +kernel) (Nat.le_of_ble_eq_true rfl) (fun x v F ho => k_X7_barredBy a0 a1 a2 a3 a4 h0 x v F ho)
def sp_X7_price (a0 a1 a2 : Int) (v : V) : Res := (rB (sp_X7_lotAt a0 a1 v) (fun z1 v1 => (chk (0 ≤ z1) (rB (sp_X7_partyAt a0 a2 v1) (fun z3 v3 => (if (v1 2 z1 7) < 0 then (rOk (-1) v3)
   else (rB (sp_X4_isKnownTo (v1 2 z1 7) z3 v3) (fun z5 v5 => (if z5 = 0 then (rOk (-1) v5)
   else (rOk (v5 4 (v1 2 z1 7) 1) v5))))))))))
set_option maxRecDepth 100000 in
set_option maxHeartbeats 4000000 in
theorem k_X7_price (a0 a1 a2 : Int) (h0 : 0 ≤ a0) (x : Cx) (v : V) (F : Fx x cX7_price RX7 "price" ({ frames := 7, cells := 2, slots := 12, locals := 103 }) 5 (some 0) (some .int) 0) (ho : ∀ a ∈ [(17, a0), (0, a1), (0, a2)], okv v a) : Gs x (sp_X7_price a0 a1 a2 v) v 0 0 0 (avArgs 0 [(17, a0), (0, a1), (0, a2)]) [] := by
  show Gs x _ v 0 0 0 [(0, (17, a0)), (1, (0, a1)), (2, (0, a2))] []
  unfold sp_X7_price
  refine g_aload_n F rfl 0 rfl dX7_price_0 ?_
  refine g_iload_n F rfl 1 rfl rfl dX7_price_1 ?_
  refine g_callV F (by decide) (K := 7) (b := a0) [(0, a1)] [0] ml_RX7_141 wi_X7_lotAt ws_X7_lotAt (c_X7_lotAt a0 a1 (Int.not_lt.mp (Int.not_lt.mpr h0))) mi_X7_lotAt (by decide) ⟨_, rfl, rfl⟩ (Int.not_lt.mp (Int.not_lt.mpr h0)) rfl rfl rfl (Nat.le_of_ble_eq_true rfl) (Nat.le_of_ble_eq_true rfl) (Nat.le_of_ble_eq_true rfl) (Nat.le_of_ble_eq_true rfl) (Nat.le_of_ble_eq_true rfl) dX7_price_2 (fun z1 v1 hz1 => ?_)
  refine g_chk (fun n2 => ?_)
  refine g_get F (t := 14) (sI := 7) fl_RX7_195 rfl rfl (Int.not_lt.mp (Int.not_lt.mpr n2)) dX7_price_5 ?_
  refine g_astore_n F rfl (Nat.le_of_ble_eq_true rfl) (ls' := [(3, (14, (v1 2 z1 7))), (0, (17, a0)), (1, (0, a1)), (2, (0, a2))]) rfl dX7_price_8 ?_
  refine g_aload_n F rfl 1 rfl dX7_price_9 ?_
  refine g_iload_n F rfl 3 rfl rfl dX7_price_10 ?_
  refine g_callV F (by decide) (K := 7) (b := a0) [(0, a2)] [0] ml_RX7_59 wi_X7_partyAt ws_X7_partyAt (c_X7_partyAt a0 a2 (Int.not_lt.mp (Int.not_lt.mpr h0))) mi_X7_partyAt (by decide) ⟨_, rfl, rfl⟩ (Int.not_lt.mp (Int.not_lt.mpr h0)) rfl rfl rfl (Nat.le_of_ble_eq_true rfl) (Nat.le_of_ble_eq_true rfl) (Nat.le_of_ble_eq_true rfl) (Nat.le_of_ble_eq_true rfl) (Nat.le_of_ble_eq_true rfl) dX7_price_11 (fun z3 v3 hz3 => ?_)
  refine g_astore F (Nat.le_of_ble_eq_true rfl) (ls' := [(4, (13, z3)), (3, (14, (v1 2 z1 7))), (0, (17, a0)), (1, (0, a1)), (2, (0, a2))]) rfl dX7_price_14 ?_
  refine g_aload_n F rfl 1 rfl dX7_price_16 ?_
  refine g_ifnull F (tgt := 36) rfl dX7_price_17 (fun n4 => ?_) (fun n4 => ?_)
  · refine g_iconst F 0 rfl dX7_price_36 ?_
    exact g_ireturn F rfl rfl rfl rfl (Nat.le_of_ble_eq_true rfl) (Nat.le_of_ble_eq_true rfl) dX7_price_37
  · refine g_aload_n F rfl 1 rfl dX7_price_20 ?_
    refine g_aload F 0 rfl dX7_price_21 ?_
    refine g_callVN F (by decide) (K := 4) (b := (v1 2 z1 7)) [(13, z3)] [13] ml_RX7_201 wi_X4_isKnownTo ws_X4_isKnownTo (c_X4_isKnownTo (v1 2 z1 7) z3 (Int.not_lt.mp n4)) mi_X4_isKnownTo (by decide) ⟨_, rfl, rfl⟩ (Int.not_lt.mp n4) rfl rfl rfl (Nat.le_of_ble_eq_true rfl) (Nat.le_of_ble_eq_true rfl) (Nat.le_of_ble_eq_true rfl) (Nat.le_of_ble_eq_true rfl) (Nat.le_of_ble_eq_true rfl) dX7_price_23 (fun z5 v5 hz5 => ?_)
    refine g_if_eq F rfl (tgt := 36) rfl dX7_price_26 (fun n6 => ?_) (fun n6 => ?_)
    · refine g_iconst F 0 rfl dX7_price_36 ?_
      exact g_ireturn F rfl rfl rfl rfl (Nat.le_of_ble_eq_true rfl) (Nat.le_of_ble_eq_true rfl) dX7_price_37
    · refine g_aload_n F rfl 1 rfl dX7_price_29 ?_
      refine g_get F (t := 0) (sI := 1) fl_RX7_274 rfl rfl (Int.not_lt.mp n4) dX7_price_30 ?_
      refine g_goto F (tgt := 37) rfl dX7_price_33 ?_
      exact g_ireturn F rfl rfl rfl rfl (Nat.le_of_ble_eq_true rfl) (Nat.le_of_ble_eq_true rfl) dX7_price_37
theorem c_X7_price (a0 a1 a2 : Int) (h0 : 0 ≤ a0) : ∀ l, Ct l yX7_price cX7_price 5 (some .int) ({ frames := 7, cells := 2, slots := 12, locals := 103 }) (some 0) [(17, a0), (0, a1), (0, a2)] (sp_X7_price a0 a1 a2) := g_method (by decide +kernel) (Nat.le_of_ble_eq_true rfl) (fun x v F ho => k_X7_price a0 a1 a2 h0 x v F ho)
def lp_X7_partsHeldBy_4 (l0 l1 : Int) (k : V → Int → Int → Res) : Nat → V → Int → Int → Res
  | 0, _, _, _ => none
  | n + 1, v, l2, l3 => (if (v 7 l0 7) ≤ l3 then (k v l2 l3)
   else (chk (0 ≤ (v 7 l0 2)) (chk (0 ≤ l3 ∧ l3 < 60) (chk (0 ≤ (v 12 (v 7 l0 2) l3)) (if (v 2 (v 12 (v 7 l0 2) l3) 3) = l1 then (lp_X7_partsHeldBy_4 l0 l1 k n v (w32 (l2 + (v 2 (v 12 (v 7 l0 2) l3) 4))) (w32 (l3 + 1)))
   else (lp_X7_partsHeldBy_4 l0 l1 k n v l2 (w32 (l3 + 1))))))))
set_option maxRecDepth 100000 in
set_option maxHeartbeats 4000000 in
theorem kl_X7_partsHeldBy_4 {l0 l1 : Int} (h0 : 0 ≤ l0) {x : Cx} (F : Fx x cX7_partsHeldBy RX7 "partsHeldBy" ({ frames := 0, cells := 0, slots := 0, locals := 0 }) 4 (some 0) (some .int) 0) {k : V → Int → Int → Res} (hk : ∀ (v : V) (l2 l3 : Int), Gs x (k v l2 l3) v 0 0 43 [(0, (17, l0)), (1, (13, l1)), (2, (0, l2)), (3, (0, l3))] []) : ∀ (n : Nat) (v : V) (l2 l3 : Int), Gs x (lp_X7_partsHeldBy_4 l0 l1 k n v l2 l3) v 0 0 4 [(0, (17, l0)), (1, (13, l1)), (2, (0, l2)), (3, (0, l3))] [] := by
  intro n
  induction n with
  | zero => intro v l2 l3; exact g_none
  | succ n ih =>
    intro v l2 l3
    rw [lp_X7_partsHeldBy_4]
    refine g_iload_n F rfl 3 rfl rfl dX7_partsHeldBy_4 ?_
    refine g_aload_n F rfl 0 rfl dX7_partsHeldBy_5 ?_
    refine g_get F (t := 0) (sI := 7) fl_RX7_66 rfl rfl (Int.not_lt.mp (Int.not_lt.mpr h0)) dX7_partsHeldBy_6 ?_
    refine g_icmp_ge F rfl rfl (tgt := 43) rfl dX7_partsHeldBy_9 (fun n1 => ?_) (fun n1 => ?_)
    · refine g_loc [(0, 17), (1, 13), (2, 0), (3, 0)] rfl ?_
      exact hk v l2 l3
    · refine g_aload_n F rfl 0 rfl dX7_partsHeldBy_12 ?_
      refine g_get F (t := 22) (sI := 2) fl_RX7_23 rfl rfl (Int.not_lt.mp (Int.not_lt.mpr h0)) dX7_partsHeldBy_13 ?_
      refine g_iload_n F rfl 3 rfl rfl dX7_partsHeldBy_16 ?_
      refine g_chk (fun n2 => ?_)
      refine g_chk (fun n3 => ?_)
      refine h_aald F (n := 60) ak_12 (Int.not_lt.mp (Int.not_lt.mpr n2)) n3 rfl dX7_partsHeldBy_17 ?_
      refine g_chk (fun n4 => ?_)
      refine g_get F (t := 13) (sI := 3) fl_RX7_153 rfl rfl (Int.not_lt.mp (Int.not_lt.mpr n4)) dX7_partsHeldBy_18 ?_
      refine g_aload_n F rfl 1 rfl dX7_partsHeldBy_21 ?_
      refine g_acmp_ne F (by decide) (tgt := 37) rfl dX7_partsHeldBy_22 (fun n5 => ?_) (fun n5 => ?_)
      · refine g_iload_n F rfl 2 rfl rfl dX7_partsHeldBy_25 ?_
        refine g_aload_n F rfl 0 rfl dX7_partsHeldBy_26 ?_
        refine g_get F (t := 22) (sI := 2) fl_RX7_23 rfl rfl (Int.not_lt.mp (Int.not_lt.mpr h0)) dX7_partsHeldBy_27 ?_
        refine g_iload_n F rfl 3 rfl rfl dX7_partsHeldBy_30 ?_
        refine h_aald F (n := 60) ak_12 (Int.not_lt.mp (Int.not_lt.mpr n2)) n3 rfl dX7_partsHeldBy_31 ?_
        refine g_get F (t := 0) (sI := 4) fl_RX7_165 rfl rfl (Int.not_lt.mp (Int.not_lt.mpr n4)) dX7_partsHeldBy_32 ?_
        refine g_iadd F rfl rfl dX7_partsHeldBy_35 ?_
        refine g_istore_n F rfl rfl (Nat.le_of_ble_eq_true rfl) (ls' := [(2, (0, (w32 (l2 + (v 2 (v 12 (v 7 l0 2) l3) 4))))), (0, (17, l0)), (1, (13, l1)), (3, (0, l3))]) rfl dX7_partsHeldBy_36 ?_
        refine g_iinc F 3 rfl rfl (Nat.le_of_ble_eq_true rfl) (ls' := [(3, (0, (w32 (l3 + 1)))), (2, (0, (w32 (l2 + (v 2 (v 12 (v 7 l0 2) l3) 4))))), (0, (17, l0)), (1, (13, l1))]) rfl dX7_partsHeldBy_37 ?_
        refine g_goto F (tgt := 4) rfl dX7_partsHeldBy_40 ?_
        refine g_loc [(2, 17), (3, 13), (1, 0), (0, 0)] rfl ?_
        exact ih v (w32 (l2 + (v 2 (v 12 (v 7 l0 2) l3) 4))) (w32 (l3 + 1))
      · refine g_iinc F 3 rfl rfl (Nat.le_of_ble_eq_true rfl) (ls' := [(3, (0, (w32 (l3 + 1)))), (0, (17, l0)), (1, (13, l1)), (2, (0, l2))]) rfl dX7_partsHeldBy_37 ?_
        refine g_goto F (tgt := 4) rfl dX7_partsHeldBy_40 ?_
        refine g_loc [(1, 17), (2, 13), (3, 0), (0, 0)] rfl ?_
        exact ih v l2 (w32 (l3 + 1))
def sp_X7_partsHeldBy (a0 a1 : Int) (v : V) : Res := (lp_X7_partsHeldBy_4 a0 a1 (fun v6 u6_2 u6_3 => (rOk u6_2 v6)) 200 v 0 0)
set_option maxRecDepth 100000 in
set_option maxHeartbeats 4000000 in
theorem k_X7_partsHeldBy (a0 a1 : Int) (h0 : 0 ≤ a0) (x : Cx) (v : V) (F : Fx x cX7_partsHeldBy RX7 "partsHeldBy" ({ frames := 0, cells := 0, slots := 0, locals := 0 }) 4 (some 0) (some .int) 0) (ho : ∀ a ∈ [(17, a0), (13, a1)], okv v a) : Gs x (sp_X7_partsHeldBy a0 a1 v) v 0 0 0 (avArgs 0 [(17, a0), (13, a1)]) [] := by
  show Gs x _ v 0 0 0 [(0, (17, a0)), (1, (13, a1))] []
  unfold sp_X7_partsHeldBy
  refine g_iconst F 2 rfl dX7_partsHeldBy_0 ?_
  refine g_istore_n F rfl rfl (Nat.le_of_ble_eq_true rfl) (ls' := [(2, (2, 0)), (0, (17, a0)), (1, (13, a1))]) rfl dX7_partsHeldBy_1 ?_
  refine g_iconst F 2 rfl dX7_partsHeldBy_2 ?_
  refine g_istore_n F rfl rfl (Nat.le_of_ble_eq_true rfl) (ls' := [(3, (2, 0)), (2, (2, 0)), (0, (17, a0)), (1, (13, a1))]) rfl dX7_partsHeldBy_3 ?_
  refine g_loc [(2, 17), (3, 13), (1, 0), (0, 0)] rfl ?_
  refine kl_X7_partsHeldBy_4 (Int.not_lt.mp (Int.not_lt.mpr h0)) F (fun v6 u6_2 u6_3 => ?_) 200 v 0 0
  refine g_iload_n F rfl 2 rfl rfl dX7_partsHeldBy_43 ?_
  exact g_ireturn F rfl rfl rfl rfl (Nat.le_of_ble_eq_true rfl) (Nat.le_of_ble_eq_true rfl) dX7_partsHeldBy_44
theorem c_X7_partsHeldBy (a0 a1 : Int) (h0 : 0 ≤ a0) : ∀ l, Ct l yX7_partsHeldBy cX7_partsHeldBy 4 (some .int) ({ frames := 0, cells := 0, slots := 0, locals := 0 }) (some 0) [(17, a0), (13, a1)] (sp_X7_partsHeldBy a0 a1) := g_method (by decide +kernel) (Nat.le_of_ble_eq_true rfl) (fun x v F ho => k_X7_partsHeldBy a0 a1 h0 x v F ho)
def lp_X7_owedBy_4 (l0 l1 : Int) (k : V → Int → Int → Res) : Nat → V → Int → Int → Res
  | 0, _, _, _ => none
  | n + 1, v, l2, l3 => (if (v 7 l0 8) ≤ l3 then (k v l2 l3)
   else (chk (0 ≤ (v 7 l0 3)) (chk (0 ≤ l3 ∧ l3 < 20) (chk (0 ≤ (v 13 (v 7 l0 3) l3)) (if (v 1 (v 13 (v 7 l0 3) l3) 1) = l1 then (rB (sp_X1_owed (v 13 (v 7 l0 3) l3) (v 7 l0 9) v) (fun z6 v6 => (lp_X7_owedBy_4 l0 l1 k n v6 (w32 (l2 + z6)) (w32 (l3 + 1)))))
   else (lp_X7_owedBy_4 l0 l1 k n v l2 (w32 (l3 + 1))))))))
set_option maxRecDepth 100000 in
set_option maxHeartbeats 4000000 in
theorem kl_X7_owedBy_4 {l0 l1 : Int} (h0 : 0 ≤ l0) {x : Cx} (F : Fx x cX7_owedBy RX7 "owedBy" ({ frames := 1, cells := 0, slots := 0, locals := 23 }) 4 (some 0) (some .int) 0) {k : V → Int → Int → Res} (hk : ∀ (v : V) (l2 l3 : Int), Gs x (k v l2 l3) v 0 0 47 [(0, (17, l0)), (1, (13, l1)), (2, (0, l2)), (3, (0, l3))] []) : ∀ (n : Nat) (v : V) (l2 l3 : Int), Gs x (lp_X7_owedBy_4 l0 l1 k n v l2 l3) v 0 0 4 [(0, (17, l0)), (1, (13, l1)), (2, (0, l2)), (3, (0, l3))] [] := by
  intro n
  induction n with
  | zero => intro v l2 l3; exact g_none
  | succ n ih =>
    intro v l2 l3
    rw [lp_X7_owedBy_4]
    refine g_iload_n F rfl 3 rfl rfl dX7_owedBy_4 ?_
    refine g_aload_n F rfl 0 rfl dX7_owedBy_5 ?_
    refine g_get F (t := 0) (sI := 8) fl_RX7_228 rfl rfl (Int.not_lt.mp (Int.not_lt.mpr h0)) dX7_owedBy_6 ?_
    refine g_icmp_ge F rfl rfl (tgt := 47) rfl dX7_owedBy_9 (fun n1 => ?_) (fun n1 => ?_)
    · refine g_loc [(0, 17), (1, 13), (2, 0), (3, 0)] rfl ?_
      exact hk v l2 l3
    · refine g_aload_n F rfl 0 rfl dX7_owedBy_12 ?_
      refine g_get F (t := 23) (sI := 3) fl_RX7_29 rfl rfl (Int.not_lt.mp (Int.not_lt.mpr h0)) dX7_owedBy_13 ?_
      refine g_iload_n F rfl 3 rfl rfl dX7_owedBy_16 ?_
      refine g_chk (fun n2 => ?_)
      refine g_chk (fun n3 => ?_)
      refine h_aald F (n := 20) ak_13 (Int.not_lt.mp (Int.not_lt.mpr n2)) n3 rfl dX7_owedBy_17 ?_
      refine g_chk (fun n4 => ?_)
      refine g_get F (t := 13) (sI := 1) fl_RX7_249 rfl rfl (Int.not_lt.mp (Int.not_lt.mpr n4)) dX7_owedBy_18 ?_
      refine g_aload_n F rfl 1 rfl dX7_owedBy_21 ?_
      refine g_acmp_ne F (by decide) (tgt := 41) rfl dX7_owedBy_22 (fun n5 => ?_) (fun n5 => ?_)
      · refine g_iload_n F rfl 2 rfl rfl dX7_owedBy_25 ?_
        refine g_aload_n F rfl 0 rfl dX7_owedBy_26 ?_
        refine g_get F (t := 23) (sI := 3) fl_RX7_29 rfl rfl (Int.not_lt.mp (Int.not_lt.mpr h0)) dX7_owedBy_27 ?_
        refine g_iload_n F rfl 3 rfl rfl dX7_owedBy_30 ?_
        refine h_aald F (n := 20) ak_13 (Int.not_lt.mp (Int.not_lt.mpr n2)) n3 rfl dX7_owedBy_31 ?_
        refine g_aload_n F rfl 0 rfl dX7_owedBy_32 ?_
        refine g_get F (t := 0) (sI := 9) fl_RX7_87 rfl rfl (Int.not_lt.mp (Int.not_lt.mpr h0)) dX7_owedBy_33 ?_
        refine g_callVN F (by decide) (K := 1) (b := (v 13 (v 7 l0 3) l3)) [(0, (v 7 l0 9))] [0] ml_RX7_243 wi_X1_owed ws_X1_owed (c_X1_owed (v 13 (v 7 l0 3) l3) (v 7 l0 9) (Int.not_lt.mp (Int.not_lt.mpr n4))) mi_X1_owed (by decide) ⟨_, rfl, rfl⟩ (Int.not_lt.mp (Int.not_lt.mpr n4)) rfl rfl rfl (Nat.le_of_ble_eq_true rfl) (Nat.le_of_ble_eq_true rfl) (Nat.le_of_ble_eq_true rfl) (Nat.le_of_ble_eq_true rfl) (Nat.le_of_ble_eq_true rfl) dX7_owedBy_36 (fun z6 v6 hz6 => ?_)
        refine g_iadd F rfl rfl dX7_owedBy_39 ?_
        refine g_istore_n F rfl rfl (Nat.le_of_ble_eq_true rfl) (ls' := [(2, (0, (w32 (l2 + z6)))), (0, (17, l0)), (1, (13, l1)), (3, (0, l3))]) rfl dX7_owedBy_40 ?_
        refine g_iinc F 3 rfl rfl (Nat.le_of_ble_eq_true rfl) (ls' := [(3, (0, (w32 (l3 + 1)))), (2, (0, (w32 (l2 + z6)))), (0, (17, l0)), (1, (13, l1))]) rfl dX7_owedBy_41 ?_
        refine g_goto F (tgt := 4) rfl dX7_owedBy_44 ?_
        refine g_loc [(2, 17), (3, 13), (1, 0), (0, 0)] rfl ?_
        exact ih v6 (w32 (l2 + z6)) (w32 (l3 + 1))
      · refine g_iinc F 3 rfl rfl (Nat.le_of_ble_eq_true rfl) (ls' := [(3, (0, (w32 (l3 + 1)))), (0, (17, l0)), (1, (13, l1)), (2, (0, l2))]) rfl dX7_owedBy_41 ?_
        refine g_goto F (tgt := 4) rfl dX7_owedBy_44 ?_
        refine g_loc [(1, 17), (2, 13), (3, 0), (0, 0)] rfl ?_
        exact ih v l2 (w32 (l3 + 1))
def sp_X7_owedBy (a0 a1 : Int) (v : V) : Res := (lp_X7_owedBy_4 a0 a1 (fun v7 u7_2 u7_3 => (rOk u7_2 v7)) 200 v 0 0)
set_option maxRecDepth 100000 in
set_option maxHeartbeats 4000000 in
theorem k_X7_owedBy (a0 a1 : Int) (h0 : 0 ≤ a0) (x : Cx) (v : V) (F : Fx x cX7_owedBy RX7 "owedBy" ({ frames := 1, cells := 0, slots := 0, locals := 23 }) 4 (some 0) (some .int) 0) (ho : ∀ a ∈ [(17, a0), (13, a1)], okv v a) : Gs x (sp_X7_owedBy a0 a1 v) v 0 0 0 (avArgs 0 [(17, a0), (13, a1)]) [] := by
  show Gs x _ v 0 0 0 [(0, (17, a0)), (1, (13, a1))] []
  unfold sp_X7_owedBy
  refine g_iconst F 2 rfl dX7_owedBy_0 ?_
  refine g_istore_n F rfl rfl (Nat.le_of_ble_eq_true rfl) (ls' := [(2, (2, 0)), (0, (17, a0)), (1, (13, a1))]) rfl dX7_owedBy_1 ?_
  refine g_iconst F 2 rfl dX7_owedBy_2 ?_
  refine g_istore_n F rfl rfl (Nat.le_of_ble_eq_true rfl) (ls' := [(3, (2, 0)), (2, (2, 0)), (0, (17, a0)), (1, (13, a1))]) rfl dX7_owedBy_3 ?_
  refine g_loc [(2, 17), (3, 13), (1, 0), (0, 0)] rfl ?_
  refine kl_X7_owedBy_4 (Int.not_lt.mp (Int.not_lt.mpr h0)) F (fun v7 u7_2 u7_3 => ?_) 200 v 0 0
  refine g_iload_n F rfl 2 rfl rfl dX7_owedBy_47 ?_
  exact g_ireturn F rfl rfl rfl rfl (Nat.le_of_ble_eq_true rfl) (Nat.le_of_ble_eq_true rfl) dX7_owedBy_48
theorem c_X7_owedBy (a0 a1 : Int) (h0 : 0 ≤ a0) : ∀ l, Ct l yX7_owedBy cX7_owedBy 4 (some .int) ({ frames := 1, cells := 0, slots := 0, locals := 23 }) (some 0) [(17, a0), (13, a1)] (sp_X7_owedBy a0 a1) := g_method (by decide +kernel) (Nat.le_of_ble_eq_true rfl) (fun x v F ho => k_X7_owedBy a0 a1 h0 x v F ho)
def lp_X7_owedTo_4 (l0 l1 : Int) (k : V → Int → Int → Res) : Nat → V → Int → Int → Res
  | 0, _, _, _ => none
  | n + 1, v, l2, l3 => (if (v 7 l0 8) ≤ l3 then (k v l2 l3)
   else (chk (0 ≤ (v 7 l0 3)) (chk (0 ≤ l3 ∧ l3 < 20) (chk (0 ≤ (v 13 (v 7 l0 3) l3)) (if (v 1 (v 13 (v 7 l0 3) l3) 6) = l1 then (rB (sp_X1_owed (v 13 (v 7 l0 3) l3) (v 7 l0 9) v) (fun z6 v6 => (lp_X7_owedTo_4 l0 l1 k n v6 (w32 (l2 + z6)) (w32 (l3 + 1)))))
   else (lp_X7_owedTo_4 l0 l1 k n v l2 (w32 (l3 + 1))))))))
set_option maxRecDepth 100000 in
set_option maxHeartbeats 4000000 in
theorem kl_X7_owedTo_4 {l0 l1 : Int} (h0 : 0 ≤ l0) {x : Cx} (F : Fx x cX7_owedTo RX7 "owedTo" ({ frames := 1, cells := 0, slots := 0, locals := 23 }) 4 (some 0) (some .int) 0) {k : V → Int → Int → Res} (hk : ∀ (v : V) (l2 l3 : Int), Gs x (k v l2 l3) v 0 0 47 [(0, (17, l0)), (1, (13, l1)), (2, (0, l2)), (3, (0, l3))] []) : ∀ (n : Nat) (v : V) (l2 l3 : Int), Gs x (lp_X7_owedTo_4 l0 l1 k n v l2 l3) v 0 0 4 [(0, (17, l0)), (1, (13, l1)), (2, (0, l2)), (3, (0, l3))] [] := by
  intro n
  induction n with
  | zero => intro v l2 l3; exact g_none
  | succ n ih =>
    intro v l2 l3
    rw [lp_X7_owedTo_4]
    refine g_iload_n F rfl 3 rfl rfl dX7_owedTo_4 ?_
    refine g_aload_n F rfl 0 rfl dX7_owedTo_5 ?_
    refine g_get F (t := 0) (sI := 8) fl_RX7_228 rfl rfl (Int.not_lt.mp (Int.not_lt.mpr h0)) dX7_owedTo_6 ?_
    refine g_icmp_ge F rfl rfl (tgt := 47) rfl dX7_owedTo_9 (fun n1 => ?_) (fun n1 => ?_)
    · refine g_loc [(0, 17), (1, 13), (2, 0), (3, 0)] rfl ?_
      exact hk v l2 l3
    · refine g_aload_n F rfl 0 rfl dX7_owedTo_12 ?_
      refine g_get F (t := 23) (sI := 3) fl_RX7_29 rfl rfl (Int.not_lt.mp (Int.not_lt.mpr h0)) dX7_owedTo_13 ?_
      refine g_iload_n F rfl 3 rfl rfl dX7_owedTo_16 ?_
      refine g_chk (fun n2 => ?_)
      refine g_chk (fun n3 => ?_)
      refine h_aald F (n := 20) ak_13 (Int.not_lt.mp (Int.not_lt.mpr n2)) n3 rfl dX7_owedTo_17 ?_
      refine g_chk (fun n4 => ?_)
      refine g_get F (t := 13) (sI := 6) fl_RX7_252 rfl rfl (Int.not_lt.mp (Int.not_lt.mpr n4)) dX7_owedTo_18 ?_
      refine g_aload_n F rfl 1 rfl dX7_owedTo_21 ?_
      refine g_acmp_ne F (by decide) (tgt := 41) rfl dX7_owedTo_22 (fun n5 => ?_) (fun n5 => ?_)
      · refine g_iload_n F rfl 2 rfl rfl dX7_owedTo_25 ?_
        refine g_aload_n F rfl 0 rfl dX7_owedTo_26 ?_
        refine g_get F (t := 23) (sI := 3) fl_RX7_29 rfl rfl (Int.not_lt.mp (Int.not_lt.mpr h0)) dX7_owedTo_27 ?_
        refine g_iload_n F rfl 3 rfl rfl dX7_owedTo_30 ?_
        refine h_aald F (n := 20) ak_13 (Int.not_lt.mp (Int.not_lt.mpr n2)) n3 rfl dX7_owedTo_31 ?_
        refine g_aload_n F rfl 0 rfl dX7_owedTo_32 ?_
        refine g_get F (t := 0) (sI := 9) fl_RX7_87 rfl rfl (Int.not_lt.mp (Int.not_lt.mpr h0)) dX7_owedTo_33 ?_
        refine g_callVN F (by decide) (K := 1) (b := (v 13 (v 7 l0 3) l3)) [(0, (v 7 l0 9))] [0] ml_RX7_243 wi_X1_owed ws_X1_owed (c_X1_owed (v 13 (v 7 l0 3) l3) (v 7 l0 9) (Int.not_lt.mp (Int.not_lt.mpr n4))) mi_X1_owed (by decide) ⟨_, rfl, rfl⟩ (Int.not_lt.mp (Int.not_lt.mpr n4)) rfl rfl rfl (Nat.le_of_ble_eq_true rfl) (Nat.le_of_ble_eq_true rfl) (Nat.le_of_ble_eq_true rfl) (Nat.le_of_ble_eq_true rfl) (Nat.le_of_ble_eq_true rfl) dX7_owedTo_36 (fun z6 v6 hz6 => ?_)
        refine g_iadd F rfl rfl dX7_owedTo_39 ?_
        refine g_istore_n F rfl rfl (Nat.le_of_ble_eq_true rfl) (ls' := [(2, (0, (w32 (l2 + z6)))), (0, (17, l0)), (1, (13, l1)), (3, (0, l3))]) rfl dX7_owedTo_40 ?_
        refine g_iinc F 3 rfl rfl (Nat.le_of_ble_eq_true rfl) (ls' := [(3, (0, (w32 (l3 + 1)))), (2, (0, (w32 (l2 + z6)))), (0, (17, l0)), (1, (13, l1))]) rfl dX7_owedTo_41 ?_
        refine g_goto F (tgt := 4) rfl dX7_owedTo_44 ?_
        refine g_loc [(2, 17), (3, 13), (1, 0), (0, 0)] rfl ?_
        exact ih v6 (w32 (l2 + z6)) (w32 (l3 + 1))
      · refine g_iinc F 3 rfl rfl (Nat.le_of_ble_eq_true rfl) (ls' := [(3, (0, (w32 (l3 + 1)))), (0, (17, l0)), (1, (13, l1)), (2, (0, l2))]) rfl dX7_owedTo_41 ?_
        refine g_goto F (tgt := 4) rfl dX7_owedTo_44 ?_
        refine g_loc [(1, 17), (2, 13), (3, 0), (0, 0)] rfl ?_
        exact ih v l2 (w32 (l3 + 1))
def sp_X7_owedTo (a0 a1 : Int) (v : V) : Res := (lp_X7_owedTo_4 a0 a1 (fun v7 u7_2 u7_3 => (rOk u7_2 v7)) 200 v 0 0)
set_option maxRecDepth 100000 in
set_option maxHeartbeats 4000000 in
theorem k_X7_owedTo (a0 a1 : Int) (h0 : 0 ≤ a0) (x : Cx) (v : V) (F : Fx x cX7_owedTo RX7 "owedTo" ({ frames := 1, cells := 0, slots := 0, locals := 23 }) 4 (some 0) (some .int) 0) (ho : ∀ a ∈ [(17, a0), (13, a1)], okv v a) : Gs x (sp_X7_owedTo a0 a1 v) v 0 0 0 (avArgs 0 [(17, a0), (13, a1)]) [] := by
  show Gs x _ v 0 0 0 [(0, (17, a0)), (1, (13, a1))] []
  unfold sp_X7_owedTo
  refine g_iconst F 2 rfl dX7_owedTo_0 ?_
  refine g_istore_n F rfl rfl (Nat.le_of_ble_eq_true rfl) (ls' := [(2, (2, 0)), (0, (17, a0)), (1, (13, a1))]) rfl dX7_owedTo_1 ?_
  refine g_iconst F 2 rfl dX7_owedTo_2 ?_
  refine g_istore_n F rfl rfl (Nat.le_of_ble_eq_true rfl) (ls' := [(3, (2, 0)), (2, (2, 0)), (0, (17, a0)), (1, (13, a1))]) rfl dX7_owedTo_3 ?_
  refine g_loc [(2, 17), (3, 13), (1, 0), (0, 0)] rfl ?_
  refine kl_X7_owedTo_4 (Int.not_lt.mp (Int.not_lt.mpr h0)) F (fun v7 u7_2 u7_3 => ?_) 200 v 0 0
  refine g_iload_n F rfl 2 rfl rfl dX7_owedTo_47 ?_
  exact g_ireturn F rfl rfl rfl rfl (Nat.le_of_ble_eq_true rfl) (Nat.le_of_ble_eq_true rfl) dX7_owedTo_48
theorem c_X7_owedTo (a0 a1 : Int) (h0 : 0 ≤ a0) : ∀ l, Ct l yX7_owedTo cX7_owedTo 4 (some .int) ({ frames := 1, cells := 0, slots := 0, locals := 23 }) (some 0) [(17, a0), (13, a1)] (sp_X7_owedTo a0 a1) := g_method (by decide +kernel) (Nat.le_of_ble_eq_true rfl) (fun x v F ho => k_X7_owedTo a0 a1 h0 x v F ho)
def lp_X7_worthHeldBy_4 (l0 l1 : Int) (k : V → Int → Int → Res) : Nat → V → Int → Int → Res
  | 0, _, _, _ => none
  | n + 1, v, l2, l3 => (if (v 7 l0 7) ≤ l3 then (k v l2 l3)
   else (chk (0 ≤ (v 7 l0 2)) (chk (0 ≤ l3 ∧ l3 < 60) (chk (0 ≤ (v 12 (v 7 l0 2) l3)) (if (v 2 (v 12 (v 7 l0 2) l3) 3) = l1 then (rB (sp_X2_worth (v 12 (v 7 l0 2) l3) (v 7 l0 9) v) (fun z6 v6 => (lp_X7_worthHeldBy_4 l0 l1 k n v6 (w32 (l2 + z6)) (w32 (l3 + 1)))))
   else (lp_X7_worthHeldBy_4 l0 l1 k n v l2 (w32 (l3 + 1))))))))
set_option maxRecDepth 100000 in
set_option maxHeartbeats 4000000 in
theorem kl_X7_worthHeldBy_4 {l0 l1 : Int} (h0 : 0 ≤ l0) {x : Cx} (F : Fx x cX7_worthHeldBy RX7 "worthHeldBy" ({ frames := 3, cells := 0, slots := 0, locals := 68 }) 4 (some 0) (some .int) 0) {k : V → Int → Int → Res} (hk : ∀ (v : V) (l2 l3 : Int), Gs x (k v l2 l3) v 0 0 47 [(0, (17, l0)), (1, (13, l1)), (2, (0, l2)), (3, (0, l3))] []) : ∀ (n : Nat) (v : V) (l2 l3 : Int), Gs x (lp_X7_worthHeldBy_4 l0 l1 k n v l2 l3) v 0 0 4 [(0, (17, l0)), (1, (13, l1)), (2, (0, l2)), (3, (0, l3))] [] := by
  intro n
  induction n with
  | zero => intro v l2 l3; exact g_none
  | succ n ih =>
    intro v l2 l3
    rw [lp_X7_worthHeldBy_4]
    refine g_iload_n F rfl 3 rfl rfl dX7_worthHeldBy_4 ?_
    refine g_aload_n F rfl 0 rfl dX7_worthHeldBy_5 ?_
    refine g_get F (t := 0) (sI := 7) fl_RX7_66 rfl rfl (Int.not_lt.mp (Int.not_lt.mpr h0)) dX7_worthHeldBy_6 ?_
    refine g_icmp_ge F rfl rfl (tgt := 47) rfl dX7_worthHeldBy_9 (fun n1 => ?_) (fun n1 => ?_)
    · refine g_loc [(0, 17), (1, 13), (2, 0), (3, 0)] rfl ?_
      exact hk v l2 l3
    · refine g_aload_n F rfl 0 rfl dX7_worthHeldBy_12 ?_
      refine g_get F (t := 22) (sI := 2) fl_RX7_23 rfl rfl (Int.not_lt.mp (Int.not_lt.mpr h0)) dX7_worthHeldBy_13 ?_
      refine g_iload_n F rfl 3 rfl rfl dX7_worthHeldBy_16 ?_
      refine g_chk (fun n2 => ?_)
      refine g_chk (fun n3 => ?_)
      refine h_aald F (n := 60) ak_12 (Int.not_lt.mp (Int.not_lt.mpr n2)) n3 rfl dX7_worthHeldBy_17 ?_
      refine g_chk (fun n4 => ?_)
      refine g_get F (t := 13) (sI := 3) fl_RX7_153 rfl rfl (Int.not_lt.mp (Int.not_lt.mpr n4)) dX7_worthHeldBy_18 ?_
      refine g_aload_n F rfl 1 rfl dX7_worthHeldBy_21 ?_
      refine g_acmp_ne F (by decide) (tgt := 41) rfl dX7_worthHeldBy_22 (fun n5 => ?_) (fun n5 => ?_)
      · refine g_iload_n F rfl 2 rfl rfl dX7_worthHeldBy_25 ?_
        refine g_aload_n F rfl 0 rfl dX7_worthHeldBy_26 ?_
        refine g_get F (t := 22) (sI := 2) fl_RX7_23 rfl rfl (Int.not_lt.mp (Int.not_lt.mpr h0)) dX7_worthHeldBy_27 ?_
        refine g_iload_n F rfl 3 rfl rfl dX7_worthHeldBy_30 ?_
        refine h_aald F (n := 60) ak_12 (Int.not_lt.mp (Int.not_lt.mpr n2)) n3 rfl dX7_worthHeldBy_31 ?_
        refine g_aload_n F rfl 0 rfl dX7_worthHeldBy_32 ?_
        refine g_get F (t := 0) (sI := 9) fl_RX7_87 rfl rfl (Int.not_lt.mp (Int.not_lt.mpr h0)) dX7_worthHeldBy_33 ?_
        refine g_callVN F (by decide) (K := 2) (b := (v 12 (v 7 l0 2) l3)) [(0, (v 7 l0 9))] [0] ml_RX7_225 wi_X2_worth ws_X2_worth (c_X2_worth (v 12 (v 7 l0 2) l3) (v 7 l0 9) (Int.not_lt.mp (Int.not_lt.mpr n4))) mi_X2_worth (by decide) ⟨_, rfl, rfl⟩ (Int.not_lt.mp (Int.not_lt.mpr n4)) rfl rfl rfl (Nat.le_of_ble_eq_true rfl) (Nat.le_of_ble_eq_true rfl) (Nat.le_of_ble_eq_true rfl) (Nat.le_of_ble_eq_true rfl) (Nat.le_of_ble_eq_true rfl) dX7_worthHeldBy_36 (fun z6 v6 hz6 => ?_)
        refine g_iadd F rfl rfl dX7_worthHeldBy_39 ?_
        refine g_istore_n F rfl rfl (Nat.le_of_ble_eq_true rfl) (ls' := [(2, (0, (w32 (l2 + z6)))), (0, (17, l0)), (1, (13, l1)), (3, (0, l3))]) rfl dX7_worthHeldBy_40 ?_
        refine g_iinc F 3 rfl rfl (Nat.le_of_ble_eq_true rfl) (ls' := [(3, (0, (w32 (l3 + 1)))), (2, (0, (w32 (l2 + z6)))), (0, (17, l0)), (1, (13, l1))]) rfl dX7_worthHeldBy_41 ?_
        refine g_goto F (tgt := 4) rfl dX7_worthHeldBy_44 ?_
        refine g_loc [(2, 17), (3, 13), (1, 0), (0, 0)] rfl ?_
        exact ih v6 (w32 (l2 + z6)) (w32 (l3 + 1))
      · refine g_iinc F 3 rfl rfl (Nat.le_of_ble_eq_true rfl) (ls' := [(3, (0, (w32 (l3 + 1)))), (0, (17, l0)), (1, (13, l1)), (2, (0, l2))]) rfl dX7_worthHeldBy_41 ?_
        refine g_goto F (tgt := 4) rfl dX7_worthHeldBy_44 ?_
        refine g_loc [(1, 17), (2, 13), (3, 0), (0, 0)] rfl ?_
        exact ih v l2 (w32 (l3 + 1))
def sp_X7_worthHeldBy (a0 a1 : Int) (v : V) : Res := (lp_X7_worthHeldBy_4 a0 a1 (fun v7 u7_2 u7_3 => (rOk u7_2 v7)) 200 v 0 0)
set_option maxRecDepth 100000 in
set_option maxHeartbeats 4000000 in
theorem k_X7_worthHeldBy (a0 a1 : Int) (h0 : 0 ≤ a0) (x : Cx) (v : V) (F : Fx x cX7_worthHeldBy RX7 "worthHeldBy" ({ frames := 3, cells := 0, slots := 0, locals := 68 }) 4 (some 0) (some .int) 0) (ho : ∀ a ∈ [(17, a0), (13, a1)], okv v a) : Gs x (sp_X7_worthHeldBy a0 a1 v) v 0 0 0 (avArgs 0 [(17, a0), (13, a1)]) [] := by
  show Gs x _ v 0 0 0 [(0, (17, a0)), (1, (13, a1))] []
  unfold sp_X7_worthHeldBy
  refine g_iconst F 2 rfl dX7_worthHeldBy_0 ?_
  refine g_istore_n F rfl rfl (Nat.le_of_ble_eq_true rfl) (ls' := [(2, (2, 0)), (0, (17, a0)), (1, (13, a1))]) rfl dX7_worthHeldBy_1 ?_
  refine g_iconst F 2 rfl dX7_worthHeldBy_2 ?_
  refine g_istore_n F rfl rfl (Nat.le_of_ble_eq_true rfl) (ls' := [(3, (2, 0)), (2, (2, 0)), (0, (17, a0)), (1, (13, a1))]) rfl dX7_worthHeldBy_3 ?_
  refine g_loc [(2, 17), (3, 13), (1, 0), (0, 0)] rfl ?_
  refine kl_X7_worthHeldBy_4 (Int.not_lt.mp (Int.not_lt.mpr h0)) F (fun v7 u7_2 u7_3 => ?_) 200 v 0 0
  refine g_iload_n F rfl 2 rfl rfl dX7_worthHeldBy_47 ?_
  exact g_ireturn F rfl rfl rfl rfl (Nat.le_of_ble_eq_true rfl) (Nat.le_of_ble_eq_true rfl) dX7_worthHeldBy_48
theorem c_X7_worthHeldBy (a0 a1 : Int) (h0 : 0 ≤ a0) : ∀ l, Ct l yX7_worthHeldBy cX7_worthHeldBy 4 (some .int) ({ frames := 3, cells := 0, slots := 0, locals := 68 }) (some 0) [(17, a0), (13, a1)] (sp_X7_worthHeldBy a0 a1) := g_method (by decide +kernel) (Nat.le_of_ble_eq_true rfl) (fun x v F ho => k_X7_worthHeldBy a0 a1 h0 x v F ho)
def sp_X7_flag (a0 : Int) (v : V) : Res := (if a0 = 0 then (rOk 0 v)
   else (rOk 1 v))
set_option maxRecDepth 100000 in
set_option maxHeartbeats 4000000 in
theorem k_X7_flag (a0 : Int) (x : Cx) (v : V) (F : Fx x cX7_flag RX7 "flag" ({ frames := 0, cells := 0, slots := 0, locals := 0 }) 1 (some 0) (some .int) 0) (ho : ∀ a ∈ [(2, a0)], okv v a) : Gs x (sp_X7_flag a0 v) v 0 0 0 (avArgs 0 [(2, a0)]) [] := by
  show Gs x _ v 0 0 0 [(0, (2, a0))] []
  unfold sp_X7_flag
  refine g_iload_n F rfl 0 rfl rfl dX7_flag_0 ?_
  refine g_if_eq F rfl (tgt := 8) rfl dX7_flag_1 (fun n1 => ?_) (fun n1 => ?_)
  · refine g_iconst F 2 rfl dX7_flag_8 ?_
    exact g_ireturn F rfl rfl rfl rfl (Nat.le_of_ble_eq_true rfl) (Nat.le_of_ble_eq_true rfl) dX7_flag_9
  · refine g_iconst F 2 rfl dX7_flag_4 ?_
    refine g_goto F (tgt := 9) rfl dX7_flag_5 ?_
    exact g_ireturn F rfl rfl rfl rfl (Nat.le_of_ble_eq_true rfl) (Nat.le_of_ble_eq_true rfl) dX7_flag_9
theorem c_X7_flag (a0 : Int) : ∀ l, Ct l yX7_flag cX7_flag 1 (some .int) ({ frames := 0, cells := 0, slots := 0, locals := 0 }) (some 0) [(2, a0)] (sp_X7_flag a0) := g_method (by decide +kernel) (Nat.le_of_ble_eq_true rfl) (fun x v F ho => k_X7_flag a0 x v F ho)
def sp_J6_bitCount_0f7a4 (a0 : Int) (v : V) : Res := (rOk (and32 (w32 ((w32 ((and32 (w32 ((w32 ((and32 (w32 (a0 - (and32 (ushr32 a0 1) 1431655765))) 858993459) + (and32 (ushr32 (w32 (a0 - (and32 (ushr32 a0 1) 1431655765))) 2) 858993459))) + (ushr32 (w32 ((and32 (w32 (a0 - (and32 (ushr32 a0 1) 1431655765))) 858993459) + (and32 (ushr32 (w32 (a0 - (and32 (ushr32 a0 1) 1431655765))) 2) 858993459))) 4))) 252645135) + (ushr32 (and32 (w32 ((w32 ((and32 (w32 (a0 - (and32 (ushr32 a0 1) 1431655765))) 858993459) + (and32 (ushr32 (w32 (a0 - (and32 (ushr32 a0 1) 1431655765))) 2) 858993459))) + (ushr32 (w32 ((and32 (w32 (a0 - (and32 (ushr32 a0 1) 1431655765))) 858993459) + (and32 (ushr32 (w32 (a0 - (and32 (ushr32 a0 1) 1431655765))) 2) 858993459))) 4))) 252645135) 8))) + (ushr32 (w32 ((and32 (w32 ((w32 ((and32 (w32 (a0 - (and32 (ushr32 a0 1) 1431655765))) 858993459) + (and32 (ushr32 (w32 (a0 - (and32 (ushr32 a0 1) 1431655765))) 2) 858993459))) + (ushr32 (w32 ((and32 (w32 (a0 - (and32 (ushr32 a0 1) 1431655765))) 858993459) + (and32 (ushr32 (w32 (a0 - (and32 (ushr32 a0 1) 1431655765))) 2) 858993459))) 4))) 252645135) + (ushr32 (and32 (w32 ((w32 ((and32 (w32 (a0 - (and32 (ushr32 a0 1) 1431655765))) 858993459) + (and32 (ushr32 (w32 (a0 - (and32 (ushr32 a0 1) 1431655765))) 2) 858993459))) + (ushr32 (w32 ((and32 (w32 (a0 - (and32 (ushr32 a0 1) 1431655765))) 858993459) + (and32 (ushr32 (w32 (a0 - (and32 (ushr32 a0 1) 1431655765))) 2) 858993459))) 4))) 252645135) 8))) 16))) 63) v)
set_option maxRecDepth 100000 in
set_option maxHeartbeats 4000000 in
theorem k_J6_bitCount_0f7a4 (a0 : Int) (x : Cx) (v : V) (F : Fx x cJ6_bitCount_0f7a4 RJ6 "bitCount" ({ frames := 0, cells := 0, slots := 0, locals := 0 }) 1 (some 0) (some .int) 0) (ho : ∀ a ∈ [(0, a0)], okv v a) : Gs x (sp_J6_bitCount_0f7a4 a0 v) v 0 0 0 (avArgs 0 [(0, a0)]) [] := by
  show Gs x _ v 0 0 0 [(0, (0, a0))] []
  unfold sp_J6_bitCount_0f7a4
  refine g_iload_n F rfl 0 rfl rfl dJ6_bitCount_0f7a4_0 ?_
  refine g_iload_n F rfl 0 rfl rfl dJ6_bitCount_0f7a4_1 ?_
  refine g_iconst F 2 rfl dJ6_bitCount_0f7a4_2 ?_
  refine g_iushr F rfl rfl dJ6_bitCount_0f7a4_3 ?_
  refine g_ldcw F rfl cn_RJ6_265 dJ6_bitCount_0f7a4_4 ?_
  refine g_iand F rfl rfl dJ6_bitCount_0f7a4_7 ?_
  refine g_isub F rfl rfl dJ6_bitCount_0f7a4_8 ?_
  refine g_istore_n F rfl rfl (Nat.le_of_ble_eq_true rfl) (ls' := [(0, (0, (w32 (a0 - (and32 (ushr32 a0 1) 1431655765)))))]) rfl dJ6_bitCount_0f7a4_9 ?_
  refine g_iload_n F rfl 0 rfl rfl dJ6_bitCount_0f7a4_10 ?_
  refine g_ldcw F rfl cn_RJ6_266 dJ6_bitCount_0f7a4_11 ?_
  refine g_iand F rfl rfl dJ6_bitCount_0f7a4_14 ?_
  refine g_iload_n F rfl 0 rfl rfl dJ6_bitCount_0f7a4_15 ?_
  refine g_iconst F 0 rfl dJ6_bitCount_0f7a4_16 ?_
  refine g_iushr F rfl rfl dJ6_bitCount_0f7a4_17 ?_
  refine g_ldcw F rfl cn_RJ6_266 dJ6_bitCount_0f7a4_18 ?_
  refine g_iand F rfl rfl dJ6_bitCount_0f7a4_21 ?_
  refine g_iadd F rfl rfl dJ6_bitCount_0f7a4_22 ?_
  refine g_istore_n F rfl rfl (Nat.le_of_ble_eq_true rfl) (ls' := [(0, (0, (w32 ((and32 (w32 (a0 - (and32 (ushr32 a0 1) 1431655765))) 858993459) + (and32 (ushr32 (w32 (a0 - (and32 (ushr32 a0 1) 1431655765))) 2) 858993459)))))]) rfl dJ6_bitCount_0f7a4_23 ?_
  refine g_iload_n F rfl 0 rfl rfl dJ6_bitCount_0f7a4_24 ?_
  refine g_iload_n F rfl 0 rfl rfl dJ6_bitCount_0f7a4_25 ?_
  refine g_iconst F 0 rfl dJ6_bitCount_0f7a4_26 ?_
  refine g_iushr F rfl rfl dJ6_bitCount_0f7a4_27 ?_
  refine g_iadd F rfl rfl dJ6_bitCount_0f7a4_28 ?_
  refine g_ldcw F rfl cn_RJ6_267 dJ6_bitCount_0f7a4_29 ?_
  refine g_iand F rfl rfl dJ6_bitCount_0f7a4_32 ?_
  refine g_istore_n F rfl rfl (Nat.le_of_ble_eq_true rfl) (ls' := [(0, (0, (and32 (w32 ((w32 ((and32 (w32 (a0 - (and32 (ushr32 a0 1) 1431655765))) 858993459) + (and32 (ushr32 (w32 (a0 - (and32 (ushr32 a0 1) 1431655765))) 2) 858993459))) + (ushr32 (w32 ((and32 (w32 (a0 - (and32 (ushr32 a0 1) 1431655765))) 858993459) + (and32 (ushr32 (w32 (a0 - (and32 (ushr32 a0 1) 1431655765))) 2) 858993459))) 4))) 252645135)))]) rfl dJ6_bitCount_0f7a4_33 ?_
  refine g_iload_n F rfl 0 rfl rfl dJ6_bitCount_0f7a4_34 ?_
  refine g_iload_n F rfl 0 rfl rfl dJ6_bitCount_0f7a4_35 ?_
  refine g_bipush F rfl (by decide) dJ6_bitCount_0f7a4_36 ?_
  refine g_iushr F rfl rfl dJ6_bitCount_0f7a4_38 ?_
  refine g_iadd F rfl rfl dJ6_bitCount_0f7a4_39 ?_
  refine g_istore_n F rfl rfl (Nat.le_of_ble_eq_true rfl) (ls' := [(0, (0, (w32 ((and32 (w32 ((w32 ((and32 (w32 (a0 - (and32 (ushr32 a0 1) 1431655765))) 858993459) + (and32 (ushr32 (w32 (a0 - (and32 (ushr32 a0 1) 1431655765))) 2) 858993459))) + (ushr32 (w32 ((and32 (w32 (a0 - (and32 (ushr32 a0 1) 1431655765))) 858993459) + (and32 (ushr32 (w32 (a0 - (and32 (ushr32 a0 1) 1431655765))) 2) 858993459))) 4))) 252645135) + (ushr32 (and32 (w32 ((w32 ((and32 (w32 (a0 - (and32 (ushr32 a0 1) 1431655765))) 858993459) + (and32 (ushr32 (w32 (a0 - (and32 (ushr32 a0 1) 1431655765))) 2) 858993459))) + (ushr32 (w32 ((and32 (w32 (a0 - (and32 (ushr32 a0 1) 1431655765))) 858993459) + (and32 (ushr32 (w32 (a0 - (and32 (ushr32 a0 1) 1431655765))) 2) 858993459))) 4))) 252645135) 8)))))]) rfl dJ6_bitCount_0f7a4_40 ?_
  refine g_iload_n F rfl 0 rfl rfl dJ6_bitCount_0f7a4_41 ?_
  refine g_iload_n F rfl 0 rfl rfl dJ6_bitCount_0f7a4_42 ?_
  refine g_bipush F rfl (by decide) dJ6_bitCount_0f7a4_43 ?_
  refine g_iushr F rfl rfl dJ6_bitCount_0f7a4_45 ?_
  refine g_iadd F rfl rfl dJ6_bitCount_0f7a4_46 ?_
  refine g_istore_n F rfl rfl (Nat.le_of_ble_eq_true rfl) (ls' := [(0, (0, (w32 ((w32 ((and32 (w32 ((w32 ((and32 (w32 (a0 - (and32 (ushr32 a0 1) 1431655765))) 858993459) + (and32 (ushr32 (w32 (a0 - (and32 (ushr32 a0 1) 1431655765))) 2) 858993459))) + (ushr32 (w32 ((and32 (w32 (a0 - (and32 (ushr32 a0 1) 1431655765))) 858993459) + (and32 (ushr32 (w32 (a0 - (and32 (ushr32 a0 1) 1431655765))) 2) 858993459))) 4))) 252645135) + (ushr32 (and32 (w32 ((w32 ((and32 (w32 (a0 - (and32 (ushr32 a0 1) 1431655765))) 858993459) + (and32 (ushr32 (w32 (a0 - (and32 (ushr32 a0 1) 1431655765))) 2) 858993459))) + (ushr32 (w32 ((and32 (w32 (a0 - (and32 (ushr32 a0 1) 1431655765))) 858993459) + (and32 (ushr32 (w32 (a0 - (and32 (ushr32 a0 1) 1431655765))) 2) 858993459))) 4))) 252645135) 8))) + (ushr32 (w32 ((and32 (w32 ((w32 ((and32 (w32 (a0 - (and32 (ushr32 a0 1) 1431655765))) 858993459) + (and32 (ushr32 (w32 (a0 - (and32 (ushr32 a0 1) 1431655765))) 2) 858993459))) + (ushr32 (w32 ((and32 (w32 (a0 - (and32 (ushr32 a0 1) 1431655765))) 858993459) + (and32 (ushr32 (w32 (a0 - (and32 (ushr32 a0 1) 1431655765))) 2) 858993459))) 4))) 252645135) + (ushr32 (and32 (w32 ((w32 ((and32 (w32 (a0 - (and32 (ushr32 a0 1) 1431655765))) 858993459) + (and32 (ushr32 (w32 (a0 - (and32 (ushr32 a0 1) 1431655765))) 2) 858993459))) + (ushr32 (w32 ((and32 (w32 (a0 - (and32 (ushr32 a0 1) 1431655765))) 858993459) + (and32 (ushr32 (w32 (a0 - (and32 (ushr32 a0 1) 1431655765))) 2) 858993459))) 4))) 252645135) 8))) 16)))))]) rfl dJ6_bitCount_0f7a4_47 ?_
  refine g_iload_n F rfl 0 rfl rfl dJ6_bitCount_0f7a4_48 ?_
  refine g_bipush F rfl (by decide) dJ6_bitCount_0f7a4_49 ?_
  refine g_iand F rfl rfl dJ6_bitCount_0f7a4_51 ?_
  exact g_ireturn F rfl rfl rfl rfl (Nat.le_of_ble_eq_true rfl) (Nat.le_of_ble_eq_true rfl) dJ6_bitCount_0f7a4_52
theorem c_J6_bitCount_0f7a4 (a0 : Int) : ∀ l, Ct l yJ6_bitCount_0f7a4 cJ6_bitCount_0f7a4 1 (some .int) ({ frames := 0, cells := 0, slots := 0, locals := 0 }) (some 0) [(0, a0)] (sp_J6_bitCount_0f7a4 a0) := g_method (by decide +kernel) (Nat.le_of_ble_eq_true rfl) (fun x v F ho => k_J6_bitCount_0f7a4 a0 x v F ho)
def sp_X7_ofParty (a0 a1 a2 : Int) (v : V) : Res := (rB (sp_X7_partyAt a0 a1 v) (fun z1 v1 => (rB (sp_X7_requireRange a2 0 6 v1) (fun z2 v2 => (if a2 = 0 then (chk (0 ≤ z1) (rOk (v2 3 z1 2) v2))
   else (if a2 = 1 then (rB (sp_X7_partsHeldBy a0 z1 v2) (fun z6 v6 => (rOk z6 v6)))
   else (if a2 = 2 then (rB (sp_X7_owedBy a0 z1 v2) (fun z8 v8 => (rOk z8 v8)))
   else (if a2 = 3 then (rB (sp_X7_owedTo a0 z1 v2) (fun z10 v10 => (rOk z10 v10)))
   else (if a2 = 4 then (rB (sp_X7_worthHeldBy a0 z1 v2) (fun z12 v12 => (rOk z12 v12)))
   else (if a2 = 5 then (chk (0 ≤ z1) (rB (sp_X7_flag (v2 3 z1 4) v2) (fun z15 v15 => (rOk z15 v15))))
   else (chk (0 ≤ z1) (rB (sp_J6_bitCount_0f7a4 (v2 3 z1 5) v2) (fun z17 v17 => (rOk z17 v17))))))))))))))
set_option maxRecDepth 100000 in
set_option maxHeartbeats 4000000 in
theorem k_X7_ofParty (a0 a1 a2 : Int) (h0 : 0 ≤ a0) (x : Cx) (v : V) (F : Fx x cX7_ofParty RX7 "ofParty" ({ frames := 7, cells := 2, slots := 12, locals := 104 }) 4 (some 0) (some .int) 0) (ho : ∀ a ∈ [(17, a0), (0, a1), (0, a2)], okv v a) : Gs x (sp_X7_ofParty a0 a1 a2 v) v 0 0 0 (avArgs 0 [(17, a0), (0, a1), (0, a2)]) [] := by
  show Gs x _ v 0 0 0 [(0, (17, a0)), (1, (0, a1)), (2, (0, a2))] []
  unfold sp_X7_ofParty
  refine g_aload_n F rfl 0 rfl dX7_ofParty_0 ?_
  refine g_iload_n F rfl 1 rfl rfl dX7_ofParty_1 ?_
  refine g_callV F (by decide) (K := 7) (b := a0) [(0, a1)] [0] ml_RX7_59 wi_X7_partyAt ws_X7_partyAt (c_X7_partyAt a0 a1 (Int.not_lt.mp (Int.not_lt.mpr h0))) mi_X7_partyAt (by decide) ⟨_, rfl, rfl⟩ (Int.not_lt.mp (Int.not_lt.mpr h0)) rfl rfl rfl (Nat.le_of_ble_eq_true rfl) (Nat.le_of_ble_eq_true rfl) (Nat.le_of_ble_eq_true rfl) (Nat.le_of_ble_eq_true rfl) (Nat.le_of_ble_eq_true rfl) dX7_ofParty_2 (fun z1 v1 hz1 => ?_)
  refine g_astore_n F rfl (Nat.le_of_ble_eq_true rfl) (ls' := [(3, (13, z1)), (0, (17, a0)), (1, (0, a1)), (2, (0, a2))]) rfl dX7_ofParty_5 ?_
  refine g_iload_n F rfl 3 rfl rfl dX7_ofParty_6 ?_
  refine g_iconst F 2 rfl dX7_ofParty_7 ?_
  refine g_bipush F rfl (by decide) dX7_ofParty_8 ?_
  refine g_callS F (by decide) [(0, a2), (2, 0), (0, 6)] [0, 0, 0] ml_RX7_42 wt_X7_requireRange (c_X7_requireRange a2 0 6) mi_X7_requireRange rfl rfl rfl (Nat.le_of_ble_eq_true rfl) (Nat.le_of_ble_eq_true rfl) (Nat.le_of_ble_eq_true rfl) (Nat.le_of_ble_eq_true rfl) (Nat.le_of_ble_eq_true rfl) dX7_ofParty_10 (fun z2 v2 hz2 => ?_)
  refine g_iload_n F rfl 3 rfl rfl dX7_ofParty_13 ?_
  refine g_if (fun n3 => ?_) (fun n3 => ?_)
  · refine g_tabIn F rfl (by omega) (by omega) (off := 38) (by rw [n3]; rfl) (tgt := 52) rfl dX7_ofParty_14 ?_
    refine g_aload_n F rfl 0 rfl dX7_ofParty_52 ?_
    refine g_chk (fun n4 => ?_)
    refine g_get F (t := 0) (sI := 2) fl_RX7_222 rfl rfl (Int.not_lt.mp (Int.not_lt.mpr n4)) dX7_ofParty_53 ?_
    exact g_ireturn F rfl rfl rfl rfl (Nat.le_of_ble_eq_true rfl) (Nat.le_of_ble_eq_true rfl) dX7_ofParty_56
  · refine g_if (fun n5 => ?_) (fun n5 => ?_)
    · refine g_tabIn F rfl (by omega) (by omega) (off := 43) (by rw [n5]; rfl) (tgt := 57) rfl dX7_ofParty_14 ?_
      refine g_aload_n F rfl 1 rfl dX7_ofParty_57 ?_
      refine g_aload_n F rfl 0 rfl dX7_ofParty_58 ?_
      refine g_callV F (by decide) (K := 7) (b := a0) [(13, z1)] [13] ml_RX7_277 wi_X7_partsHeldBy ws_X7_partsHeldBy (c_X7_partsHeldBy a0 z1 (Int.not_lt.mp (Int.not_lt.mpr h0))) mi_X7_partsHeldBy (by decide) ⟨_, rfl, rfl⟩ (Int.not_lt.mp (Int.not_lt.mpr h0)) rfl rfl rfl (Nat.le_of_ble_eq_true rfl) (Nat.le_of_ble_eq_true rfl) (Nat.le_of_ble_eq_true rfl) (Nat.le_of_ble_eq_true rfl) (Nat.le_of_ble_eq_true rfl) dX7_ofParty_59 (fun z6 v6 hz6 => ?_)
      exact g_ireturn F rfl rfl rfl rfl (Nat.le_of_ble_eq_true rfl) (Nat.le_of_ble_eq_true rfl) dX7_ofParty_62
    · refine g_if (fun n7 => ?_) (fun n7 => ?_)
      · refine g_tabIn F rfl (by omega) (by omega) (off := 49) (by rw [n7]; rfl) (tgt := 63) rfl dX7_ofParty_14 ?_
        refine g_aload_n F rfl 1 rfl dX7_ofParty_63 ?_
        refine g_aload_n F rfl 0 rfl dX7_ofParty_64 ?_
        refine g_callV F (by decide) (K := 7) (b := a0) [(13, z1)] [13] ml_RX7_280 wi_X7_owedBy ws_X7_owedBy (c_X7_owedBy a0 z1 (Int.not_lt.mp (Int.not_lt.mpr h0))) mi_X7_owedBy (by decide) ⟨_, rfl, rfl⟩ (Int.not_lt.mp (Int.not_lt.mpr h0)) rfl rfl rfl (Nat.le_of_ble_eq_true rfl) (Nat.le_of_ble_eq_true rfl) (Nat.le_of_ble_eq_true rfl) (Nat.le_of_ble_eq_true rfl) (Nat.le_of_ble_eq_true rfl) dX7_ofParty_65 (fun z8 v8 hz8 => ?_)
        exact g_ireturn F rfl rfl rfl rfl (Nat.le_of_ble_eq_true rfl) (Nat.le_of_ble_eq_true rfl) dX7_ofParty_68
      · refine g_if (fun n9 => ?_) (fun n9 => ?_)
        · refine g_tabIn F rfl (by omega) (by omega) (off := 55) (by rw [n9]; rfl) (tgt := 69) rfl dX7_ofParty_14 ?_
          refine g_aload_n F rfl 1 rfl dX7_ofParty_69 ?_
          refine g_aload_n F rfl 0 rfl dX7_ofParty_70 ?_
          refine g_callV F (by decide) (K := 7) (b := a0) [(13, z1)] [13] ml_RX7_283 wi_X7_owedTo ws_X7_owedTo (c_X7_owedTo a0 z1 (Int.not_lt.mp (Int.not_lt.mpr h0))) mi_X7_owedTo (by decide) ⟨_, rfl, rfl⟩ (Int.not_lt.mp (Int.not_lt.mpr h0)) rfl rfl rfl (Nat.le_of_ble_eq_true rfl) (Nat.le_of_ble_eq_true rfl) (Nat.le_of_ble_eq_true rfl) (Nat.le_of_ble_eq_true rfl) (Nat.le_of_ble_eq_true rfl) dX7_ofParty_71 (fun z10 v10 hz10 => ?_)
          exact g_ireturn F rfl rfl rfl rfl (Nat.le_of_ble_eq_true rfl) (Nat.le_of_ble_eq_true rfl) dX7_ofParty_74
        · refine g_if (fun n11 => ?_) (fun n11 => ?_)
          · refine g_tabIn F rfl (by omega) (by omega) (off := 61) (by rw [n11]; rfl) (tgt := 75) rfl dX7_ofParty_14 ?_
            refine g_aload_n F rfl 1 rfl dX7_ofParty_75 ?_
            refine g_aload_n F rfl 0 rfl dX7_ofParty_76 ?_
            refine g_callV F (by decide) (K := 7) (b := a0) [(13, z1)] [13] ml_RX7_286 wi_X7_worthHeldBy ws_X7_worthHeldBy (c_X7_worthHeldBy a0 z1 (Int.not_lt.mp (Int.not_lt.mpr h0))) mi_X7_worthHeldBy (by decide) ⟨_, rfl, rfl⟩ (Int.not_lt.mp (Int.not_lt.mpr h0)) rfl rfl rfl (Nat.le_of_ble_eq_true rfl) (Nat.le_of_ble_eq_true rfl) (Nat.le_of_ble_eq_true rfl) (Nat.le_of_ble_eq_true rfl) (Nat.le_of_ble_eq_true rfl) dX7_ofParty_77 (fun z12 v12 hz12 => ?_)
            exact g_ireturn F rfl rfl rfl rfl (Nat.le_of_ble_eq_true rfl) (Nat.le_of_ble_eq_true rfl) dX7_ofParty_80
          · refine g_if (fun n13 => ?_) (fun n13 => ?_)
            · refine g_tabIn F rfl (by omega) (by omega) (off := 67) (by rw [n13]; rfl) (tgt := 81) rfl dX7_ofParty_14 ?_
              refine g_aload_n F rfl 0 rfl dX7_ofParty_81 ?_
              refine g_chk (fun n14 => ?_)
              refine g_get F (t := 2) (sI := 4) fl_RX7_130 rfl rfl (Int.not_lt.mp (Int.not_lt.mpr n14)) dX7_ofParty_82 ?_
              refine g_callS F (by decide) [(2, (v2 3 z1 4))] [2] ml_RX7_289 wt_X7_flag (c_X7_flag (v2 3 z1 4)) mi_X7_flag rfl rfl rfl (Nat.le_of_ble_eq_true rfl) (Nat.le_of_ble_eq_true rfl) (Nat.le_of_ble_eq_true rfl) (Nat.le_of_ble_eq_true rfl) (Nat.le_of_ble_eq_true rfl) dX7_ofParty_85 (fun z15 v15 hz15 => ?_)
              exact g_ireturn F rfl rfl rfl rfl (Nat.le_of_ble_eq_true rfl) (Nat.le_of_ble_eq_true rfl) dX7_ofParty_88
            · refine g_tabOut F rfl (by omega) (tgt := 89) rfl dX7_ofParty_14 ?_
              refine g_aload_n F rfl 0 rfl dX7_ofParty_89 ?_
              refine g_chk (fun n16 => ?_)
              refine g_get F (t := 0) (sI := 5) fl_RX7_293 rfl rfl (Int.not_lt.mp (Int.not_lt.mpr n16)) dX7_ofParty_90 ?_
              refine g_callS F (by decide) [(0, (v2 3 z1 5))] [0] ml_RX7_296 wt_J6_bitCount_0f7a4 (c_J6_bitCount_0f7a4 (v2 3 z1 5)) mi_J6_bitCount_0f7a4 rfl rfl rfl (Nat.le_of_ble_eq_true rfl) (Nat.le_of_ble_eq_true rfl) (Nat.le_of_ble_eq_true rfl) (Nat.le_of_ble_eq_true rfl) (Nat.le_of_ble_eq_true rfl) dX7_ofParty_93 (fun z17 v17 hz17 => ?_)
              exact g_ireturn F rfl rfl rfl rfl (Nat.le_of_ble_eq_true rfl) (Nat.le_of_ble_eq_true rfl) dX7_ofParty_96
theorem c_X7_ofParty (a0 a1 a2 : Int) (h0 : 0 ≤ a0) : ∀ l, Ct l yX7_ofParty cX7_ofParty 4 (some .int) ({ frames := 7, cells := 2, slots := 12, locals := 104 }) (some 0) [(17, a0), (0, a1), (0, a2)] (sp_X7_ofParty a0 a1 a2) := g_method (by decide +kernel) (Nat.le_of_ble_eq_true rfl) (fun x v F ho => k_X7_ofParty a0 a1 a2 h0 x v F ho)
def lp_X7_lotsWithParts_4 (l0 l1 : Int) (k : V → Int → Int → Res) : Nat → V → Int → Int → Res
  | 0, _, _, _ => none
  | n + 1, v, l2, l3 => (if (v 7 l0 7) ≤ l3 then (k v l2 l3)
   else (chk (0 ≤ (v 7 l0 2)) (chk (0 ≤ l3 ∧ l3 < 60) (chk (0 ≤ (v 12 (v 7 l0 2) l3)) (if (v 2 (v 12 (v 7 l0 2) l3) 1) = l1 then (if (v 2 (v 12 (v 7 l0 2) l3) 4) ≤ 0 then (lp_X7_lotsWithParts_4 l0 l1 k n v l2 (w32 (l3 + 1)))
   else (lp_X7_lotsWithParts_4 l0 l1 k n v (w32 (l2 + 1)) (w32 (l3 + 1))))
   else (lp_X7_lotsWithParts_4 l0 l1 k n v l2 (w32 (l3 + 1))))))))
set_option maxRecDepth 100000 in
set_option maxHeartbeats 4000000 in
theorem kl_X7_lotsWithParts_4 {l0 l1 : Int} (h0 : 0 ≤ l0) {x : Cx} (F : Fx x cX7_lotsWithParts RX7 "lotsWithParts" ({ frames := 0, cells := 0, slots := 0, locals := 0 }) 4 (some 0) (some .int) 0) {k : V → Int → Int → Res} (hk : ∀ (v : V) (l2 l3 : Int), Gs x (k v l2 l3) v 0 0 46 [(0, (17, l0)), (1, (16, l1)), (2, (0, l2)), (3, (0, l3))] []) : ∀ (n : Nat) (v : V) (l2 l3 : Int), Gs x (lp_X7_lotsWithParts_4 l0 l1 k n v l2 l3) v 0 0 4 [(0, (17, l0)), (1, (16, l1)), (2, (0, l2)), (3, (0, l3))] [] := by
  intro n
  induction n with
  | zero => intro v l2 l3; exact g_none
  | succ n ih =>
    intro v l2 l3
    rw [lp_X7_lotsWithParts_4]
    refine g_iload_n F rfl 3 rfl rfl dX7_lotsWithParts_4 ?_
    refine g_aload_n F rfl 0 rfl dX7_lotsWithParts_5 ?_
    refine g_get F (t := 0) (sI := 7) fl_RX7_66 rfl rfl (Int.not_lt.mp (Int.not_lt.mpr h0)) dX7_lotsWithParts_6 ?_
    refine g_icmp_ge F rfl rfl (tgt := 46) rfl dX7_lotsWithParts_9 (fun n1 => ?_) (fun n1 => ?_)
    · refine g_loc [(0, 17), (1, 16), (2, 0), (3, 0)] rfl ?_
      exact hk v l2 l3
    · refine g_aload_n F rfl 0 rfl dX7_lotsWithParts_12 ?_
      refine g_get F (t := 22) (sI := 2) fl_RX7_23 rfl rfl (Int.not_lt.mp (Int.not_lt.mpr h0)) dX7_lotsWithParts_13 ?_
      refine g_iload_n F rfl 3 rfl rfl dX7_lotsWithParts_16 ?_
      refine g_chk (fun n2 => ?_)
      refine g_chk (fun n3 => ?_)
      refine h_aald F (n := 60) ak_12 (Int.not_lt.mp (Int.not_lt.mpr n2)) n3 rfl dX7_lotsWithParts_17 ?_
      refine g_chk (fun n4 => ?_)
      refine g_get F (t := 16) (sI := 1) fl_RX7_267 rfl rfl (Int.not_lt.mp (Int.not_lt.mpr n4)) dX7_lotsWithParts_18 ?_
      refine g_aload_n F rfl 1 rfl dX7_lotsWithParts_21 ?_
      refine g_acmp_ne F (by decide) (tgt := 40) rfl dX7_lotsWithParts_22 (fun n5 => ?_) (fun n5 => ?_)
      · refine g_aload_n F rfl 0 rfl dX7_lotsWithParts_25 ?_
        refine g_get F (t := 22) (sI := 2) fl_RX7_23 rfl rfl (Int.not_lt.mp (Int.not_lt.mpr h0)) dX7_lotsWithParts_26 ?_
        refine g_iload_n F rfl 3 rfl rfl dX7_lotsWithParts_29 ?_
        refine h_aald F (n := 60) ak_12 (Int.not_lt.mp (Int.not_lt.mpr n2)) n3 rfl dX7_lotsWithParts_30 ?_
        refine g_get F (t := 0) (sI := 4) fl_RX7_165 rfl rfl (Int.not_lt.mp (Int.not_lt.mpr n4)) dX7_lotsWithParts_31 ?_
        refine g_if_le F rfl (tgt := 40) rfl dX7_lotsWithParts_34 (fun n6 => ?_) (fun n6 => ?_)
        · refine g_iinc F 3 rfl rfl (Nat.le_of_ble_eq_true rfl) (ls' := [(3, (0, (w32 (l3 + 1)))), (0, (17, l0)), (1, (16, l1)), (2, (0, l2))]) rfl dX7_lotsWithParts_40 ?_
          refine g_goto F (tgt := 4) rfl dX7_lotsWithParts_43 ?_
          refine g_loc [(1, 17), (2, 16), (3, 0), (0, 0)] rfl ?_
          exact ih v l2 (w32 (l3 + 1))
        · refine g_iinc F 2 rfl rfl (Nat.le_of_ble_eq_true rfl) (ls' := [(2, (0, (w32 (l2 + 1)))), (0, (17, l0)), (1, (16, l1)), (3, (0, l3))]) rfl dX7_lotsWithParts_37 ?_
          refine g_iinc F 3 rfl rfl (Nat.le_of_ble_eq_true rfl) (ls' := [(3, (0, (w32 (l3 + 1)))), (2, (0, (w32 (l2 + 1)))), (0, (17, l0)), (1, (16, l1))]) rfl dX7_lotsWithParts_40 ?_
          refine g_goto F (tgt := 4) rfl dX7_lotsWithParts_43 ?_
          refine g_loc [(2, 17), (3, 16), (1, 0), (0, 0)] rfl ?_
          exact ih v (w32 (l2 + 1)) (w32 (l3 + 1))
      · refine g_iinc F 3 rfl rfl (Nat.le_of_ble_eq_true rfl) (ls' := [(3, (0, (w32 (l3 + 1)))), (0, (17, l0)), (1, (16, l1)), (2, (0, l2))]) rfl dX7_lotsWithParts_40 ?_
        refine g_goto F (tgt := 4) rfl dX7_lotsWithParts_43 ?_
        refine g_loc [(1, 17), (2, 16), (3, 0), (0, 0)] rfl ?_
        exact ih v l2 (w32 (l3 + 1))
def sp_X7_lotsWithParts (a0 a1 : Int) (v : V) : Res := (lp_X7_lotsWithParts_4 a0 a1 (fun v7 u7_2 u7_3 => (rOk u7_2 v7)) 200 v 0 0)
set_option maxRecDepth 100000 in
set_option maxHeartbeats 4000000 in
theorem k_X7_lotsWithParts (a0 a1 : Int) (h0 : 0 ≤ a0) (x : Cx) (v : V) (F : Fx x cX7_lotsWithParts RX7 "lotsWithParts" ({ frames := 0, cells := 0, slots := 0, locals := 0 }) 4 (some 0) (some .int) 0) (ho : ∀ a ∈ [(17, a0), (16, a1)], okv v a) : Gs x (sp_X7_lotsWithParts a0 a1 v) v 0 0 0 (avArgs 0 [(17, a0), (16, a1)]) [] := by
  show Gs x _ v 0 0 0 [(0, (17, a0)), (1, (16, a1))] []
  unfold sp_X7_lotsWithParts
  refine g_iconst F 2 rfl dX7_lotsWithParts_0 ?_
  refine g_istore_n F rfl rfl (Nat.le_of_ble_eq_true rfl) (ls' := [(2, (2, 0)), (0, (17, a0)), (1, (16, a1))]) rfl dX7_lotsWithParts_1 ?_
  refine g_iconst F 2 rfl dX7_lotsWithParts_2 ?_
  refine g_istore_n F rfl rfl (Nat.le_of_ble_eq_true rfl) (ls' := [(3, (2, 0)), (2, (2, 0)), (0, (17, a0)), (1, (16, a1))]) rfl dX7_lotsWithParts_3 ?_
  refine g_loc [(2, 17), (3, 16), (1, 0), (0, 0)] rfl ?_
  refine kl_X7_lotsWithParts_4 (Int.not_lt.mp (Int.not_lt.mpr h0)) F (fun v7 u7_2 u7_3 => ?_) 200 v 0 0
  refine g_iload_n F rfl 2 rfl rfl dX7_lotsWithParts_46 ?_
  exact g_ireturn F rfl rfl rfl rfl (Nat.le_of_ble_eq_true rfl) (Nat.le_of_ble_eq_true rfl) dX7_lotsWithParts_47
theorem c_X7_lotsWithParts (a0 a1 : Int) (h0 : 0 ≤ a0) : ∀ l, Ct l yX7_lotsWithParts cX7_lotsWithParts 4 (some .int) ({ frames := 0, cells := 0, slots := 0, locals := 0 }) (some 0) [(17, a0), (16, a1)] (sp_X7_lotsWithParts a0 a1) := g_method (by decide +kernel) (Nat.le_of_ble_eq_true rfl) (fun x v F ho => k_X7_lotsWithParts a0 a1 h0 x v F ho)
def sp_X7_ofWork (a0 a1 a2 : Int) (v : V) : Res := (rB (sp_X7_workAt a0 a1 v) (fun z1 v1 => (rB (sp_X7_requireRange a2 0 5 v1) (fun z2 v2 => (if a2 = 0 then (chk (0 ≤ z1) (rB (sp_X6_valueOn z1 (v2 7 a0 9) v2) (fun z4 v4 => (rOk z4 v4))))
   else (if a2 = 1 then (chk (0 ≤ z1) (rOk (v2 6 z1 6) v2))
   else (if a2 = 2 then (chk (0 ≤ z1) (rB (sp_X7_flag (v2 6 z1 7) v2) (fun z10 v10 => (rOk z10 v10))))
   else (if a2 = 3 then (chk (0 ≤ z1) (rB (sp_X6_barDaysLeft z1 (v2 7 a0 9) v2) (fun z12 v12 => (rOk z12 v12))))
   else (if a2 = 4 then (chk (0 ≤ z1) (rOk (v2 6 z1 9) v2))
   else (rB (sp_X7_lotsWithParts a0 z1 v2) (fun z16 v16 => (rOk z16 v16))))))))))))
set_option maxRecDepth 100000 in
set_option maxHeartbeats 4000000 in
theorem k_X7_ofWork (a0 a1 a2 : Int) (h0 : 0 ≤ a0) (x : Cx) (v : V) (F : Fx x cX7_ofWork RX7 "ofWork" ({ frames := 7, cells := 2, slots := 12, locals := 104 }) 4 (some 0) (some .int) 0) (ho : ∀ a ∈ [(17, a0), (0, a1), (0, a2)], okv v a) : Gs x (sp_X7_ofWork a0 a1 a2 v) v 0 0 0 (avArgs 0 [(17, a0), (0, a1), (0, a2)]) [] := by
  show Gs x _ v 0 0 0 [(0, (17, a0)), (1, (0, a1)), (2, (0, a2))] []
  unfold sp_X7_ofWork
  refine g_aload_n F rfl 0 rfl dX7_ofWork_0 ?_
  refine g_iload_n F rfl 1 rfl rfl dX7_ofWork_1 ?_
  refine g_callV F (by decide) (K := 7) (b := a0) [(0, a1)] [0] ml_RX7_80 wi_X7_workAt ws_X7_workAt (c_X7_workAt a0 a1 (Int.not_lt.mp (Int.not_lt.mpr h0))) mi_X7_workAt (by decide) ⟨_, rfl, rfl⟩ (Int.not_lt.mp (Int.not_lt.mpr h0)) rfl rfl rfl (Nat.le_of_ble_eq_true rfl) (Nat.le_of_ble_eq_true rfl) (Nat.le_of_ble_eq_true rfl) (Nat.le_of_ble_eq_true rfl) (Nat.le_of_ble_eq_true rfl) dX7_ofWork_2 (fun z1 v1 hz1 => ?_)
  refine g_astore_n F rfl (Nat.le_of_ble_eq_true rfl) (ls' := [(3, (16, z1)), (0, (17, a0)), (1, (0, a1)), (2, (0, a2))]) rfl dX7_ofWork_5 ?_
  refine g_iload_n F rfl 3 rfl rfl dX7_ofWork_6 ?_
  refine g_iconst F 2 rfl dX7_ofWork_7 ?_
  refine g_iconst F 0 rfl dX7_ofWork_8 ?_
  refine g_callS F (by decide) [(0, a2), (2, 0), (0, 5)] [0, 0, 0] ml_RX7_42 wt_X7_requireRange (c_X7_requireRange a2 0 5) mi_X7_requireRange rfl rfl rfl (Nat.le_of_ble_eq_true rfl) (Nat.le_of_ble_eq_true rfl) (Nat.le_of_ble_eq_true rfl) (Nat.le_of_ble_eq_true rfl) (Nat.le_of_ble_eq_true rfl) dX7_ofWork_9 (fun z2 v2 hz2 => ?_)
  refine g_iload_n F rfl 3 rfl rfl dX7_ofWork_12 ?_
  refine g_if (fun n3 => ?_) (fun n3 => ?_)
  · refine g_tabIn F rfl (by omega) (by omega) (off := 35) (by rw [n3]; rfl) (tgt := 48) rfl dX7_ofWork_13 ?_
    refine g_aload_n F rfl 0 rfl dX7_ofWork_48 ?_
    refine g_aload_n F rfl 1 rfl dX7_ofWork_49 ?_
    refine g_get F (t := 0) (sI := 9) fl_RX7_87 rfl rfl (Int.not_lt.mp (Int.not_lt.mpr h0)) dX7_ofWork_50 ?_
    refine g_chk (fun n5 => ?_)
    refine g_callVN F (by decide) (K := 6) (b := z1) [(0, (v2 7 a0 9))] [0] ml_RX7_301 wi_X6_valueOn ws_X6_valueOn (c_X6_valueOn z1 (v2 7 a0 9) (Int.not_lt.mp (Int.not_lt.mpr n5))) mi_X6_valueOn (by decide) ⟨_, rfl, rfl⟩ (Int.not_lt.mp (Int.not_lt.mpr n5)) rfl rfl rfl (Nat.le_of_ble_eq_true rfl) (Nat.le_of_ble_eq_true rfl) (Nat.le_of_ble_eq_true rfl) (Nat.le_of_ble_eq_true rfl) (Nat.le_of_ble_eq_true rfl) dX7_ofWork_53 (fun z4 v4 hz4 => ?_)
    exact g_ireturn F rfl rfl rfl rfl (Nat.le_of_ble_eq_true rfl) (Nat.le_of_ble_eq_true rfl) dX7_ofWork_56
  · refine g_if (fun n6 => ?_) (fun n6 => ?_)
    · refine g_tabIn F rfl (by omega) (by omega) (off := 44) (by rw [n6]; rfl) (tgt := 57) rfl dX7_ofWork_13 ?_
      refine g_aload_n F rfl 0 rfl dX7_ofWork_57 ?_
      refine g_chk (fun n7 => ?_)
      refine g_get F (t := 0) (sI := 6) fl_RX7_120 rfl rfl (Int.not_lt.mp (Int.not_lt.mpr n7)) dX7_ofWork_58 ?_
      exact g_ireturn F rfl rfl rfl rfl (Nat.le_of_ble_eq_true rfl) (Nat.le_of_ble_eq_true rfl) dX7_ofWork_61
    · refine g_if (fun n8 => ?_) (fun n8 => ?_)
      · refine g_tabIn F rfl (by omega) (by omega) (off := 49) (by rw [n8]; rfl) (tgt := 62) rfl dX7_ofWork_13 ?_
        refine g_aload_n F rfl 0 rfl dX7_ofWork_62 ?_
        refine g_chk (fun n9 => ?_)
        refine g_get F (t := 2) (sI := 7) fl_RX7_123 rfl rfl (Int.not_lt.mp (Int.not_lt.mpr n9)) dX7_ofWork_63 ?_
        refine g_callS F (by decide) [(2, (v2 6 z1 7))] [2] ml_RX7_289 wt_X7_flag (c_X7_flag (v2 6 z1 7)) mi_X7_flag rfl rfl rfl (Nat.le_of_ble_eq_true rfl) (Nat.le_of_ble_eq_true rfl) (Nat.le_of_ble_eq_true rfl) (Nat.le_of_ble_eq_true rfl) (Nat.le_of_ble_eq_true rfl) dX7_ofWork_66 (fun z10 v10 hz10 => ?_)
        exact g_ireturn F rfl rfl rfl rfl (Nat.le_of_ble_eq_true rfl) (Nat.le_of_ble_eq_true rfl) dX7_ofWork_69
      · refine g_if (fun n11 => ?_) (fun n11 => ?_)
        · refine g_tabIn F rfl (by omega) (by omega) (off := 57) (by rw [n11]; rfl) (tgt := 70) rfl dX7_ofWork_13 ?_
          refine g_aload_n F rfl 0 rfl dX7_ofWork_70 ?_
          refine g_aload_n F rfl 1 rfl dX7_ofWork_71 ?_
          refine g_get F (t := 0) (sI := 9) fl_RX7_87 rfl rfl (Int.not_lt.mp (Int.not_lt.mpr h0)) dX7_ofWork_72 ?_
          refine g_chk (fun n13 => ?_)
          refine g_callVN F (by decide) (K := 6) (b := z1) [(0, (v2 7 a0 9))] [0] ml_RX7_113 wi_X6_barDaysLeft ws_X6_barDaysLeft (c_X6_barDaysLeft z1 (v2 7 a0 9) (Int.not_lt.mp (Int.not_lt.mpr n13))) mi_X6_barDaysLeft (by decide) ⟨_, rfl, rfl⟩ (Int.not_lt.mp (Int.not_lt.mpr n13)) rfl rfl rfl (Nat.le_of_ble_eq_true rfl) (Nat.le_of_ble_eq_true rfl) (Nat.le_of_ble_eq_true rfl) (Nat.le_of_ble_eq_true rfl) (Nat.le_of_ble_eq_true rfl) dX7_ofWork_75 (fun z12 v12 hz12 => ?_)
          exact g_ireturn F rfl rfl rfl rfl (Nat.le_of_ble_eq_true rfl) (Nat.le_of_ble_eq_true rfl) dX7_ofWork_78
        · refine g_if (fun n14 => ?_) (fun n14 => ?_)
          · refine g_tabIn F rfl (by omega) (by omega) (off := 66) (by rw [n14]; rfl) (tgt := 79) rfl dX7_ofWork_13 ?_
            refine g_aload_n F rfl 0 rfl dX7_ofWork_79 ?_
            refine g_chk (fun n15 => ?_)
            refine g_get F (t := 0) (sI := 9) fl_RX7_127 rfl rfl (Int.not_lt.mp (Int.not_lt.mpr n15)) dX7_ofWork_80 ?_
            exact g_ireturn F rfl rfl rfl rfl (Nat.le_of_ble_eq_true rfl) (Nat.le_of_ble_eq_true rfl) dX7_ofWork_83
          · refine g_tabOut F rfl (by omega) (tgt := 84) rfl dX7_ofWork_13 ?_
            refine g_aload_n F rfl 1 rfl dX7_ofWork_84 ?_
            refine g_aload_n F rfl 0 rfl dX7_ofWork_85 ?_
            refine g_callV F (by decide) (K := 7) (b := a0) [(16, z1)] [16] ml_RX7_304 wi_X7_lotsWithParts ws_X7_lotsWithParts (c_X7_lotsWithParts a0 z1 (Int.not_lt.mp (Int.not_lt.mpr h0))) mi_X7_lotsWithParts (by decide) ⟨_, rfl, rfl⟩ (Int.not_lt.mp (Int.not_lt.mpr h0)) rfl rfl rfl (Nat.le_of_ble_eq_true rfl) (Nat.le_of_ble_eq_true rfl) (Nat.le_of_ble_eq_true rfl) (Nat.le_of_ble_eq_true rfl) (Nat.le_of_ble_eq_true rfl) dX7_ofWork_86 (fun z16 v16 hz16 => ?_)
            exact g_ireturn F rfl rfl rfl rfl (Nat.le_of_ble_eq_true rfl) (Nat.le_of_ble_eq_true rfl) dX7_ofWork_89
theorem c_X7_ofWork (a0 a1 a2 : Int) (h0 : 0 ≤ a0) : ∀ l, Ct l yX7_ofWork cX7_ofWork 4 (some .int) ({ frames := 7, cells := 2, slots := 12, locals := 104 }) (some 0) [(17, a0), (0, a1), (0, a2)] (sp_X7_ofWork a0 a1 a2) := g_method (by decide +kernel) (Nat.le_of_ble_eq_true rfl) (fun x v F ho => k_X7_ofWork a0 a1 a2 h0 x v F ho)
def sp_X7_ofLot (a0 a1 a2 : Int) (v : V) : Res := (rB (sp_X7_lotAt a0 a1 v) (fun z1 v1 => (rB (sp_X7_requireRange a2 0 8 v1) (fun z2 v2 => (if a2 = 0 then (chk (0 ≤ z1) (chk (0 ≤ (v2 2 z1 1)) (rOk (v2 6 (v2 2 z1 1) 0) v2)))
   else (if a2 = 1 then (chk (0 ≤ z1) (chk (0 ≤ (v2 2 z1 3)) (rOk (v2 3 (v2 2 z1 3) 0) v2)))
   else (if a2 = 2 then (chk (0 ≤ z1) (rOk (v2 2 z1 4) v2))
   else (if a2 = 3 then (chk (0 ≤ z1) (if (v2 2 z1 5) < 0 then (rOk (-1) v2)
   else (rOk (v2 1 (v2 2 z1 5) 0) v2)))
   else (if a2 = 4 then (chk (0 ≤ z1) (rB (sp_X2_dealer z1  v2) (fun z15 v15 => (rB (sp_X7_numberOf z15 v15) (fun z17 v17 => (rOk z17 v17))))))
   else (if a2 = 5 then (chk (0 ≤ z1) (if (v2 2 z1 2) < 0 then (rOk (-1) v2)
   else (rOk (v2 2 (v2 2 z1 2) 0) v2)))
   else (if a2 = 6 then (chk (0 ≤ z1) (if (v2 2 z1 7) < 0 then (rOk (-1) v2)
   else (rOk (v2 4 (v2 2 z1 7) 0) v2)))
   else (if a2 = 7 then (chk (0 ≤ z1) (rB (sp_X2_worth z1 (v2 7 a0 9) v2) (fun z25 v25 => (rOk z25 v25))))
   else (chk (0 ≤ z1) (rB (sp_X2_chain z1  v2) (fun z27 v27 => (rOk z27 v27))))))))))))))))
set_option maxRecDepth 100000 in
set_option maxHeartbeats 4000000 in
theorem k_X7_ofLot (a0 a1 a2 : Int) (h0 : 0 ≤ a0) (x : Cx) (v : V) (F : Fx x cX7_ofLot RX7 "ofLot" ({ frames := 7, cells := 2, slots := 12, locals := 104 }) 4 (some 0) (some .int) 0) (ho : ∀ a ∈ [(17, a0), (0, a1), (0, a2)], okv v a) : Gs x (sp_X7_ofLot a0 a1 a2 v) v 0 0 0 (avArgs 0 [(17, a0), (0, a1), (0, a2)]) [] := by
  show Gs x _ v 0 0 0 [(0, (17, a0)), (1, (0, a1)), (2, (0, a2))] []
  unfold sp_X7_ofLot
  refine g_aload_n F rfl 0 rfl dX7_ofLot_0 ?_
  refine g_iload_n F rfl 1 rfl rfl dX7_ofLot_1 ?_
  refine g_callV F (by decide) (K := 7) (b := a0) [(0, a1)] [0] ml_RX7_141 wi_X7_lotAt ws_X7_lotAt (c_X7_lotAt a0 a1 (Int.not_lt.mp (Int.not_lt.mpr h0))) mi_X7_lotAt (by decide) ⟨_, rfl, rfl⟩ (Int.not_lt.mp (Int.not_lt.mpr h0)) rfl rfl rfl (Nat.le_of_ble_eq_true rfl) (Nat.le_of_ble_eq_true rfl) (Nat.le_of_ble_eq_true rfl) (Nat.le_of_ble_eq_true rfl) (Nat.le_of_ble_eq_true rfl) dX7_ofLot_2 (fun z1 v1 hz1 => ?_)
  refine g_astore_n F rfl (Nat.le_of_ble_eq_true rfl) (ls' := [(3, (12, z1)), (0, (17, a0)), (1, (0, a1)), (2, (0, a2))]) rfl dX7_ofLot_5 ?_
  refine g_iload_n F rfl 3 rfl rfl dX7_ofLot_6 ?_
  refine g_iconst F 2 rfl dX7_ofLot_7 ?_
  refine g_bipush F rfl (by decide) dX7_ofLot_8 ?_
  refine g_callS F (by decide) [(0, a2), (2, 0), (0, 8)] [0, 0, 0] ml_RX7_42 wt_X7_requireRange (c_X7_requireRange a2 0 8) mi_X7_requireRange rfl rfl rfl (Nat.le_of_ble_eq_true rfl) (Nat.le_of_ble_eq_true rfl) (Nat.le_of_ble_eq_true rfl) (Nat.le_of_ble_eq_true rfl) (Nat.le_of_ble_eq_true rfl) dX7_ofLot_10 (fun z2 v2 hz2 => ?_)
  refine g_iload_n F rfl 3 rfl rfl dX7_ofLot_13 ?_
  refine g_if (fun n3 => ?_) (fun n3 => ?_)
  · refine g_tabIn F rfl (by omega) (by omega) (off := 46) (by rw [n3]; rfl) (tgt := 60) rfl dX7_ofLot_14 ?_
    refine g_aload_n F rfl 0 rfl dX7_ofLot_60 ?_
    refine g_chk (fun n4 => ?_)
    refine g_get F (t := 16) (sI := 1) fl_RX7_267 rfl rfl (Int.not_lt.mp (Int.not_lt.mpr n4)) dX7_ofLot_61 ?_
    refine g_chk (fun n5 => ?_)
    refine g_get F (t := 0) (sI := 0) fl_RX7_79 rfl rfl (Int.not_lt.mp (Int.not_lt.mpr n5)) dX7_ofLot_64 ?_
    exact g_ireturn F rfl rfl rfl rfl (Nat.le_of_ble_eq_true rfl) (Nat.le_of_ble_eq_true rfl) dX7_ofLot_67
  · refine g_if (fun n6 => ?_) (fun n6 => ?_)
    · refine g_tabIn F rfl (by omega) (by omega) (off := 54) (by rw [n6]; rfl) (tgt := 68) rfl dX7_ofLot_14 ?_
      refine g_aload_n F rfl 0 rfl dX7_ofLot_68 ?_
      refine g_chk (fun n7 => ?_)
      refine g_get F (t := 13) (sI := 3) fl_RX7_153 rfl rfl (Int.not_lt.mp (Int.not_lt.mpr n7)) dX7_ofLot_69 ?_
      refine g_chk (fun n8 => ?_)
      refine g_get F (t := 0) (sI := 0) fl_RX7_56 rfl rfl (Int.not_lt.mp (Int.not_lt.mpr n8)) dX7_ofLot_72 ?_
      exact g_ireturn F rfl rfl rfl rfl (Nat.le_of_ble_eq_true rfl) (Nat.le_of_ble_eq_true rfl) dX7_ofLot_75
    · refine g_if (fun n9 => ?_) (fun n9 => ?_)
      · refine g_tabIn F rfl (by omega) (by omega) (off := 62) (by rw [n9]; rfl) (tgt := 76) rfl dX7_ofLot_14 ?_
        refine g_aload_n F rfl 0 rfl dX7_ofLot_76 ?_
        refine g_chk (fun n10 => ?_)
        refine g_get F (t := 0) (sI := 4) fl_RX7_165 rfl rfl (Int.not_lt.mp (Int.not_lt.mpr n10)) dX7_ofLot_77 ?_
        exact g_ireturn F rfl rfl rfl rfl (Nat.le_of_ble_eq_true rfl) (Nat.le_of_ble_eq_true rfl) dX7_ofLot_80
      · refine g_if (fun n11 => ?_) (fun n11 => ?_)
        · refine g_tabIn F rfl (by omega) (by omega) (off := 67) (by rw [n11]; rfl) (tgt := 81) rfl dX7_ofLot_14 ?_
          refine g_aload_n F rfl 0 rfl dX7_ofLot_81 ?_
          refine g_chk (fun n12 => ?_)
          refine g_get F (t := 11) (sI := 5) fl_RX7_218 rfl rfl (Int.not_lt.mp (Int.not_lt.mpr n12)) dX7_ofLot_82 ?_
          refine g_ifnonnull F (tgt := 92) rfl dX7_ofLot_85 (fun n13 => ?_) (fun n13 => ?_)
          · refine g_iconst F 0 rfl dX7_ofLot_88 ?_
            refine g_goto F (tgt := 99) rfl dX7_ofLot_89 ?_
            exact g_ireturn F rfl rfl rfl rfl (Nat.le_of_ble_eq_true rfl) (Nat.le_of_ble_eq_true rfl) dX7_ofLot_99
          · refine g_aload_n F rfl 0 rfl dX7_ofLot_92 ?_
            refine g_get F (t := 11) (sI := 5) fl_RX7_218 rfl rfl (Int.not_lt.mp (Int.not_lt.mpr n12)) dX7_ofLot_93 ?_
            refine g_get F (t := 0) (sI := 0) fl_RX7_238 rfl rfl (Int.not_lt.mp n13) dX7_ofLot_96 ?_
            exact g_ireturn F rfl rfl rfl rfl (Nat.le_of_ble_eq_true rfl) (Nat.le_of_ble_eq_true rfl) dX7_ofLot_99
        · refine g_if (fun n14 => ?_) (fun n14 => ?_)
          · refine g_tabIn F rfl (by omega) (by omega) (off := 86) (by rw [n14]; rfl) (tgt := 100) rfl dX7_ofLot_14 ?_
            refine g_aload_n F rfl 0 rfl dX7_ofLot_100 ?_
            refine g_chk (fun n16 => ?_)
            refine g_callVN F (by decide) (K := 2) (b := z1) [] [] ml_RX7_133 wi_X2_dealer ws_X2_dealer (c_X2_dealer z1  (Int.not_lt.mp (Int.not_lt.mpr n16))) mi_X2_dealer (by decide) ⟨_, rfl, rfl⟩ (Int.not_lt.mp (Int.not_lt.mpr n16)) rfl rfl rfl (Nat.le_of_ble_eq_true rfl) (Nat.le_of_ble_eq_true rfl) (Nat.le_of_ble_eq_true rfl) (Nat.le_of_ble_eq_true rfl) (Nat.le_of_ble_eq_true rfl) dX7_ofLot_101 (fun z15 v15 hz15 => ?_)
            refine g_callS F (by decide) [(13, z15)] [13] ml_RX7_263 wt_X7_numberOf (c_X7_numberOf z15) mi_X7_numberOf rfl rfl rfl (Nat.le_of_ble_eq_true rfl) (Nat.le_of_ble_eq_true rfl) (Nat.le_of_ble_eq_true rfl) (Nat.le_of_ble_eq_true rfl) (Nat.le_of_ble_eq_true rfl) dX7_ofLot_104 (fun z17 v17 hz17 => ?_)
            exact g_ireturn F rfl rfl rfl rfl (Nat.le_of_ble_eq_true rfl) (Nat.le_of_ble_eq_true rfl) dX7_ofLot_107
          · refine g_if (fun n18 => ?_) (fun n18 => ?_)
            · refine g_tabIn F rfl (by omega) (by omega) (off := 94) (by rw [n18]; rfl) (tgt := 108) rfl dX7_ofLot_14 ?_
              refine g_aload_n F rfl 0 rfl dX7_ofLot_108 ?_
              refine g_chk (fun n19 => ?_)
              refine g_get F (t := 12) (sI := 2) fl_RX7_308 rfl rfl (Int.not_lt.mp (Int.not_lt.mpr n19)) dX7_ofLot_109 ?_
              refine g_ifnonnull F (tgt := 119) rfl dX7_ofLot_112 (fun n20 => ?_) (fun n20 => ?_)
              · refine g_iconst F 0 rfl dX7_ofLot_115 ?_
                refine g_goto F (tgt := 126) rfl dX7_ofLot_116 ?_
                exact g_ireturn F rfl rfl rfl rfl (Nat.le_of_ble_eq_true rfl) (Nat.le_of_ble_eq_true rfl) dX7_ofLot_126
              · refine g_aload_n F rfl 0 rfl dX7_ofLot_119 ?_
                refine g_get F (t := 12) (sI := 2) fl_RX7_308 rfl rfl (Int.not_lt.mp (Int.not_lt.mpr n19)) dX7_ofLot_120 ?_
                refine g_get F (t := 0) (sI := 0) fl_RX7_312 rfl rfl (Int.not_lt.mp n20) dX7_ofLot_123 ?_
                exact g_ireturn F rfl rfl rfl rfl (Nat.le_of_ble_eq_true rfl) (Nat.le_of_ble_eq_true rfl) dX7_ofLot_126
            · refine g_if (fun n21 => ?_) (fun n21 => ?_)
              · refine g_tabIn F rfl (by omega) (by omega) (off := 113) (by rw [n21]; rfl) (tgt := 127) rfl dX7_ofLot_14 ?_
                refine g_aload_n F rfl 0 rfl dX7_ofLot_127 ?_
                refine g_chk (fun n22 => ?_)
                refine g_get F (t := 14) (sI := 7) fl_RX7_195 rfl rfl (Int.not_lt.mp (Int.not_lt.mpr n22)) dX7_ofLot_128 ?_
                refine g_ifnonnull F (tgt := 138) rfl dX7_ofLot_131 (fun n23 => ?_) (fun n23 => ?_)
                · refine g_iconst F 0 rfl dX7_ofLot_134 ?_
                  refine g_goto F (tgt := 145) rfl dX7_ofLot_135 ?_
                  exact g_ireturn F rfl rfl rfl rfl (Nat.le_of_ble_eq_true rfl) (Nat.le_of_ble_eq_true rfl) dX7_ofLot_145
                · refine g_aload_n F rfl 0 rfl dX7_ofLot_138 ?_
                  refine g_get F (t := 14) (sI := 7) fl_RX7_195 rfl rfl (Int.not_lt.mp (Int.not_lt.mpr n22)) dX7_ofLot_139 ?_
                  refine g_get F (t := 0) (sI := 0) fl_RX7_313 rfl rfl (Int.not_lt.mp n23) dX7_ofLot_142 ?_
                  exact g_ireturn F rfl rfl rfl rfl (Nat.le_of_ble_eq_true rfl) (Nat.le_of_ble_eq_true rfl) dX7_ofLot_145
              · refine g_if (fun n24 => ?_) (fun n24 => ?_)
                · refine g_tabIn F rfl (by omega) (by omega) (off := 132) (by rw [n24]; rfl) (tgt := 146) rfl dX7_ofLot_14 ?_
                  refine g_aload_n F rfl 0 rfl dX7_ofLot_146 ?_
                  refine g_aload_n F rfl 1 rfl dX7_ofLot_147 ?_
                  refine g_get F (t := 0) (sI := 9) fl_RX7_87 rfl rfl (Int.not_lt.mp (Int.not_lt.mpr h0)) dX7_ofLot_148 ?_
                  refine g_chk (fun n26 => ?_)
                  refine g_callVN F (by decide) (K := 2) (b := z1) [(0, (v2 7 a0 9))] [0] ml_RX7_225 wi_X2_worth ws_X2_worth (c_X2_worth z1 (v2 7 a0 9) (Int.not_lt.mp (Int.not_lt.mpr n26))) mi_X2_worth (by decide) ⟨_, rfl, rfl⟩ (Int.not_lt.mp (Int.not_lt.mpr n26)) rfl rfl rfl (Nat.le_of_ble_eq_true rfl) (Nat.le_of_ble_eq_true rfl) (Nat.le_of_ble_eq_true rfl) (Nat.le_of_ble_eq_true rfl) (Nat.le_of_ble_eq_true rfl) dX7_ofLot_151 (fun z25 v25 hz25 => ?_)
                  exact g_ireturn F rfl rfl rfl rfl (Nat.le_of_ble_eq_true rfl) (Nat.le_of_ble_eq_true rfl) dX7_ofLot_154
                · refine g_tabOut F rfl (by omega) (tgt := 155) rfl dX7_ofLot_14 ?_
                  refine g_aload_n F rfl 0 rfl dX7_ofLot_155 ?_
                  refine g_chk (fun n28 => ?_)
                  refine g_callVN F (by decide) (K := 2) (b := z1) [] [] ml_RX7_316 wi_X2_chain ws_X2_chain (c_X2_chain z1  (Int.not_lt.mp (Int.not_lt.mpr n28))) mi_X2_chain (by decide) ⟨_, rfl, rfl⟩ (Int.not_lt.mp (Int.not_lt.mpr n28)) rfl rfl rfl (Nat.le_of_ble_eq_true rfl) (Nat.le_of_ble_eq_true rfl) (Nat.le_of_ble_eq_true rfl) (Nat.le_of_ble_eq_true rfl) (Nat.le_of_ble_eq_true rfl) dX7_ofLot_156 (fun z27 v27 hz27 => ?_)
                  exact g_ireturn F rfl rfl rfl rfl (Nat.le_of_ble_eq_true rfl) (Nat.le_of_ble_eq_true rfl) dX7_ofLot_159
theorem c_X7_ofLot (a0 a1 a2 : Int) (h0 : 0 ≤ a0) : ∀ l, Ct l yX7_ofLot cX7_ofLot 4 (some .int) ({ frames := 7, cells := 2, slots := 12, locals := 104 }) (some 0) [(17, a0), (0, a1), (0, a2)] (sp_X7_ofLot a0 a1 a2) := g_method (by decide +kernel) (Nat.le_of_ble_eq_true rfl) (fun x v F ho => k_X7_ofLot a0 a1 a2 h0 x v F ho)
def sp_X7_ofLoan (a0 a1 a2 : Int) (v : V) : Res := (rB (sp_X7_loanAt a0 a1 v) (fun z1 v1 => (rB (sp_X7_requireRange a2 0 5 v1) (fun z2 v2 => (if a2 = 0 then (chk (0 ≤ z1) (chk (0 ≤ (v2 1 z1 1)) (rOk (v2 3 (v2 1 z1 1) 0) v2)))
   else (if a2 = 1 then (chk (0 ≤ z1) (chk (0 ≤ (v2 1 z1 6)) (rOk (v2 3 (v2 1 z1 6) 0) v2)))
   else (if a2 = 2 then (chk (0 ≤ z1) (rB (sp_X1_owed z1 (v2 7 a0 9) v2) (fun z10 v10 => (rOk z10 v10))))
   else (if a2 = 3 then (chk (0 ≤ z1) (rOk (v2 1 z1 5) v2))
   else (if a2 = 4 then (rB (sp_X7_isSeizable a0 z1 v2) (fun z15 v15 => (rB (sp_X7_flag z15 v15) (fun z16 v16 => (rOk z16 v16)))))
   else (chk (0 ≤ z1) (rB (sp_X7_flag (v2 1 z1 7) v2) (fun z18 v18 => (rOk z18 v18)))))))))))))
set_option maxRecDepth 100000 in
set_option maxHeartbeats 4000000 in
theorem k_X7_ofLoan (a0 a1 a2 : Int) (h0 : 0 ≤ a0) (x : Cx) (v : V) (F : Fx x cX7_ofLoan RX7 "ofLoan" ({ frames := 7, cells := 2, slots := 12, locals := 112 }) 4 (some 0) (some .int) 0) (ho : ∀ a ∈ [(17, a0), (0, a1), (0, a2)], okv v a) : Gs x (sp_X7_ofLoan a0 a1 a2 v) v 0 0 0 (avArgs 0 [(17, a0), (0, a1), (0, a2)]) [] := by
  show Gs x _ v 0 0 0 [(0, (17, a0)), (1, (0, a1)), (2, (0, a2))] []
  unfold sp_X7_ofLoan
  refine g_aload_n F rfl 0 rfl dX7_ofLoan_0 ?_
  refine g_iload_n F rfl 1 rfl rfl dX7_ofLoan_1 ?_
  refine g_callV F (by decide) (K := 7) (b := a0) [(0, a1)] [0] ml_RX7_239 wi_X7_loanAt ws_X7_loanAt (c_X7_loanAt a0 a1 (Int.not_lt.mp (Int.not_lt.mpr h0))) mi_X7_loanAt (by decide) ⟨_, rfl, rfl⟩ (Int.not_lt.mp (Int.not_lt.mpr h0)) rfl rfl rfl (Nat.le_of_ble_eq_true rfl) (Nat.le_of_ble_eq_true rfl) (Nat.le_of_ble_eq_true rfl) (Nat.le_of_ble_eq_true rfl) (Nat.le_of_ble_eq_true rfl) dX7_ofLoan_2 (fun z1 v1 hz1 => ?_)
  refine g_astore_n F rfl (Nat.le_of_ble_eq_true rfl) (ls' := [(3, (11, z1)), (0, (17, a0)), (1, (0, a1)), (2, (0, a2))]) rfl dX7_ofLoan_5 ?_
  refine g_iload_n F rfl 3 rfl rfl dX7_ofLoan_6 ?_
  refine g_iconst F 2 rfl dX7_ofLoan_7 ?_
  refine g_iconst F 0 rfl dX7_ofLoan_8 ?_
  refine g_callS F (by decide) [(0, a2), (2, 0), (0, 5)] [0, 0, 0] ml_RX7_42 wt_X7_requireRange (c_X7_requireRange a2 0 5) mi_X7_requireRange rfl rfl rfl (Nat.le_of_ble_eq_true rfl) (Nat.le_of_ble_eq_true rfl) (Nat.le_of_ble_eq_true rfl) (Nat.le_of_ble_eq_true rfl) (Nat.le_of_ble_eq_true rfl) dX7_ofLoan_9 (fun z2 v2 hz2 => ?_)
  refine g_iload_n F rfl 3 rfl rfl dX7_ofLoan_12 ?_
  refine g_if (fun n3 => ?_) (fun n3 => ?_)
  · refine g_tabIn F rfl (by omega) (by omega) (off := 35) (by rw [n3]; rfl) (tgt := 48) rfl dX7_ofLoan_13 ?_
    refine g_aload_n F rfl 0 rfl dX7_ofLoan_48 ?_
    refine g_chk (fun n4 => ?_)
    refine g_get F (t := 13) (sI := 1) fl_RX7_249 rfl rfl (Int.not_lt.mp (Int.not_lt.mpr n4)) dX7_ofLoan_49 ?_
    refine g_chk (fun n5 => ?_)
    refine g_get F (t := 0) (sI := 0) fl_RX7_56 rfl rfl (Int.not_lt.mp (Int.not_lt.mpr n5)) dX7_ofLoan_52 ?_
    exact g_ireturn F rfl rfl rfl rfl (Nat.le_of_ble_eq_true rfl) (Nat.le_of_ble_eq_true rfl) dX7_ofLoan_55
  · refine g_if (fun n6 => ?_) (fun n6 => ?_)
    · refine g_tabIn F rfl (by omega) (by omega) (off := 43) (by rw [n6]; rfl) (tgt := 56) rfl dX7_ofLoan_13 ?_
      refine g_aload_n F rfl 0 rfl dX7_ofLoan_56 ?_
      refine g_chk (fun n7 => ?_)
      refine g_get F (t := 13) (sI := 6) fl_RX7_252 rfl rfl (Int.not_lt.mp (Int.not_lt.mpr n7)) dX7_ofLoan_57 ?_
      refine g_chk (fun n8 => ?_)
      refine g_get F (t := 0) (sI := 0) fl_RX7_56 rfl rfl (Int.not_lt.mp (Int.not_lt.mpr n8)) dX7_ofLoan_60 ?_
      exact g_ireturn F rfl rfl rfl rfl (Nat.le_of_ble_eq_true rfl) (Nat.le_of_ble_eq_true rfl) dX7_ofLoan_63
    · refine g_if (fun n9 => ?_) (fun n9 => ?_)
      · refine g_tabIn F rfl (by omega) (by omega) (off := 51) (by rw [n9]; rfl) (tgt := 64) rfl dX7_ofLoan_13 ?_
        refine g_aload_n F rfl 0 rfl dX7_ofLoan_64 ?_
        refine g_aload_n F rfl 1 rfl dX7_ofLoan_65 ?_
        refine g_get F (t := 0) (sI := 9) fl_RX7_87 rfl rfl (Int.not_lt.mp (Int.not_lt.mpr h0)) dX7_ofLoan_66 ?_
        refine g_chk (fun n11 => ?_)
        refine g_callVN F (by decide) (K := 1) (b := z1) [(0, (v2 7 a0 9))] [0] ml_RX7_243 wi_X1_owed ws_X1_owed (c_X1_owed z1 (v2 7 a0 9) (Int.not_lt.mp (Int.not_lt.mpr n11))) mi_X1_owed (by decide) ⟨_, rfl, rfl⟩ (Int.not_lt.mp (Int.not_lt.mpr n11)) rfl rfl rfl (Nat.le_of_ble_eq_true rfl) (Nat.le_of_ble_eq_true rfl) (Nat.le_of_ble_eq_true rfl) (Nat.le_of_ble_eq_true rfl) (Nat.le_of_ble_eq_true rfl) dX7_ofLoan_69 (fun z10 v10 hz10 => ?_)
        exact g_ireturn F rfl rfl rfl rfl (Nat.le_of_ble_eq_true rfl) (Nat.le_of_ble_eq_true rfl) dX7_ofLoan_72
      · refine g_if (fun n12 => ?_) (fun n12 => ?_)
        · refine g_tabIn F rfl (by omega) (by omega) (off := 60) (by rw [n12]; rfl) (tgt := 73) rfl dX7_ofLoan_13 ?_
          refine g_aload_n F rfl 0 rfl dX7_ofLoan_73 ?_
          refine g_chk (fun n13 => ?_)
          refine g_get F (t := 0) (sI := 5) fl_RX7_320 rfl rfl (Int.not_lt.mp (Int.not_lt.mpr n13)) dX7_ofLoan_74 ?_
          exact g_ireturn F rfl rfl rfl rfl (Nat.le_of_ble_eq_true rfl) (Nat.le_of_ble_eq_true rfl) dX7_ofLoan_77
        · refine g_if (fun n14 => ?_) (fun n14 => ?_)
          · refine g_tabIn F rfl (by omega) (by omega) (off := 65) (by rw [n14]; rfl) (tgt := 78) rfl dX7_ofLoan_13 ?_
            refine g_aload_n F rfl 1 rfl dX7_ofLoan_78 ?_
            refine g_aload_n F rfl 0 rfl dX7_ofLoan_79 ?_
            refine g_callV F (by decide) (K := 7) (b := a0) [(11, z1)] [11] ml_RX7_259 wi_X7_isSeizable ws_X7_isSeizable (c_X7_isSeizable a0 z1 (Int.not_lt.mp (Int.not_lt.mpr h0))) mi_X7_isSeizable (by decide) ⟨_, rfl, rfl⟩ (Int.not_lt.mp (Int.not_lt.mpr h0)) rfl rfl rfl (Nat.le_of_ble_eq_true rfl) (Nat.le_of_ble_eq_true rfl) (Nat.le_of_ble_eq_true rfl) (Nat.le_of_ble_eq_true rfl) (Nat.le_of_ble_eq_true rfl) dX7_ofLoan_80 (fun z15 v15 hz15 => ?_)
            refine g_callS F (by decide) [(2, z15)] [2] ml_RX7_289 wt_X7_flag (c_X7_flag z15) mi_X7_flag rfl rfl rfl (Nat.le_of_ble_eq_true rfl) (Nat.le_of_ble_eq_true rfl) (Nat.le_of_ble_eq_true rfl) (Nat.le_of_ble_eq_true rfl) (Nat.le_of_ble_eq_true rfl) dX7_ofLoan_83 (fun z16 v16 hz16 => ?_)
            exact g_ireturn F rfl rfl rfl rfl (Nat.le_of_ble_eq_true rfl) (Nat.le_of_ble_eq_true rfl) dX7_ofLoan_86
          · refine g_tabOut F rfl (by omega) (tgt := 87) rfl dX7_ofLoan_13 ?_
            refine g_aload_n F rfl 0 rfl dX7_ofLoan_87 ?_
            refine g_chk (fun n17 => ?_)
            refine g_get F (t := 2) (sI := 7) fl_RX7_246 rfl rfl (Int.not_lt.mp (Int.not_lt.mpr n17)) dX7_ofLoan_88 ?_
            refine g_callS F (by decide) [(2, (v2 1 z1 7))] [2] ml_RX7_289 wt_X7_flag (c_X7_flag (v2 1 z1 7)) mi_X7_flag rfl rfl rfl (Nat.le_of_ble_eq_true rfl) (Nat.le_of_ble_eq_true rfl) (Nat.le_of_ble_eq_true rfl) (Nat.le_of_ble_eq_true rfl) (Nat.le_of_ble_eq_true rfl) dX7_ofLoan_91 (fun z18 v18 hz18 => ?_)
            exact g_ireturn F rfl rfl rfl rfl (Nat.le_of_ble_eq_true rfl) (Nat.le_of_ble_eq_true rfl) dX7_ofLoan_94
theorem c_X7_ofLoan (a0 a1 a2 : Int) (h0 : 0 ≤ a0) : ∀ l, Ct l yX7_ofLoan cX7_ofLoan 4 (some .int) ({ frames := 7, cells := 2, slots := 12, locals := 112 }) (some 0) [(17, a0), (0, a1), (0, a2)] (sp_X7_ofLoan a0 a1 a2) := g_method (by decide +kernel) (Nat.le_of_ble_eq_true rfl) (fun x v F ho => k_X7_ofLoan a0 a1 a2 h0 x v F ho)
def sp_X7_doubt (a0 a1 a2 : Int) (v : V) : Res := (rB (sp_X7_workAt a0 a1 v) (fun z1 v1 => (rB (sp_X7_requireRange a2 0 (v1 7 a0 9) v1) (fun z2 v2 => (chk (0 ≤ z1) (rB (sp_X6_doubtOn z1 a2 v2) (fun z3 v3 => (rOk z3 v3))))))))
set_option maxRecDepth 100000 in
set_option maxHeartbeats 4000000 in
theorem k_X7_doubt (a0 a1 a2 : Int) (h0 : 0 ≤ a0) (x : Cx) (v : V) (F : Fx x cX7_doubt RX7 "doubt" ({ frames := 7, cells := 2, slots := 12, locals := 104 }) 4 (some 0) (some .int) 0) (ho : ∀ a ∈ [(17, a0), (0, a1), (0, a2)], okv v a) : Gs x (sp_X7_doubt a0 a1 a2 v) v 0 0 0 (avArgs 0 [(17, a0), (0, a1), (0, a2)]) [] := by
  show Gs x _ v 0 0 0 [(0, (17, a0)), (1, (0, a1)), (2, (0, a2))] []
  unfold sp_X7_doubt
  refine g_aload_n F rfl 0 rfl dX7_doubt_0 ?_
  refine g_iload_n F rfl 1 rfl rfl dX7_doubt_1 ?_
  refine g_callV F (by decide) (K := 7) (b := a0) [(0, a1)] [0] ml_RX7_80 wi_X7_workAt ws_X7_workAt (c_X7_workAt a0 a1 (Int.not_lt.mp (Int.not_lt.mpr h0))) mi_X7_workAt (by decide) ⟨_, rfl, rfl⟩ (Int.not_lt.mp (Int.not_lt.mpr h0)) rfl rfl rfl (Nat.le_of_ble_eq_true rfl) (Nat.le_of_ble_eq_true rfl) (Nat.le_of_ble_eq_true rfl) (Nat.le_of_ble_eq_true rfl) (Nat.le_of_ble_eq_true rfl) dX7_doubt_2 (fun z1 v1 hz1 => ?_)
  refine g_astore_n F rfl (Nat.le_of_ble_eq_true rfl) (ls' := [(3, (16, z1)), (0, (17, a0)), (1, (0, a1)), (2, (0, a2))]) rfl dX7_doubt_5 ?_
  refine g_iload_n F rfl 3 rfl rfl dX7_doubt_6 ?_
  refine g_iconst F 2 rfl dX7_doubt_7 ?_
  refine g_aload_n F rfl 1 rfl dX7_doubt_8 ?_
  refine g_get F (t := 0) (sI := 9) fl_RX7_87 rfl rfl (Int.not_lt.mp (Int.not_lt.mpr h0)) dX7_doubt_9 ?_
  refine g_callS F (by decide) [(0, a2), (2, 0), (0, (v1 7 a0 9))] [0, 0, 0] ml_RX7_42 wt_X7_requireRange (c_X7_requireRange a2 0 (v1 7 a0 9)) mi_X7_requireRange rfl rfl rfl (Nat.le_of_ble_eq_true rfl) (Nat.le_of_ble_eq_true rfl) (Nat.le_of_ble_eq_true rfl) (Nat.le_of_ble_eq_true rfl) (Nat.le_of_ble_eq_true rfl) dX7_doubt_12 (fun z2 v2 hz2 => ?_)
  refine g_aload_n F rfl 0 rfl dX7_doubt_15 ?_
  refine g_iload_n F rfl 3 rfl rfl dX7_doubt_16 ?_
  refine g_chk (fun n4 => ?_)
  refine g_callVN F (by decide) (K := 6) (b := z1) [(0, a2)] [0] ml_RX7_323 wi_X6_doubtOn ws_X6_doubtOn (c_X6_doubtOn z1 a2 (Int.not_lt.mp (Int.not_lt.mpr n4))) mi_X6_doubtOn (by decide) ⟨_, rfl, rfl⟩ (Int.not_lt.mp (Int.not_lt.mpr n4)) rfl rfl rfl (Nat.le_of_ble_eq_true rfl) (Nat.le_of_ble_eq_true rfl) (Nat.le_of_ble_eq_true rfl) (Nat.le_of_ble_eq_true rfl) (Nat.le_of_ble_eq_true rfl) dX7_doubt_17 (fun z3 v3 hz3 => ?_)
  exact g_ireturn F rfl rfl rfl rfl (Nat.le_of_ble_eq_true rfl) (Nat.le_of_ble_eq_true rfl) dX7_doubt_20
theorem c_X7_doubt (a0 a1 a2 : Int) (h0 : 0 ≤ a0) : ∀ l, Ct l yX7_doubt cX7_doubt 4 (some .int) ({ frames := 7, cells := 2, slots := 12, locals := 104 }) (some 0) [(17, a0), (0, a1), (0, a2)] (sp_X7_doubt a0 a1 a2) := g_method (by decide +kernel) (Nat.le_of_ble_eq_true rfl) (fun x v F ho => k_X7_doubt a0 a1 a2 h0 x v F ho)
def lp_X7_gaps_18 (l0 l1 l2 l3 l4 : Int) (k : V → Int → Int → Res) : Nat → V → Int → Int → Res
  | 0, _, _, _ => none
  | n + 1, v, l5, l6 => (if l3 < l6 then (k v l5 l6)
   else (chk (0 ≤ l4) (chk (0 ≤ (v 6 l4 3)) (chk (0 ≤ (w32 (l6 - 1900)) ∧ (w32 (l6 - 1900)) < 101) (if ¬ (v 16 (v 6 l4 3) (w32 (l6 - 1900))) = 0 then (lp_X7_gaps_18 l0 l1 l2 l3 l4 k n v l5 (w32 (l6 + 1)))
   else (lp_X7_gaps_18 l0 l1 l2 l3 l4 k n v (w32 (l5 + 1)) (w32 (l6 + 1))))))))
set_option maxRecDepth 100000 in
set_option maxHeartbeats 4000000 in
theorem kl_X7_gaps_18 {l0 l1 l2 l3 l4 : Int} (h0 : 0 ≤ l0) {x : Cx} (F : Fx x cX7_gaps RX7 "gaps" ({ frames := 8, cells := 3, slots := 18, locals := 125 }) 7 (some 0) (some .int) 0) {k : V → Int → Int → Res} (hk : ∀ (v : V) (l5 l6 : Int), Gs x (k v l5 l6) v 3 18 48 [(0, (17, l0)), (1, (0, l1)), (2, (0, l2)), (3, (0, l3)), (4, (16, l4)), (5, (0, l5)), (6, (0, l6))] []) : ∀ (n : Nat) (v : V) (l5 l6 : Int), Gs x (lp_X7_gaps_18 l0 l1 l2 l3 l4 k n v l5 l6) v 3 18 18 [(0, (17, l0)), (1, (0, l1)), (2, (0, l2)), (3, (0, l3)), (4, (16, l4)), (5, (0, l5)), (6, (0, l6))] [] := by
  intro n
  induction n with
  | zero => intro v l5 l6; exact g_none
  | succ n ih =>
    intro v l5 l6
    rw [lp_X7_gaps_18]
    refine g_iload F 6 rfl rfl dX7_gaps_18 ?_
    refine g_iload_n F rfl 3 rfl rfl dX7_gaps_20 ?_
    refine g_icmp_gt F rfl rfl (tgt := 48) rfl dX7_gaps_21 (fun n3 => ?_) (fun n3 => ?_)
    · refine g_loc [(0, 17), (1, 0), (2, 0), (3, 0), (4, 16), (5, 0), (6, 0)] rfl ?_
      exact hk v l5 l6
    · refine g_aload F 4 rfl dX7_gaps_24 ?_
      refine g_chk (fun n4 => ?_)
      refine g_get F (t := 26) (sI := 3) fl_RX7_109 rfl rfl (Int.not_lt.mp (Int.not_lt.mpr n4)) dX7_gaps_26 ?_
      refine g_iload F 6 rfl rfl dX7_gaps_29 ?_
      refine g_sipush F rfl (by decide) dX7_gaps_31 ?_
      refine g_isub F rfl rfl dX7_gaps_34 ?_
      refine g_chk (fun n5 => ?_)
      refine g_chk (fun n6 => ?_)
      refine h_zald F (n := 101) ak_16 (Int.not_lt.mp (Int.not_lt.mpr n5)) n6 rfl dX7_gaps_35 ?_
      refine g_if_ne F rfl (tgt := 42) rfl dX7_gaps_36 (fun n7 => ?_) (fun n7 => ?_)
      · refine g_iinc F 6 rfl rfl (Nat.le_of_ble_eq_true rfl) (ls' := [(6, (0, (w32 (l6 + 1)))), (0, (17, l0)), (1, (0, l1)), (2, (0, l2)), (3, (0, l3)), (4, (16, l4)), (5, (0, l5))]) rfl dX7_gaps_42 ?_
        refine g_goto F (tgt := 18) rfl dX7_gaps_45 ?_
        refine g_loc [(1, 17), (2, 0), (3, 0), (4, 0), (5, 16), (6, 0), (0, 0)] rfl ?_
        exact ih v l5 (w32 (l6 + 1))
      · refine g_iinc F 5 rfl rfl (Nat.le_of_ble_eq_true rfl) (ls' := [(5, (0, (w32 (l5 + 1)))), (0, (17, l0)), (1, (0, l1)), (2, (0, l2)), (3, (0, l3)), (4, (16, l4)), (6, (0, l6))]) rfl dX7_gaps_39 ?_
        refine g_iinc F 6 rfl rfl (Nat.le_of_ble_eq_true rfl) (ls' := [(6, (0, (w32 (l6 + 1)))), (5, (0, (w32 (l5 + 1)))), (0, (17, l0)), (1, (0, l1)), (2, (0, l2)), (3, (0, l3)), (4, (16, l4))]) rfl dX7_gaps_42 ?_
        refine g_goto F (tgt := 18) rfl dX7_gaps_45 ?_
        refine g_loc [(2, 17), (3, 0), (4, 0), (5, 0), (6, 16), (1, 0), (0, 0)] rfl ?_
        exact ih v (w32 (l5 + 1)) (w32 (l6 + 1))
def sp_X7_gaps (a0 a1 a2 a3 : Int) (v : V) : Res := (rB (sp_X7_workAt a0 a1 v) (fun z1 v1 => (rB (sp_X7_requireYears a2 a3 v1) (fun z2 v2 => (lp_X7_gaps_18 a0 a1 a2 a3 z1 (fun v8 u8_5 u8_6 => (rOk u8_5 v8)) 200 v2 0 a2)))))
set_option maxRecDepth 100000 in
set_option maxHeartbeats 4000000 in
theorem k_X7_gaps (a0 a1 a2 a3 : Int) (h0 : 0 ≤ a0) (x : Cx) (v : V) (F : Fx x cX7_gaps RX7 "gaps" ({ frames := 8, cells := 3, slots := 18, locals := 125 }) 7 (some 0) (some .int) 0) (ho : ∀ a ∈ [(17, a0), (0, a1), (0, a2), (0, a3)], okv v a) : Gs x (sp_X7_gaps a0 a1 a2 a3 v) v 0 0 0 (avArgs 0 [(17, a0), (0, a1), (0, a2), (0, a3)]) [] := by
  show Gs x _ v 0 0 0 [(0, (17, a0)), (1, (0, a1)), (2, (0, a2)), (3, (0, a3))] []
  unfold sp_X7_gaps
  refine g_aload_n F rfl 0 rfl dX7_gaps_0 ?_
  refine g_iload_n F rfl 1 rfl rfl dX7_gaps_1 ?_
  refine g_callV F (by decide) (K := 7) (b := a0) [(0, a1)] [0] ml_RX7_80 wi_X7_workAt ws_X7_workAt (c_X7_workAt a0 a1 (Int.not_lt.mp (Int.not_lt.mpr h0))) mi_X7_workAt (by decide) ⟨_, rfl, rfl⟩ (Int.not_lt.mp (Int.not_lt.mpr h0)) rfl rfl rfl (Nat.le_of_ble_eq_true rfl) (Nat.le_of_ble_eq_true rfl) (Nat.le_of_ble_eq_true rfl) (Nat.le_of_ble_eq_true rfl) (Nat.le_of_ble_eq_true rfl) dX7_gaps_2 (fun z1 v1 hz1 => ?_)
  refine g_astore F (Nat.le_of_ble_eq_true rfl) (ls' := [(4, (16, z1)), (0, (17, a0)), (1, (0, a1)), (2, (0, a2)), (3, (0, a3))]) rfl dX7_gaps_5 ?_
  refine g_iload_n F rfl 3 rfl rfl dX7_gaps_7 ?_
  refine g_iload_n F rfl 4 rfl rfl dX7_gaps_8 ?_
  refine g_callS F (by decide) [(0, a2), (0, a3)] [0, 0] ml_RX7_105 wt_X7_requireYears (c_X7_requireYears a2 a3) mi_X7_requireYears rfl rfl rfl (Nat.le_of_ble_eq_true rfl) (Nat.le_of_ble_eq_true rfl) (Nat.le_of_ble_eq_true rfl) (Nat.le_of_ble_eq_true rfl) (Nat.le_of_ble_eq_true rfl) dX7_gaps_9 (fun z2 v2 hz2 => ?_)
  refine g_iconst F 2 rfl dX7_gaps_12 ?_
  refine g_istore F rfl (Nat.le_of_ble_eq_true rfl) (ls' := [(5, (2, 0)), (4, (16, z1)), (0, (17, a0)), (1, (0, a1)), (2, (0, a2)), (3, (0, a3))]) rfl dX7_gaps_13 ?_
  refine g_iload_n F rfl 4 rfl rfl dX7_gaps_15 ?_
  refine g_istore F rfl (Nat.le_of_ble_eq_true rfl) (ls' := [(6, (0, a2)), (5, (2, 0)), (4, (16, z1)), (0, (17, a0)), (1, (0, a1)), (2, (0, a2)), (3, (0, a3))]) rfl dX7_gaps_16 ?_
  refine g_loc [(3, 17), (4, 0), (5, 0), (6, 0), (2, 16), (1, 0), (0, 0)] rfl ?_
  refine kl_X7_gaps_18 (Int.not_lt.mp (Int.not_lt.mpr h0)) F (fun v8 u8_5 u8_6 => ?_) 200 v2 0 a2
  refine g_iload F 5 rfl rfl dX7_gaps_48 ?_
  exact g_ireturn F rfl rfl rfl rfl (Nat.le_of_ble_eq_true rfl) (Nat.le_of_ble_eq_true rfl) dX7_gaps_50
theorem c_X7_gaps (a0 a1 a2 a3 : Int) (h0 : 0 ≤ a0) : ∀ l, Ct l yX7_gaps cX7_gaps 7 (some .int) ({ frames := 8, cells := 3, slots := 18, locals := 125 }) (some 0) [(17, a0), (0, a1), (0, a2), (0, a3)] (sp_X7_gaps a0 a1 a2 a3) := g_method (by decide +kernel) (Nat.le_of_ble_eq_true rfl) (fun x v F ho => k_X7_gaps a0 a1 a2 a3 h0 x v F ho)
def lp_X7_index_7 (l0 : Int) (k : V → Int → Int → Int → Res) : Nat → V → Int → Int → Int → Res
  | 0, _, _, _, _ => none
  | n + 1, v, l1, l3, l4 => (if (v 7 l0 7) ≤ l4 then (k v l1 l3 l4)
   else (chk (0 ≤ (v 7 l0 2)) (chk (0 ≤ l4 ∧ l4 < 60) (chk (0 ≤ (v 12 (v 7 l0 2) l4)) (rB (sp_X2_saleAhead (v 12 (v 7 l0 2) l4)  v) (fun z5 v5 => (if (v 2 (v 12 (v 7 l0 2) l4) 7) < 0 then (lp_X7_index_7 l0 k n v5 l1 l3 (w32 (l4 + 1)))
   else (if z5 < 0 then (lp_X7_index_7 l0 k n v5 l1 l3 (w32 (l4 + 1)))
   else (if (v5 4 (v 2 (v 12 (v 7 l0 2) l4) 7) 1) ≤ 0 then (lp_X7_index_7 l0 k n v5 l1 l3 (w32 (l4 + 1)))
   else (if (v5 4 z5 1) ≤ 0 then (lp_X7_index_7 l0 k n v5 l1 l3 (w32 (l4 + 1)))
   else (rB (sp_X4_riseSince (v 2 (v 12 (v 7 l0 2) l4) 7) z5 v5) (fun z10 v10 => (lp_X7_index_7 l0 k n v10 (w64 (l1 + z10)) (w32 (l3 + 1)) (w32 (l4 + 1)))))))))))))))
set_option maxRecDepth 100000 in
set_option maxHeartbeats 4000000 in
theorem kl_X7_index_7 {l0 : Int} (h0 : 0 ≤ l0) {x : Cx} (F : Fx x cX7_index RX7 "index" ({ frames := 1, cells := 0, slots := 0, locals := 23 }) 7 (some 1) (some .long) 0) {k : V → Int → Int → Int → Res} (hk : ∀ (v : V) (l1 l3 l4 : Int), Gs x (k v l1 l3 l4) v 0 0 85 [(0, (17, l0)), (1, (1, l1)), (3, (0, l3)), (4, (0, l4))] []) : ∀ (n : Nat) (v : V) (l1 l3 l4 : Int), Gs x (lp_X7_index_7 l0 k n v l1 l3 l4) v 0 0 7 [(0, (17, l0)), (1, (1, l1)), (3, (0, l3)), (4, (0, l4))] [] := by
  intro n
  induction n with
  | zero => intro v l1 l3 l4; exact g_none
  | succ n ih =>
    intro v l1 l3 l4
    rw [lp_X7_index_7]
    refine g_iload F 3 rfl rfl dX7_index_7 ?_
    refine g_aload_n F rfl 0 rfl dX7_index_9 ?_
    refine g_get F (t := 0) (sI := 7) fl_RX7_66 rfl rfl (Int.not_lt.mp (Int.not_lt.mpr h0)) dX7_index_10 ?_
    refine g_icmp_ge F rfl rfl (tgt := 85) rfl dX7_index_13 (fun n1 => ?_) (fun n1 => ?_)
    · refine g_loc [(0, 17), (1, 1), (2, 0), (3, 0)] rfl ?_
      exact hk v l1 l3 l4
    · refine g_aload_n F rfl 0 rfl dX7_index_16 ?_
      refine g_get F (t := 22) (sI := 2) fl_RX7_23 rfl rfl (Int.not_lt.mp (Int.not_lt.mpr h0)) dX7_index_17 ?_
      refine g_iload F 3 rfl rfl dX7_index_20 ?_
      refine g_chk (fun n2 => ?_)
      refine g_chk (fun n3 => ?_)
      refine h_aald F (n := 60) ak_12 (Int.not_lt.mp (Int.not_lt.mpr n2)) n3 rfl dX7_index_22 ?_
      refine g_chk (fun n4 => ?_)
      refine g_get F (t := 14) (sI := 7) fl_RX7_195 rfl rfl (Int.not_lt.mp (Int.not_lt.mpr n4)) dX7_index_23 ?_
      refine g_astore F (Nat.le_of_ble_eq_true rfl) (ls' := [(5, (14, (v 2 (v 12 (v 7 l0 2) l4) 7))), (0, (17, l0)), (1, (1, l1)), (3, (0, l3)), (4, (0, l4))]) rfl dX7_index_26 ?_
      refine g_aload_n F rfl 1 rfl dX7_index_28 ?_
      refine g_get F (t := 22) (sI := 2) fl_RX7_23 rfl rfl (Int.not_lt.mp (Int.not_lt.mpr h0)) dX7_index_29 ?_
      refine g_iload F 4 rfl rfl dX7_index_32 ?_
      refine h_aald F (n := 60) ak_12 (Int.not_lt.mp (Int.not_lt.mpr n2)) n3 rfl dX7_index_34 ?_
      refine g_callVN F (by decide) (K := 2) (b := (v 12 (v 7 l0 2) l4)) [] [] ml_RX7_326 wi_X2_saleAhead ws_X2_saleAhead (c_X2_saleAhead (v 12 (v 7 l0 2) l4)  (Int.not_lt.mp (Int.not_lt.mpr n4))) mi_X2_saleAhead (by decide) ⟨_, rfl, rfl⟩ (Int.not_lt.mp (Int.not_lt.mpr n4)) rfl rfl rfl (Nat.le_of_ble_eq_true rfl) (Nat.le_of_ble_eq_true rfl) (Nat.le_of_ble_eq_true rfl) (Nat.le_of_ble_eq_true rfl) (Nat.le_of_ble_eq_true rfl) dX7_index_35 (fun z5 v5 hz5 => ?_)
      refine g_astore F (Nat.le_of_ble_eq_true rfl) (ls' := [(6, (14, z5)), (5, (14, (v 2 (v 12 (v 7 l0 2) l4) 7))), (0, (17, l0)), (1, (1, l1)), (3, (0, l3)), (4, (0, l4))]) rfl dX7_index_38 ?_
      refine g_aload F 1 rfl dX7_index_40 ?_
      refine g_ifnull F (tgt := 79) rfl dX7_index_42 (fun n6 => ?_) (fun n6 => ?_)
      · refine g_iinc F 5 rfl rfl (Nat.le_of_ble_eq_true rfl) (ls' := [(4, (0, (w32 (l4 + 1)))), (6, (14, z5)), (5, (14, (v 2 (v 12 (v 7 l0 2) l4) 7))), (0, (17, l0)), (1, (1, l1)), (3, (0, l3))]) rfl dX7_index_79 ?_
        refine g_goto F (tgt := 7) rfl dX7_index_82 ?_
        refine g_loc [(3, 17), (4, 1), (5, 0), (0, 0)] rfl ?_
        exact ih v5 l1 l3 (w32 (l4 + 1))
      · refine g_aload F 0 rfl dX7_index_45 ?_
        refine g_ifnull F (tgt := 79) rfl dX7_index_47 (fun n7 => ?_) (fun n7 => ?_)
        · refine g_iinc F 5 rfl rfl (Nat.le_of_ble_eq_true rfl) (ls' := [(4, (0, (w32 (l4 + 1)))), (6, (14, z5)), (5, (14, (v 2 (v 12 (v 7 l0 2) l4) 7))), (0, (17, l0)), (1, (1, l1)), (3, (0, l3))]) rfl dX7_index_79 ?_
          refine g_goto F (tgt := 7) rfl dX7_index_82 ?_
          refine g_loc [(3, 17), (4, 1), (5, 0), (0, 0)] rfl ?_
          exact ih v5 l1 l3 (w32 (l4 + 1))
        · refine g_aload F 1 rfl dX7_index_50 ?_
          refine g_get F (t := 0) (sI := 1) fl_RX7_274 rfl rfl (Int.not_lt.mp n6) dX7_index_52 ?_
          refine g_if_le F rfl (tgt := 79) rfl dX7_index_55 (fun n8 => ?_) (fun n8 => ?_)
          · refine g_iinc F 5 rfl rfl (Nat.le_of_ble_eq_true rfl) (ls' := [(4, (0, (w32 (l4 + 1)))), (6, (14, z5)), (5, (14, (v 2 (v 12 (v 7 l0 2) l4) 7))), (0, (17, l0)), (1, (1, l1)), (3, (0, l3))]) rfl dX7_index_79 ?_
            refine g_goto F (tgt := 7) rfl dX7_index_82 ?_
            refine g_loc [(3, 17), (4, 1), (5, 0), (0, 0)] rfl ?_
            exact ih v5 l1 l3 (w32 (l4 + 1))
          · refine g_aload F 0 rfl dX7_index_58 ?_
            refine g_get F (t := 0) (sI := 1) fl_RX7_274 rfl rfl (Int.not_lt.mp n7) dX7_index_60 ?_
            refine g_if_le F rfl (tgt := 79) rfl dX7_index_63 (fun n9 => ?_) (fun n9 => ?_)
            · refine g_iinc F 5 rfl rfl (Nat.le_of_ble_eq_true rfl) (ls' := [(4, (0, (w32 (l4 + 1)))), (6, (14, z5)), (5, (14, (v 2 (v 12 (v 7 l0 2) l4) 7))), (0, (17, l0)), (1, (1, l1)), (3, (0, l3))]) rfl dX7_index_79 ?_
              refine g_goto F (tgt := 7) rfl dX7_index_82 ?_
              refine g_loc [(3, 17), (4, 1), (5, 0), (0, 0)] rfl ?_
              exact ih v5 l1 l3 (w32 (l4 + 1))
            · refine g_lload_n F rfl 3 rfl dX7_index_66 ?_
              refine g_aload F 1 rfl dX7_index_67 ?_
              refine g_aload F 0 rfl dX7_index_69 ?_
              refine g_callVN F (by decide) (K := 4) (b := (v 2 (v 12 (v 7 l0 2) l4) 7)) [(14, z5)] [14] ml_RX7_330 wi_X4_riseSince ws_X4_riseSince (c_X4_riseSince (v 2 (v 12 (v 7 l0 2) l4) 7) z5 (Int.not_lt.mp n6)) mi_X4_riseSince (by decide) ⟨_, rfl, rfl⟩ (Int.not_lt.mp n6) rfl rfl rfl (Nat.le_of_ble_eq_true rfl) (Nat.le_of_ble_eq_true rfl) (Nat.le_of_ble_eq_true rfl) (Nat.le_of_ble_eq_true rfl) (Nat.le_of_ble_eq_true rfl) dX7_index_71 (fun z10 v10 hz10 => ?_)
              refine g_ladd F dX7_index_74 ?_
              refine g_lstore_n F rfl (Nat.le_of_ble_eq_true rfl) (ls' := [(1, (1, (w64 (l1 + z10)))), (6, (14, z5)), (5, (14, (v 2 (v 12 (v 7 l0 2) l4) 7))), (0, (17, l0)), (3, (0, l3)), (4, (0, l4))]) rfl dX7_index_75 ?_
              refine g_iinc F 4 rfl rfl (Nat.le_of_ble_eq_true rfl) (ls' := [(3, (0, (w32 (l3 + 1)))), (1, (1, (w64 (l1 + z10)))), (6, (14, z5)), (5, (14, (v 2 (v 12 (v 7 l0 2) l4) 7))), (0, (17, l0)), (4, (0, l4))]) rfl dX7_index_76 ?_
              refine g_iinc F 5 rfl rfl (Nat.le_of_ble_eq_true rfl) (ls' := [(4, (0, (w32 (l4 + 1)))), (3, (0, (w32 (l3 + 1)))), (1, (1, (w64 (l1 + z10)))), (6, (14, z5)), (5, (14, (v 2 (v 12 (v 7 l0 2) l4) 7))), (0, (17, l0))]) rfl dX7_index_79 ?_
              refine g_goto F (tgt := 7) rfl dX7_index_82 ?_
              refine g_loc [(5, 17), (2, 1), (1, 0), (0, 0)] rfl ?_
              exact ih v10 (w64 (l1 + z10)) (w32 (l3 + 1)) (w32 (l4 + 1))
def sp_X7_index (a0 : Int) (v : V) : Res := (lp_X7_index_7 a0 (fun v11 u11_1 u11_3 u11_4 => (if u11_3 ≤ 0 then (rOk (-1) v11)
   else (chk (¬ u11_3 = 0) (rOk (w64 (u11_1.tdiv u11_3)) v11)))) 200 v 0 0 0)
set_option maxRecDepth 100000 in
set_option maxHeartbeats 4000000 in
theorem k_X7_index (a0 : Int) (h0 : 0 ≤ a0) (x : Cx) (v : V) (F : Fx x cX7_index RX7 "index" ({ frames := 1, cells := 0, slots := 0, locals := 23 }) 7 (some 1) (some .long) 0) (ho : ∀ a ∈ [(17, a0)], okv v a) : Gs x (sp_X7_index a0 v) v 0 0 0 (avArgs 0 [(17, a0)]) [] := by
  show Gs x _ v 0 0 0 [(0, (17, a0))] []
  unfold sp_X7_index
  refine g_lconst F (z := 0) rfl dX7_index_0 ?_
  refine g_lstore_n F rfl (Nat.le_of_ble_eq_true rfl) (ls' := [(1, (1, 0)), (0, (17, a0))]) rfl dX7_index_1 ?_
  refine g_iconst F 2 rfl dX7_index_2 ?_
  refine g_istore_n F rfl rfl (Nat.le_of_ble_eq_true rfl) (ls' := [(3, (2, 0)), (1, (1, 0)), (0, (17, a0))]) rfl dX7_index_3 ?_
  refine g_iconst F 2 rfl dX7_index_4 ?_
  refine g_istore F rfl (Nat.le_of_ble_eq_true rfl) (ls' := [(4, (2, 0)), (3, (2, 0)), (1, (1, 0)), (0, (17, a0))]) rfl dX7_index_5 ?_
  refine g_loc [(3, 17), (2, 1), (1, 0), (0, 0)] rfl ?_
  refine kl_X7_index_7 (Int.not_lt.mp (Int.not_lt.mpr h0)) F (fun v11 u11_1 u11_3 u11_4 => ?_) 200 v 0 0 0
  refine g_iload_n F rfl 2 rfl rfl dX7_index_85 ?_
  refine g_if_le F rfl (tgt := 96) rfl dX7_index_86 (fun n12 => ?_) (fun n12 => ?_)
  · refine g_ldc2 F rfl cn_RX7_334 dX7_index_96 ?_
    exact g_lreturn F rfl (Nat.le_of_ble_eq_true rfl) (Nat.le_of_ble_eq_true rfl) dX7_index_99
  · refine g_lload_n F rfl 1 rfl dX7_index_89 ?_
    refine g_iload_n F rfl 2 rfl rfl dX7_index_90 ?_
    refine g_i2l F rfl dX7_index_91 ?_
    refine g_chk (fun n13 => ?_)
    refine g_ldiv F n13 dX7_index_92 ?_
    refine g_goto F (tgt := 99) rfl dX7_index_93 ?_
    exact g_lreturn F rfl (Nat.le_of_ble_eq_true rfl) (Nat.le_of_ble_eq_true rfl) dX7_index_99
theorem c_X7_index (a0 : Int) (h0 : 0 ≤ a0) : ∀ l, Ct l yX7_index cX7_index 7 (some .long) ({ frames := 1, cells := 0, slots := 0, locals := 23 }) (some 1) [(17, a0)] (sp_X7_index a0) := g_method (by decide +kernel) (Nat.le_of_ble_eq_true rfl) (fun x v F ho => k_X7_index a0 h0 x v F ho)

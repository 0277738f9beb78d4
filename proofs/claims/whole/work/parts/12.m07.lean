/-! methods, by the walker -/
def lp_X8_owes_5 (l0 l1 l2 : Int) (k : V → Int → Int → Res) : Nat → V → Int → Int → Res
  | 0, _, _, _ => none
  | n + 1, v, l3, l5 => (if (v 8 l0 36) ≤ l5 then (k v l3 l5)
   else (if l2 = 0 then (chk (0 ≤ (v 8 l0 37)) (chk (0 ≤ l5 ∧ l5 < 20) (if ¬ (v 77 (v 8 l0 37) l5) = l1 then (lp_X8_owes_5 l0 l1 l2 k n v (w64 (l3 + 0)) (w32 (l5 + 1)))
   else (rB (sp_X8_owed l0 l5 v) (fun z6 v6 => (lp_X8_owes_5 l0 l1 l2 k n v6 (w64 (l3 + z6)) (w32 (l5 + 1))))))))
   else (chk (0 ≤ (v 8 l0 38)) (chk (0 ≤ l5 ∧ l5 < 20) (if ¬ (v 78 (v 8 l0 38) l5) = l1 then (lp_X8_owes_5 l0 l1 l2 k n v (w64 (l3 + 0)) (w32 (l5 + 1)))
   else (rB (sp_X8_owed l0 l5 v) (fun z10 v10 => (lp_X8_owes_5 l0 l1 l2 k n v10 (w64 (l3 + z10)) (w32 (l5 + 1))))))))))
set_option maxRecDepth 100000 in
set_option maxHeartbeats 4000000 in
theorem kl_X8_owes_5 {l0 l1 l2 : Int} (h0 : 0 ≤ l0) {x : Cx} (F : Fx x cX8_owes RX8 "owes" ({ frames := 1, cells := 0, slots := 0, locals := 23 }) 6 (some 1) (some .long) 0) {k : V → Int → Int → Res} (hk : ∀ (v : V) (l3 l5 : Int), Gs x (k v l3 l5) v 0 0 58 [(0, (18, l0)), (1, (0, l1)), (2, (2, l2)), (3, (1, l3)), (5, (0, l5))] []) : ∀ (n : Nat) (v : V) (l3 l5 : Int), Gs x (lp_X8_owes_5 l0 l1 l2 k n v l3 l5) v 0 0 5 [(0, (18, l0)), (1, (0, l1)), (2, (2, l2)), (3, (1, l3)), (5, (0, l5))] [] := by
  intro n
  induction n with
  | zero => intro v l3 l5; exact g_none
  | succ n ih =>
    intro v l3 l5
    rw [lp_X8_owes_5]
    refine g_iload F 4 rfl rfl dX8_owes_5 ?_
    refine g_aload_n F rfl 0 rfl dX8_owes_7 ?_
    refine g_get F (t := 0) (sI := 36) fl_RX8_143 rfl rfl (Int.not_lt.mp (Int.not_lt.mpr h0)) dX8_owes_8 ?_
    refine g_icmp_ge F rfl rfl (tgt := 58) rfl dX8_owes_11 (fun n1 => ?_) (fun n1 => ?_)
    · refine g_loc [(0, 18), (1, 0), (2, 2), (3, 1), (4, 0)] rfl ?_
      exact hk v l3 l5
    · refine g_lload_n F rfl 3 rfl dX8_owes_14 ?_
      refine g_iload_n F rfl 2 rfl rfl dX8_owes_15 ?_
      refine g_if_eq F rfl (tgt := 29) rfl dX8_owes_16 (fun n2 => ?_) (fun n2 => ?_)
      · refine g_aload_n F rfl 0 rfl dX8_owes_29 ?_
        refine g_get F (t := 87) (sI := 37) fl_RX8_105 rfl rfl (Int.not_lt.mp (Int.not_lt.mpr h0)) dX8_owes_30 ?_
        refine g_iload F 4 rfl rfl dX8_owes_33 ?_
        refine g_chk (fun n3 => ?_)
        refine g_chk (fun n4 => ?_)
        refine h_iald F (n := 20) ak_77 (Int.not_lt.mp (Int.not_lt.mpr n3)) n4 rfl dX8_owes_35 ?_
        refine g_iload_n F rfl 1 rfl rfl dX8_owes_36 ?_
        refine g_icmp_ne F rfl rfl (tgt := 49) rfl dX8_owes_37 (fun n5 => ?_) (fun n5 => ?_)
        · refine g_lconst F (z := 0) rfl dX8_owes_49 ?_
          refine g_ladd F dX8_owes_50 ?_
          refine g_lstore_n F rfl (Nat.le_of_ble_eq_true rfl) (ls' := [(3, (1, (w64 (l3 + 0)))), (0, (18, l0)), (1, (0, l1)), (2, (2, l2)), (5, (0, l5))]) rfl dX8_owes_51 ?_
          refine g_iinc F 4 rfl rfl (Nat.le_of_ble_eq_true rfl) (ls' := [(5, (0, (w32 (l5 + 1)))), (3, (1, (w64 (l3 + 0)))), (0, (18, l0)), (1, (0, l1)), (2, (2, l2))]) rfl dX8_owes_52 ?_
          refine g_goto F (tgt := 5) rfl dX8_owes_55 ?_
          refine g_loc [(2, 18), (3, 0), (4, 2), (1, 1), (0, 0)] rfl ?_
          exact ih v (w64 (l3 + 0)) (w32 (l5 + 1))
        · refine g_aload_n F rfl 0 rfl dX8_owes_40 ?_
          refine g_iload F 4 rfl rfl dX8_owes_41 ?_
          refine g_callV F (by decide) (K := 8) (b := l0) [(0, l5)] [0] ml_RX8_223 wi_X8_owed ws_X8_owed (c_X8_owed l0 l5 (Int.not_lt.mp (Int.not_lt.mpr h0))) mi_X8_owed (by decide) ⟨_, rfl, rfl⟩ (Int.not_lt.mp (Int.not_lt.mpr h0)) rfl rfl rfl (Nat.le_of_ble_eq_true rfl) (Nat.le_of_ble_eq_true rfl) (Nat.le_of_ble_eq_true rfl) (Nat.le_of_ble_eq_true rfl) (Nat.le_of_ble_eq_true rfl) dX8_owes_43 (fun z6 v6 hz6 => ?_)
          refine g_goto F (tgt := 50) rfl dX8_owes_46 ?_
          refine g_ladd F dX8_owes_50 ?_
          refine g_lstore_n F rfl (Nat.le_of_ble_eq_true rfl) (ls' := [(3, (1, (w64 (l3 + z6)))), (0, (18, l0)), (1, (0, l1)), (2, (2, l2)), (5, (0, l5))]) rfl dX8_owes_51 ?_
          refine g_iinc F 4 rfl rfl (Nat.le_of_ble_eq_true rfl) (ls' := [(5, (0, (w32 (l5 + 1)))), (3, (1, (w64 (l3 + z6)))), (0, (18, l0)), (1, (0, l1)), (2, (2, l2))]) rfl dX8_owes_52 ?_
          refine g_goto F (tgt := 5) rfl dX8_owes_55 ?_
          refine g_loc [(2, 18), (3, 0), (4, 2), (1, 1), (0, 0)] rfl ?_
          exact ih v6 (w64 (l3 + z6)) (w32 (l5 + 1))
      · refine g_aload_n F rfl 0 rfl dX8_owes_19 ?_
        refine g_get F (t := 88) (sI := 38) fl_RX8_108 rfl rfl (Int.not_lt.mp (Int.not_lt.mpr h0)) dX8_owes_20 ?_
        refine g_iload F 4 rfl rfl dX8_owes_23 ?_
        refine g_chk (fun n7 => ?_)
        refine g_chk (fun n8 => ?_)
        refine h_iald F (n := 20) ak_78 (Int.not_lt.mp (Int.not_lt.mpr n7)) n8 rfl dX8_owes_25 ?_
        refine g_goto F (tgt := 36) rfl dX8_owes_26 ?_
        refine g_iload_n F rfl 1 rfl rfl dX8_owes_36 ?_
        refine g_icmp_ne F rfl rfl (tgt := 49) rfl dX8_owes_37 (fun n9 => ?_) (fun n9 => ?_)
        · refine g_lconst F (z := 0) rfl dX8_owes_49 ?_
          refine g_ladd F dX8_owes_50 ?_
          refine g_lstore_n F rfl (Nat.le_of_ble_eq_true rfl) (ls' := [(3, (1, (w64 (l3 + 0)))), (0, (18, l0)), (1, (0, l1)), (2, (2, l2)), (5, (0, l5))]) rfl dX8_owes_51 ?_
          refine g_iinc F 4 rfl rfl (Nat.le_of_ble_eq_true rfl) (ls' := [(5, (0, (w32 (l5 + 1)))), (3, (1, (w64 (l3 + 0)))), (0, (18, l0)), (1, (0, l1)), (2, (2, l2))]) rfl dX8_owes_52 ?_
          refine g_goto F (tgt := 5) rfl dX8_owes_55 ?_
          refine g_loc [(2, 18), (3, 0), (4, 2), (1, 1), (0, 0)] rfl ?_
          exact ih v (w64 (l3 + 0)) (w32 (l5 + 1))
        · refine g_aload_n F rfl 0 rfl dX8_owes_40 ?_
          refine g_iload F 4 rfl rfl dX8_owes_41 ?_
          refine g_callV F (by decide) (K := 8) (b := l0) [(0, l5)] [0] ml_RX8_223 wi_X8_owed ws_X8_owed (c_X8_owed l0 l5 (Int.not_lt.mp (Int.not_lt.mpr h0))) mi_X8_owed (by decide) ⟨_, rfl, rfl⟩ (Int.not_lt.mp (Int.not_lt.mpr h0)) rfl rfl rfl (Nat.le_of_ble_eq_true rfl) (Nat.le_of_ble_eq_true rfl) (Nat.le_of_ble_eq_true rfl) (Nat.le_of_ble_eq_true rfl) (Nat.le_of_ble_eq_true rfl) dX8_owes_43 (fun z10 v10 hz10 => ?_)
          refine g_goto F (tgt := 50) rfl dX8_owes_46 ?_
          refine g_ladd F dX8_owes_50 ?_
          refine g_lstore_n F rfl (Nat.le_of_ble_eq_true rfl) (ls' := [(3, (1, (w64 (l3 + z10)))), (0, (18, l0)), (1, (0, l1)), (2, (2, l2)), (5, (0, l5))]) rfl dX8_owes_51 ?_
          refine g_iinc F 4 rfl rfl (Nat.le_of_ble_eq_true rfl) (ls' := [(5, (0, (w32 (l5 + 1)))), (3, (1, (w64 (l3 + z10)))), (0, (18, l0)), (1, (0, l1)), (2, (2, l2))]) rfl dX8_owes_52 ?_
          refine g_goto F (tgt := 5) rfl dX8_owes_55 ?_
          refine g_loc [(2, 18), (3, 0), (4, 2), (1, 1), (0, 0)] rfl ?_
          exact ih v10 (w64 (l3 + z10)) (w32 (l5 + 1))
def sp_X8_owes (a0 a1 a2 : Int) (v : V) : Res := (lp_X8_owes_5 a0 a1 a2 (fun v11 u11_3 u11_5 => (rOk u11_3 v11)) 200 v 0 0)
set_option maxRecDepth 100000 in
set_option maxHeartbeats 4000000 in
theorem k_X8_owes (a0 a1 a2 : Int) (h0 : 0 ≤ a0) (x : Cx) (v : V) (F : Fx x cX8_owes RX8 "owes" ({ frames := 1, cells := 0, slots := 0, locals := 23 }) 6 (some 1) (some .long) 0) (ho : ∀ a ∈ [(18, a0), (0, a1), (2, a2)], okv v a) : Gs x (sp_X8_owes a0 a1 a2 v) v 0 0 0 (avArgs 0 [(18, a0), (0, a1), (2, a2)]) [] := by
  show Gs x _ v 0 0 0 [(0, (18, a0)), (1, (0, a1)), (2, (2, a2))] []
  unfold sp_X8_owes
  refine g_lconst F (z := 0) rfl dX8_owes_0 ?_
  refine g_lstore_n F rfl (Nat.le_of_ble_eq_true rfl) (ls' := [(3, (1, 0)), (0, (18, a0)), (1, (0, a1)), (2, (2, a2))]) rfl dX8_owes_1 ?_
  refine g_iconst F 2 rfl dX8_owes_2 ?_
  refine g_istore F rfl (Nat.le_of_ble_eq_true rfl) (ls' := [(5, (2, 0)), (3, (1, 0)), (0, (18, a0)), (1, (0, a1)), (2, (2, a2))]) rfl dX8_owes_3 ?_
  refine g_loc [(2, 18), (3, 0), (4, 2), (1, 1), (0, 0)] rfl ?_
  refine kl_X8_owes_5 (Int.not_lt.mp (Int.not_lt.mpr h0)) F (fun v11 u11_3 u11_5 => ?_) 200 v 0 0
  refine g_lload_n F rfl 3 rfl dX8_owes_58 ?_
  exact g_lreturn F rfl (Nat.le_of_ble_eq_true rfl) (Nat.le_of_ble_eq_true rfl) dX8_owes_59
theorem c_X8_owes (a0 a1 a2 : Int) (h0 : 0 ≤ a0) : ∀ l, Ct l yX8_owes cX8_owes 6 (some .long) ({ frames := 1, cells := 0, slots := 0, locals := 23 }) (some 1) [(18, a0), (0, a1), (2, a2)] (sp_X8_owes a0 a1 a2) := g_method (by decide +kernel) (Nat.le_of_ble_eq_true rfl) (fun x v F ho => k_X8_owes a0 a1 a2 h0 x v F ho)
def lp_X8_held_5 (l0 l1 l2 : Int) (k : V → Int → Int → Res) : Nat → V → Int → Int → Res
  | 0, _, _, _ => none
  | n + 1, v, l3, l4 => (if (v 8 l0 21) ≤ l4 then (k v l3 l4)
   else (chk (0 ≤ (v 8 l0 23)) (chk (0 ≤ l4 ∧ l4 < 60) (if (v 63 (v 8 l0 23) l4) = l1 then (if l2 = 0 then (chk (0 ≤ (v 8 l0 24)) (lp_X8_held_5 l0 l1 l2 k n v (w32 (l3 + (v 64 (v 8 l0 24) l4))) (w32 (l4 + 1))))
   else (rB (sp_X8_worth l0 l4 v) (fun z7 v7 => (lp_X8_held_5 l0 l1 l2 k n v7 (w32 (l3 + z7)) (w32 (l4 + 1))))))
   else (lp_X8_held_5 l0 l1 l2 k n v (w32 (l3 + 0)) (w32 (l4 + 1)))))))
set_option maxRecDepth 100000 in
set_option maxHeartbeats 4000000 in
theorem kl_X8_held_5 {l0 l1 l2 : Int} (h0 : 0 ≤ l0) {x : Cx} (F : Fx x cX8_held RX8 "held" ({ frames := 3, cells := 0, slots := 0, locals := 69 }) 5 (some 0) (some .int) 0) {k : V → Int → Int → Res} (hk : ∀ (v : V) (l3 l4 : Int), Gs x (k v l3 l4) v 0 0 58 [(0, (18, l0)), (1, (0, l1)), (2, (2, l2)), (3, (0, l3)), (4, (0, l4))] []) : ∀ (n : Nat) (v : V) (l3 l4 : Int), Gs x (lp_X8_held_5 l0 l1 l2 k n v l3 l4) v 0 0 5 [(0, (18, l0)), (1, (0, l1)), (2, (2, l2)), (3, (0, l3)), (4, (0, l4))] [] := by
  intro n
  induction n with
  | zero => intro v l3 l4; exact g_none
  | succ n ih =>
    intro v l3 l4
    rw [lp_X8_held_5]
    refine g_iload F 4 rfl rfl dX8_held_5 ?_
    refine g_aload_n F rfl 0 rfl dX8_held_7 ?_
    refine g_get F (t := 0) (sI := 21) fl_RX8_140 rfl rfl (Int.not_lt.mp (Int.not_lt.mpr h0)) dX8_held_8 ?_
    refine g_icmp_ge F rfl rfl (tgt := 58) rfl dX8_held_11 (fun n1 => ?_) (fun n1 => ?_)
    · refine g_loc [(0, 18), (1, 0), (2, 2), (3, 0), (4, 0)] rfl ?_
      exact hk v l3 l4
    · refine g_iload_n F rfl 3 rfl rfl dX8_held_14 ?_
      refine g_aload_n F rfl 0 rfl dX8_held_15 ?_
      refine g_get F (t := 73) (sI := 23) fl_RX8_66 rfl rfl (Int.not_lt.mp (Int.not_lt.mpr h0)) dX8_held_16 ?_
      refine g_iload F 4 rfl rfl dX8_held_19 ?_
      refine g_chk (fun n2 => ?_)
      refine g_chk (fun n3 => ?_)
      refine h_iald F (n := 60) ak_63 (Int.not_lt.mp (Int.not_lt.mpr n2)) n3 rfl dX8_held_21 ?_
      refine g_iload_n F rfl 1 rfl rfl dX8_held_22 ?_
      refine g_icmp_eq F rfl rfl (tgt := 30) rfl dX8_held_23 (fun n4 => ?_) (fun n4 => ?_)
      · refine g_iload_n F rfl 2 rfl rfl dX8_held_30 ?_
        refine g_if_eq F rfl (tgt := 43) rfl dX8_held_31 (fun n5 => ?_) (fun n5 => ?_)
        · refine g_aload_n F rfl 0 rfl dX8_held_43 ?_
          refine g_get F (t := 74) (sI := 24) fl_RX8_69 rfl rfl (Int.not_lt.mp (Int.not_lt.mpr h0)) dX8_held_44 ?_
          refine g_iload F 4 rfl rfl dX8_held_47 ?_
          refine g_chk (fun n6 => ?_)
          refine h_iald F (n := 60) ak_64 (Int.not_lt.mp (Int.not_lt.mpr n6)) n3 rfl dX8_held_49 ?_
          refine g_iadd F rfl rfl dX8_held_50 ?_
          refine g_istore_n F rfl rfl (Nat.le_of_ble_eq_true rfl) (ls' := [(3, (0, (w32 (l3 + (v 64 (v 8 l0 24) l4))))), (0, (18, l0)), (1, (0, l1)), (2, (2, l2)), (4, (0, l4))]) rfl dX8_held_51 ?_
          refine g_iinc F 4 rfl rfl (Nat.le_of_ble_eq_true rfl) (ls' := [(4, (0, (w32 (l4 + 1)))), (3, (0, (w32 (l3 + (v 64 (v 8 l0 24) l4))))), (0, (18, l0)), (1, (0, l1)), (2, (2, l2))]) rfl dX8_held_52 ?_
          refine g_goto F (tgt := 5) rfl dX8_held_55 ?_
          refine g_loc [(2, 18), (3, 0), (4, 2), (1, 0), (0, 0)] rfl ?_
          exact ih v (w32 (l3 + (v 64 (v 8 l0 24) l4))) (w32 (l4 + 1))
        · refine g_aload_n F rfl 0 rfl dX8_held_34 ?_
          refine g_iload F 4 rfl rfl dX8_held_35 ?_
          refine g_callV F (by decide) (K := 8) (b := l0) [(0, l4)] [0] ml_RX8_212 wi_X8_worth ws_X8_worth (c_X8_worth l0 l4 (Int.not_lt.mp (Int.not_lt.mpr h0))) mi_X8_worth (by decide) ⟨_, rfl, rfl⟩ (Int.not_lt.mp (Int.not_lt.mpr h0)) rfl rfl rfl (Nat.le_of_ble_eq_true rfl) (Nat.le_of_ble_eq_true rfl) (Nat.le_of_ble_eq_true rfl) (Nat.le_of_ble_eq_true rfl) (Nat.le_of_ble_eq_true rfl) dX8_held_37 (fun z7 v7 hz7 => ?_)
          refine g_goto F (tgt := 50) rfl dX8_held_40 ?_
          refine g_iadd F rfl rfl dX8_held_50 ?_
          refine g_istore_n F rfl rfl (Nat.le_of_ble_eq_true rfl) (ls' := [(3, (0, (w32 (l3 + z7)))), (0, (18, l0)), (1, (0, l1)), (2, (2, l2)), (4, (0, l4))]) rfl dX8_held_51 ?_
          refine g_iinc F 4 rfl rfl (Nat.le_of_ble_eq_true rfl) (ls' := [(4, (0, (w32 (l4 + 1)))), (3, (0, (w32 (l3 + z7)))), (0, (18, l0)), (1, (0, l1)), (2, (2, l2))]) rfl dX8_held_52 ?_
          refine g_goto F (tgt := 5) rfl dX8_held_55 ?_
          refine g_loc [(2, 18), (3, 0), (4, 2), (1, 0), (0, 0)] rfl ?_
          exact ih v7 (w32 (l3 + z7)) (w32 (l4 + 1))
      · refine g_iconst F 2 rfl dX8_held_26 ?_
        refine g_goto F (tgt := 50) rfl dX8_held_27 ?_
        refine g_iadd F rfl rfl dX8_held_50 ?_
        refine g_istore_n F rfl rfl (Nat.le_of_ble_eq_true rfl) (ls' := [(3, (0, (w32 (l3 + 0)))), (0, (18, l0)), (1, (0, l1)), (2, (2, l2)), (4, (0, l4))]) rfl dX8_held_51 ?_
        refine g_iinc F 4 rfl rfl (Nat.le_of_ble_eq_true rfl) (ls' := [(4, (0, (w32 (l4 + 1)))), (3, (0, (w32 (l3 + 0)))), (0, (18, l0)), (1, (0, l1)), (2, (2, l2))]) rfl dX8_held_52 ?_
        refine g_goto F (tgt := 5) rfl dX8_held_55 ?_
        refine g_loc [(2, 18), (3, 0), (4, 2), (1, 0), (0, 0)] rfl ?_
        exact ih v (w32 (l3 + 0)) (w32 (l4 + 1))
def sp_X8_held (a0 a1 a2 : Int) (v : V) : Res := (lp_X8_held_5 a0 a1 a2 (fun v8 u8_3 u8_4 => (rOk u8_3 v8)) 200 v 0 0)
set_option maxRecDepth 100000 in
set_option maxHeartbeats 4000000 in
theorem k_X8_held (a0 a1 a2 : Int) (h0 : 0 ≤ a0) (x : Cx) (v : V) (F : Fx x cX8_held RX8 "held" ({ frames := 3, cells := 0, slots := 0, locals := 69 }) 5 (some 0) (some .int) 0) (ho : ∀ a ∈ [(18, a0), (0, a1), (2, a2)], okv v a) : Gs x (sp_X8_held a0 a1 a2 v) v 0 0 0 (avArgs 0 [(18, a0), (0, a1), (2, a2)]) [] := by
  show Gs x _ v 0 0 0 [(0, (18, a0)), (1, (0, a1)), (2, (2, a2))] []
  unfold sp_X8_held
  refine g_iconst F 2 rfl dX8_held_0 ?_
  refine g_istore_n F rfl rfl (Nat.le_of_ble_eq_true rfl) (ls' := [(3, (2, 0)), (0, (18, a0)), (1, (0, a1)), (2, (2, a2))]) rfl dX8_held_1 ?_
  refine g_iconst F 2 rfl dX8_held_2 ?_
  refine g_istore F rfl (Nat.le_of_ble_eq_true rfl) (ls' := [(4, (2, 0)), (3, (2, 0)), (0, (18, a0)), (1, (0, a1)), (2, (2, a2))]) rfl dX8_held_3 ?_
  refine g_loc [(2, 18), (3, 0), (4, 2), (1, 0), (0, 0)] rfl ?_
  refine kl_X8_held_5 (Int.not_lt.mp (Int.not_lt.mpr h0)) F (fun v8 u8_3 u8_4 => ?_) 200 v 0 0
  refine g_iload_n F rfl 3 rfl rfl dX8_held_58 ?_
  exact g_ireturn F rfl rfl rfl rfl (Nat.le_of_ble_eq_true rfl) (Nat.le_of_ble_eq_true rfl) dX8_held_59
theorem c_X8_held (a0 a1 a2 : Int) (h0 : 0 ≤ a0) : ∀ l, Ct l yX8_held cX8_held 5 (some .int) ({ frames := 3, cells := 0, slots := 0, locals := 69 }) (some 0) [(18, a0), (0, a1), (2, a2)] (sp_X8_held a0 a1 a2) := g_method (by decide +kernel) (Nat.le_of_ble_eq_true rfl) (fun x v F ho => k_X8_held a0 a1 a2 h0 x v F ho)
def lp_X8_ofParty_85 (l0 l1 l2 : Int) (k : V → Int → Int → Res) : Nat → V → Int → Int → Res
  | 0, _, _, _ => none
  | n + 1, v, l3, l4 => (if 10 ≤ l4 then (k v l3 l4)
   else (chk (0 ≤ (v 8 l0 7)) (chk (0 ≤ (w32 ((w32 (10 * l4)) + l1)) ∧ (w32 ((w32 (10 * l4)) + l1)) < 100) (if (v 47 (v 8 l0 7) (w32 ((w32 (10 * l4)) + l1))) = 0 then (lp_X8_ofParty_85 l0 l1 l2 k n v (w32 (l3 + 0)) (w32 (l4 + 1)))
   else (lp_X8_ofParty_85 l0 l1 l2 k n v (w32 (l3 + 1)) (w32 (l4 + 1)))))))
set_option maxRecDepth 100000 in
set_option maxHeartbeats 4000000 in
theorem kl_X8_ofParty_85 {l0 l1 l2 : Int} (h0 : 0 ≤ l0) {x : Cx} (F : Fx x cX8_ofParty RX8 "ofParty" ({ frames := 4, cells := 0, slots := 0, locals := 93 }) 5 (some 0) (some .int) 0) {k : V → Int → Int → Res} (hk : ∀ (v : V) (l3 l4 : Int), Gs x (k v l3 l4) v 0 0 121 [(0, (18, l0)), (1, (0, l1)), (2, (0, l2)), (3, (0, l3)), (4, (0, l4))] []) : ∀ (n : Nat) (v : V) (l3 l4 : Int), Gs x (lp_X8_ofParty_85 l0 l1 l2 k n v l3 l4) v 0 0 85 [(0, (18, l0)), (1, (0, l1)), (2, (0, l2)), (3, (0, l3)), (4, (0, l4))] [] := by
  intro n
  induction n with
  | zero => intro v l3 l4; exact g_none
  | succ n ih =>
    intro v l3 l4
    rw [lp_X8_ofParty_85]
    refine g_iload F 4 rfl rfl dX8_ofParty_85 ?_
    refine g_bipush F rfl (by decide) dX8_ofParty_87 ?_
    refine g_icmp_ge F rfl rfl (tgt := 121) rfl dX8_ofParty_89 (fun n17 => ?_) (fun n17 => ?_)
    · refine g_loc [(0, 18), (1, 0), (2, 0), (3, 0), (4, 0)] rfl ?_
      exact hk v l3 l4
    · refine g_iload_n F rfl 3 rfl rfl dX8_ofParty_92 ?_
      refine g_aload_n F rfl 0 rfl dX8_ofParty_93 ?_
      refine g_get F (t := 57) (sI := 7) fl_RX8_24 rfl rfl (Int.not_lt.mp (Int.not_lt.mpr h0)) dX8_ofParty_94 ?_
      refine g_bipush F rfl (by decide) dX8_ofParty_97 ?_
      refine g_iload F 4 rfl rfl dX8_ofParty_99 ?_
      refine g_imul F rfl rfl dX8_ofParty_101 ?_
      refine g_iload_n F rfl 1 rfl rfl dX8_ofParty_102 ?_
      refine g_iadd F rfl rfl dX8_ofParty_103 ?_
      refine g_chk (fun n18 => ?_)
      refine g_chk (fun n19 => ?_)
      refine h_zald F (n := 100) ak_47 (Int.not_lt.mp (Int.not_lt.mpr n18)) n19 rfl dX8_ofParty_104 ?_
      refine g_if_eq F rfl (tgt := 112) rfl dX8_ofParty_105 (fun n20 => ?_) (fun n20 => ?_)
      · refine g_iconst F 2 rfl dX8_ofParty_112 ?_
        refine g_iadd F rfl rfl dX8_ofParty_113 ?_
        refine g_istore_n F rfl rfl (Nat.le_of_ble_eq_true rfl) (ls' := [(3, (0, (w32 (l3 + 0)))), (0, (18, l0)), (1, (0, l1)), (2, (0, l2)), (4, (0, l4))]) rfl dX8_ofParty_114 ?_
        refine g_iinc F 4 rfl rfl (Nat.le_of_ble_eq_true rfl) (ls' := [(4, (0, (w32 (l4 + 1)))), (3, (0, (w32 (l3 + 0)))), (0, (18, l0)), (1, (0, l1)), (2, (0, l2))]) rfl dX8_ofParty_115 ?_
        refine g_goto F (tgt := 85) rfl dX8_ofParty_118 ?_
        refine g_loc [(2, 18), (3, 0), (4, 0), (1, 0), (0, 0)] rfl ?_
        exact ih v (w32 (l3 + 0)) (w32 (l4 + 1))
      · refine g_iconst F 2 rfl dX8_ofParty_108 ?_
        refine g_goto F (tgt := 113) rfl dX8_ofParty_109 ?_
        refine g_iadd F rfl rfl dX8_ofParty_113 ?_
        refine g_istore_n F rfl rfl (Nat.le_of_ble_eq_true rfl) (ls' := [(3, (0, (w32 (l3 + 1)))), (0, (18, l0)), (1, (0, l1)), (2, (0, l2)), (4, (0, l4))]) rfl dX8_ofParty_114 ?_
        refine g_iinc F 4 rfl rfl (Nat.le_of_ble_eq_true rfl) (ls' := [(4, (0, (w32 (l4 + 1)))), (3, (0, (w32 (l3 + 1)))), (0, (18, l0)), (1, (0, l1)), (2, (0, l2))]) rfl dX8_ofParty_115 ?_
        refine g_goto F (tgt := 85) rfl dX8_ofParty_118 ?_
        refine g_loc [(2, 18), (3, 0), (4, 0), (1, 0), (0, 0)] rfl ?_
        exact ih v (w32 (l3 + 1)) (w32 (l4 + 1))
def sp_X8_ofParty (a0 a1 a2 : Int) (v : V) : Res := (rB (sp_X8_isParty a0 a1 v) (fun z1 v1 => (if ¬ z1 = 0 then (rB (sp_X8_in a2 0 6 v1) (fun z3 v3 => (if z3 = 0 then (rB (sp_X8_holds a0 2 v3) (fun z5 v5 => (if ¬ z5 = 0 then none
   else (rOk 0 v5))))
   else (rB (sp_X8_holds a0 0 v3) (fun z7 v7 => (if ¬ z7 = 0 then (if a2 = 0 then (chk (0 ≤ (v7 8 a0 3)) (chk (0 ≤ a1 ∧ a1 < 10) (rOk (w32 (v7 43 (v7 8 a0 3) a1)) v7)))
   else (if a2 = 2 then (if ¬ a2 = 3 then (rB (sp_X8_owes a0 a1 0 v7) (fun z14 v14 => (rOk (w32 z14) v14)))
   else (rB (sp_X8_owes a0 a1 1 v7) (fun z15 v15 => (rOk (w32 z15) v15))))
   else (if ¬ a2 = 3 then (lp_X8_ofParty_85 a0 a1 a2 (fun v21 u21_3 u21_4 => (if ¬ a2 = 5 then (if ¬ a2 = 6 then (if ¬ a2 = 4 then (rB (sp_X8_held a0 a1 0 v21) (fun z25 v25 => (rOk z25 v25)))
   else (rB (sp_X8_held a0 a1 1 v21) (fun z26 v26 => (rOk z26 v26))))
   else (rOk u21_3 v21))
   else (chk (0 ≤ (v21 8 a0 5)) (chk (0 ≤ a1 ∧ a1 < 10) (if (v21 45 (v21 8 a0 5) a1) = 0 then (rOk 0 v21)
   else (rOk 1 v21)))))) 200 v7 0 0)
   else (rB (sp_X8_owes a0 a1 1 v7) (fun z30 v30 => (rOk (w32 z30) v30))))))
   else none))))))
   else (rB (sp_X8_holds a0 1 v1) (fun z31 v31 => (if ¬ z31 = 0 then none
   else (rOk 0 v31)))))))
set_option maxRecDepth 100000 in
set_option maxHeartbeats 4000000 in
theorem k_X8_ofParty (a0 a1 a2 : Int) (h0 : 0 ≤ a0) (x : Cx) (v : V) (F : Fx x cX8_ofParty RX8 "ofParty" ({ frames := 4, cells := 0, slots := 0, locals := 93 }) 5 (some 0) (some .int) 0) (ho : ∀ a ∈ [(18, a0), (0, a1), (0, a2)], okv v a) : Gs x (sp_X8_ofParty a0 a1 a2 v) v 0 0 0 (avArgs 0 [(18, a0), (0, a1), (0, a2)]) [] := by
  show Gs x _ v 0 0 0 [(0, (18, a0)), (1, (0, a1)), (2, (0, a2))] []
  unfold sp_X8_ofParty
  refine g_aload_n F rfl 0 rfl dX8_ofParty_0 ?_
  refine g_aload_n F rfl 0 rfl dX8_ofParty_1 ?_
  refine g_iload_n F rfl 1 rfl rfl dX8_ofParty_2 ?_
  refine g_callV F (by decide) (K := 8) (b := a0) [(0, a1)] [0] ml_RX8_154 wi_X8_isParty ws_X8_isParty (c_X8_isParty a0 a1 (Int.not_lt.mp (Int.not_lt.mpr h0))) mi_X8_isParty (by decide) ⟨_, rfl, rfl⟩ (Int.not_lt.mp (Int.not_lt.mpr h0)) rfl rfl rfl (Nat.le_of_ble_eq_true rfl) (Nat.le_of_ble_eq_true rfl) (Nat.le_of_ble_eq_true rfl) (Nat.le_of_ble_eq_true rfl) (Nat.le_of_ble_eq_true rfl) dX8_ofParty_3 (fun z1 v1 hz1 => ?_)
  refine g_if_ne F rfl (tgt := 13) rfl dX8_ofParty_6 (fun n2 => ?_) (fun n2 => ?_)
  · refine g_iload_n F rfl 2 rfl rfl dX8_ofParty_13 ?_
    refine g_iconst F 2 rfl dX8_ofParty_14 ?_
    refine g_bipush F rfl (by decide) dX8_ofParty_15 ?_
    refine g_callS F (by decide) [(0, a2), (2, 0), (0, 6)] [0, 0, 0] ml_RX8_133 wt_X8_in (c_X8_in a2 0 6) mi_X8_in rfl rfl rfl (Nat.le_of_ble_eq_true rfl) (Nat.le_of_ble_eq_true rfl) (Nat.le_of_ble_eq_true rfl) (Nat.le_of_ble_eq_true rfl) (Nat.le_of_ble_eq_true rfl) dX8_ofParty_17 (fun z3 v3 hz3 => ?_)
    refine g_if_eq F rfl (tgt := 27) rfl dX8_ofParty_20 (fun n4 => ?_) (fun n4 => ?_)
    · refine g_iconst F 0 rfl dX8_ofParty_27 ?_
      refine g_callV F (by decide) (K := 8) (b := a0) [(0, 2)] [0] ml_RX8_151 wi_X8_holds ws_X8_holds (c_X8_holds a0 2 (Int.not_lt.mp (Int.not_lt.mpr h0))) mi_X8_holds (by decide) ⟨_, rfl, rfl⟩ (Int.not_lt.mp (Int.not_lt.mpr h0)) rfl rfl rfl (Nat.le_of_ble_eq_true rfl) (Nat.le_of_ble_eq_true rfl) (Nat.le_of_ble_eq_true rfl) (Nat.le_of_ble_eq_true rfl) (Nat.le_of_ble_eq_true rfl) dX8_ofParty_28 (fun z5 v5 hz5 => ?_)
      refine g_if_ne F rfl (tgt := 36) rfl dX8_ofParty_31 (fun n6 => ?_) (fun n6 => ?_)
      · exact g_none
      · refine g_iconst F 2 rfl dX8_ofParty_34 ?_
        exact g_ireturn F rfl rfl rfl rfl (Nat.le_of_ble_eq_true rfl) (Nat.le_of_ble_eq_true rfl) dX8_ofParty_35
    · refine g_iconst F 2 rfl dX8_ofParty_23 ?_
      refine g_goto F (tgt := 28) rfl dX8_ofParty_24 ?_
      refine g_callV F (by decide) (K := 8) (b := a0) [(2, 0)] [0] ml_RX8_151 wi_X8_holds ws_X8_holds (c_X8_holds a0 0 (Int.not_lt.mp (Int.not_lt.mpr h0))) mi_X8_holds (by decide) ⟨_, rfl, rfl⟩ (Int.not_lt.mp (Int.not_lt.mpr h0)) rfl rfl rfl (Nat.le_of_ble_eq_true rfl) (Nat.le_of_ble_eq_true rfl) (Nat.le_of_ble_eq_true rfl) (Nat.le_of_ble_eq_true rfl) (Nat.le_of_ble_eq_true rfl) dX8_ofParty_28 (fun z7 v7 hz7 => ?_)
      refine g_if_ne F rfl (tgt := 36) rfl dX8_ofParty_31 (fun n8 => ?_) (fun n8 => ?_)
      · refine g_iload_n F rfl 2 rfl rfl dX8_ofParty_36 ?_
        refine g_if_eq F rfl (tgt := 50) rfl dX8_ofParty_37 (fun n9 => ?_) (fun n9 => ?_)
        · refine g_iload_n F rfl 2 rfl rfl dX8_ofParty_50 ?_
          refine g_if_ne_f F rfl (fun q => q n9) (tgt := 63) rfl dX8_ofParty_51 ?_
          refine g_aload_n F rfl 0 rfl dX8_ofParty_54 ?_
          refine g_get F (t := 53) (sI := 3) fl_RX8_7 rfl rfl (Int.not_lt.mp (Int.not_lt.mpr h0)) dX8_ofParty_55 ?_
          refine g_iload_n F rfl 1 rfl rfl dX8_ofParty_58 ?_
          refine g_chk (fun n10 => ?_)
          refine g_chk (fun n11 => ?_)
          refine h_lald F (n := 10) ak_43 (Int.not_lt.mp (Int.not_lt.mpr n10)) n11 rfl dX8_ofParty_59 ?_
          refine g_goto F (tgt := 78) rfl dX8_ofParty_60 ?_
          refine g_l2i F dX8_ofParty_78 ?_
          exact g_ireturn F rfl rfl rfl rfl (Nat.le_of_ble_eq_true rfl) (Nat.le_of_ble_eq_true rfl) dX8_ofParty_79
        · refine g_iload_n F rfl 2 rfl rfl dX8_ofParty_40 ?_
          refine g_iconst F 0 rfl dX8_ofParty_41 ?_
          refine g_icmp_eq F rfl rfl (tgt := 50) rfl dX8_ofParty_42 (fun n12 => ?_) (fun n12 => ?_)
          · refine g_iload_n F rfl 2 rfl rfl dX8_ofParty_50 ?_
            refine g_if_ne_t F rfl n9 (tgt := 63) rfl dX8_ofParty_51 ?_
            refine g_aload_n F rfl 0 rfl dX8_ofParty_63 ?_
            refine g_iload_n F rfl 1 rfl rfl dX8_ofParty_64 ?_
            refine g_iload_n F rfl 2 rfl rfl dX8_ofParty_65 ?_
            refine g_iconst F 0 rfl dX8_ofParty_66 ?_
            refine g_icmp_ne F rfl rfl (tgt := 74) rfl dX8_ofParty_67 (fun n13 => ?_) (fun n13 => ?_)
            · refine g_iconst F 2 rfl dX8_ofParty_74 ?_
              refine g_callV F (by decide) (K := 8) (b := a0) [(0, a1), (2, 0)] [0, 2] ml_RX8_238 wi_X8_owes ws_X8_owes (c_X8_owes a0 a1 0 (Int.not_lt.mp (Int.not_lt.mpr h0))) mi_X8_owes (by decide) ⟨_, rfl, rfl⟩ (Int.not_lt.mp (Int.not_lt.mpr h0)) rfl rfl rfl (Nat.le_of_ble_eq_true rfl) (Nat.le_of_ble_eq_true rfl) (Nat.le_of_ble_eq_true rfl) (Nat.le_of_ble_eq_true rfl) (Nat.le_of_ble_eq_true rfl) dX8_ofParty_75 (fun z14 v14 hz14 => ?_)
              refine g_l2i F dX8_ofParty_78 ?_
              exact g_ireturn F rfl rfl rfl rfl (Nat.le_of_ble_eq_true rfl) (Nat.le_of_ble_eq_true rfl) dX8_ofParty_79
            · refine g_iconst F 2 rfl dX8_ofParty_70 ?_
              refine g_goto F (tgt := 75) rfl dX8_ofParty_71 ?_
              refine g_callV F (by decide) (K := 8) (b := a0) [(0, a1), (2, 1)] [0, 2] ml_RX8_238 wi_X8_owes ws_X8_owes (c_X8_owes a0 a1 1 (Int.not_lt.mp (Int.not_lt.mpr h0))) mi_X8_owes (by decide) ⟨_, rfl, rfl⟩ (Int.not_lt.mp (Int.not_lt.mpr h0)) rfl rfl rfl (Nat.le_of_ble_eq_true rfl) (Nat.le_of_ble_eq_true rfl) (Nat.le_of_ble_eq_true rfl) (Nat.le_of_ble_eq_true rfl) (Nat.le_of_ble_eq_true rfl) dX8_ofParty_75 (fun z15 v15 hz15 => ?_)
              refine g_l2i F dX8_ofParty_78 ?_
              exact g_ireturn F rfl rfl rfl rfl (Nat.le_of_ble_eq_true rfl) (Nat.le_of_ble_eq_true rfl) dX8_ofParty_79
          · refine g_iload_n F rfl 2 rfl rfl dX8_ofParty_45 ?_
            refine g_iconst F 0 rfl dX8_ofParty_46 ?_
            refine g_icmp_ne F rfl rfl (tgt := 80) rfl dX8_ofParty_47 (fun n16 => ?_) (fun n16 => ?_)
            · refine g_iconst F 2 rfl dX8_ofParty_80 ?_
              refine g_istore_n F rfl rfl (Nat.le_of_ble_eq_true rfl) (ls' := [(3, (2, 0)), (0, (18, a0)), (1, (0, a1)), (2, (0, a2))]) rfl dX8_ofParty_81 ?_
              refine g_iconst F 2 rfl dX8_ofParty_82 ?_
              refine g_istore F rfl (Nat.le_of_ble_eq_true rfl) (ls' := [(4, (2, 0)), (3, (2, 0)), (0, (18, a0)), (1, (0, a1)), (2, (0, a2))]) rfl dX8_ofParty_83 ?_
              refine g_loc [(2, 18), (3, 0), (4, 0), (1, 0), (0, 0)] rfl ?_
              refine kl_X8_ofParty_85 (Int.not_lt.mp (Int.not_lt.mpr h0)) F (fun v21 u21_3 u21_4 => ?_) 200 v7 0 0
              refine g_iload_n F rfl 2 rfl rfl dX8_ofParty_121 ?_
              refine g_iconst F 0 rfl dX8_ofParty_122 ?_
              refine g_icmp_ne F rfl rfl (tgt := 143) rfl dX8_ofParty_123 (fun n22 => ?_) (fun n22 => ?_)
              · refine g_iload_n F rfl 2 rfl rfl dX8_ofParty_143 ?_
                refine g_bipush F rfl (by decide) dX8_ofParty_144 ?_
                refine g_icmp_ne F rfl rfl (tgt := 153) rfl dX8_ofParty_146 (fun n23 => ?_) (fun n23 => ?_)
                · refine g_aload_n F rfl 0 rfl dX8_ofParty_153 ?_
                  refine g_iload_n F rfl 1 rfl rfl dX8_ofParty_154 ?_
                  refine g_iload_n F rfl 2 rfl rfl dX8_ofParty_155 ?_
                  refine g_iconst F 0 rfl dX8_ofParty_156 ?_
                  refine g_icmp_ne F rfl rfl (tgt := 164) rfl dX8_ofParty_157 (fun n24 => ?_) (fun n24 => ?_)
                  · refine g_iconst F 2 rfl dX8_ofParty_164 ?_
                    refine g_callV F (by decide) (K := 8) (b := a0) [(0, a1), (2, 0)] [0, 2] ml_RX8_242 wi_X8_held ws_X8_held (c_X8_held a0 a1 0 (Int.not_lt.mp (Int.not_lt.mpr h0))) mi_X8_held (by decide) ⟨_, rfl, rfl⟩ (Int.not_lt.mp (Int.not_lt.mpr h0)) rfl rfl rfl (Nat.le_of_ble_eq_true rfl) (Nat.le_of_ble_eq_true rfl) (Nat.le_of_ble_eq_true rfl) (Nat.le_of_ble_eq_true rfl) (Nat.le_of_ble_eq_true rfl) dX8_ofParty_165 (fun z25 v25 hz25 => ?_)
                    exact g_ireturn F rfl rfl rfl rfl (Nat.le_of_ble_eq_true rfl) (Nat.le_of_ble_eq_true rfl) dX8_ofParty_168
                  · refine g_iconst F 2 rfl dX8_ofParty_160 ?_
                    refine g_goto F (tgt := 165) rfl dX8_ofParty_161 ?_
                    refine g_callV F (by decide) (K := 8) (b := a0) [(0, a1), (2, 1)] [0, 2] ml_RX8_242 wi_X8_held ws_X8_held (c_X8_held a0 a1 1 (Int.not_lt.mp (Int.not_lt.mpr h0))) mi_X8_held (by decide) ⟨_, rfl, rfl⟩ (Int.not_lt.mp (Int.not_lt.mpr h0)) rfl rfl rfl (Nat.le_of_ble_eq_true rfl) (Nat.le_of_ble_eq_true rfl) (Nat.le_of_ble_eq_true rfl) (Nat.le_of_ble_eq_true rfl) (Nat.le_of_ble_eq_true rfl) dX8_ofParty_165 (fun z26 v26 hz26 => ?_)
                    exact g_ireturn F rfl rfl rfl rfl (Nat.le_of_ble_eq_true rfl) (Nat.le_of_ble_eq_true rfl) dX8_ofParty_168
                · refine g_iload_n F rfl 3 rfl rfl dX8_ofParty_149 ?_
                  refine g_goto F (tgt := 168) rfl dX8_ofParty_150 ?_
                  exact g_ireturn F rfl rfl rfl rfl (Nat.le_of_ble_eq_true rfl) (Nat.le_of_ble_eq_true rfl) dX8_ofParty_168
              · refine g_aload_n F rfl 0 rfl dX8_ofParty_126 ?_
                refine g_get F (t := 55) (sI := 5) fl_RX8_17 rfl rfl (Int.not_lt.mp (Int.not_lt.mpr h0)) dX8_ofParty_127 ?_
                refine g_iload_n F rfl 1 rfl rfl dX8_ofParty_130 ?_
                refine g_chk (fun n27 => ?_)
                refine g_chk (fun n28 => ?_)
                refine h_zald F (n := 10) ak_45 (Int.not_lt.mp (Int.not_lt.mpr n27)) n28 rfl dX8_ofParty_131 ?_
                refine g_if_eq F rfl (tgt := 139) rfl dX8_ofParty_132 (fun n29 => ?_) (fun n29 => ?_)
                · refine g_iconst F 2 rfl dX8_ofParty_139 ?_
                  refine g_goto F (tgt := 168) rfl dX8_ofParty_140 ?_
                  exact g_ireturn F rfl rfl rfl rfl (Nat.le_of_ble_eq_true rfl) (Nat.le_of_ble_eq_true rfl) dX8_ofParty_168
                · refine g_iconst F 2 rfl dX8_ofParty_135 ?_
                  refine g_goto F (tgt := 168) rfl dX8_ofParty_136 ?_
                  exact g_ireturn F rfl rfl rfl rfl (Nat.le_of_ble_eq_true rfl) (Nat.le_of_ble_eq_true rfl) dX8_ofParty_168
            · refine g_iload_n F rfl 2 rfl rfl dX8_ofParty_50 ?_
              refine g_if_ne_t F rfl n9 (tgt := 63) rfl dX8_ofParty_51 ?_
              refine g_aload_n F rfl 0 rfl dX8_ofParty_63 ?_
              refine g_iload_n F rfl 1 rfl rfl dX8_ofParty_64 ?_
              refine g_iload_n F rfl 2 rfl rfl dX8_ofParty_65 ?_
              refine g_iconst F 0 rfl dX8_ofParty_66 ?_
              refine g_icmp_ne_f F rfl rfl (fun q => q (Decidable.not_not.mp n16)) (tgt := 74) rfl dX8_ofParty_67 ?_
              refine g_iconst F 2 rfl dX8_ofParty_70 ?_
              refine g_goto F (tgt := 75) rfl dX8_ofParty_71 ?_
              refine g_callV F (by decide) (K := 8) (b := a0) [(0, a1), (2, 1)] [0, 2] ml_RX8_238 wi_X8_owes ws_X8_owes (c_X8_owes a0 a1 1 (Int.not_lt.mp (Int.not_lt.mpr h0))) mi_X8_owes (by decide) ⟨_, rfl, rfl⟩ (Int.not_lt.mp (Int.not_lt.mpr h0)) rfl rfl rfl (Nat.le_of_ble_eq_true rfl) (Nat.le_of_ble_eq_true rfl) (Nat.le_of_ble_eq_true rfl) (Nat.le_of_ble_eq_true rfl) (Nat.le_of_ble_eq_true rfl) dX8_ofParty_75 (fun z30 v30 hz30 => ?_)
              refine g_l2i F dX8_ofParty_78 ?_
              exact g_ireturn F rfl rfl rfl rfl (Nat.le_of_ble_eq_true rfl) (Nat.le_of_ble_eq_true rfl) dX8_ofParty_79
      · exact g_none
  · refine g_iconst F 2 rfl dX8_ofParty_9 ?_
    refine g_goto F (tgt := 28) rfl dX8_ofParty_10 ?_
    refine g_callV F (by decide) (K := 8) (b := a0) [(2, 1)] [0] ml_RX8_151 wi_X8_holds ws_X8_holds (c_X8_holds a0 1 (Int.not_lt.mp (Int.not_lt.mpr h0))) mi_X8_holds (by decide) ⟨_, rfl, rfl⟩ (Int.not_lt.mp (Int.not_lt.mpr h0)) rfl rfl rfl (Nat.le_of_ble_eq_true rfl) (Nat.le_of_ble_eq_true rfl) (Nat.le_of_ble_eq_true rfl) (Nat.le_of_ble_eq_true rfl) (Nat.le_of_ble_eq_true rfl) dX8_ofParty_28 (fun z31 v31 hz31 => ?_)
    refine g_if_ne F rfl (tgt := 36) rfl dX8_ofParty_31 (fun n32 => ?_) (fun n32 => ?_)
    · exact g_none
    · refine g_iconst F 2 rfl dX8_ofParty_34 ?_
      exact g_ireturn F rfl rfl rfl rfl (Nat.le_of_ble_eq_true rfl) (Nat.le_of_ble_eq_true rfl) dX8_ofParty_35
theorem c_X8_ofParty (a0 a1 a2 : Int) (h0 : 0 ≤ a0) : ∀ l, Ct l yX8_ofParty cX8_ofParty 5 (some .int) ({ frames := 4, cells := 0, slots := 0, locals := 93 }) (some 0) [(18, a0), (0, a1), (0, a2)] (sp_X8_ofParty a0 a1 a2) := g_method (by decide +kernel) (Nat.le_of_ble_eq_true rfl) (fun x v F ho => k_X8_ofParty a0 a1 a2 h0 x v F ho)
def lp_X8_ofWork_86 (l0 l1 l2 : Int) (k : V → Int → Int → Res) : Nat → V → Int → Int → Res
  | 0, _, _, _ => none
  | n + 1, v, l3, l4 => (if (v 8 l0 21) ≤ l4 then (k v l3 l4)
   else (chk (0 ≤ (v 8 l0 22)) (chk (0 ≤ l4 ∧ l4 < 60) (if ¬ (v 62 (v 8 l0 22) l4) = l1 then (lp_X8_ofWork_86 l0 l1 l2 k n v (w32 (l3 + 0)) (w32 (l4 + 1)))
   else (chk (0 ≤ (v 8 l0 24)) (if (v 64 (v 8 l0 24) l4) ≤ 0 then (lp_X8_ofWork_86 l0 l1 l2 k n v (w32 (l3 + 0)) (w32 (l4 + 1)))
   else (lp_X8_ofWork_86 l0 l1 l2 k n v (w32 (l3 + 1)) (w32 (l4 + 1)))))))))
set_option maxRecDepth 100000 in
set_option maxHeartbeats 4000000 in
theorem kl_X8_ofWork_86 {l0 l1 l2 : Int} (h0 : 0 ≤ l0) {x : Cx} (F : Fx x cX8_ofWork RX8 "ofWork" ({ frames := 2, cells := 0, slots := 0, locals := 48 }) 5 (some 0) (some .int) 0) {k : V → Int → Int → Res} (hk : ∀ (v : V) (l3 l4 : Int), Gs x (k v l3 l4) v 0 0 130 [(0, (18, l0)), (1, (0, l1)), (2, (0, l2)), (3, (0, l3)), (4, (0, l4))] []) : ∀ (n : Nat) (v : V) (l3 l4 : Int), Gs x (lp_X8_ofWork_86 l0 l1 l2 k n v l3 l4) v 0 0 86 [(0, (18, l0)), (1, (0, l1)), (2, (0, l2)), (3, (0, l3)), (4, (0, l4))] [] := by
  intro n
  induction n with
  | zero => intro v l3 l4; exact g_none
  | succ n ih =>
    intro v l3 l4
    rw [lp_X8_ofWork_86]
    refine g_iload F 4 rfl rfl dX8_ofWork_86 ?_
    refine g_aload_n F rfl 0 rfl dX8_ofWork_88 ?_
    refine g_get F (t := 0) (sI := 21) fl_RX8_140 rfl rfl (Int.not_lt.mp (Int.not_lt.mpr h0)) dX8_ofWork_89 ?_
    refine g_icmp_ge F rfl rfl (tgt := 130) rfl dX8_ofWork_92 (fun n10 => ?_) (fun n10 => ?_)
    · refine g_loc [(0, 18), (1, 0), (2, 0), (3, 0), (4, 0)] rfl ?_
      exact hk v l3 l4
    · refine g_iload_n F rfl 3 rfl rfl dX8_ofWork_95 ?_
      refine g_aload_n F rfl 0 rfl dX8_ofWork_96 ?_
      refine g_get F (t := 72) (sI := 22) fl_RX8_63 rfl rfl (Int.not_lt.mp (Int.not_lt.mpr h0)) dX8_ofWork_97 ?_
      refine g_iload F 4 rfl rfl dX8_ofWork_100 ?_
      refine g_chk (fun n11 => ?_)
      refine g_chk (fun n12 => ?_)
      refine h_iald F (n := 60) ak_62 (Int.not_lt.mp (Int.not_lt.mpr n11)) n12 rfl dX8_ofWork_102 ?_
      refine g_iload_n F rfl 1 rfl rfl dX8_ofWork_103 ?_
      refine g_icmp_ne F rfl rfl (tgt := 121) rfl dX8_ofWork_104 (fun n13 => ?_) (fun n13 => ?_)
      · refine g_iconst F 2 rfl dX8_ofWork_121 ?_
        refine g_iadd F rfl rfl dX8_ofWork_122 ?_
        refine g_istore_n F rfl rfl (Nat.le_of_ble_eq_true rfl) (ls' := [(3, (0, (w32 (l3 + 0)))), (0, (18, l0)), (1, (0, l1)), (2, (0, l2)), (4, (0, l4))]) rfl dX8_ofWork_123 ?_
        refine g_iinc F 4 rfl rfl (Nat.le_of_ble_eq_true rfl) (ls' := [(4, (0, (w32 (l4 + 1)))), (3, (0, (w32 (l3 + 0)))), (0, (18, l0)), (1, (0, l1)), (2, (0, l2))]) rfl dX8_ofWork_124 ?_
        refine g_goto F (tgt := 86) rfl dX8_ofWork_127 ?_
        refine g_loc [(2, 18), (3, 0), (4, 0), (1, 0), (0, 0)] rfl ?_
        exact ih v (w32 (l3 + 0)) (w32 (l4 + 1))
      · refine g_aload_n F rfl 0 rfl dX8_ofWork_107 ?_
        refine g_get F (t := 74) (sI := 24) fl_RX8_69 rfl rfl (Int.not_lt.mp (Int.not_lt.mpr h0)) dX8_ofWork_108 ?_
        refine g_iload F 4 rfl rfl dX8_ofWork_111 ?_
        refine g_chk (fun n14 => ?_)
        refine h_iald F (n := 60) ak_64 (Int.not_lt.mp (Int.not_lt.mpr n14)) n12 rfl dX8_ofWork_113 ?_
        refine g_if_le F rfl (tgt := 121) rfl dX8_ofWork_114 (fun n15 => ?_) (fun n15 => ?_)
        · refine g_iconst F 2 rfl dX8_ofWork_121 ?_
          refine g_iadd F rfl rfl dX8_ofWork_122 ?_
          refine g_istore_n F rfl rfl (Nat.le_of_ble_eq_true rfl) (ls' := [(3, (0, (w32 (l3 + 0)))), (0, (18, l0)), (1, (0, l1)), (2, (0, l2)), (4, (0, l4))]) rfl dX8_ofWork_123 ?_
          refine g_iinc F 4 rfl rfl (Nat.le_of_ble_eq_true rfl) (ls' := [(4, (0, (w32 (l4 + 1)))), (3, (0, (w32 (l3 + 0)))), (0, (18, l0)), (1, (0, l1)), (2, (0, l2))]) rfl dX8_ofWork_124 ?_
          refine g_goto F (tgt := 86) rfl dX8_ofWork_127 ?_
          refine g_loc [(2, 18), (3, 0), (4, 0), (1, 0), (0, 0)] rfl ?_
          exact ih v (w32 (l3 + 0)) (w32 (l4 + 1))
        · refine g_iconst F 2 rfl dX8_ofWork_117 ?_
          refine g_goto F (tgt := 122) rfl dX8_ofWork_118 ?_
          refine g_iadd F rfl rfl dX8_ofWork_122 ?_
          refine g_istore_n F rfl rfl (Nat.le_of_ble_eq_true rfl) (ls' := [(3, (0, (w32 (l3 + 1)))), (0, (18, l0)), (1, (0, l1)), (2, (0, l2)), (4, (0, l4))]) rfl dX8_ofWork_123 ?_
          refine g_iinc F 4 rfl rfl (Nat.le_of_ble_eq_true rfl) (ls' := [(4, (0, (w32 (l4 + 1)))), (3, (0, (w32 (l3 + 1)))), (0, (18, l0)), (1, (0, l1)), (2, (0, l2))]) rfl dX8_ofWork_124 ?_
          refine g_goto F (tgt := 86) rfl dX8_ofWork_127 ?_
          refine g_loc [(2, 18), (3, 0), (4, 0), (1, 0), (0, 0)] rfl ?_
          exact ih v (w32 (l3 + 1)) (w32 (l4 + 1))
def sp_X8_ofWork (a0 a1 a2 : Int) (v : V) : Res := (rB (sp_X8_isWork a0 a1 v) (fun z1 v1 => (if ¬ z1 = 0 then (rB (sp_X8_in a2 0 5 v1) (fun z3 v3 => (if z3 = 0 then (rB (sp_X8_holds a0 2 v3) (fun z5 v5 => (if ¬ z5 = 0 then none
   else (rOk 0 v5))))
   else (rB (sp_X8_holds a0 0 v3) (fun z7 v7 => (if ¬ z7 = 0 then (if 3 ≤ a2 then (lp_X8_ofWork_86 a0 a1 a2 (fun v16 u16_3 u16_4 => (if ¬ a2 = 3 then (if ¬ a2 = 4 then (rOk u16_3 v16)
   else (chk (0 ≤ (v16 8 a0 15)) (chk (0 ≤ a1 ∧ a1 < 12) (rOk (v16 55 (v16 8 a0 15) a1) v16))))
   else (rB (sp_X8_leftOf a0 a1 v16) (fun z21 v21 => (rOk z21 v21))))) 200 v7 0 0)
   else (if ¬ a2 = 0 then (if ¬ a2 = 1 then (chk (0 ≤ (v7 8 a0 13)) (chk (0 ≤ a1 ∧ a1 < 12) (if (v7 53 (v7 8 a0 13) a1) = 0 then (rOk 0 v7)
   else (rOk 1 v7))))
   else (chk (0 ≤ (v7 8 a0 12)) (chk (0 ≤ a1 ∧ a1 < 12) (rOk (v7 52 (v7 8 a0 12) a1) v7))))
   else (rB (sp_X8_valueOf a0 a1 v7) (fun z29 v29 => (rOk z29 v29)))))
   else none))))))
   else (rB (sp_X8_holds a0 1 v1) (fun z30 v30 => (if ¬ z30 = 0 then none
   else (rOk 0 v30)))))))
set_option maxRecDepth 100000 in
set_option maxHeartbeats 4000000 in
theorem k_X8_ofWork (a0 a1 a2 : Int) (h0 : 0 ≤ a0) (x : Cx) (v : V) (F : Fx x cX8_ofWork RX8 "ofWork" ({ frames := 2, cells := 0, slots := 0, locals := 48 }) 5 (some 0) (some .int) 0) (ho : ∀ a ∈ [(18, a0), (0, a1), (0, a2)], okv v a) : Gs x (sp_X8_ofWork a0 a1 a2 v) v 0 0 0 (avArgs 0 [(18, a0), (0, a1), (0, a2)]) [] := by
  show Gs x _ v 0 0 0 [(0, (18, a0)), (1, (0, a1)), (2, (0, a2))] []
  unfold sp_X8_ofWork
  refine g_aload_n F rfl 0 rfl dX8_ofWork_0 ?_
  refine g_aload_n F rfl 0 rfl dX8_ofWork_1 ?_
  refine g_iload_n F rfl 1 rfl rfl dX8_ofWork_2 ?_
  refine g_callV F (by decide) (K := 8) (b := a0) [(0, a1)] [0] ml_RX8_161 wi_X8_isWork ws_X8_isWork (c_X8_isWork a0 a1 (Int.not_lt.mp (Int.not_lt.mpr h0))) mi_X8_isWork (by decide) ⟨_, rfl, rfl⟩ (Int.not_lt.mp (Int.not_lt.mpr h0)) rfl rfl rfl (Nat.le_of_ble_eq_true rfl) (Nat.le_of_ble_eq_true rfl) (Nat.le_of_ble_eq_true rfl) (Nat.le_of_ble_eq_true rfl) (Nat.le_of_ble_eq_true rfl) dX8_ofWork_3 (fun z1 v1 hz1 => ?_)
  refine g_if_ne F rfl (tgt := 13) rfl dX8_ofWork_6 (fun n2 => ?_) (fun n2 => ?_)
  · refine g_iload_n F rfl 2 rfl rfl dX8_ofWork_13 ?_
    refine g_iconst F 2 rfl dX8_ofWork_14 ?_
    refine g_iconst F 0 rfl dX8_ofWork_15 ?_
    refine g_callS F (by decide) [(0, a2), (2, 0), (0, 5)] [0, 0, 0] ml_RX8_133 wt_X8_in (c_X8_in a2 0 5) mi_X8_in rfl rfl rfl (Nat.le_of_ble_eq_true rfl) (Nat.le_of_ble_eq_true rfl) (Nat.le_of_ble_eq_true rfl) (Nat.le_of_ble_eq_true rfl) (Nat.le_of_ble_eq_true rfl) dX8_ofWork_16 (fun z3 v3 hz3 => ?_)
    refine g_if_eq F rfl (tgt := 26) rfl dX8_ofWork_19 (fun n4 => ?_) (fun n4 => ?_)
    · refine g_iconst F 0 rfl dX8_ofWork_26 ?_
      refine g_callV F (by decide) (K := 8) (b := a0) [(0, 2)] [0] ml_RX8_151 wi_X8_holds ws_X8_holds (c_X8_holds a0 2 (Int.not_lt.mp (Int.not_lt.mpr h0))) mi_X8_holds (by decide) ⟨_, rfl, rfl⟩ (Int.not_lt.mp (Int.not_lt.mpr h0)) rfl rfl rfl (Nat.le_of_ble_eq_true rfl) (Nat.le_of_ble_eq_true rfl) (Nat.le_of_ble_eq_true rfl) (Nat.le_of_ble_eq_true rfl) (Nat.le_of_ble_eq_true rfl) dX8_ofWork_27 (fun z5 v5 hz5 => ?_)
      refine g_if_ne F rfl (tgt := 35) rfl dX8_ofWork_30 (fun n6 => ?_) (fun n6 => ?_)
      · exact g_none
      · refine g_iconst F 2 rfl dX8_ofWork_33 ?_
        exact g_ireturn F rfl rfl rfl rfl (Nat.le_of_ble_eq_true rfl) (Nat.le_of_ble_eq_true rfl) dX8_ofWork_34
    · refine g_iconst F 2 rfl dX8_ofWork_22 ?_
      refine g_goto F (tgt := 27) rfl dX8_ofWork_23 ?_
      refine g_callV F (by decide) (K := 8) (b := a0) [(2, 0)] [0] ml_RX8_151 wi_X8_holds ws_X8_holds (c_X8_holds a0 0 (Int.not_lt.mp (Int.not_lt.mpr h0))) mi_X8_holds (by decide) ⟨_, rfl, rfl⟩ (Int.not_lt.mp (Int.not_lt.mpr h0)) rfl rfl rfl (Nat.le_of_ble_eq_true rfl) (Nat.le_of_ble_eq_true rfl) (Nat.le_of_ble_eq_true rfl) (Nat.le_of_ble_eq_true rfl) (Nat.le_of_ble_eq_true rfl) dX8_ofWork_27 (fun z7 v7 hz7 => ?_)
      refine g_if_ne F rfl (tgt := 35) rfl dX8_ofWork_30 (fun n8 => ?_) (fun n8 => ?_)
      · refine g_iload_n F rfl 2 rfl rfl dX8_ofWork_35 ?_
        refine g_iconst F 0 rfl dX8_ofWork_36 ?_
        refine g_icmp_ge F rfl rfl (tgt := 81) rfl dX8_ofWork_37 (fun n9 => ?_) (fun n9 => ?_)
        · refine g_iconst F 2 rfl dX8_ofWork_81 ?_
          refine g_istore_n F rfl rfl (Nat.le_of_ble_eq_true rfl) (ls' := [(3, (2, 0)), (0, (18, a0)), (1, (0, a1)), (2, (0, a2))]) rfl dX8_ofWork_82 ?_
          refine g_iconst F 2 rfl dX8_ofWork_83 ?_
          refine g_istore F rfl (Nat.le_of_ble_eq_true rfl) (ls' := [(4, (2, 0)), (3, (2, 0)), (0, (18, a0)), (1, (0, a1)), (2, (0, a2))]) rfl dX8_ofWork_84 ?_
          refine g_loc [(2, 18), (3, 0), (4, 0), (1, 0), (0, 0)] rfl ?_
          refine kl_X8_ofWork_86 (Int.not_lt.mp (Int.not_lt.mpr h0)) F (fun v16 u16_3 u16_4 => ?_) 200 v7 0 0
          refine g_iload_n F rfl 2 rfl rfl dX8_ofWork_130 ?_
          refine g_iconst F 0 rfl dX8_ofWork_131 ?_
          refine g_icmp_ne F rfl rfl (tgt := 143) rfl dX8_ofWork_132 (fun n17 => ?_) (fun n17 => ?_)
          · refine g_iload_n F rfl 2 rfl rfl dX8_ofWork_143 ?_
            refine g_iconst F 0 rfl dX8_ofWork_144 ?_
            refine g_icmp_ne F rfl rfl (tgt := 157) rfl dX8_ofWork_145 (fun n18 => ?_) (fun n18 => ?_)
            · refine g_iload_n F rfl 3 rfl rfl dX8_ofWork_157 ?_
              exact g_ireturn F rfl rfl rfl rfl (Nat.le_of_ble_eq_true rfl) (Nat.le_of_ble_eq_true rfl) dX8_ofWork_158
            · refine g_aload_n F rfl 0 rfl dX8_ofWork_148 ?_
              refine g_get F (t := 65) (sI := 15) fl_RX8_45 rfl rfl (Int.not_lt.mp (Int.not_lt.mpr h0)) dX8_ofWork_149 ?_
              refine g_iload_n F rfl 1 rfl rfl dX8_ofWork_152 ?_
              refine g_chk (fun n19 => ?_)
              refine g_chk (fun n20 => ?_)
              refine h_iald F (n := 12) ak_55 (Int.not_lt.mp (Int.not_lt.mpr n19)) n20 rfl dX8_ofWork_153 ?_
              refine g_goto F (tgt := 158) rfl dX8_ofWork_154 ?_
              exact g_ireturn F rfl rfl rfl rfl (Nat.le_of_ble_eq_true rfl) (Nat.le_of_ble_eq_true rfl) dX8_ofWork_158
          · refine g_aload_n F rfl 0 rfl dX8_ofWork_135 ?_
            refine g_iload_n F rfl 1 rfl rfl dX8_ofWork_136 ?_
            refine g_callV F (by decide) (K := 8) (b := a0) [(0, a1)] [0] ml_RX8_167 wi_X8_leftOf ws_X8_leftOf (c_X8_leftOf a0 a1 (Int.not_lt.mp (Int.not_lt.mpr h0))) mi_X8_leftOf (by decide) ⟨_, rfl, rfl⟩ (Int.not_lt.mp (Int.not_lt.mpr h0)) rfl rfl rfl (Nat.le_of_ble_eq_true rfl) (Nat.le_of_ble_eq_true rfl) (Nat.le_of_ble_eq_true rfl) (Nat.le_of_ble_eq_true rfl) (Nat.le_of_ble_eq_true rfl) dX8_ofWork_137 (fun z21 v21 hz21 => ?_)
            refine g_goto F (tgt := 158) rfl dX8_ofWork_140 ?_
            exact g_ireturn F rfl rfl rfl rfl (Nat.le_of_ble_eq_true rfl) (Nat.le_of_ble_eq_true rfl) dX8_ofWork_158
        · refine g_iload_n F rfl 2 rfl rfl dX8_ofWork_40 ?_
          refine g_if_ne F rfl (tgt := 52) rfl dX8_ofWork_41 (fun n22 => ?_) (fun n22 => ?_)
          · refine g_iload_n F rfl 2 rfl rfl dX8_ofWork_52 ?_
            refine g_iconst F 2 rfl dX8_ofWork_53 ?_
            refine g_icmp_ne F rfl rfl (tgt := 66) rfl dX8_ofWork_54 (fun n23 => ?_) (fun n23 => ?_)
            · refine g_aload_n F rfl 0 rfl dX8_ofWork_66 ?_
              refine g_get F (t := 63) (sI := 13) fl_RX8_39 rfl rfl (Int.not_lt.mp (Int.not_lt.mpr h0)) dX8_ofWork_67 ?_
              refine g_iload_n F rfl 1 rfl rfl dX8_ofWork_70 ?_
              refine g_chk (fun n24 => ?_)
              refine g_chk (fun n25 => ?_)
              refine h_zald F (n := 12) ak_53 (Int.not_lt.mp (Int.not_lt.mpr n24)) n25 rfl dX8_ofWork_71 ?_
              refine g_if_eq F rfl (tgt := 79) rfl dX8_ofWork_72 (fun n26 => ?_) (fun n26 => ?_)
              · refine g_iconst F 2 rfl dX8_ofWork_79 ?_
                exact g_ireturn F rfl rfl rfl rfl (Nat.le_of_ble_eq_true rfl) (Nat.le_of_ble_eq_true rfl) dX8_ofWork_80
              · refine g_iconst F 2 rfl dX8_ofWork_75 ?_
                refine g_goto F (tgt := 80) rfl dX8_ofWork_76 ?_
                exact g_ireturn F rfl rfl rfl rfl (Nat.le_of_ble_eq_true rfl) (Nat.le_of_ble_eq_true rfl) dX8_ofWork_80
            · refine g_aload_n F rfl 0 rfl dX8_ofWork_57 ?_
              refine g_get F (t := 62) (sI := 12) fl_RX8_36 rfl rfl (Int.not_lt.mp (Int.not_lt.mpr h0)) dX8_ofWork_58 ?_
              refine g_iload_n F rfl 1 rfl rfl dX8_ofWork_61 ?_
              refine g_chk (fun n27 => ?_)
              refine g_chk (fun n28 => ?_)
              refine h_iald F (n := 12) ak_52 (Int.not_lt.mp (Int.not_lt.mpr n27)) n28 rfl dX8_ofWork_62 ?_
              refine g_goto F (tgt := 80) rfl dX8_ofWork_63 ?_
              exact g_ireturn F rfl rfl rfl rfl (Nat.le_of_ble_eq_true rfl) (Nat.le_of_ble_eq_true rfl) dX8_ofWork_80
          · refine g_aload_n F rfl 0 rfl dX8_ofWork_44 ?_
            refine g_iload_n F rfl 1 rfl rfl dX8_ofWork_45 ?_
            refine g_callV F (by decide) (K := 8) (b := a0) [(0, a1)] [0] ml_RX8_175 wi_X8_valueOf ws_X8_valueOf (c_X8_valueOf a0 a1 (Int.not_lt.mp (Int.not_lt.mpr h0))) mi_X8_valueOf (by decide) ⟨_, rfl, rfl⟩ (Int.not_lt.mp (Int.not_lt.mpr h0)) rfl rfl rfl (Nat.le_of_ble_eq_true rfl) (Nat.le_of_ble_eq_true rfl) (Nat.le_of_ble_eq_true rfl) (Nat.le_of_ble_eq_true rfl) (Nat.le_of_ble_eq_true rfl) dX8_ofWork_46 (fun z29 v29 hz29 => ?_)
            refine g_goto F (tgt := 80) rfl dX8_ofWork_49 ?_
            exact g_ireturn F rfl rfl rfl rfl (Nat.le_of_ble_eq_true rfl) (Nat.le_of_ble_eq_true rfl) dX8_ofWork_80
      · exact g_none
  · refine g_iconst F 2 rfl dX8_ofWork_9 ?_
    refine g_goto F (tgt := 27) rfl dX8_ofWork_10 ?_
    refine g_callV F (by decide) (K := 8) (b := a0) [(2, 1)] [0] ml_RX8_151 wi_X8_holds ws_X8_holds (c_X8_holds a0 1 (Int.not_lt.mp (Int.not_lt.mpr h0))) mi_X8_holds (by decide) ⟨_, rfl, rfl⟩ (Int.not_lt.mp (Int.not_lt.mpr h0)) rfl rfl rfl (Nat.le_of_ble_eq_true rfl) (Nat.le_of_ble_eq_true rfl) (Nat.le_of_ble_eq_true rfl) (Nat.le_of_ble_eq_true rfl) (Nat.le_of_ble_eq_true rfl) dX8_ofWork_27 (fun z30 v30 hz30 => ?_)
    refine g_if_ne F rfl (tgt := 35) rfl dX8_ofWork_30 (fun n31 => ?_) (fun n31 => ?_)
    · exact g_none
    · refine g_iconst F 2 rfl dX8_ofWork_33 ?_
      exact g_ireturn F rfl rfl rfl rfl (Nat.le_of_ble_eq_true rfl) (Nat.le_of_ble_eq_true rfl) dX8_ofWork_34
theorem c_X8_ofWork (a0 a1 a2 : Int) (h0 : 0 ≤ a0) : ∀ l, Ct l yX8_ofWork cX8_ofWork 5 (some .int) ({ frames := 2, cells := 0, slots := 0, locals := 48 }) (some 0) [(18, a0), (0, a1), (0, a2)] (sp_X8_ofWork a0 a1 a2) := g_method (by decide +kernel) (Nat.le_of_ble_eq_true rfl) (fun x v F ho => k_X8_ofWork a0 a1 a2 h0 x v F ho)
def lp_X8_chain_4 (l0 l1 : Int) (k : V → Int → Int → Res) : Nat → V → Int → Int → Res
  | 0, _, _, _ => none
  | n + 1, v, l2, l3 => (if l3 = (-1) then (k v l2 l3)
   else (chk (0 ≤ (v 8 l0 31)) (chk (0 ≤ l3 ∧ l3 < 60) (if (v 71 (v 8 l0 31) l3) = (-1) then (k v l2 l3)
   else (chk (0 ≤ (v 8 l0 30)) (chk (0 ≤ (v 70 (v 8 l0 30) l3) ∧ (v 70 (v 8 l0 30) l3) < 60) (if (v 71 (v 8 l0 31) (v 70 (v 8 l0 30) l3)) = (-1) then (lp_X8_chain_4 l0 l1 k n v (w32 (l2 + 1)) (-1))
   else (if 7 < (w32 ((v 71 (v 8 l0 31) l3) - (v 71 (v 8 l0 31) (v 70 (v 8 l0 30) l3)))) then (lp_X8_chain_4 l0 l1 k n v (w32 (l2 + 1)) (-1))
   else (lp_X8_chain_4 l0 l1 k n v (w32 (l2 + 1)) (v 70 (v 8 l0 30) l3))))))))))
set_option maxRecDepth 100000 in
set_option maxHeartbeats 4000000 in
theorem kl_X8_chain_4 {l0 l1 : Int} (h0 : 0 ≤ l0) {x : Cx} (F : Fx x cX8_chain RX8 "chain" ({ frames := 0, cells := 0, slots := 0, locals := 0 }) 5 (some 0) (some .int) 0) {k : V → Int → Int → Res} (hk : ∀ (v : V) (l2 l3 : Int), Gs x (k v l2 l3) v 0 0 70 [(0, (18, l0)), (1, (0, l1)), (2, (0, l2)), (3, (0, l3))] []) : ∀ (n : Nat) (v : V) (l2 l3 : Int), Gs x (lp_X8_chain_4 l0 l1 k n v l2 l3) v 0 0 4 [(0, (18, l0)), (1, (0, l1)), (2, (0, l2)), (3, (0, l3))] [] := by
  intro n
  induction n with
  | zero => intro v l2 l3; exact g_none
  | succ n ih =>
    intro v l2 l3
    rw [lp_X8_chain_4]
    refine g_iload_n F rfl 3 rfl rfl dX8_chain_4 ?_
    refine g_iconst F 0 rfl dX8_chain_5 ?_
    refine g_icmp_eq F rfl rfl (tgt := 70) rfl dX8_chain_6 (fun n1 => ?_) (fun n1 => ?_)
    · refine g_loc [(0, 18), (1, 0), (2, 0), (3, 0)] rfl ?_
      exact hk v l2 l3
    · refine g_aload_n F rfl 0 rfl dX8_chain_9 ?_
      refine g_get F (t := 81) (sI := 31) fl_RX8_90 rfl rfl (Int.not_lt.mp (Int.not_lt.mpr h0)) dX8_chain_10 ?_
      refine g_iload_n F rfl 3 rfl rfl dX8_chain_13 ?_
      refine g_chk (fun n2 => ?_)
      refine g_chk (fun n3 => ?_)
      refine h_iald F (n := 60) ak_71 (Int.not_lt.mp (Int.not_lt.mpr n2)) n3 rfl dX8_chain_14 ?_
      refine g_iconst F 0 rfl dX8_chain_15 ?_
      refine g_icmp_eq F rfl rfl (tgt := 70) rfl dX8_chain_16 (fun n4 => ?_) (fun n4 => ?_)
      · refine g_loc [(0, 18), (1, 0), (2, 0), (3, 0)] rfl ?_
        exact hk v l2 l3
      · refine g_iinc F 2 rfl rfl (Nat.le_of_ble_eq_true rfl) (ls' := [(2, (0, (w32 (l2 + 1)))), (0, (18, l0)), (1, (0, l1)), (3, (0, l3))]) rfl dX8_chain_19 ?_
        refine g_aload_n F rfl 1 rfl dX8_chain_22 ?_
        refine g_get F (t := 80) (sI := 30) fl_RX8_87 rfl rfl (Int.not_lt.mp (Int.not_lt.mpr h0)) dX8_chain_23 ?_
        refine g_iload_n F rfl 3 rfl rfl dX8_chain_26 ?_
        refine g_chk (fun n5 => ?_)
        refine h_iald F (n := 60) ak_70 (Int.not_lt.mp (Int.not_lt.mpr n5)) n3 rfl dX8_chain_27 ?_
        refine g_istore F rfl (Nat.le_of_ble_eq_true rfl) (ls' := [(4, (0, (v 70 (v 8 l0 30) l3))), (2, (0, (w32 (l2 + 1)))), (0, (18, l0)), (1, (0, l1)), (3, (0, l3))]) rfl dX8_chain_28 ?_
        refine g_aload_n F rfl 2 rfl dX8_chain_30 ?_
        refine g_get F (t := 81) (sI := 31) fl_RX8_90 rfl rfl (Int.not_lt.mp (Int.not_lt.mpr h0)) dX8_chain_31 ?_
        refine g_iload F 0 rfl rfl dX8_chain_34 ?_
        refine g_chk (fun n6 => ?_)
        refine h_iald F (n := 60) ak_71 (Int.not_lt.mp (Int.not_lt.mpr n2)) n6 rfl dX8_chain_36 ?_
        refine g_iconst F 0 rfl dX8_chain_37 ?_
        refine g_icmp_eq F rfl rfl (tgt := 65) rfl dX8_chain_38 (fun n7 => ?_) (fun n7 => ?_)
        · refine g_iconst F 0 rfl dX8_chain_65 ?_
          refine g_istore_n F rfl rfl (Nat.le_of_ble_eq_true rfl) (ls' := [(3, (0, (-1))), (4, (0, (v 70 (v 8 l0 30) l3))), (2, (0, (w32 (l2 + 1)))), (0, (18, l0)), (1, (0, l1))]) rfl dX8_chain_66 ?_
          refine g_goto F (tgt := 4) rfl dX8_chain_67 ?_
          refine g_loc [(3, 18), (4, 0), (2, 0), (0, 0)] rfl ?_
          exact ih v (w32 (l2 + 1)) (-1)
        · refine g_aload_n F rfl 2 rfl dX8_chain_41 ?_
          refine g_get F (t := 81) (sI := 31) fl_RX8_90 rfl rfl (Int.not_lt.mp (Int.not_lt.mpr h0)) dX8_chain_42 ?_
          refine g_iload_n F rfl 4 rfl rfl dX8_chain_45 ?_
          refine h_iald F (n := 60) ak_71 (Int.not_lt.mp (Int.not_lt.mpr n2)) n3 rfl dX8_chain_46 ?_
          refine g_aload_n F rfl 2 rfl dX8_chain_47 ?_
          refine g_get F (t := 81) (sI := 31) fl_RX8_90 rfl rfl (Int.not_lt.mp (Int.not_lt.mpr h0)) dX8_chain_48 ?_
          refine g_iload F 0 rfl rfl dX8_chain_51 ?_
          refine h_iald F (n := 60) ak_71 (Int.not_lt.mp (Int.not_lt.mpr n2)) n6 rfl dX8_chain_53 ?_
          refine g_isub F rfl rfl dX8_chain_54 ?_
          refine g_bipush F rfl (by decide) dX8_chain_55 ?_
          refine g_icmp_gt F rfl rfl (tgt := 65) rfl dX8_chain_57 (fun n8 => ?_) (fun n8 => ?_)
          · refine g_iconst F 0 rfl dX8_chain_65 ?_
            refine g_istore_n F rfl rfl (Nat.le_of_ble_eq_true rfl) (ls' := [(3, (0, (-1))), (4, (0, (v 70 (v 8 l0 30) l3))), (2, (0, (w32 (l2 + 1)))), (0, (18, l0)), (1, (0, l1))]) rfl dX8_chain_66 ?_
            refine g_goto F (tgt := 4) rfl dX8_chain_67 ?_
            refine g_loc [(3, 18), (4, 0), (2, 0), (0, 0)] rfl ?_
            exact ih v (w32 (l2 + 1)) (-1)
          · refine g_iload F 0 rfl rfl dX8_chain_60 ?_
            refine g_goto F (tgt := 66) rfl dX8_chain_62 ?_
            refine g_istore_n F rfl rfl (Nat.le_of_ble_eq_true rfl) (ls' := [(3, (0, (v 70 (v 8 l0 30) l3))), (4, (0, (v 70 (v 8 l0 30) l3))), (2, (0, (w32 (l2 + 1)))), (0, (18, l0)), (1, (0, l1))]) rfl dX8_chain_66 ?_
            refine g_goto F (tgt := 4) rfl dX8_chain_67 ?_
            refine g_loc [(3, 18), (4, 0), (2, 0), (0, 0)] rfl ?_
            exact ih v (w32 (l2 + 1)) (v 70 (v 8 l0 30) l3)
def sp_X8_chain (a0 a1 : Int) (v : V) : Res := (lp_X8_chain_4 a0 a1 (fun v9 u9_2 u9_3 => (rOk u9_2 v9)) 200 v 0 a1)
set_option maxRecDepth 100000 in
set_option maxHeartbeats 4000000 in
theorem k_X8_chain (a0 a1 : Int) (h0 : 0 ≤ a0) (x : Cx) (v : V) (F : Fx x cX8_chain RX8 "chain" ({ frames := 0, cells := 0, slots := 0, locals := 0 }) 5 (some 0) (some .int) 0) (ho : ∀ a ∈ [(18, a0), (0, a1)], okv v a) : Gs x (sp_X8_chain a0 a1 v) v 0 0 0 (avArgs 0 [(18, a0), (0, a1)]) [] := by
  show Gs x _ v 0 0 0 [(0, (18, a0)), (1, (0, a1))] []
  unfold sp_X8_chain
  refine g_iconst F 2 rfl dX8_chain_0 ?_
  refine g_istore_n F rfl rfl (Nat.le_of_ble_eq_true rfl) (ls' := [(2, (2, 0)), (0, (18, a0)), (1, (0, a1))]) rfl dX8_chain_1 ?_
  refine g_iload_n F rfl 2 rfl rfl dX8_chain_2 ?_
  refine g_istore_n F rfl rfl (Nat.le_of_ble_eq_true rfl) (ls' := [(3, (0, a1)), (2, (2, 0)), (0, (18, a0)), (1, (0, a1))]) rfl dX8_chain_3 ?_
  refine g_loc [(2, 18), (3, 0), (1, 0), (0, 0)] rfl ?_
  refine kl_X8_chain_4 (Int.not_lt.mp (Int.not_lt.mpr h0)) F (fun v9 u9_2 u9_3 => ?_) 200 v 0 a1
  refine g_iload_n F rfl 2 rfl rfl dX8_chain_70 ?_
  exact g_ireturn F rfl rfl rfl rfl (Nat.le_of_ble_eq_true rfl) (Nat.le_of_ble_eq_true rfl) dX8_chain_71
theorem c_X8_chain (a0 a1 : Int) (h0 : 0 ≤ a0) : ∀ l, Ct l yX8_chain cX8_chain 5 (some .int) ({ frames := 0, cells := 0, slots := 0, locals := 0 }) (some 0) [(18, a0), (0, a1)] (sp_X8_chain a0 a1) := g_method (by decide +kernel) (Nat.le_of_ble_eq_true rfl) (fun x v F ho => k_X8_chain a0 a1 h0 x v F ho)
def sp_X8_ofLot (a0 a1 a2 : Int) (v : V) : Res := (rB (sp_X8_isLot a0 a1 v) (fun z1 v1 => (if ¬ z1 = 0 then (rB (sp_X8_in a2 0 8 v1) (fun z3 v3 => (if z3 = 0 then (rB (sp_X8_holds a0 2 v3) (fun z5 v5 => (if ¬ z5 = 0 then none
   else (rOk 0 v5))))
   else (rB (sp_X8_holds a0 0 v3) (fun z7 v7 => (if ¬ z7 = 0 then (if a2 = 0 then (chk (0 ≤ (v7 8 a0 22)) (chk (0 ≤ a1 ∧ a1 < 60) (rOk (v7 62 (v7 8 a0 22) a1) v7)))
   else (if a2 = 1 then (chk (0 ≤ (v7 8 a0 23)) (chk (0 ≤ a1 ∧ a1 < 60) (rOk (v7 63 (v7 8 a0 23) a1) v7)))
   else (if a2 = 2 then (chk (0 ≤ (v7 8 a0 24)) (chk (0 ≤ a1 ∧ a1 < 60) (rOk (v7 64 (v7 8 a0 24) a1) v7)))
   else (if a2 = 3 then (chk (0 ≤ (v7 8 a0 25)) (chk (0 ≤ a1 ∧ a1 < 60) (rOk (v7 65 (v7 8 a0 25) a1) v7)))
   else (if a2 = 4 then (chk (0 ≤ (v7 8 a0 26)) (chk (0 ≤ a1 ∧ a1 < 60) (rOk (v7 66 (v7 8 a0 26) a1) v7)))
   else (if a2 = 5 then (chk (0 ≤ (v7 8 a0 30)) (chk (0 ≤ a1 ∧ a1 < 60) (rOk (v7 70 (v7 8 a0 30) a1) v7)))
   else (if a2 = 6 then (chk (0 ≤ (v7 8 a0 31)) (chk (0 ≤ a1 ∧ a1 < 60) (rOk (v7 71 (v7 8 a0 31) a1) v7)))
   else (if a2 = 7 then (rB (sp_X8_worth a0 a1 v7) (fun z31 v31 => (rOk z31 v31)))
   else (rB (sp_X8_chain a0 a1 v7) (fun z32 v32 => (rOk z32 v32)))))))))))
   else none))))))
   else (rB (sp_X8_holds a0 1 v1) (fun z33 v33 => (if ¬ z33 = 0 then none
   else (rOk 0 v33)))))))
set_option maxRecDepth 100000 in
set_option maxHeartbeats 4000000 in
theorem k_X8_ofLot (a0 a1 a2 : Int) (h0 : 0 ≤ a0) (x : Cx) (v : V) (F : Fx x cX8_ofLot RX8 "ofLot" ({ frames := 3, cells := 0, slots := 0, locals := 69 }) 3 (some 0) (some .int) 0) (ho : ∀ a ∈ [(18, a0), (0, a1), (0, a2)], okv v a) : Gs x (sp_X8_ofLot a0 a1 a2 v) v 0 0 0 (avArgs 0 [(18, a0), (0, a1), (0, a2)]) [] := by
  show Gs x _ v 0 0 0 [(0, (18, a0)), (1, (0, a1)), (2, (0, a2))] []
  unfold sp_X8_ofLot
  refine g_aload_n F rfl 0 rfl dX8_ofLot_0 ?_
  refine g_aload_n F rfl 0 rfl dX8_ofLot_1 ?_
  refine g_iload_n F rfl 1 rfl rfl dX8_ofLot_2 ?_
  refine g_callV F (by decide) (K := 8) (b := a0) [(0, a1)] [0] ml_RX8_191 wi_X8_isLot ws_X8_isLot (c_X8_isLot a0 a1 (Int.not_lt.mp (Int.not_lt.mpr h0))) mi_X8_isLot (by decide) ⟨_, rfl, rfl⟩ (Int.not_lt.mp (Int.not_lt.mpr h0)) rfl rfl rfl (Nat.le_of_ble_eq_true rfl) (Nat.le_of_ble_eq_true rfl) (Nat.le_of_ble_eq_true rfl) (Nat.le_of_ble_eq_true rfl) (Nat.le_of_ble_eq_true rfl) dX8_ofLot_3 (fun z1 v1 hz1 => ?_)
  refine g_if_ne F rfl (tgt := 13) rfl dX8_ofLot_6 (fun n2 => ?_) (fun n2 => ?_)
  · refine g_iload_n F rfl 2 rfl rfl dX8_ofLot_13 ?_
    refine g_iconst F 2 rfl dX8_ofLot_14 ?_
    refine g_bipush F rfl (by decide) dX8_ofLot_15 ?_
    refine g_callS F (by decide) [(0, a2), (2, 0), (0, 8)] [0, 0, 0] ml_RX8_133 wt_X8_in (c_X8_in a2 0 8) mi_X8_in rfl rfl rfl (Nat.le_of_ble_eq_true rfl) (Nat.le_of_ble_eq_true rfl) (Nat.le_of_ble_eq_true rfl) (Nat.le_of_ble_eq_true rfl) (Nat.le_of_ble_eq_true rfl) dX8_ofLot_17 (fun z3 v3 hz3 => ?_)
    refine g_if_eq F rfl (tgt := 27) rfl dX8_ofLot_20 (fun n4 => ?_) (fun n4 => ?_)
    · refine g_iconst F 0 rfl dX8_ofLot_27 ?_
      refine g_callV F (by decide) (K := 8) (b := a0) [(0, 2)] [0] ml_RX8_151 wi_X8_holds ws_X8_holds (c_X8_holds a0 2 (Int.not_lt.mp (Int.not_lt.mpr h0))) mi_X8_holds (by decide) ⟨_, rfl, rfl⟩ (Int.not_lt.mp (Int.not_lt.mpr h0)) rfl rfl rfl (Nat.le_of_ble_eq_true rfl) (Nat.le_of_ble_eq_true rfl) (Nat.le_of_ble_eq_true rfl) (Nat.le_of_ble_eq_true rfl) (Nat.le_of_ble_eq_true rfl) dX8_ofLot_28 (fun z5 v5 hz5 => ?_)
      refine g_if_ne F rfl (tgt := 36) rfl dX8_ofLot_31 (fun n6 => ?_) (fun n6 => ?_)
      · exact g_none
      · refine g_iconst F 2 rfl dX8_ofLot_34 ?_
        exact g_ireturn F rfl rfl rfl rfl (Nat.le_of_ble_eq_true rfl) (Nat.le_of_ble_eq_true rfl) dX8_ofLot_35
    · refine g_iconst F 2 rfl dX8_ofLot_23 ?_
      refine g_goto F (tgt := 28) rfl dX8_ofLot_24 ?_
      refine g_callV F (by decide) (K := 8) (b := a0) [(2, 0)] [0] ml_RX8_151 wi_X8_holds ws_X8_holds (c_X8_holds a0 0 (Int.not_lt.mp (Int.not_lt.mpr h0))) mi_X8_holds (by decide) ⟨_, rfl, rfl⟩ (Int.not_lt.mp (Int.not_lt.mpr h0)) rfl rfl rfl (Nat.le_of_ble_eq_true rfl) (Nat.le_of_ble_eq_true rfl) (Nat.le_of_ble_eq_true rfl) (Nat.le_of_ble_eq_true rfl) (Nat.le_of_ble_eq_true rfl) dX8_ofLot_28 (fun z7 v7 hz7 => ?_)
      refine g_if_ne F rfl (tgt := 36) rfl dX8_ofLot_31 (fun n8 => ?_) (fun n8 => ?_)
      · refine g_iload_n F rfl 2 rfl rfl dX8_ofLot_36 ?_
        refine g_if (fun n9 => ?_) (fun n9 => ?_)
        · refine g_tabIn F rfl (by omega) (by omega) (off := 47) (by rw [n9]; rfl) (tgt := 84) rfl dX8_ofLot_37 ?_
          refine g_aload_n F rfl 0 rfl dX8_ofLot_84 ?_
          refine g_get F (t := 72) (sI := 22) fl_RX8_63 rfl rfl (Int.not_lt.mp (Int.not_lt.mpr h0)) dX8_ofLot_85 ?_
          refine g_iload_n F rfl 1 rfl rfl dX8_ofLot_88 ?_
          refine g_chk (fun n10 => ?_)
          refine g_chk (fun n11 => ?_)
          refine h_iald F (n := 60) ak_62 (Int.not_lt.mp (Int.not_lt.mpr n10)) n11 rfl dX8_ofLot_89 ?_
          exact g_ireturn F rfl rfl rfl rfl (Nat.le_of_ble_eq_true rfl) (Nat.le_of_ble_eq_true rfl) dX8_ofLot_90
        · refine g_if (fun n12 => ?_) (fun n12 => ?_)
          · refine g_tabIn F rfl (by omega) (by omega) (off := 54) (by rw [n12]; rfl) (tgt := 91) rfl dX8_ofLot_37 ?_
            refine g_aload_n F rfl 0 rfl dX8_ofLot_91 ?_
            refine g_get F (t := 73) (sI := 23) fl_RX8_66 rfl rfl (Int.not_lt.mp (Int.not_lt.mpr h0)) dX8_ofLot_92 ?_
            refine g_iload_n F rfl 1 rfl rfl dX8_ofLot_95 ?_
            refine g_chk (fun n13 => ?_)
            refine g_chk (fun n14 => ?_)
            refine h_iald F (n := 60) ak_63 (Int.not_lt.mp (Int.not_lt.mpr n13)) n14 rfl dX8_ofLot_96 ?_
            exact g_ireturn F rfl rfl rfl rfl (Nat.le_of_ble_eq_true rfl) (Nat.le_of_ble_eq_true rfl) dX8_ofLot_97
          · refine g_if (fun n15 => ?_) (fun n15 => ?_)
            · refine g_tabIn F rfl (by omega) (by omega) (off := 61) (by rw [n15]; rfl) (tgt := 98) rfl dX8_ofLot_37 ?_
              refine g_aload_n F rfl 0 rfl dX8_ofLot_98 ?_
              refine g_get F (t := 74) (sI := 24) fl_RX8_69 rfl rfl (Int.not_lt.mp (Int.not_lt.mpr h0)) dX8_ofLot_99 ?_
              refine g_iload_n F rfl 1 rfl rfl dX8_ofLot_102 ?_
              refine g_chk (fun n16 => ?_)
              refine g_chk (fun n17 => ?_)
              refine h_iald F (n := 60) ak_64 (Int.not_lt.mp (Int.not_lt.mpr n16)) n17 rfl dX8_ofLot_103 ?_
              exact g_ireturn F rfl rfl rfl rfl (Nat.le_of_ble_eq_true rfl) (Nat.le_of_ble_eq_true rfl) dX8_ofLot_104
            · refine g_if (fun n18 => ?_) (fun n18 => ?_)
              · refine g_tabIn F rfl (by omega) (by omega) (off := 68) (by rw [n18]; rfl) (tgt := 105) rfl dX8_ofLot_37 ?_
                refine g_aload_n F rfl 0 rfl dX8_ofLot_105 ?_
                refine g_get F (t := 75) (sI := 25) fl_RX8_72 rfl rfl (Int.not_lt.mp (Int.not_lt.mpr h0)) dX8_ofLot_106 ?_
                refine g_iload_n F rfl 1 rfl rfl dX8_ofLot_109 ?_
                refine g_chk (fun n19 => ?_)
                refine g_chk (fun n20 => ?_)
                refine h_iald F (n := 60) ak_65 (Int.not_lt.mp (Int.not_lt.mpr n19)) n20 rfl dX8_ofLot_110 ?_
                exact g_ireturn F rfl rfl rfl rfl (Nat.le_of_ble_eq_true rfl) (Nat.le_of_ble_eq_true rfl) dX8_ofLot_111
              · refine g_if (fun n21 => ?_) (fun n21 => ?_)
                · refine g_tabIn F rfl (by omega) (by omega) (off := 75) (by rw [n21]; rfl) (tgt := 112) rfl dX8_ofLot_37 ?_
                  refine g_aload_n F rfl 0 rfl dX8_ofLot_112 ?_
                  refine g_get F (t := 76) (sI := 26) fl_RX8_75 rfl rfl (Int.not_lt.mp (Int.not_lt.mpr h0)) dX8_ofLot_113 ?_
                  refine g_iload_n F rfl 1 rfl rfl dX8_ofLot_116 ?_
                  refine g_chk (fun n22 => ?_)
                  refine g_chk (fun n23 => ?_)
                  refine h_iald F (n := 60) ak_66 (Int.not_lt.mp (Int.not_lt.mpr n22)) n23 rfl dX8_ofLot_117 ?_
                  exact g_ireturn F rfl rfl rfl rfl (Nat.le_of_ble_eq_true rfl) (Nat.le_of_ble_eq_true rfl) dX8_ofLot_118
                · refine g_if (fun n24 => ?_) (fun n24 => ?_)
                  · refine g_tabIn F rfl (by omega) (by omega) (off := 82) (by rw [n24]; rfl) (tgt := 119) rfl dX8_ofLot_37 ?_
                    refine g_aload_n F rfl 0 rfl dX8_ofLot_119 ?_
                    refine g_get F (t := 80) (sI := 30) fl_RX8_87 rfl rfl (Int.not_lt.mp (Int.not_lt.mpr h0)) dX8_ofLot_120 ?_
                    refine g_iload_n F rfl 1 rfl rfl dX8_ofLot_123 ?_
                    refine g_chk (fun n25 => ?_)
                    refine g_chk (fun n26 => ?_)
                    refine h_iald F (n := 60) ak_70 (Int.not_lt.mp (Int.not_lt.mpr n25)) n26 rfl dX8_ofLot_124 ?_
                    exact g_ireturn F rfl rfl rfl rfl (Nat.le_of_ble_eq_true rfl) (Nat.le_of_ble_eq_true rfl) dX8_ofLot_125
                  · refine g_if (fun n27 => ?_) (fun n27 => ?_)
                    · refine g_tabIn F rfl (by omega) (by omega) (off := 89) (by rw [n27]; rfl) (tgt := 126) rfl dX8_ofLot_37 ?_
                      refine g_aload_n F rfl 0 rfl dX8_ofLot_126 ?_
                      refine g_get F (t := 81) (sI := 31) fl_RX8_90 rfl rfl (Int.not_lt.mp (Int.not_lt.mpr h0)) dX8_ofLot_127 ?_
                      refine g_iload_n F rfl 1 rfl rfl dX8_ofLot_130 ?_
                      refine g_chk (fun n28 => ?_)
                      refine g_chk (fun n29 => ?_)
                      refine h_iald F (n := 60) ak_71 (Int.not_lt.mp (Int.not_lt.mpr n28)) n29 rfl dX8_ofLot_131 ?_
                      exact g_ireturn F rfl rfl rfl rfl (Nat.le_of_ble_eq_true rfl) (Nat.le_of_ble_eq_true rfl) dX8_ofLot_132
                    · refine g_if (fun n30 => ?_) (fun n30 => ?_)
                      · refine g_tabIn F rfl (by omega) (by omega) (off := 96) (by rw [n30]; rfl) (tgt := 133) rfl dX8_ofLot_37 ?_
                        refine g_aload_n F rfl 0 rfl dX8_ofLot_133 ?_
                        refine g_iload_n F rfl 1 rfl rfl dX8_ofLot_134 ?_
                        refine g_callV F (by decide) (K := 8) (b := a0) [(0, a1)] [0] ml_RX8_212 wi_X8_worth ws_X8_worth (c_X8_worth a0 a1 (Int.not_lt.mp (Int.not_lt.mpr h0))) mi_X8_worth (by decide) ⟨_, rfl, rfl⟩ (Int.not_lt.mp (Int.not_lt.mpr h0)) rfl rfl rfl (Nat.le_of_ble_eq_true rfl) (Nat.le_of_ble_eq_true rfl) (Nat.le_of_ble_eq_true rfl) (Nat.le_of_ble_eq_true rfl) (Nat.le_of_ble_eq_true rfl) dX8_ofLot_135 (fun z31 v31 hz31 => ?_)
                        exact g_ireturn F rfl rfl rfl rfl (Nat.le_of_ble_eq_true rfl) (Nat.le_of_ble_eq_true rfl) dX8_ofLot_138
                      · refine g_tabOut F rfl (by omega) (tgt := 139) rfl dX8_ofLot_37 ?_
                        refine g_aload_n F rfl 0 rfl dX8_ofLot_139 ?_
                        refine g_iload_n F rfl 1 rfl rfl dX8_ofLot_140 ?_
                        refine g_callV F (by decide) (K := 8) (b := a0) [(0, a1)] [0] ml_RX8_246 wi_X8_chain ws_X8_chain (c_X8_chain a0 a1 (Int.not_lt.mp (Int.not_lt.mpr h0))) mi_X8_chain (by decide) ⟨_, rfl, rfl⟩ (Int.not_lt.mp (Int.not_lt.mpr h0)) rfl rfl rfl (Nat.le_of_ble_eq_true rfl) (Nat.le_of_ble_eq_true rfl) (Nat.le_of_ble_eq_true rfl) (Nat.le_of_ble_eq_true rfl) (Nat.le_of_ble_eq_true rfl) dX8_ofLot_141 (fun z32 v32 hz32 => ?_)
                        exact g_ireturn F rfl rfl rfl rfl (Nat.le_of_ble_eq_true rfl) (Nat.le_of_ble_eq_true rfl) dX8_ofLot_144
      · exact g_none
  · refine g_iconst F 2 rfl dX8_ofLot_9 ?_
    refine g_goto F (tgt := 28) rfl dX8_ofLot_10 ?_
    refine g_callV F (by decide) (K := 8) (b := a0) [(2, 1)] [0] ml_RX8_151 wi_X8_holds ws_X8_holds (c_X8_holds a0 1 (Int.not_lt.mp (Int.not_lt.mpr h0))) mi_X8_holds (by decide) ⟨_, rfl, rfl⟩ (Int.not_lt.mp (Int.not_lt.mpr h0)) rfl rfl rfl (Nat.le_of_ble_eq_true rfl) (Nat.le_of_ble_eq_true rfl) (Nat.le_of_ble_eq_true rfl) (Nat.le_of_ble_eq_true rfl) (Nat.le_of_ble_eq_true rfl) dX8_ofLot_28 (fun z33 v33 hz33 => ?_)
    refine g_if_ne F rfl (tgt := 36) rfl dX8_ofLot_31 (fun n34 => ?_) (fun n34 => ?_)
    · exact g_none
    · refine g_iconst F 2 rfl dX8_ofLot_34 ?_
      exact g_ireturn F rfl rfl rfl rfl (Nat.le_of_ble_eq_true rfl) (Nat.le_of_ble_eq_true rfl) dX8_ofLot_35
theorem c_X8_ofLot (a0 a1 a2 : Int) (h0 : 0 ≤ a0) : ∀ l, Ct l yX8_ofLot cX8_ofLot 3 (some .int) ({ frames := 3, cells := 0, slots := 0, locals := 69 }) (some 0) [(18, a0), (0, a1), (0, a2)] (sp_X8_ofLot a0 a1 a2) := g_method (by decide +kernel) (Nat.le_of_ble_eq_true rfl) (fun x v F ho => k_X8_ofLot a0 a1 a2 h0 x v F ho)
def sp_X8_ofLoan (a0 a1 a2 : Int) (v : V) : Res := (rB (sp_X8_isLoan a0 a1 v) (fun z1 v1 => (if ¬ z1 = 0 then (rB (sp_X8_in a2 0 5 v1) (fun z3 v3 => (if z3 = 0 then (rB (sp_X8_holds a0 2 v3) (fun z5 v5 => (if ¬ z5 = 0 then none
   else (rOk 0 v5))))
   else (rB (sp_X8_holds a0 0 v3) (fun z7 v7 => (if ¬ z7 = 0 then (if 3 ≤ a2 then (if ¬ a2 = 3 then (if ¬ a2 = 4 then (chk (0 ≤ (v7 8 a0 43)) (chk (0 ≤ a1 ∧ a1 < 20) (if (v7 83 (v7 8 a0 43) a1) = 0 then (rOk 0 v7)
   else (rOk 1 v7))))
   else (rB (sp_X8_canSeize a0 a1 v7) (fun z15 v15 => (if z15 = 0 then (rOk 0 v15)
   else (rOk 1 v15)))))
   else (chk (0 ≤ (v7 8 a0 42)) (chk (0 ≤ a1 ∧ a1 < 20) (rOk (v7 82 (v7 8 a0 42) a1) v7))))
   else (if ¬ a2 = 0 then (if ¬ a2 = 1 then (rB (sp_X8_owed a0 a1 v7) (fun z21 v21 => (rOk (w32 z21) v21)))
   else (chk (0 ≤ (v7 8 a0 38)) (chk (0 ≤ a1 ∧ a1 < 20) (rOk (v7 78 (v7 8 a0 38) a1) v7))))
   else (chk (0 ≤ (v7 8 a0 37)) (chk (0 ≤ a1 ∧ a1 < 20) (rOk (v7 77 (v7 8 a0 37) a1) v7)))))
   else none))))))
   else (rB (sp_X8_holds a0 1 v1) (fun z26 v26 => (if ¬ z26 = 0 then none
   else (rOk 0 v26)))))))
set_option maxRecDepth 100000 in
set_option maxHeartbeats 4000000 in
theorem k_X8_ofLoan (a0 a1 a2 : Int) (h0 : 0 ≤ a0) (x : Cx) (v : V) (F : Fx x cX8_ofLoan RX8 "ofLoan" ({ frames := 4, cells := 0, slots := 0, locals := 93 }) 3 (some 0) (some .int) 0) (ho : ∀ a ∈ [(18, a0), (0, a1), (0, a2)], okv v a) : Gs x (sp_X8_ofLoan a0 a1 a2 v) v 0 0 0 (avArgs 0 [(18, a0), (0, a1), (0, a2)]) [] := by
  show Gs x _ v 0 0 0 [(0, (18, a0)), (1, (0, a1)), (2, (0, a2))] []
  unfold sp_X8_ofLoan
  refine g_aload_n F rfl 0 rfl dX8_ofLoan_0 ?_
  refine g_aload_n F rfl 0 rfl dX8_ofLoan_1 ?_
  refine g_iload_n F rfl 1 rfl rfl dX8_ofLoan_2 ?_
  refine g_callV F (by decide) (K := 8) (b := a0) [(0, a1)] [0] ml_RX8_220 wi_X8_isLoan ws_X8_isLoan (c_X8_isLoan a0 a1 (Int.not_lt.mp (Int.not_lt.mpr h0))) mi_X8_isLoan (by decide) ⟨_, rfl, rfl⟩ (Int.not_lt.mp (Int.not_lt.mpr h0)) rfl rfl rfl (Nat.le_of_ble_eq_true rfl) (Nat.le_of_ble_eq_true rfl) (Nat.le_of_ble_eq_true rfl) (Nat.le_of_ble_eq_true rfl) (Nat.le_of_ble_eq_true rfl) dX8_ofLoan_3 (fun z1 v1 hz1 => ?_)
  refine g_if_ne F rfl (tgt := 13) rfl dX8_ofLoan_6 (fun n2 => ?_) (fun n2 => ?_)
  · refine g_iload_n F rfl 2 rfl rfl dX8_ofLoan_13 ?_
    refine g_iconst F 2 rfl dX8_ofLoan_14 ?_
    refine g_iconst F 0 rfl dX8_ofLoan_15 ?_
    refine g_callS F (by decide) [(0, a2), (2, 0), (0, 5)] [0, 0, 0] ml_RX8_133 wt_X8_in (c_X8_in a2 0 5) mi_X8_in rfl rfl rfl (Nat.le_of_ble_eq_true rfl) (Nat.le_of_ble_eq_true rfl) (Nat.le_of_ble_eq_true rfl) (Nat.le_of_ble_eq_true rfl) (Nat.le_of_ble_eq_true rfl) dX8_ofLoan_16 (fun z3 v3 hz3 => ?_)
    refine g_if_eq F rfl (tgt := 26) rfl dX8_ofLoan_19 (fun n4 => ?_) (fun n4 => ?_)
    · refine g_iconst F 0 rfl dX8_ofLoan_26 ?_
      refine g_callV F (by decide) (K := 8) (b := a0) [(0, 2)] [0] ml_RX8_151 wi_X8_holds ws_X8_holds (c_X8_holds a0 2 (Int.not_lt.mp (Int.not_lt.mpr h0))) mi_X8_holds (by decide) ⟨_, rfl, rfl⟩ (Int.not_lt.mp (Int.not_lt.mpr h0)) rfl rfl rfl (Nat.le_of_ble_eq_true rfl) (Nat.le_of_ble_eq_true rfl) (Nat.le_of_ble_eq_true rfl) (Nat.le_of_ble_eq_true rfl) (Nat.le_of_ble_eq_true rfl) dX8_ofLoan_27 (fun z5 v5 hz5 => ?_)
      refine g_if_ne F rfl (tgt := 35) rfl dX8_ofLoan_30 (fun n6 => ?_) (fun n6 => ?_)
      · exact g_none
      · refine g_iconst F 2 rfl dX8_ofLoan_33 ?_
        exact g_ireturn F rfl rfl rfl rfl (Nat.le_of_ble_eq_true rfl) (Nat.le_of_ble_eq_true rfl) dX8_ofLoan_34
    · refine g_iconst F 2 rfl dX8_ofLoan_22 ?_
      refine g_goto F (tgt := 27) rfl dX8_ofLoan_23 ?_
      refine g_callV F (by decide) (K := 8) (b := a0) [(2, 0)] [0] ml_RX8_151 wi_X8_holds ws_X8_holds (c_X8_holds a0 0 (Int.not_lt.mp (Int.not_lt.mpr h0))) mi_X8_holds (by decide) ⟨_, rfl, rfl⟩ (Int.not_lt.mp (Int.not_lt.mpr h0)) rfl rfl rfl (Nat.le_of_ble_eq_true rfl) (Nat.le_of_ble_eq_true rfl) (Nat.le_of_ble_eq_true rfl) (Nat.le_of_ble_eq_true rfl) (Nat.le_of_ble_eq_true rfl) dX8_ofLoan_27 (fun z7 v7 hz7 => ?_)
      refine g_if_ne F rfl (tgt := 35) rfl dX8_ofLoan_30 (fun n8 => ?_) (fun n8 => ?_)
      · refine g_iload_n F rfl 2 rfl rfl dX8_ofLoan_35 ?_
        refine g_iconst F 0 rfl dX8_ofLoan_36 ?_
        refine g_icmp_ge F rfl rfl (tgt := 74) rfl dX8_ofLoan_37 (fun n9 => ?_) (fun n9 => ?_)
        · refine g_iload_n F rfl 2 rfl rfl dX8_ofLoan_74 ?_
          refine g_iconst F 0 rfl dX8_ofLoan_75 ?_
          refine g_icmp_ne F rfl rfl (tgt := 88) rfl dX8_ofLoan_76 (fun n10 => ?_) (fun n10 => ?_)
          · refine g_iload_n F rfl 2 rfl rfl dX8_ofLoan_88 ?_
            refine g_iconst F 0 rfl dX8_ofLoan_89 ?_
            refine g_icmp_ne F rfl rfl (tgt := 104) rfl dX8_ofLoan_90 (fun n11 => ?_) (fun n11 => ?_)
            · refine g_aload_n F rfl 0 rfl dX8_ofLoan_104 ?_
              refine g_get F (t := 93) (sI := 43) fl_RX8_123 rfl rfl (Int.not_lt.mp (Int.not_lt.mpr h0)) dX8_ofLoan_105 ?_
              refine g_iload_n F rfl 1 rfl rfl dX8_ofLoan_108 ?_
              refine g_chk (fun n12 => ?_)
              refine g_chk (fun n13 => ?_)
              refine h_zald F (n := 20) ak_83 (Int.not_lt.mp (Int.not_lt.mpr n12)) n13 rfl dX8_ofLoan_109 ?_
              refine g_if_eq F rfl (tgt := 117) rfl dX8_ofLoan_110 (fun n14 => ?_) (fun n14 => ?_)
              · refine g_iconst F 2 rfl dX8_ofLoan_117 ?_
                exact g_ireturn F rfl rfl rfl rfl (Nat.le_of_ble_eq_true rfl) (Nat.le_of_ble_eq_true rfl) dX8_ofLoan_118
              · refine g_iconst F 2 rfl dX8_ofLoan_113 ?_
                refine g_goto F (tgt := 118) rfl dX8_ofLoan_114 ?_
                exact g_ireturn F rfl rfl rfl rfl (Nat.le_of_ble_eq_true rfl) (Nat.le_of_ble_eq_true rfl) dX8_ofLoan_118
            · refine g_aload_n F rfl 0 rfl dX8_ofLoan_93 ?_
              refine g_iload_n F rfl 1 rfl rfl dX8_ofLoan_94 ?_
              refine g_callV F (by decide) (K := 8) (b := a0) [(0, a1)] [0] ml_RX8_235 wi_X8_canSeize ws_X8_canSeize (c_X8_canSeize a0 a1 (Int.not_lt.mp (Int.not_lt.mpr h0))) mi_X8_canSeize (by decide) ⟨_, rfl, rfl⟩ (Int.not_lt.mp (Int.not_lt.mpr h0)) rfl rfl rfl (Nat.le_of_ble_eq_true rfl) (Nat.le_of_ble_eq_true rfl) (Nat.le_of_ble_eq_true rfl) (Nat.le_of_ble_eq_true rfl) (Nat.le_of_ble_eq_true rfl) dX8_ofLoan_95 (fun z15 v15 hz15 => ?_)
              refine g_if_eq F rfl (tgt := 117) rfl dX8_ofLoan_98 (fun n16 => ?_) (fun n16 => ?_)
              · refine g_iconst F 2 rfl dX8_ofLoan_117 ?_
                exact g_ireturn F rfl rfl rfl rfl (Nat.le_of_ble_eq_true rfl) (Nat.le_of_ble_eq_true rfl) dX8_ofLoan_118
              · refine g_goto F (tgt := 113) rfl dX8_ofLoan_101 ?_
                refine g_iconst F 2 rfl dX8_ofLoan_113 ?_
                refine g_goto F (tgt := 118) rfl dX8_ofLoan_114 ?_
                exact g_ireturn F rfl rfl rfl rfl (Nat.le_of_ble_eq_true rfl) (Nat.le_of_ble_eq_true rfl) dX8_ofLoan_118
          · refine g_aload_n F rfl 0 rfl dX8_ofLoan_79 ?_
            refine g_get F (t := 92) (sI := 42) fl_RX8_120 rfl rfl (Int.not_lt.mp (Int.not_lt.mpr h0)) dX8_ofLoan_80 ?_
            refine g_iload_n F rfl 1 rfl rfl dX8_ofLoan_83 ?_
            refine g_chk (fun n17 => ?_)
            refine g_chk (fun n18 => ?_)
            refine h_iald F (n := 20) ak_82 (Int.not_lt.mp (Int.not_lt.mpr n17)) n18 rfl dX8_ofLoan_84 ?_
            refine g_goto F (tgt := 118) rfl dX8_ofLoan_85 ?_
            exact g_ireturn F rfl rfl rfl rfl (Nat.le_of_ble_eq_true rfl) (Nat.le_of_ble_eq_true rfl) dX8_ofLoan_118
        · refine g_iload_n F rfl 2 rfl rfl dX8_ofLoan_40 ?_
          refine g_if_ne F rfl (tgt := 53) rfl dX8_ofLoan_41 (fun n19 => ?_) (fun n19 => ?_)
          · refine g_iload_n F rfl 2 rfl rfl dX8_ofLoan_53 ?_
            refine g_iconst F 2 rfl dX8_ofLoan_54 ?_
            refine g_icmp_ne F rfl rfl (tgt := 67) rfl dX8_ofLoan_55 (fun n20 => ?_) (fun n20 => ?_)
            · refine g_aload_n F rfl 0 rfl dX8_ofLoan_67 ?_
              refine g_iload_n F rfl 1 rfl rfl dX8_ofLoan_68 ?_
              refine g_callV F (by decide) (K := 8) (b := a0) [(0, a1)] [0] ml_RX8_223 wi_X8_owed ws_X8_owed (c_X8_owed a0 a1 (Int.not_lt.mp (Int.not_lt.mpr h0))) mi_X8_owed (by decide) ⟨_, rfl, rfl⟩ (Int.not_lt.mp (Int.not_lt.mpr h0)) rfl rfl rfl (Nat.le_of_ble_eq_true rfl) (Nat.le_of_ble_eq_true rfl) (Nat.le_of_ble_eq_true rfl) (Nat.le_of_ble_eq_true rfl) (Nat.le_of_ble_eq_true rfl) dX8_ofLoan_69 (fun z21 v21 hz21 => ?_)
              refine g_l2i F dX8_ofLoan_72 ?_
              exact g_ireturn F rfl rfl rfl rfl (Nat.le_of_ble_eq_true rfl) (Nat.le_of_ble_eq_true rfl) dX8_ofLoan_73
            · refine g_aload_n F rfl 0 rfl dX8_ofLoan_58 ?_
              refine g_get F (t := 88) (sI := 38) fl_RX8_108 rfl rfl (Int.not_lt.mp (Int.not_lt.mpr h0)) dX8_ofLoan_59 ?_
              refine g_iload_n F rfl 1 rfl rfl dX8_ofLoan_62 ?_
              refine g_chk (fun n22 => ?_)
              refine g_chk (fun n23 => ?_)
              refine h_iald F (n := 20) ak_78 (Int.not_lt.mp (Int.not_lt.mpr n22)) n23 rfl dX8_ofLoan_63 ?_
              refine g_goto F (tgt := 73) rfl dX8_ofLoan_64 ?_
              exact g_ireturn F rfl rfl rfl rfl (Nat.le_of_ble_eq_true rfl) (Nat.le_of_ble_eq_true rfl) dX8_ofLoan_73
          · refine g_aload_n F rfl 0 rfl dX8_ofLoan_44 ?_
            refine g_get F (t := 87) (sI := 37) fl_RX8_105 rfl rfl (Int.not_lt.mp (Int.not_lt.mpr h0)) dX8_ofLoan_45 ?_
            refine g_iload_n F rfl 1 rfl rfl dX8_ofLoan_48 ?_
            refine g_chk (fun n24 => ?_)
            refine g_chk (fun n25 => ?_)
            refine h_iald F (n := 20) ak_77 (Int.not_lt.mp (Int.not_lt.mpr n24)) n25 rfl dX8_ofLoan_49 ?_
            refine g_goto F (tgt := 73) rfl dX8_ofLoan_50 ?_
            exact g_ireturn F rfl rfl rfl rfl (Nat.le_of_ble_eq_true rfl) (Nat.le_of_ble_eq_true rfl) dX8_ofLoan_73
      · exact g_none
  · refine g_iconst F 2 rfl dX8_ofLoan_9 ?_
    refine g_goto F (tgt := 27) rfl dX8_ofLoan_10 ?_
    refine g_callV F (by decide) (K := 8) (b := a0) [(2, 1)] [0] ml_RX8_151 wi_X8_holds ws_X8_holds (c_X8_holds a0 1 (Int.not_lt.mp (Int.not_lt.mpr h0))) mi_X8_holds (by decide) ⟨_, rfl, rfl⟩ (Int.not_lt.mp (Int.not_lt.mpr h0)) rfl rfl rfl (Nat.le_of_ble_eq_true rfl) (Nat.le_of_ble_eq_true rfl) (Nat.le_of_ble_eq_true rfl) (Nat.le_of_ble_eq_true rfl) (Nat.le_of_ble_eq_true rfl) dX8_ofLoan_27 (fun z26 v26 hz26 => ?_)
    refine g_if_ne F rfl (tgt := 35) rfl dX8_ofLoan_30 (fun n27 => ?_) (fun n27 => ?_)
    · exact g_none
    · refine g_iconst F 2 rfl dX8_ofLoan_33 ?_
      exact g_ireturn F rfl rfl rfl rfl (Nat.le_of_ble_eq_true rfl) (Nat.le_of_ble_eq_true rfl) dX8_ofLoan_34
theorem c_X8_ofLoan (a0 a1 a2 : Int) (h0 : 0 ≤ a0) : ∀ l, Ct l yX8_ofLoan cX8_ofLoan 3 (some .int) ({ frames := 4, cells := 0, slots := 0, locals := 93 }) (some 0) [(18, a0), (0, a1), (0, a2)] (sp_X8_ofLoan a0 a1 a2) := g_method (by decide +kernel) (Nat.le_of_ble_eq_true rfl) (fun x v F ho => k_X8_ofLoan a0 a1 a2 h0 x v F ho)
def sp_X8_doubt (a0 a1 a2 : Int) (v : V) : Res := (rB (sp_X8_isWork a0 a1 v) (fun z1 v1 => (if ¬ z1 = 0 then (rB (sp_X8_in a2 0 (v1 8 a0 1) v1) (fun z3 v3 => (if z3 = 0 then (rB (sp_X8_holds a0 2 v3) (fun z5 v5 => (if z5 = 0 then (rOk 0 v5)
   else none)))
   else (rB (sp_X8_holds a0 0 v3) (fun z7 v7 => (if z7 = 0 then none
   else (rB (sp_X8_doubtOn a0 a1 a2 v7) (fun z9 v9 => (rOk z9 v9)))))))))
   else (rB (sp_X8_holds a0 1 v1) (fun z10 v10 => (if z10 = 0 then (rOk 0 v10)
   else none))))))
set_option maxRecDepth 100000 in
set_option maxHeartbeats 4000000 in
theorem k_X8_doubt (a0 a1 a2 : Int) (h0 : 0 ≤ a0) (x : Cx) (v : V) (F : Fx x cX8_doubt RX8 "doubt" ({ frames := 2, cells := 0, slots := 0, locals := 43 }) 3 (some 0) (some .int) 0) (ho : ∀ a ∈ [(18, a0), (0, a1), (0, a2)], okv v a) : Gs x (sp_X8_doubt a0 a1 a2 v) v 0 0 0 (avArgs 0 [(18, a0), (0, a1), (0, a2)]) [] := by
  show Gs x _ v 0 0 0 [(0, (18, a0)), (1, (0, a1)), (2, (0, a2))] []
  unfold sp_X8_doubt
  refine g_aload_n F rfl 0 rfl dX8_doubt_0 ?_
  refine g_aload_n F rfl 0 rfl dX8_doubt_1 ?_
  refine g_iload_n F rfl 1 rfl rfl dX8_doubt_2 ?_
  refine g_callV F (by decide) (K := 8) (b := a0) [(0, a1)] [0] ml_RX8_161 wi_X8_isWork ws_X8_isWork (c_X8_isWork a0 a1 (Int.not_lt.mp (Int.not_lt.mpr h0))) mi_X8_isWork (by decide) ⟨_, rfl, rfl⟩ (Int.not_lt.mp (Int.not_lt.mpr h0)) rfl rfl rfl (Nat.le_of_ble_eq_true rfl) (Nat.le_of_ble_eq_true rfl) (Nat.le_of_ble_eq_true rfl) (Nat.le_of_ble_eq_true rfl) (Nat.le_of_ble_eq_true rfl) dX8_doubt_3 (fun z1 v1 hz1 => ?_)
  refine g_if_ne F rfl (tgt := 13) rfl dX8_doubt_6 (fun n2 => ?_) (fun n2 => ?_)
  · refine g_iload_n F rfl 2 rfl rfl dX8_doubt_13 ?_
    refine g_iconst F 2 rfl dX8_doubt_14 ?_
    refine g_aload_n F rfl 0 rfl dX8_doubt_15 ?_
    refine g_get F (t := 0) (sI := 1) fl_RX8_164 rfl rfl (Int.not_lt.mp (Int.not_lt.mpr h0)) dX8_doubt_16 ?_
    refine g_callS F (by decide) [(0, a2), (2, 0), (0, (v1 8 a0 1))] [0, 0, 0] ml_RX8_133 wt_X8_in (c_X8_in a2 0 (v1 8 a0 1)) mi_X8_in rfl rfl rfl (Nat.le_of_ble_eq_true rfl) (Nat.le_of_ble_eq_true rfl) (Nat.le_of_ble_eq_true rfl) (Nat.le_of_ble_eq_true rfl) (Nat.le_of_ble_eq_true rfl) dX8_doubt_19 (fun z3 v3 hz3 => ?_)
    refine g_if_eq F rfl (tgt := 29) rfl dX8_doubt_22 (fun n4 => ?_) (fun n4 => ?_)
    · refine g_iconst F 0 rfl dX8_doubt_29 ?_
      refine g_callV F (by decide) (K := 8) (b := a0) [(0, 2)] [0] ml_RX8_151 wi_X8_holds ws_X8_holds (c_X8_holds a0 2 (Int.not_lt.mp (Int.not_lt.mpr h0))) mi_X8_holds (by decide) ⟨_, rfl, rfl⟩ (Int.not_lt.mp (Int.not_lt.mpr h0)) rfl rfl rfl (Nat.le_of_ble_eq_true rfl) (Nat.le_of_ble_eq_true rfl) (Nat.le_of_ble_eq_true rfl) (Nat.le_of_ble_eq_true rfl) (Nat.le_of_ble_eq_true rfl) dX8_doubt_30 (fun z5 v5 hz5 => ?_)
      refine g_if_eq F rfl (tgt := 45) rfl dX8_doubt_33 (fun n6 => ?_) (fun n6 => ?_)
      · refine g_iconst F 2 rfl dX8_doubt_45 ?_
        exact g_ireturn F rfl rfl rfl rfl (Nat.le_of_ble_eq_true rfl) (Nat.le_of_ble_eq_true rfl) dX8_doubt_46
      · exact g_none
    · refine g_iconst F 2 rfl dX8_doubt_25 ?_
      refine g_goto F (tgt := 30) rfl dX8_doubt_26 ?_
      refine g_callV F (by decide) (K := 8) (b := a0) [(2, 0)] [0] ml_RX8_151 wi_X8_holds ws_X8_holds (c_X8_holds a0 0 (Int.not_lt.mp (Int.not_lt.mpr h0))) mi_X8_holds (by decide) ⟨_, rfl, rfl⟩ (Int.not_lt.mp (Int.not_lt.mpr h0)) rfl rfl rfl (Nat.le_of_ble_eq_true rfl) (Nat.le_of_ble_eq_true rfl) (Nat.le_of_ble_eq_true rfl) (Nat.le_of_ble_eq_true rfl) (Nat.le_of_ble_eq_true rfl) dX8_doubt_30 (fun z7 v7 hz7 => ?_)
      refine g_if_eq F rfl (tgt := 45) rfl dX8_doubt_33 (fun n8 => ?_) (fun n8 => ?_)
      · exact g_none
      · refine g_aload_n F rfl 0 rfl dX8_doubt_36 ?_
        refine g_iload_n F rfl 1 rfl rfl dX8_doubt_37 ?_
        refine g_iload_n F rfl 2 rfl rfl dX8_doubt_38 ?_
        refine g_callV F (by decide) (K := 8) (b := a0) [(0, a1), (0, a2)] [0, 0] ml_RX8_171 wi_X8_doubtOn ws_X8_doubtOn (c_X8_doubtOn a0 a1 a2 (Int.not_lt.mp (Int.not_lt.mpr h0))) mi_X8_doubtOn (by decide) ⟨_, rfl, rfl⟩ (Int.not_lt.mp (Int.not_lt.mpr h0)) rfl rfl rfl (Nat.le_of_ble_eq_true rfl) (Nat.le_of_ble_eq_true rfl) (Nat.le_of_ble_eq_true rfl) (Nat.le_of_ble_eq_true rfl) (Nat.le_of_ble_eq_true rfl) dX8_doubt_39 (fun z9 v9 hz9 => ?_)
        refine g_goto F (tgt := 46) rfl dX8_doubt_42 ?_
        exact g_ireturn F rfl rfl rfl rfl (Nat.le_of_ble_eq_true rfl) (Nat.le_of_ble_eq_true rfl) dX8_doubt_46
  · refine g_iconst F 2 rfl dX8_doubt_9 ?_
    refine g_goto F (tgt := 30) rfl dX8_doubt_10 ?_
    refine g_callV F (by decide) (K := 8) (b := a0) [(2, 1)] [0] ml_RX8_151 wi_X8_holds ws_X8_holds (c_X8_holds a0 1 (Int.not_lt.mp (Int.not_lt.mpr h0))) mi_X8_holds (by decide) ⟨_, rfl, rfl⟩ (Int.not_lt.mp (Int.not_lt.mpr h0)) rfl rfl rfl (Nat.le_of_ble_eq_true rfl) (Nat.le_of_ble_eq_true rfl) (Nat.le_of_ble_eq_true rfl) (Nat.le_of_ble_eq_true rfl) (Nat.le_of_ble_eq_true rfl) dX8_doubt_30 (fun z10 v10 hz10 => ?_)
    refine g_if_eq F rfl (tgt := 45) rfl dX8_doubt_33 (fun n11 => ?_) (fun n11 => ?_)
    · refine g_iconst F 2 rfl dX8_doubt_45 ?_
      exact g_ireturn F rfl rfl rfl rfl (Nat.le_of_ble_eq_true rfl) (Nat.le_of_ble_eq_true rfl) dX8_doubt_46
    · exact g_none
theorem c_X8_doubt (a0 a1 a2 : Int) (h0 : 0 ≤ a0) : ∀ l, Ct l yX8_doubt cX8_doubt 3 (some .int) ({ frames := 2, cells := 0, slots := 0, locals := 43 }) (some 0) [(18, a0), (0, a1), (0, a2)] (sp_X8_doubt a0 a1 a2) := g_method (by decide +kernel) (Nat.le_of_ble_eq_true rfl) (fun x v F ho => k_X8_doubt a0 a1 a2 h0 x v F ho)
def lp_X8_gaps_65 (l0 l1 l2 l3 l4 l5 : Int) (k : V → Int → Int → Res) : Nat → V → Int → Int → Res
  | 0, _, _, _ => none
  | n + 1, v, l6, l7 => (if l5 = 0 then (k v l6 l7)
   else (if l3 < l7 then (k v l6 l7)
   else (chk (0 ≤ (v 8 l0 16)) (chk (0 ≤ (w32 ((w32 ((w32 (101 * l1)) + l7)) - 1900)) ∧ (w32 ((w32 ((w32 (101 * l1)) + l7)) - 1900)) < 1212) (if (v 56 (v 8 l0 16) (w32 ((w32 ((w32 (101 * l1)) + l7)) - 1900))) = 0 then (lp_X8_gaps_65 l0 l1 l2 l3 l4 l5 k n v (w32 (l6 + 1)) (w32 (l7 + 1)))
   else (lp_X8_gaps_65 l0 l1 l2 l3 l4 l5 k n v (w32 (l6 + 0)) (w32 (l7 + 1))))))))
set_option maxRecDepth 100000 in
set_option maxHeartbeats 4000000 in
theorem kl_X8_gaps_65 {l0 l1 l2 l3 l4 l5 : Int} (h0 : 0 ≤ l0) {x : Cx} (F : Fx x cX8_gaps RX8 "gaps" ({ frames := 2, cells := 0, slots := 0, locals := 43 }) 8 (some 0) (some .int) 0) {k : V → Int → Int → Res} (hk : ∀ (v : V) (l6 l7 : Int), Gs x (k v l6 l7) v 0 0 111 [(0, (18, l0)), (1, (0, l1)), (2, (0, l2)), (3, (0, l3)), (4, (2, l4)), (5, (2, l5)), (6, (0, l6)), (7, (0, l7))] []) : ∀ (n : Nat) (v : V) (l6 l7 : Int), Gs x (lp_X8_gaps_65 l0 l1 l2 l3 l4 l5 k n v l6 l7) v 0 0 65 [(0, (18, l0)), (1, (0, l1)), (2, (0, l2)), (3, (0, l3)), (4, (2, l4)), (5, (2, l5)), (6, (0, l6)), (7, (0, l7))] [] := by
  intro n
  induction n with
  | zero => intro v l6 l7; exact g_none
  | succ n ih =>
    intro v l6 l7
    rw [lp_X8_gaps_65]
    refine g_iload F 5 rfl rfl dX8_gaps_65 ?_
    refine g_if_eq F rfl (tgt := 111) rfl dX8_gaps_67 (fun n6 => ?_) (fun n6 => ?_)
    · refine g_loc [(0, 18), (1, 0), (2, 0), (3, 0), (4, 2), (5, 2), (6, 0), (7, 0)] rfl ?_
      exact hk v l6 l7
    · refine g_iload F 7 rfl rfl dX8_gaps_70 ?_
      refine g_iload_n F rfl 3 rfl rfl dX8_gaps_72 ?_
      refine g_icmp_gt F rfl rfl (tgt := 111) rfl dX8_gaps_73 (fun n7 => ?_) (fun n7 => ?_)
      · refine g_loc [(0, 18), (1, 0), (2, 0), (3, 0), (4, 2), (5, 2), (6, 0), (7, 0)] rfl ?_
        exact hk v l6 l7
      · refine g_iload F 6 rfl rfl dX8_gaps_76 ?_
        refine g_aload_n F rfl 0 rfl dX8_gaps_78 ?_
        refine g_get F (t := 66) (sI := 16) fl_RX8_48 rfl rfl (Int.not_lt.mp (Int.not_lt.mpr h0)) dX8_gaps_79 ?_
        refine g_bipush F rfl (by decide) dX8_gaps_82 ?_
        refine g_iload_n F rfl 1 rfl rfl dX8_gaps_84 ?_
        refine g_imul F rfl rfl dX8_gaps_85 ?_
        refine g_iload F 7 rfl rfl dX8_gaps_86 ?_
        refine g_iadd F rfl rfl dX8_gaps_88 ?_
        refine g_sipush F rfl (by decide) dX8_gaps_89 ?_
        refine g_isub F rfl rfl dX8_gaps_92 ?_
        refine g_chk (fun n8 => ?_)
        refine g_chk (fun n9 => ?_)
        refine h_zald F (n := 1212) ak_56 (Int.not_lt.mp (Int.not_lt.mpr n8)) n9 rfl dX8_gaps_93 ?_
        refine g_if_eq F rfl (tgt := 101) rfl dX8_gaps_94 (fun n10 => ?_) (fun n10 => ?_)
        · refine g_iconst F 2 rfl dX8_gaps_101 ?_
          refine g_iadd F rfl rfl dX8_gaps_102 ?_
          refine g_istore F rfl (Nat.le_of_ble_eq_true rfl) (ls' := [(6, (0, (w32 (l6 + 1)))), (0, (18, l0)), (1, (0, l1)), (2, (0, l2)), (3, (0, l3)), (4, (2, l4)), (5, (2, l5)), (7, (0, l7))]) rfl dX8_gaps_103 ?_
          refine g_iinc F 7 rfl rfl (Nat.le_of_ble_eq_true rfl) (ls' := [(7, (0, (w32 (l7 + 1)))), (6, (0, (w32 (l6 + 1)))), (0, (18, l0)), (1, (0, l1)), (2, (0, l2)), (3, (0, l3)), (4, (2, l4)), (5, (2, l5))]) rfl dX8_gaps_105 ?_
          refine g_goto F (tgt := 65) rfl dX8_gaps_108 ?_
          refine g_loc [(2, 18), (3, 0), (4, 0), (5, 0), (6, 2), (7, 2), (1, 0), (0, 0)] rfl ?_
          exact ih v (w32 (l6 + 1)) (w32 (l7 + 1))
        · refine g_iconst F 2 rfl dX8_gaps_97 ?_
          refine g_goto F (tgt := 102) rfl dX8_gaps_98 ?_
          refine g_iadd F rfl rfl dX8_gaps_102 ?_
          refine g_istore F rfl (Nat.le_of_ble_eq_true rfl) (ls' := [(6, (0, (w32 (l6 + 0)))), (0, (18, l0)), (1, (0, l1)), (2, (0, l2)), (3, (0, l3)), (4, (2, l4)), (5, (2, l5)), (7, (0, l7))]) rfl dX8_gaps_103 ?_
          refine g_iinc F 7 rfl rfl (Nat.le_of_ble_eq_true rfl) (ls' := [(7, (0, (w32 (l7 + 1)))), (6, (0, (w32 (l6 + 0)))), (0, (18, l0)), (1, (0, l1)), (2, (0, l2)), (3, (0, l3)), (4, (2, l4)), (5, (2, l5))]) rfl dX8_gaps_105 ?_
          refine g_goto F (tgt := 65) rfl dX8_gaps_108 ?_
          refine g_loc [(2, 18), (3, 0), (4, 0), (5, 0), (6, 2), (7, 2), (1, 0), (0, 0)] rfl ?_
          exact ih v (w32 (l6 + 0)) (w32 (l7 + 1))
def sp_X8_gaps (a0 a1 a2 a3 : Int) (v : V) : Res := (rB (sp_X8_in a2 1900 2000 v) (fun z1 v1 => (if z1 = 0 then (rB (sp_X8_isWork a0 a1 v1) (fun z3 v3 => (if ¬ z3 = 0 then (rB (sp_X8_holds a0 2 v3) (fun z5 v5 => (lp_X8_gaps_65 a0 a1 a2 a3 0 z5 (fun v11 u11_6 u11_7 => (rOk u11_6 v11)) 200 v5 0 a2)))
   else (rB (sp_X8_holds a0 1 v3) (fun z12 v12 => (lp_X8_gaps_65 a0 a1 a2 a3 0 z12 (fun v13 u13_6 u13_7 => (rOk u13_6 v13)) 200 v12 0 a2))))))
   else (rB (sp_X8_in a3 a2 2000 v1) (fun z14 v14 => (if z14 = 0 then (rB (sp_X8_isWork a0 a1 v14) (fun z16 v16 => (if ¬ z16 = 0 then (rB (sp_X8_holds a0 2 v16) (fun z18 v18 => (lp_X8_gaps_65 a0 a1 a2 a3 0 z18 (fun v19 u19_6 u19_7 => (rOk u19_6 v19)) 200 v18 0 a2)))
   else (rB (sp_X8_holds a0 1 v16) (fun z20 v20 => (lp_X8_gaps_65 a0 a1 a2 a3 0 z20 (fun v21 u21_6 u21_7 => (rOk u21_6 v21)) 200 v20 0 a2))))))
   else (rB (sp_X8_isWork a0 a1 v14) (fun z22 v22 => (if ¬ z22 = 0 then (rB (sp_X8_holds a0 0 v22) (fun z24 v24 => (lp_X8_gaps_65 a0 a1 a2 a3 1 z24 (fun v25 u25_6 u25_7 => (rOk u25_6 v25)) 200 v24 0 a2)))
   else (rB (sp_X8_holds a0 1 v22) (fun z26 v26 => (lp_X8_gaps_65 a0 a1 a2 a3 1 z26 (fun v27 u27_6 u27_7 => (rOk u27_6 v27)) 200 v26 0 a2))))))))))))
set_option maxRecDepth 100000 in
set_option maxHeartbeats 4000000 in
theorem k_X8_gaps (a0 a1 a2 a3 : Int) (h0 : 0 ≤ a0) (x : Cx) (v : V) (F : Fx x cX8_gaps RX8 "gaps" ({ frames := 2, cells := 0, slots := 0, locals := 43 }) 8 (some 0) (some .int) 0) (ho : ∀ a ∈ [(18, a0), (0, a1), (0, a2), (0, a3)], okv v a) : Gs x (sp_X8_gaps a0 a1 a2 a3 v) v 0 0 0 (avArgs 0 [(18, a0), (0, a1), (0, a2), (0, a3)]) [] := by
  show Gs x _ v 0 0 0 [(0, (18, a0)), (1, (0, a1)), (2, (0, a2)), (3, (0, a3))] []
  unfold sp_X8_gaps
  refine g_iload_n F rfl 2 rfl rfl dX8_gaps_0 ?_
  refine g_sipush F rfl (by decide) dX8_gaps_1 ?_
  refine g_sipush F rfl (by decide) dX8_gaps_4 ?_
  refine g_callS F (by decide) [(0, a2), (0, 1900), (0, 2000)] [0, 0, 0] ml_RX8_133 wt_X8_in (c_X8_in a2 1900 2000) mi_X8_in rfl rfl rfl (Nat.le_of_ble_eq_true rfl) (Nat.le_of_ble_eq_true rfl) (Nat.le_of_ble_eq_true rfl) (Nat.le_of_ble_eq_true rfl) (Nat.le_of_ble_eq_true rfl) dX8_gaps_7 (fun z1 v1 hz1 => ?_)
  refine g_if_eq F rfl (tgt := 28) rfl dX8_gaps_10 (fun n2 => ?_) (fun n2 => ?_)
  · refine g_iconst F 2 rfl dX8_gaps_28 ?_
    refine g_istore F rfl (Nat.le_of_ble_eq_true rfl) (ls' := [(4, (2, 0)), (0, (18, a0)), (1, (0, a1)), (2, (0, a2)), (3, (0, a3))]) rfl dX8_gaps_29 ?_
    refine g_aload_n F rfl 1 rfl dX8_gaps_31 ?_
    refine g_aload_n F rfl 1 rfl dX8_gaps_32 ?_
    refine g_iload_n F rfl 2 rfl rfl dX8_gaps_33 ?_
    refine g_callV F (by decide) (K := 8) (b := a0) [(0, a1)] [0] ml_RX8_161 wi_X8_isWork ws_X8_isWork (c_X8_isWork a0 a1 (Int.not_lt.mp (Int.not_lt.mpr h0))) mi_X8_isWork (by decide) ⟨_, rfl, rfl⟩ (Int.not_lt.mp (Int.not_lt.mpr h0)) rfl rfl rfl (Nat.le_of_ble_eq_true rfl) (Nat.le_of_ble_eq_true rfl) (Nat.le_of_ble_eq_true rfl) (Nat.le_of_ble_eq_true rfl) (Nat.le_of_ble_eq_true rfl) dX8_gaps_34 (fun z3 v3 hz3 => ?_)
    refine g_if_ne F rfl (tgt := 44) rfl dX8_gaps_37 (fun n4 => ?_) (fun n4 => ?_)
    · refine g_iload F 0 rfl rfl dX8_gaps_44 ?_
      refine g_if_eq_t F rfl (by decide) (tgt := 53) rfl dX8_gaps_46 ?_
      refine g_iconst F 0 rfl dX8_gaps_53 ?_
      refine g_callV F (by decide) (K := 8) (b := a0) [(0, 2)] [0] ml_RX8_151 wi_X8_holds ws_X8_holds (c_X8_holds a0 2 (Int.not_lt.mp (Int.not_lt.mpr h0))) mi_X8_holds (by decide) ⟨_, rfl, rfl⟩ (Int.not_lt.mp (Int.not_lt.mpr h0)) rfl rfl rfl (Nat.le_of_ble_eq_true rfl) (Nat.le_of_ble_eq_true rfl) (Nat.le_of_ble_eq_true rfl) (Nat.le_of_ble_eq_true rfl) (Nat.le_of_ble_eq_true rfl) dX8_gaps_54 (fun z5 v5 hz5 => ?_)
      refine g_istore F rfl (Nat.le_of_ble_eq_true rfl) (ls' := [(5, (2, z5)), (4, (2, 0)), (0, (18, a0)), (1, (0, a1)), (2, (0, a2)), (3, (0, a3))]) rfl dX8_gaps_57 ?_
      refine g_iconst F 2 rfl dX8_gaps_59 ?_
      refine g_istore F rfl (Nat.le_of_ble_eq_true rfl) (ls' := [(6, (2, 0)), (5, (2, z5)), (4, (2, 0)), (0, (18, a0)), (1, (0, a1)), (2, (0, a2)), (3, (0, a3))]) rfl dX8_gaps_60 ?_
      refine g_iload_n F rfl 5 rfl rfl dX8_gaps_62 ?_
      refine g_istore F rfl (Nat.le_of_ble_eq_true rfl) (ls' := [(7, (0, a2)), (6, (2, 0)), (5, (2, z5)), (4, (2, 0)), (0, (18, a0)), (1, (0, a1)), (2, (0, a2)), (3, (0, a3))]) rfl dX8_gaps_63 ?_
      refine g_loc [(4, 18), (5, 0), (6, 0), (7, 0), (3, 2), (2, 2), (1, 0), (0, 0)] rfl ?_
      refine kl_X8_gaps_65 (Int.not_lt.mp (Int.not_lt.mpr h0)) F (fun v11 u11_6 u11_7 => ?_) 200 v5 0 a2
      refine g_iload F 6 rfl rfl dX8_gaps_111 ?_
      exact g_ireturn F rfl rfl rfl rfl (Nat.le_of_ble_eq_true rfl) (Nat.le_of_ble_eq_true rfl) dX8_gaps_113
    · refine g_iconst F 2 rfl dX8_gaps_40 ?_
      refine g_goto F (tgt := 54) rfl dX8_gaps_41 ?_
      refine g_callV F (by decide) (K := 8) (b := a0) [(2, 1)] [0] ml_RX8_151 wi_X8_holds ws_X8_holds (c_X8_holds a0 1 (Int.not_lt.mp (Int.not_lt.mpr h0))) mi_X8_holds (by decide) ⟨_, rfl, rfl⟩ (Int.not_lt.mp (Int.not_lt.mpr h0)) rfl rfl rfl (Nat.le_of_ble_eq_true rfl) (Nat.le_of_ble_eq_true rfl) (Nat.le_of_ble_eq_true rfl) (Nat.le_of_ble_eq_true rfl) (Nat.le_of_ble_eq_true rfl) dX8_gaps_54 (fun z12 v12 hz12 => ?_)
      refine g_istore F rfl (Nat.le_of_ble_eq_true rfl) (ls' := [(5, (2, z12)), (4, (2, 0)), (0, (18, a0)), (1, (0, a1)), (2, (0, a2)), (3, (0, a3))]) rfl dX8_gaps_57 ?_
      refine g_iconst F 2 rfl dX8_gaps_59 ?_
      refine g_istore F rfl (Nat.le_of_ble_eq_true rfl) (ls' := [(6, (2, 0)), (5, (2, z12)), (4, (2, 0)), (0, (18, a0)), (1, (0, a1)), (2, (0, a2)), (3, (0, a3))]) rfl dX8_gaps_60 ?_
      refine g_iload_n F rfl 5 rfl rfl dX8_gaps_62 ?_
      refine g_istore F rfl (Nat.le_of_ble_eq_true rfl) (ls' := [(7, (0, a2)), (6, (2, 0)), (5, (2, z12)), (4, (2, 0)), (0, (18, a0)), (1, (0, a1)), (2, (0, a2)), (3, (0, a3))]) rfl dX8_gaps_63 ?_
      refine g_loc [(4, 18), (5, 0), (6, 0), (7, 0), (3, 2), (2, 2), (1, 0), (0, 0)] rfl ?_
      refine kl_X8_gaps_65 (Int.not_lt.mp (Int.not_lt.mpr h0)) F (fun v13 u13_6 u13_7 => ?_) 200 v12 0 a2
      refine g_iload F 6 rfl rfl dX8_gaps_111 ?_
      exact g_ireturn F rfl rfl rfl rfl (Nat.le_of_ble_eq_true rfl) (Nat.le_of_ble_eq_true rfl) dX8_gaps_113
  · refine g_iload_n F rfl 3 rfl rfl dX8_gaps_13 ?_
    refine g_iload_n F rfl 2 rfl rfl dX8_gaps_14 ?_
    refine g_sipush F rfl (by decide) dX8_gaps_15 ?_
    refine g_callS F (by decide) [(0, a3), (0, a2), (0, 2000)] [0, 0, 0] ml_RX8_133 wt_X8_in (c_X8_in a3 a2 2000) mi_X8_in rfl rfl rfl (Nat.le_of_ble_eq_true rfl) (Nat.le_of_ble_eq_true rfl) (Nat.le_of_ble_eq_true rfl) (Nat.le_of_ble_eq_true rfl) (Nat.le_of_ble_eq_true rfl) dX8_gaps_18 (fun z14 v14 hz14 => ?_)
    refine g_if_eq F rfl (tgt := 28) rfl dX8_gaps_21 (fun n15 => ?_) (fun n15 => ?_)
    · refine g_iconst F 2 rfl dX8_gaps_28 ?_
      refine g_istore F rfl (Nat.le_of_ble_eq_true rfl) (ls' := [(4, (2, 0)), (0, (18, a0)), (1, (0, a1)), (2, (0, a2)), (3, (0, a3))]) rfl dX8_gaps_29 ?_
      refine g_aload_n F rfl 1 rfl dX8_gaps_31 ?_
      refine g_aload_n F rfl 1 rfl dX8_gaps_32 ?_
      refine g_iload_n F rfl 2 rfl rfl dX8_gaps_33 ?_
      refine g_callV F (by decide) (K := 8) (b := a0) [(0, a1)] [0] ml_RX8_161 wi_X8_isWork ws_X8_isWork (c_X8_isWork a0 a1 (Int.not_lt.mp (Int.not_lt.mpr h0))) mi_X8_isWork (by decide) ⟨_, rfl, rfl⟩ (Int.not_lt.mp (Int.not_lt.mpr h0)) rfl rfl rfl (Nat.le_of_ble_eq_true rfl) (Nat.le_of_ble_eq_true rfl) (Nat.le_of_ble_eq_true rfl) (Nat.le_of_ble_eq_true rfl) (Nat.le_of_ble_eq_true rfl) dX8_gaps_34 (fun z16 v16 hz16 => ?_)
      refine g_if_ne F rfl (tgt := 44) rfl dX8_gaps_37 (fun n17 => ?_) (fun n17 => ?_)
      · refine g_iload F 0 rfl rfl dX8_gaps_44 ?_
        refine g_if_eq_t F rfl (by decide) (tgt := 53) rfl dX8_gaps_46 ?_
        refine g_iconst F 0 rfl dX8_gaps_53 ?_
        refine g_callV F (by decide) (K := 8) (b := a0) [(0, 2)] [0] ml_RX8_151 wi_X8_holds ws_X8_holds (c_X8_holds a0 2 (Int.not_lt.mp (Int.not_lt.mpr h0))) mi_X8_holds (by decide) ⟨_, rfl, rfl⟩ (Int.not_lt.mp (Int.not_lt.mpr h0)) rfl rfl rfl (Nat.le_of_ble_eq_true rfl) (Nat.le_of_ble_eq_true rfl) (Nat.le_of_ble_eq_true rfl) (Nat.le_of_ble_eq_true rfl) (Nat.le_of_ble_eq_true rfl) dX8_gaps_54 (fun z18 v18 hz18 => ?_)
        refine g_istore F rfl (Nat.le_of_ble_eq_true rfl) (ls' := [(5, (2, z18)), (4, (2, 0)), (0, (18, a0)), (1, (0, a1)), (2, (0, a2)), (3, (0, a3))]) rfl dX8_gaps_57 ?_
        refine g_iconst F 2 rfl dX8_gaps_59 ?_
        refine g_istore F rfl (Nat.le_of_ble_eq_true rfl) (ls' := [(6, (2, 0)), (5, (2, z18)), (4, (2, 0)), (0, (18, a0)), (1, (0, a1)), (2, (0, a2)), (3, (0, a3))]) rfl dX8_gaps_60 ?_
        refine g_iload_n F rfl 5 rfl rfl dX8_gaps_62 ?_
        refine g_istore F rfl (Nat.le_of_ble_eq_true rfl) (ls' := [(7, (0, a2)), (6, (2, 0)), (5, (2, z18)), (4, (2, 0)), (0, (18, a0)), (1, (0, a1)), (2, (0, a2)), (3, (0, a3))]) rfl dX8_gaps_63 ?_
        refine g_loc [(4, 18), (5, 0), (6, 0), (7, 0), (3, 2), (2, 2), (1, 0), (0, 0)] rfl ?_
        refine kl_X8_gaps_65 (Int.not_lt.mp (Int.not_lt.mpr h0)) F (fun v19 u19_6 u19_7 => ?_) 200 v18 0 a2
        refine g_iload F 6 rfl rfl dX8_gaps_111 ?_
        exact g_ireturn F rfl rfl rfl rfl (Nat.le_of_ble_eq_true rfl) (Nat.le_of_ble_eq_true rfl) dX8_gaps_113
      · refine g_iconst F 2 rfl dX8_gaps_40 ?_
        refine g_goto F (tgt := 54) rfl dX8_gaps_41 ?_
        refine g_callV F (by decide) (K := 8) (b := a0) [(2, 1)] [0] ml_RX8_151 wi_X8_holds ws_X8_holds (c_X8_holds a0 1 (Int.not_lt.mp (Int.not_lt.mpr h0))) mi_X8_holds (by decide) ⟨_, rfl, rfl⟩ (Int.not_lt.mp (Int.not_lt.mpr h0)) rfl rfl rfl (Nat.le_of_ble_eq_true rfl) (Nat.le_of_ble_eq_true rfl) (Nat.le_of_ble_eq_true rfl) (Nat.le_of_ble_eq_true rfl) (Nat.le_of_ble_eq_true rfl) dX8_gaps_54 (fun z20 v20 hz20 => ?_)
        refine g_istore F rfl (Nat.le_of_ble_eq_true rfl) (ls' := [(5, (2, z20)), (4, (2, 0)), (0, (18, a0)), (1, (0, a1)), (2, (0, a2)), (3, (0, a3))]) rfl dX8_gaps_57 ?_
        refine g_iconst F 2 rfl dX8_gaps_59 ?_
        refine g_istore F rfl (Nat.le_of_ble_eq_true rfl) (ls' := [(6, (2, 0)), (5, (2, z20)), (4, (2, 0)), (0, (18, a0)), (1, (0, a1)), (2, (0, a2)), (3, (0, a3))]) rfl dX8_gaps_60 ?_
        refine g_iload_n F rfl 5 rfl rfl dX8_gaps_62 ?_
        refine g_istore F rfl (Nat.le_of_ble_eq_true rfl) (ls' := [(7, (0, a2)), (6, (2, 0)), (5, (2, z20)), (4, (2, 0)), (0, (18, a0)), (1, (0, a1)), (2, (0, a2)), (3, (0, a3))]) rfl dX8_gaps_63 ?_
        refine g_loc [(4, 18), (5, 0), (6, 0), (7, 0), (3, 2), (2, 2), (1, 0), (0, 0)] rfl ?_
        refine kl_X8_gaps_65 (Int.not_lt.mp (Int.not_lt.mpr h0)) F (fun v21 u21_6 u21_7 => ?_) 200 v20 0 a2
        refine g_iload F 6 rfl rfl dX8_gaps_111 ?_
        exact g_ireturn F rfl rfl rfl rfl (Nat.le_of_ble_eq_true rfl) (Nat.le_of_ble_eq_true rfl) dX8_gaps_113
    · refine g_iconst F 2 rfl dX8_gaps_24 ?_
      refine g_goto F (tgt := 29) rfl dX8_gaps_25 ?_
      refine g_istore F rfl (Nat.le_of_ble_eq_true rfl) (ls' := [(4, (2, 1)), (0, (18, a0)), (1, (0, a1)), (2, (0, a2)), (3, (0, a3))]) rfl dX8_gaps_29 ?_
      refine g_aload_n F rfl 1 rfl dX8_gaps_31 ?_
      refine g_aload_n F rfl 1 rfl dX8_gaps_32 ?_
      refine g_iload_n F rfl 2 rfl rfl dX8_gaps_33 ?_
      refine g_callV F (by decide) (K := 8) (b := a0) [(0, a1)] [0] ml_RX8_161 wi_X8_isWork ws_X8_isWork (c_X8_isWork a0 a1 (Int.not_lt.mp (Int.not_lt.mpr h0))) mi_X8_isWork (by decide) ⟨_, rfl, rfl⟩ (Int.not_lt.mp (Int.not_lt.mpr h0)) rfl rfl rfl (Nat.le_of_ble_eq_true rfl) (Nat.le_of_ble_eq_true rfl) (Nat.le_of_ble_eq_true rfl) (Nat.le_of_ble_eq_true rfl) (Nat.le_of_ble_eq_true rfl) dX8_gaps_34 (fun z22 v22 hz22 => ?_)
      refine g_if_ne F rfl (tgt := 44) rfl dX8_gaps_37 (fun n23 => ?_) (fun n23 => ?_)
      · refine g_iload F 0 rfl rfl dX8_gaps_44 ?_
        refine g_if_eq_f F rfl (by decide) (tgt := 53) rfl dX8_gaps_46 ?_
        refine g_iconst F 2 rfl dX8_gaps_49 ?_
        refine g_goto F (tgt := 54) rfl dX8_gaps_50 ?_
        refine g_callV F (by decide) (K := 8) (b := a0) [(2, 0)] [0] ml_RX8_151 wi_X8_holds ws_X8_holds (c_X8_holds a0 0 (Int.not_lt.mp (Int.not_lt.mpr h0))) mi_X8_holds (by decide) ⟨_, rfl, rfl⟩ (Int.not_lt.mp (Int.not_lt.mpr h0)) rfl rfl rfl (Nat.le_of_ble_eq_true rfl) (Nat.le_of_ble_eq_true rfl) (Nat.le_of_ble_eq_true rfl) (Nat.le_of_ble_eq_true rfl) (Nat.le_of_ble_eq_true rfl) dX8_gaps_54 (fun z24 v24 hz24 => ?_)
        refine g_istore F rfl (Nat.le_of_ble_eq_true rfl) (ls' := [(5, (2, z24)), (4, (2, 1)), (0, (18, a0)), (1, (0, a1)), (2, (0, a2)), (3, (0, a3))]) rfl dX8_gaps_57 ?_
        refine g_iconst F 2 rfl dX8_gaps_59 ?_
        refine g_istore F rfl (Nat.le_of_ble_eq_true rfl) (ls' := [(6, (2, 0)), (5, (2, z24)), (4, (2, 1)), (0, (18, a0)), (1, (0, a1)), (2, (0, a2)), (3, (0, a3))]) rfl dX8_gaps_60 ?_
        refine g_iload_n F rfl 5 rfl rfl dX8_gaps_62 ?_
        refine g_istore F rfl (Nat.le_of_ble_eq_true rfl) (ls' := [(7, (0, a2)), (6, (2, 0)), (5, (2, z24)), (4, (2, 1)), (0, (18, a0)), (1, (0, a1)), (2, (0, a2)), (3, (0, a3))]) rfl dX8_gaps_63 ?_
        refine g_loc [(4, 18), (5, 0), (6, 0), (7, 0), (3, 2), (2, 2), (1, 0), (0, 0)] rfl ?_
        refine kl_X8_gaps_65 (Int.not_lt.mp (Int.not_lt.mpr h0)) F (fun v25 u25_6 u25_7 => ?_) 200 v24 0 a2
        refine g_iload F 6 rfl rfl dX8_gaps_111 ?_
        exact g_ireturn F rfl rfl rfl rfl (Nat.le_of_ble_eq_true rfl) (Nat.le_of_ble_eq_true rfl) dX8_gaps_113
      · refine g_iconst F 2 rfl dX8_gaps_40 ?_
        refine g_goto F (tgt := 54) rfl dX8_gaps_41 ?_
        refine g_callV F (by decide) (K := 8) (b := a0) [(2, 1)] [0] ml_RX8_151 wi_X8_holds ws_X8_holds (c_X8_holds a0 1 (Int.not_lt.mp (Int.not_lt.mpr h0))) mi_X8_holds (by decide) ⟨_, rfl, rfl⟩ (Int.not_lt.mp (Int.not_lt.mpr h0)) rfl rfl rfl (Nat.le_of_ble_eq_true rfl) (Nat.le_of_ble_eq_true rfl) (Nat.le_of_ble_eq_true rfl) (Nat.le_of_ble_eq_true rfl) (Nat.le_of_ble_eq_true rfl) dX8_gaps_54 (fun z26 v26 hz26 => ?_)
        refine g_istore F rfl (Nat.le_of_ble_eq_true rfl) (ls' := [(5, (2, z26)), (4, (2, 1)), (0, (18, a0)), (1, (0, a1)), (2, (0, a2)), (3, (0, a3))]) rfl dX8_gaps_57 ?_
        refine g_iconst F 2 rfl dX8_gaps_59 ?_
        refine g_istore F rfl (Nat.le_of_ble_eq_true rfl) (ls' := [(6, (2, 0)), (5, (2, z26)), (4, (2, 1)), (0, (18, a0)), (1, (0, a1)), (2, (0, a2)), (3, (0, a3))]) rfl dX8_gaps_60 ?_
        refine g_iload_n F rfl 5 rfl rfl dX8_gaps_62 ?_
        refine g_istore F rfl (Nat.le_of_ble_eq_true rfl) (ls' := [(7, (0, a2)), (6, (2, 0)), (5, (2, z26)), (4, (2, 1)), (0, (18, a0)), (1, (0, a1)), (2, (0, a2)), (3, (0, a3))]) rfl dX8_gaps_63 ?_
        refine g_loc [(4, 18), (5, 0), (6, 0), (7, 0), (3, 2), (2, 2), (1, 0), (0, 0)] rfl ?_
        refine kl_X8_gaps_65 (Int.not_lt.mp (Int.not_lt.mpr h0)) F (fun v27 u27_6 u27_7 => ?_) 200 v26 0 a2
        refine g_iload F 6 rfl rfl dX8_gaps_111 ?_
        exact g_ireturn F rfl rfl rfl rfl (Nat.le_of_ble_eq_true rfl) (Nat.le_of_ble_eq_true rfl) dX8_gaps_113
theorem c_X8_gaps (a0 a1 a2 a3 : Int) (h0 : 0 ≤ a0) : ∀ l, Ct l yX8_gaps cX8_gaps 8 (some .int) ({ frames := 2, cells := 0, slots := 0, locals := 43 }) (some 0) [(18, a0), (0, a1), (0, a2), (0, a3)] (sp_X8_gaps a0 a1 a2 a3) := g_method (by decide +kernel) (Nat.le_of_ble_eq_true rfl) (fun x v F ho => k_X8_gaps a0 a1 a2 a3 h0 x v F ho)
def lp_X8_index_12 (l0 : Int) (k : V → Int → Int → Int → Res) : Nat → V → Int → Int → Int → Res
  | 0, _, _, _, _ => none
  | n + 1, v, l1, l3, l4 => (if (v 8 l0 21) ≤ l4 then (k v l1 l3 l4)
   else (chk (0 ≤ (v 8 l0 30)) (chk (0 ≤ l4 ∧ l4 < 60) (chk (0 ≤ (v 8 l0 31)) (if (v 71 (v 8 l0 31) l4) = (-1) then (lp_X8_index_12 l0 k n v l1 l3 (w32 (l4 + 1)))
   else (chk (0 ≤ (v 70 (v 8 l0 30) l4) ∧ (v 70 (v 8 l0 30) l4) < 60) (if (v 71 (v 8 l0 31) (v 70 (v 8 l0 30) l4)) = (-1) then (lp_X8_index_12 l0 k n v l1 l3 (w32 (l4 + 1)))
   else (chk (0 ≤ (v 8 l0 32)) (if (v 72 (v 8 l0 32) l4) ≤ 0 then (lp_X8_index_12 l0 k n v l1 l3 (w32 (l4 + 1)))
   else (if (v 72 (v 8 l0 32) (v 70 (v 8 l0 30) l4)) ≤ 0 then (lp_X8_index_12 l0 k n v l1 l3 (w32 (l4 + 1)))
   else (chk (0 ≤ (v 8 l0 33)) (chk (¬ (w64 ((v 72 (v 8 l0 32) (v 70 (v 8 l0 30) l4)) * (v 73 (v 8 l0 33) l4))) = 0) (lp_X8_index_12 l0 k n v (w64 (l1 + (w64 ((w64 ((w64 (1000 * (v 72 (v 8 l0 32) l4))) * (v 73 (v 8 l0 33) (v 70 (v 8 l0 30) l4)))).tdiv (w64 ((v 72 (v 8 l0 32) (v 70 (v 8 l0 30) l4)) * (v 73 (v 8 l0 33) l4))))))) (w32 (l3 + 1)) (w32 (l4 + 1)))))))))))))))
set_option maxRecDepth 100000 in
set_option maxHeartbeats 4000000 in
theorem kl_X8_index_12 {l0 : Int} (h0 : 0 ≤ l0) {x : Cx} (F : Fx x cX8_index RX8 "index" ({ frames := 0, cells := 0, slots := 0, locals := 0 }) 6 (some 1) (some .long) 0) {k : V → Int → Int → Int → Res} (hk : ∀ (v : V) (l1 l3 l4 : Int), Gs x (k v l1 l3 l4) v 0 0 123 [(0, (18, l0)), (1, (1, l1)), (3, (0, l3)), (4, (0, l4))] []) : ∀ (n : Nat) (v : V) (l1 l3 l4 : Int), Gs x (lp_X8_index_12 l0 k n v l1 l3 l4) v 0 0 12 [(0, (18, l0)), (1, (1, l1)), (3, (0, l3)), (4, (0, l4))] [] := by
  intro n
  induction n with
  | zero => intro v l1 l3 l4; exact g_none
  | succ n ih =>
    intro v l1 l3 l4
    rw [lp_X8_index_12]
    refine g_iload F 3 rfl rfl dX8_index_12 ?_
    refine g_aload_n F rfl 0 rfl dX8_index_14 ?_
    refine g_get F (t := 0) (sI := 21) fl_RX8_140 rfl rfl (Int.not_lt.mp (Int.not_lt.mpr h0)) dX8_index_15 ?_
    refine g_icmp_ge F rfl rfl (tgt := 123) rfl dX8_index_18 (fun n2 => ?_) (fun n2 => ?_)
    · refine g_loc [(0, 18), (1, 1), (2, 0), (3, 0)] rfl ?_
      exact hk v l1 l3 l4
    · refine g_aload_n F rfl 0 rfl dX8_index_21 ?_
      refine g_get F (t := 80) (sI := 30) fl_RX8_87 rfl rfl (Int.not_lt.mp (Int.not_lt.mpr h0)) dX8_index_22 ?_
      refine g_iload F 3 rfl rfl dX8_index_25 ?_
      refine g_chk (fun n3 => ?_)
      refine g_chk (fun n4 => ?_)
      refine h_iald F (n := 60) ak_70 (Int.not_lt.mp (Int.not_lt.mpr n3)) n4 rfl dX8_index_27 ?_
      refine g_istore F rfl (Nat.le_of_ble_eq_true rfl) (ls' := [(5, (0, (v 70 (v 8 l0 30) l4))), (0, (18, l0)), (1, (1, l1)), (3, (0, l3)), (4, (0, l4))]) rfl dX8_index_28 ?_
      refine g_aload_n F rfl 1 rfl dX8_index_30 ?_
      refine g_get F (t := 81) (sI := 31) fl_RX8_90 rfl rfl (Int.not_lt.mp (Int.not_lt.mpr h0)) dX8_index_31 ?_
      refine g_iload F 4 rfl rfl dX8_index_34 ?_
      refine g_chk (fun n5 => ?_)
      refine h_iald F (n := 60) ak_71 (Int.not_lt.mp (Int.not_lt.mpr n5)) n4 rfl dX8_index_36 ?_
      refine g_iconst F 0 rfl dX8_index_37 ?_
      refine g_icmp_eq F rfl rfl (tgt := 117) rfl dX8_index_38 (fun n6 => ?_) (fun n6 => ?_)
      · refine g_iinc F 4 rfl rfl (Nat.le_of_ble_eq_true rfl) (ls' := [(4, (0, (w32 (l4 + 1)))), (5, (0, (v 70 (v 8 l0 30) l4))), (0, (18, l0)), (1, (1, l1)), (3, (0, l3))]) rfl dX8_index_117 ?_
        refine g_goto F (tgt := 12) rfl dX8_index_120 ?_
        refine g_loc [(2, 18), (3, 1), (4, 0), (0, 0)] rfl ?_
        exact ih v l1 l3 (w32 (l4 + 1))
      · refine g_aload_n F rfl 1 rfl dX8_index_41 ?_
        refine g_get F (t := 81) (sI := 31) fl_RX8_90 rfl rfl (Int.not_lt.mp (Int.not_lt.mpr h0)) dX8_index_42 ?_
        refine g_iload F 0 rfl rfl dX8_index_45 ?_
        refine g_chk (fun n7 => ?_)
        refine h_iald F (n := 60) ak_71 (Int.not_lt.mp (Int.not_lt.mpr n5)) n7 rfl dX8_index_47 ?_
        refine g_iconst F 0 rfl dX8_index_48 ?_
        refine g_icmp_eq F rfl rfl (tgt := 117) rfl dX8_index_49 (fun n8 => ?_) (fun n8 => ?_)
        · refine g_iinc F 4 rfl rfl (Nat.le_of_ble_eq_true rfl) (ls' := [(4, (0, (w32 (l4 + 1)))), (5, (0, (v 70 (v 8 l0 30) l4))), (0, (18, l0)), (1, (1, l1)), (3, (0, l3))]) rfl dX8_index_117 ?_
          refine g_goto F (tgt := 12) rfl dX8_index_120 ?_
          refine g_loc [(2, 18), (3, 1), (4, 0), (0, 0)] rfl ?_
          exact ih v l1 l3 (w32 (l4 + 1))
        · refine g_aload_n F rfl 1 rfl dX8_index_52 ?_
          refine g_get F (t := 82) (sI := 32) fl_RX8_93 rfl rfl (Int.not_lt.mp (Int.not_lt.mpr h0)) dX8_index_53 ?_
          refine g_iload F 4 rfl rfl dX8_index_56 ?_
          refine g_chk (fun n9 => ?_)
          refine h_iald F (n := 60) ak_72 (Int.not_lt.mp (Int.not_lt.mpr n9)) n4 rfl dX8_index_58 ?_
          refine g_if_le F rfl (tgt := 117) rfl dX8_index_59 (fun n10 => ?_) (fun n10 => ?_)
          · refine g_iinc F 4 rfl rfl (Nat.le_of_ble_eq_true rfl) (ls' := [(4, (0, (w32 (l4 + 1)))), (5, (0, (v 70 (v 8 l0 30) l4))), (0, (18, l0)), (1, (1, l1)), (3, (0, l3))]) rfl dX8_index_117 ?_
            refine g_goto F (tgt := 12) rfl dX8_index_120 ?_
            refine g_loc [(2, 18), (3, 1), (4, 0), (0, 0)] rfl ?_
            exact ih v l1 l3 (w32 (l4 + 1))
          · refine g_aload_n F rfl 1 rfl dX8_index_62 ?_
            refine g_get F (t := 82) (sI := 32) fl_RX8_93 rfl rfl (Int.not_lt.mp (Int.not_lt.mpr h0)) dX8_index_63 ?_
            refine g_iload F 0 rfl rfl dX8_index_66 ?_
            refine h_iald F (n := 60) ak_72 (Int.not_lt.mp (Int.not_lt.mpr n9)) n7 rfl dX8_index_68 ?_
            refine g_if_le F rfl (tgt := 117) rfl dX8_index_69 (fun n11 => ?_) (fun n11 => ?_)
            · refine g_iinc F 4 rfl rfl (Nat.le_of_ble_eq_true rfl) (ls' := [(4, (0, (w32 (l4 + 1)))), (5, (0, (v 70 (v 8 l0 30) l4))), (0, (18, l0)), (1, (1, l1)), (3, (0, l3))]) rfl dX8_index_117 ?_
              refine g_goto F (tgt := 12) rfl dX8_index_120 ?_
              refine g_loc [(2, 18), (3, 1), (4, 0), (0, 0)] rfl ?_
              exact ih v l1 l3 (w32 (l4 + 1))
            · refine g_lload_n F rfl 2 rfl dX8_index_72 ?_
              refine g_ldc2 F rfl cn_RX8_249 dX8_index_73 ?_
              refine g_aload_n F rfl 1 rfl dX8_index_76 ?_
              refine g_get F (t := 82) (sI := 32) fl_RX8_93 rfl rfl (Int.not_lt.mp (Int.not_lt.mpr h0)) dX8_index_77 ?_
              refine g_iload F 4 rfl rfl dX8_index_80 ?_
              refine h_iald F (n := 60) ak_72 (Int.not_lt.mp (Int.not_lt.mpr n9)) n4 rfl dX8_index_82 ?_
              refine g_i2l F rfl dX8_index_83 ?_
              refine g_lmul F dX8_index_84 ?_
              refine g_aload_n F rfl 1 rfl dX8_index_85 ?_
              refine g_get F (t := 83) (sI := 33) fl_RX8_96 rfl rfl (Int.not_lt.mp (Int.not_lt.mpr h0)) dX8_index_86 ?_
              refine g_iload F 0 rfl rfl dX8_index_89 ?_
              refine g_chk (fun n12 => ?_)
              refine h_iald F (n := 60) ak_73 (Int.not_lt.mp (Int.not_lt.mpr n12)) n7 rfl dX8_index_91 ?_
              refine g_i2l F rfl dX8_index_92 ?_
              refine g_lmul F dX8_index_93 ?_
              refine g_aload_n F rfl 1 rfl dX8_index_94 ?_
              refine g_get F (t := 82) (sI := 32) fl_RX8_93 rfl rfl (Int.not_lt.mp (Int.not_lt.mpr h0)) dX8_index_95 ?_
              refine g_iload F 0 rfl rfl dX8_index_98 ?_
              refine h_iald F (n := 60) ak_72 (Int.not_lt.mp (Int.not_lt.mpr n9)) n7 rfl dX8_index_100 ?_
              refine g_i2l F rfl dX8_index_101 ?_
              refine g_aload_n F rfl 1 rfl dX8_index_102 ?_
              refine g_get F (t := 83) (sI := 33) fl_RX8_96 rfl rfl (Int.not_lt.mp (Int.not_lt.mpr h0)) dX8_index_103 ?_
              refine g_iload F 4 rfl rfl dX8_index_106 ?_
              refine h_iald F (n := 60) ak_73 (Int.not_lt.mp (Int.not_lt.mpr n12)) n4 rfl dX8_index_108 ?_
              refine g_i2l F rfl dX8_index_109 ?_
              refine g_lmul F dX8_index_110 ?_
              refine g_chk (fun n13 => ?_)
              refine g_ldiv F n13 dX8_index_111 ?_
              refine g_ladd F dX8_index_112 ?_
              refine g_lstore_n F rfl (Nat.le_of_ble_eq_true rfl) (ls' := [(1, (1, (w64 (l1 + (w64 ((w64 ((w64 (1000 * (v 72 (v 8 l0 32) l4))) * (v 73 (v 8 l0 33) (v 70 (v 8 l0 30) l4)))).tdiv (w64 ((v 72 (v 8 l0 32) (v 70 (v 8 l0 30) l4)) * (v 73 (v 8 l0 33) l4))))))))), (5, (0, (v 70 (v 8 l0 30) l4))), (0, (18, l0)), (3, (0, l3)), (4, (0, l4))]) rfl dX8_index_113 ?_
              refine g_iinc F 3 rfl rfl (Nat.le_of_ble_eq_true rfl) (ls' := [(3, (0, (w32 (l3 + 1)))), (1, (1, (w64 (l1 + (w64 ((w64 ((w64 (1000 * (v 72 (v 8 l0 32) l4))) * (v 73 (v 8 l0 33) (v 70 (v 8 l0 30) l4)))).tdiv (w64 ((v 72 (v 8 l0 32) (v 70 (v 8 l0 30) l4)) * (v 73 (v 8 l0 33) l4))))))))), (5, (0, (v 70 (v 8 l0 30) l4))), (0, (18, l0)), (4, (0, l4))]) rfl dX8_index_114 ?_
              refine g_iinc F 4 rfl rfl (Nat.le_of_ble_eq_true rfl) (ls' := [(4, (0, (w32 (l4 + 1)))), (3, (0, (w32 (l3 + 1)))), (1, (1, (w64 (l1 + (w64 ((w64 ((w64 (1000 * (v 72 (v 8 l0 32) l4))) * (v 73 (v 8 l0 33) (v 70 (v 8 l0 30) l4)))).tdiv (w64 ((v 72 (v 8 l0 32) (v 70 (v 8 l0 30) l4)) * (v 73 (v 8 l0 33) l4))))))))), (5, (0, (v 70 (v 8 l0 30) l4))), (0, (18, l0))]) rfl dX8_index_117 ?_
              refine g_goto F (tgt := 12) rfl dX8_index_120 ?_
              refine g_loc [(4, 18), (2, 1), (1, 0), (0, 0)] rfl ?_
              exact ih v (w64 (l1 + (w64 ((w64 ((w64 (1000 * (v 72 (v 8 l0 32) l4))) * (v 73 (v 8 l0 33) (v 70 (v 8 l0 30) l4)))).tdiv (w64 ((v 72 (v 8 l0 32) (v 70 (v 8 l0 30) l4)) * (v 73 (v 8 l0 33) l4))))))) (w32 (l3 + 1)) (w32 (l4 + 1))
def sp_X8_index (a0 : Int) (v : V) : Res := (rLet (up v 8 a0 0 0) (fun v1 => (lp_X8_index_12 a0 (fun v14 u14_1 u14_3 u14_4 => (if ¬ u14_3 = 0 then (rOk (w64 (u14_1.tdiv u14_3)) v14)
   else (rOk (-1) v14))) 200 v1 0 0 0)))
set_option maxRecDepth 100000 in
set_option maxHeartbeats 4000000 in
theorem k_X8_index (a0 : Int) (h0 : 0 ≤ a0) (x : Cx) (v : V) (F : Fx x cX8_index RX8 "index" ({ frames := 0, cells := 0, slots := 0, locals := 0 }) 6 (some 1) (some .long) 0) (ho : ∀ a ∈ [(18, a0)], okv v a) : Gs x (sp_X8_index a0 v) v 0 0 0 (avArgs 0 [(18, a0)]) [] := by
  show Gs x _ v 0 0 0 [(0, (18, a0))] []
  unfold sp_X8_index
  refine g_aload_n F rfl 0 rfl dX8_index_0 ?_
  refine g_iconst F 2 rfl dX8_index_1 ?_
  refine h_put F (sI := 0) fl_RX8_126 ⟨_, rfl, Or.inl rfl⟩ rfl rfl (Int.not_lt.mp (Int.not_lt.mpr h0)) dX8_index_2 (fun v1 => ?_)
  refine g_lconst F (z := 0) rfl dX8_index_5 ?_
  refine g_lstore_n F rfl (Nat.le_of_ble_eq_true rfl) (ls' := [(1, (1, 0)), (0, (18, a0))]) rfl dX8_index_6 ?_
  refine g_iconst F 2 rfl dX8_index_7 ?_
  refine g_istore_n F rfl rfl (Nat.le_of_ble_eq_true rfl) (ls' := [(3, (2, 0)), (1, (1, 0)), (0, (18, a0))]) rfl dX8_index_8 ?_
  refine g_iconst F 2 rfl dX8_index_9 ?_
  refine g_istore F rfl (Nat.le_of_ble_eq_true rfl) (ls' := [(4, (2, 0)), (3, (2, 0)), (1, (1, 0)), (0, (18, a0))]) rfl dX8_index_10 ?_
  refine g_loc [(3, 18), (2, 1), (1, 0), (0, 0)] rfl ?_
  refine kl_X8_index_12 (Int.not_lt.mp (Int.not_lt.mpr h0)) F (fun v14 u14_1 u14_3 u14_4 => ?_) 200 v1 0 0 0
  refine g_iload_n F rfl 2 rfl rfl dX8_index_123 ?_
  refine g_if_ne F rfl (tgt := 133) rfl dX8_index_124 (fun n15 => ?_) (fun n15 => ?_)
  · refine g_lload_n F rfl 1 rfl dX8_index_133 ?_
    refine g_iload_n F rfl 2 rfl rfl dX8_index_134 ?_
    refine g_i2l F rfl dX8_index_135 ?_
    refine g_ldiv F n15 dX8_index_136 ?_
    exact g_lreturn F rfl (Nat.le_of_ble_eq_true rfl) (Nat.le_of_ble_eq_true rfl) dX8_index_137
  · refine g_ldc2 F rfl cn_RX8_251 dX8_index_127 ?_
    refine g_goto F (tgt := 137) rfl dX8_index_130 ?_
    exact g_lreturn F rfl (Nat.le_of_ble_eq_true rfl) (Nat.le_of_ble_eq_true rfl) dX8_index_137
theorem c_X8_index (a0 : Int) (h0 : 0 ≤ a0) : ∀ l, Ct l yX8_index cX8_index 6 (some .long) ({ frames := 0, cells := 0, slots := 0, locals := 0 }) (some 1) [(18, a0)] (sp_X8_index a0) := g_method (by decide +kernel) (Nat.le_of_ble_eq_true rfl) (fun x v F ho => k_X8_index a0 h0 x v F ho)

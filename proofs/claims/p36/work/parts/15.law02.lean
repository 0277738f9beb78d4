def sp_L_does_0 (a2 a3 a4 a5 : Int) (v : V) : Res := (rBx (sp_L_early_0 a2 a3 a4 v) (fun z1 v1 => (rOk z1 v1)) (kxC (-2100000000) [1, 2, 3]))
set_option maxRecDepth 100000 in
set_option maxHeartbeats 4000000 in
theorem k_L_does_0 (a2 a3 a4 a5 : Int) (x : Cx) (v : V) (F : Fx x cL_does RL "does" ({ frames := 9, cells := 4, slots := 24, locals := 151 }) 7 (some 0) (some .int) 2) (hTb : Tb x [(0, 136, 137, 43), (0, 136, 142, 46), (0, 136, 147, 48)]) (ho : ∀ a ∈ [(17, 0), (0, 0), (0, a2), (0, a3), (0, a4), (0, a5)], okv v a) : Gs x (sp_L_does_0 a2 a3 a4 a5 v) v 0 0 0 (avArgs 0 [(17, 0), (0, 0), (0, a2), (0, a3), (0, a4), (0, a5)]) [] := by
  show Gs x _ v 0 0 0 [(0, (17, 0)), (1, (0, 0)), (2, (0, a2)), (3, (0, a3)), (4, (0, a4)), (5, (0, a5))] []
  unfold sp_L_does_0
  refine g_iload_n F rfl 1 rfl rfl dL_does_0 ?_
  refine g_bipush F rfl (by decide) dL_does_1 ?_
  refine g_icmp_ge_f F rfl rfl (by decide) (tgt := 18) rfl dL_does_3 ?_
  refine g_aload_n F rfl 0 rfl dL_does_6 ?_
  refine g_iload_n F rfl 1 rfl rfl dL_does_7 ?_
  refine g_iload_n F rfl 2 rfl rfl dL_does_8 ?_
  refine g_iload_n F rfl 3 rfl rfl dL_does_9 ?_
  refine g_iload F 4 rfl rfl dL_does_10 ?_
  refine g_callXS F hTb hx_L_does_12 [(17, 0), (0, 0), (0, a2), (0, a3), (0, a4)] [17, 0, 0, 0, 0] ml_RL_8 wt_L_early (c_L_early_0 a2 a3 a4) mi_L_early rfl rfl rfl (Nat.le_of_ble_eq_true rfl) (Nat.le_of_ble_eq_true rfl) (Nat.le_of_ble_eq_true rfl) (Nat.le_of_ble_eq_true rfl) (Nat.le_of_ble_eq_true rfl) dL_does_12 (fun z1 v1 hz1 => ?_)
  refine g_goto F (tgt := 136) rfl dL_does_15 ?_
  exact g_ireturn F rfl rfl rfl rfl (Nat.le_of_ble_eq_true rfl) (Nat.le_of_ble_eq_true rfl) dL_does_136
theorem c_L_does_0 (a2 a3 a4 a5 : Int) : ∀ l, CtW l yL_does cL_does 7 (some .int) [(0, 136, 137, 43), (0, 136, 142, 46), (0, 136, 147, 48)] ({ frames := 9, cells := 4, slots := 24, locals := 151 }) (some 0) [(17, 0), (0, 0), (0, a2), (0, a3), (0, a4), (0, a5)] (sp_L_does_0 a2 a3 a4 a5) := g_methodW (by decide +kernel) (Nat.le_of_ble_eq_true rfl) (fun x v F hT ho => k_L_does_0 a2 a3 a4 a5 x v F hT ho)
def sp_L_early_1 (a2 a3 a4 : Int) (v : V) : Res := (rB (sp_X7_work 0 a2 a3 v) (fun z1 v1 => (rOk z1 v1)))
set_option maxRecDepth 100000 in
set_option maxHeartbeats 4000000 in
theorem k_L_early_1 (a2 a3 a4 : Int) (x : Cx) (v : V) (F : Fx x cL_early RL "early" ({ frames := 8, cells := 7, slots := 187, locals := 128 }) 5 (some 0) (some .int) 0) (ho : ∀ a ∈ [(17, 0), (0, 1), (0, a2), (0, a3), (0, a4)], okv v a) : Gs x (sp_L_early_1 a2 a3 a4 v) v 0 0 0 (avArgs 0 [(17, 0), (0, 1), (0, a2), (0, a3), (0, a4)]) [] := by
  show Gs x _ v 0 0 0 [(0, (17, 0)), (1, (0, 1)), (2, (0, a2)), (3, (0, a3)), (4, (0, a4))] []
  unfold sp_L_early_1
  refine g_iload_n F rfl 1 rfl rfl dL_early_0 ?_
  refine g_if_ne_t F rfl (by decide) (tgt := 13) rfl dL_early_1 ?_
  refine g_iload_n F rfl 1 rfl rfl dL_early_13 ?_
  refine g_iconst F 2 rfl dL_early_14 ?_
  refine g_icmp_ne_f F rfl rfl (by decide) (tgt := 27) rfl dL_early_15 ?_
  refine g_aload_n F rfl 0 rfl dL_early_18 ?_
  refine g_iload_n F rfl 2 rfl rfl dL_early_19 ?_
  refine g_iload_n F rfl 3 rfl rfl dL_early_20 ?_
  refine g_callV F (by decide) (K := 7) (b := 0) [(0, a2), (0, a3)] [0, 0] ml_RL_53 wi_X7_work ws_X7_work (c_X7_work 0 a2 a3 (by decide)) mi_X7_work (by decide) ⟨_, rfl, rfl⟩ (by decide) rfl rfl rfl (Nat.le_of_ble_eq_true rfl) (Nat.le_of_ble_eq_true rfl) (Nat.le_of_ble_eq_true rfl) (Nat.le_of_ble_eq_true rfl) (Nat.le_of_ble_eq_true rfl) dL_early_21 (fun z1 v1 hz1 => ?_)
  refine g_goto F (tgt := 201) rfl dL_early_24 ?_
  exact g_ireturn F rfl rfl rfl rfl (Nat.le_of_ble_eq_true rfl) (Nat.le_of_ble_eq_true rfl) dL_early_201
theorem c_L_early_1 (a2 a3 a4 : Int) : ∀ l, Ct l yL_early cL_early 5 (some .int) ({ frames := 8, cells := 7, slots := 187, locals := 128 }) (some 0) [(17, 0), (0, 1), (0, a2), (0, a3), (0, a4)] (sp_L_early_1 a2 a3 a4) := g_method (by decide +kernel) (Nat.le_of_ble_eq_true rfl) (fun x v F ho => k_L_early_1 a2 a3 a4 x v F ho)
def sp_L_does_1 (a2 a3 a4 a5 : Int) (v : V) : Res := (rBx (sp_L_early_1 a2 a3 a4 v) (fun z1 v1 => (rOk z1 v1)) (kxC (-2100000000) [1, 2, 3]))
set_option maxRecDepth 100000 in
set_option maxHeartbeats 4000000 in
theorem k_L_does_1 (a2 a3 a4 a5 : Int) (x : Cx) (v : V) (F : Fx x cL_does RL "does" ({ frames := 9, cells := 7, slots := 187, locals := 152 }) 7 (some 0) (some .int) 2) (hTb : Tb x [(0, 136, 137, 43), (0, 136, 142, 46), (0, 136, 147, 48)]) (ho : ∀ a ∈ [(17, 0), (0, 1), (0, a2), (0, a3), (0, a4), (0, a5)], okv v a) : Gs x (sp_L_does_1 a2 a3 a4 a5 v) v 0 0 0 (avArgs 0 [(17, 0), (0, 1), (0, a2), (0, a3), (0, a4), (0, a5)]) [] := by
  show Gs x _ v 0 0 0 [(0, (17, 0)), (1, (0, 1)), (2, (0, a2)), (3, (0, a3)), (4, (0, a4)), (5, (0, a5))] []
  unfold sp_L_does_1
  refine g_iload_n F rfl 1 rfl rfl dL_does_0 ?_
  refine g_bipush F rfl (by decide) dL_does_1 ?_
  refine g_icmp_ge_f F rfl rfl (by decide) (tgt := 18) rfl dL_does_3 ?_
  refine g_aload_n F rfl 0 rfl dL_does_6 ?_
  refine g_iload_n F rfl 1 rfl rfl dL_does_7 ?_
  refine g_iload_n F rfl 2 rfl rfl dL_does_8 ?_
  refine g_iload_n F rfl 3 rfl rfl dL_does_9 ?_
  refine g_iload F 4 rfl rfl dL_does_10 ?_
  refine g_callXS F hTb hx_L_does_12 [(17, 0), (0, 1), (0, a2), (0, a3), (0, a4)] [17, 0, 0, 0, 0] ml_RL_8 wt_L_early (c_L_early_1 a2 a3 a4) mi_L_early rfl rfl rfl (Nat.le_of_ble_eq_true rfl) (Nat.le_of_ble_eq_true rfl) (Nat.le_of_ble_eq_true rfl) (Nat.le_of_ble_eq_true rfl) (Nat.le_of_ble_eq_true rfl) dL_does_12 (fun z1 v1 hz1 => ?_)
  refine g_goto F (tgt := 136) rfl dL_does_15 ?_
  exact g_ireturn F rfl rfl rfl rfl (Nat.le_of_ble_eq_true rfl) (Nat.le_of_ble_eq_true rfl) dL_does_136
theorem c_L_does_1 (a2 a3 a4 a5 : Int) : ∀ l, CtW l yL_does cL_does 7 (some .int) [(0, 136, 137, 43), (0, 136, 142, 46), (0, 136, 147, 48)] ({ frames := 9, cells := 7, slots := 187, locals := 152 }) (some 0) [(17, 0), (0, 1), (0, a2), (0, a3), (0, a4), (0, a5)] (sp_L_does_1 a2 a3 a4 a5) := g_methodW (by decide +kernel) (Nat.le_of_ble_eq_true rfl) (fun x v F hT ho => k_L_does_1 a2 a3 a4 a5 x v F hT ho)
def sp_L_middle_23 (a2 a3 a4 a5 : Int) (v : V) : Res := (rB (sp_X7_bars 0 a2 a3 a4 a5 v) (fun z1 v1 => (rOk z1 v1)))
set_option maxRecDepth 100000 in
set_option maxHeartbeats 4000000 in
theorem k_L_middle_23 (a2 a3 a4 a5 : Int) (x : Cx) (v : V) (F : Fx x cL_middle RL "middle" ({ frames := 9, cells := 5, slots := 30, locals := 153 }) 6 (some 0) (some .int) 0) (ho : ∀ a ∈ [(17, 0), (0, 23), (0, a2), (0, a3), (0, a4), (0, a5)], okv v a) : Gs x (sp_L_middle_23 a2 a3 a4 a5 v) v 0 0 0 (avArgs 0 [(17, 0), (0, 23), (0, a2), (0, a3), (0, a4), (0, a5)]) [] := by
  show Gs x _ v 0 0 0 [(0, (17, 0)), (1, (0, 23)), (2, (0, a2)), (3, (0, a3)), (4, (0, a4)), (5, (0, a5))] []
  unfold sp_L_middle_23
  refine g_iload_n F rfl 1 rfl rfl dL_middle_0 ?_
  refine g_bipush F rfl (by decide) dL_middle_1 ?_
  refine g_icmp_ne_t F rfl rfl (by decide) (tgt := 19) rfl dL_middle_3 ?_
  refine g_iload_n F rfl 1 rfl rfl dL_middle_19 ?_
  refine g_bipush F rfl (by decide) dL_middle_20 ?_
  refine g_icmp_ne_t F rfl rfl (by decide) (tgt := 46) rfl dL_middle_22 ?_
  refine g_iload_n F rfl 1 rfl rfl dL_middle_46 ?_
  refine g_bipush F rfl (by decide) dL_middle_47 ?_
  refine g_icmp_ne_t F rfl rfl (by decide) (tgt := 60) rfl dL_middle_49 ?_
  refine g_iload_n F rfl 1 rfl rfl dL_middle_60 ?_
  refine g_bipush F rfl (by decide) dL_middle_61 ?_
  refine g_icmp_ne_t F rfl rfl (by decide) (tgt := 77) rfl dL_middle_63 ?_
  refine g_iload_n F rfl 1 rfl rfl dL_middle_77 ?_
  refine g_bipush F rfl (by decide) dL_middle_78 ?_
  refine g_icmp_ne_t F rfl rfl (by decide) (tgt := 97) rfl dL_middle_80 ?_
  refine g_iload_n F rfl 1 rfl rfl dL_middle_97 ?_
  refine g_bipush F rfl (by decide) dL_middle_98 ?_
  refine g_icmp_ne_t F rfl rfl (by decide) (tgt := 112) rfl dL_middle_100 ?_
  refine g_iload_n F rfl 1 rfl rfl dL_middle_112 ?_
  refine g_bipush F rfl (by decide) dL_middle_113 ?_
  refine g_icmp_ne_t F rfl rfl (by decide) (tgt := 141) rfl dL_middle_115 ?_
  refine g_iload_n F rfl 1 rfl rfl dL_middle_141 ?_
  refine g_bipush F rfl (by decide) dL_middle_142 ?_
  refine g_icmp_ne_t F rfl rfl (by decide) (tgt := 155) rfl dL_middle_144 ?_
  refine g_iload_n F rfl 1 rfl rfl dL_middle_155 ?_
  refine g_bipush F rfl (by decide) dL_middle_156 ?_
  refine g_icmp_ne_t F rfl rfl (by decide) (tgt := 169) rfl dL_middle_158 ?_
  refine g_iload_n F rfl 1 rfl rfl dL_middle_169 ?_
  refine g_bipush F rfl (by decide) dL_middle_170 ?_
  refine g_icmp_ne_t F rfl rfl (by decide) (tgt := 186) rfl dL_middle_172 ?_
  refine g_iload_n F rfl 1 rfl rfl dL_middle_186 ?_
  refine g_bipush F rfl (by decide) dL_middle_187 ?_
  refine g_icmp_ne_f F rfl rfl (by decide) (tgt := 205) rfl dL_middle_189 ?_
  refine g_aload_n F rfl 0 rfl dL_middle_192 ?_
  refine g_iload_n F rfl 2 rfl rfl dL_middle_193 ?_
  refine g_iload_n F rfl 3 rfl rfl dL_middle_194 ?_
  refine g_iload F 4 rfl rfl dL_middle_195 ?_
  refine g_iload F 5 rfl rfl dL_middle_197 ?_
  refine g_callV F (by decide) (K := 7) (b := 0) [(0, a2), (0, a3), (0, a4), (0, a5)] [0, 0, 0, 0] ml_RL_131 wi_X7_bars ws_X7_bars (c_X7_bars 0 a2 a3 a4 a5 (by decide)) mi_X7_bars (by decide) ⟨_, rfl, rfl⟩ (by decide) rfl rfl rfl (Nat.le_of_ble_eq_true rfl) (Nat.le_of_ble_eq_true rfl) (Nat.le_of_ble_eq_true rfl) (Nat.le_of_ble_eq_true rfl) (Nat.le_of_ble_eq_true rfl) dL_middle_199 (fun z1 v1 hz1 => ?_)
  refine g_goto F (tgt := 215) rfl dL_middle_202 ?_
  exact g_ireturn F rfl rfl rfl rfl (Nat.le_of_ble_eq_true rfl) (Nat.le_of_ble_eq_true rfl) dL_middle_215
theorem c_L_middle_23 (a2 a3 a4 a5 : Int) : ∀ l, Ct l yL_middle cL_middle 6 (some .int) ({ frames := 9, cells := 5, slots := 30, locals := 153 }) (some 0) [(17, 0), (0, 23), (0, a2), (0, a3), (0, a4), (0, a5)] (sp_L_middle_23 a2 a3 a4 a5) := g_method (by decide +kernel) (Nat.le_of_ble_eq_true rfl) (fun x v F ho => k_L_middle_23 a2 a3 a4 a5 x v F ho)
def sp_L_does_23 (a2 a3 a4 a5 : Int) (v : V) : Res := (rBx (sp_L_middle_23 a2 a3 a4 a5 v) (fun z1 v1 => (rOk z1 v1)) (kxC (-2100000000) [1, 2, 3]))
set_option maxRecDepth 100000 in
set_option maxHeartbeats 4000000 in
theorem k_L_does_23 (a2 a3 a4 a5 : Int) (x : Cx) (v : V) (F : Fx x cL_does RL "does" ({ frames := 10, cells := 5, slots := 30, locals := 178 }) 7 (some 0) (some .int) 2) (hTb : Tb x [(0, 136, 137, 43), (0, 136, 142, 46), (0, 136, 147, 48)]) (ho : ∀ a ∈ [(17, 0), (0, 23), (0, a2), (0, a3), (0, a4), (0, a5)], okv v a) : Gs x (sp_L_does_23 a2 a3 a4 a5 v) v 0 0 0 (avArgs 0 [(17, 0), (0, 23), (0, a2), (0, a3), (0, a4), (0, a5)]) [] := by
  show Gs x _ v 0 0 0 [(0, (17, 0)), (1, (0, 23)), (2, (0, a2)), (3, (0, a3)), (4, (0, a4)), (5, (0, a5))] []
  unfold sp_L_does_23
  refine g_iload_n F rfl 1 rfl rfl dL_does_0 ?_
  refine g_bipush F rfl (by decide) dL_does_1 ?_
  refine g_icmp_ge_t F rfl rfl (by decide) (tgt := 18) rfl dL_does_3 ?_
  refine g_iload_n F rfl 1 rfl rfl dL_does_18 ?_
  refine g_bipush F rfl (by decide) dL_does_19 ?_
  refine g_icmp_ge_f F rfl rfl (by decide) (tgt := 38) rfl dL_does_21 ?_
  refine g_aload_n F rfl 0 rfl dL_does_24 ?_
  refine g_iload_n F rfl 1 rfl rfl dL_does_25 ?_
  refine g_iload_n F rfl 2 rfl rfl dL_does_26 ?_
  refine g_iload_n F rfl 3 rfl rfl dL_does_27 ?_
  refine g_iload F 4 rfl rfl dL_does_28 ?_
  refine g_iload F 5 rfl rfl dL_does_30 ?_
  refine g_callXS F hTb hx_L_does_32 [(17, 0), (0, 23), (0, a2), (0, a3), (0, a4), (0, a5)] [17, 0, 0, 0, 0, 0] ml_RL_14 wt_L_middle (c_L_middle_23 a2 a3 a4 a5) mi_L_middle rfl rfl rfl (Nat.le_of_ble_eq_true rfl) (Nat.le_of_ble_eq_true rfl) (Nat.le_of_ble_eq_true rfl) (Nat.le_of_ble_eq_true rfl) (Nat.le_of_ble_eq_true rfl) dL_does_32 (fun z1 v1 hz1 => ?_)
  refine g_goto F (tgt := 136) rfl dL_does_35 ?_
  exact g_ireturn F rfl rfl rfl rfl (Nat.le_of_ble_eq_true rfl) (Nat.le_of_ble_eq_true rfl) dL_does_136
theorem c_L_does_23 (a2 a3 a4 a5 : Int) : ∀ l, CtW l yL_does cL_does 7 (some .int) [(0, 136, 137, 43), (0, 136, 142, 46), (0, 136, 147, 48)] ({ frames := 10, cells := 5, slots := 30, locals := 178 }) (some 0) [(17, 0), (0, 23), (0, a2), (0, a3), (0, a4), (0, a5)] (sp_L_does_23 a2 a3 a4 a5) := g_methodW (by decide +kernel) (Nat.le_of_ble_eq_true rfl) (fun x v F hT ho => k_L_does_23 a2 a3 a4 a5 x v F hT ho)
def sp_L_middle_24 (a2 a3 a4 a5 : Int) (v : V) : Res := (rB (sp_X7_barredBy 0 a2 a3 a4 a5 v) (fun z1 v1 => (rOk z1 v1)))
set_option maxRecDepth 100000 in
set_option maxHeartbeats 4000000 in
theorem k_L_middle_24 (a2 a3 a4 a5 : Int) (x : Cx) (v : V) (F : Fx x cL_middle RL "middle" ({ frames := 9, cells := 5, slots := 30, locals := 153 }) 6 (some 0) (some .int) 0) (ho : ∀ a ∈ [(17, 0), (0, 24), (0, a2), (0, a3), (0, a4), (0, a5)], okv v a) : Gs x (sp_L_middle_24 a2 a3 a4 a5 v) v 0 0 0 (avArgs 0 [(17, 0), (0, 24), (0, a2), (0, a3), (0, a4), (0, a5)]) [] := by
  show Gs x _ v 0 0 0 [(0, (17, 0)), (1, (0, 24)), (2, (0, a2)), (3, (0, a3)), (4, (0, a4)), (5, (0, a5))] []
  unfold sp_L_middle_24
  refine g_iload_n F rfl 1 rfl rfl dL_middle_0 ?_
  refine g_bipush F rfl (by decide) dL_middle_1 ?_
  refine g_icmp_ne_t F rfl rfl (by decide) (tgt := 19) rfl dL_middle_3 ?_
  refine g_iload_n F rfl 1 rfl rfl dL_middle_19 ?_
  refine g_bipush F rfl (by decide) dL_middle_20 ?_
  refine g_icmp_ne_t F rfl rfl (by decide) (tgt := 46) rfl dL_middle_22 ?_
  refine g_iload_n F rfl 1 rfl rfl dL_middle_46 ?_
  refine g_bipush F rfl (by decide) dL_middle_47 ?_
  refine g_icmp_ne_t F rfl rfl (by decide) (tgt := 60) rfl dL_middle_49 ?_
  refine g_iload_n F rfl 1 rfl rfl dL_middle_60 ?_
  refine g_bipush F rfl (by decide) dL_middle_61 ?_
  refine g_icmp_ne_t F rfl rfl (by decide) (tgt := 77) rfl dL_middle_63 ?_
  refine g_iload_n F rfl 1 rfl rfl dL_middle_77 ?_
  refine g_bipush F rfl (by decide) dL_middle_78 ?_
  refine g_icmp_ne_t F rfl rfl (by decide) (tgt := 97) rfl dL_middle_80 ?_
  refine g_iload_n F rfl 1 rfl rfl dL_middle_97 ?_
  refine g_bipush F rfl (by decide) dL_middle_98 ?_
  refine g_icmp_ne_t F rfl rfl (by decide) (tgt := 112) rfl dL_middle_100 ?_
  refine g_iload_n F rfl 1 rfl rfl dL_middle_112 ?_
  refine g_bipush F rfl (by decide) dL_middle_113 ?_
  refine g_icmp_ne_t F rfl rfl (by decide) (tgt := 141) rfl dL_middle_115 ?_
  refine g_iload_n F rfl 1 rfl rfl dL_middle_141 ?_
  refine g_bipush F rfl (by decide) dL_middle_142 ?_
  refine g_icmp_ne_t F rfl rfl (by decide) (tgt := 155) rfl dL_middle_144 ?_
  refine g_iload_n F rfl 1 rfl rfl dL_middle_155 ?_
  refine g_bipush F rfl (by decide) dL_middle_156 ?_
  refine g_icmp_ne_t F rfl rfl (by decide) (tgt := 169) rfl dL_middle_158 ?_
  refine g_iload_n F rfl 1 rfl rfl dL_middle_169 ?_
  refine g_bipush F rfl (by decide) dL_middle_170 ?_
  refine g_icmp_ne_t F rfl rfl (by decide) (tgt := 186) rfl dL_middle_172 ?_
  refine g_iload_n F rfl 1 rfl rfl dL_middle_186 ?_
  refine g_bipush F rfl (by decide) dL_middle_187 ?_
  refine g_icmp_ne_t F rfl rfl (by decide) (tgt := 205) rfl dL_middle_189 ?_
  refine g_aload_n F rfl 0 rfl dL_middle_205 ?_
  refine g_iload_n F rfl 2 rfl rfl dL_middle_206 ?_
  refine g_iload_n F rfl 3 rfl rfl dL_middle_207 ?_
  refine g_iload F 4 rfl rfl dL_middle_208 ?_
  refine g_iload F 5 rfl rfl dL_middle_210 ?_
  refine g_callV F (by decide) (K := 7) (b := 0) [(0, a2), (0, a3), (0, a4), (0, a5)] [0, 0, 0, 0] ml_RL_134 wi_X7_barredBy ws_X7_barredBy (c_X7_barredBy 0 a2 a3 a4 a5 (by decide)) mi_X7_barredBy (by decide) ⟨_, rfl, rfl⟩ (by decide) rfl rfl rfl (Nat.le_of_ble_eq_true rfl) (Nat.le_of_ble_eq_true rfl) (Nat.le_of_ble_eq_true rfl) (Nat.le_of_ble_eq_true rfl) (Nat.le_of_ble_eq_true rfl) dL_middle_212 (fun z1 v1 hz1 => ?_)
  exact g_ireturn F rfl rfl rfl rfl (Nat.le_of_ble_eq_true rfl) (Nat.le_of_ble_eq_true rfl) dL_middle_215
theorem c_L_middle_24 (a2 a3 a4 a5 : Int) : ∀ l, Ct l yL_middle cL_middle 6 (some .int) ({ frames := 9, cells := 5, slots := 30, locals := 153 }) (some 0) [(17, 0), (0, 24), (0, a2), (0, a3), (0, a4), (0, a5)] (sp_L_middle_24 a2 a3 a4 a5) := g_method (by decide +kernel) (Nat.le_of_ble_eq_true rfl) (fun x v F ho => k_L_middle_24 a2 a3 a4 a5 x v F ho)
def sp_L_does_24 (a2 a3 a4 a5 : Int) (v : V) : Res := (rBx (sp_L_middle_24 a2 a3 a4 a5 v) (fun z1 v1 => (rOk z1 v1)) (kxC (-2100000000) [1, 2, 3]))
set_option maxRecDepth 100000 in
set_option maxHeartbeats 4000000 in
theorem k_L_does_24 (a2 a3 a4 a5 : Int) (x : Cx) (v : V) (F : Fx x cL_does RL "does" ({ frames := 10, cells := 5, slots := 30, locals := 178 }) 7 (some 0) (some .int) 2) (hTb : Tb x [(0, 136, 137, 43), (0, 136, 142, 46), (0, 136, 147, 48)]) (ho : ∀ a ∈ [(17, 0), (0, 24), (0, a2), (0, a3), (0, a4), (0, a5)], okv v a) : Gs x (sp_L_does_24 a2 a3 a4 a5 v) v 0 0 0 (avArgs 0 [(17, 0), (0, 24), (0, a2), (0, a3), (0, a4), (0, a5)]) [] := by
  show Gs x _ v 0 0 0 [(0, (17, 0)), (1, (0, 24)), (2, (0, a2)), (3, (0, a3)), (4, (0, a4)), (5, (0, a5))] []
  unfold sp_L_does_24
  refine g_iload_n F rfl 1 rfl rfl dL_does_0 ?_
  refine g_bipush F rfl (by decide) dL_does_1 ?_
  refine g_icmp_ge_t F rfl rfl (by decide) (tgt := 18) rfl dL_does_3 ?_
  refine g_iload_n F rfl 1 rfl rfl dL_does_18 ?_
  refine g_bipush F rfl (by decide) dL_does_19 ?_
  refine g_icmp_ge_f F rfl rfl (by decide) (tgt := 38) rfl dL_does_21 ?_
  refine g_aload_n F rfl 0 rfl dL_does_24 ?_
  refine g_iload_n F rfl 1 rfl rfl dL_does_25 ?_
  refine g_iload_n F rfl 2 rfl rfl dL_does_26 ?_
  refine g_iload_n F rfl 3 rfl rfl dL_does_27 ?_
  refine g_iload F 4 rfl rfl dL_does_28 ?_
  refine g_iload F 5 rfl rfl dL_does_30 ?_
  refine g_callXS F hTb hx_L_does_32 [(17, 0), (0, 24), (0, a2), (0, a3), (0, a4), (0, a5)] [17, 0, 0, 0, 0, 0] ml_RL_14 wt_L_middle (c_L_middle_24 a2 a3 a4 a5) mi_L_middle rfl rfl rfl (Nat.le_of_ble_eq_true rfl) (Nat.le_of_ble_eq_true rfl) (Nat.le_of_ble_eq_true rfl) (Nat.le_of_ble_eq_true rfl) (Nat.le_of_ble_eq_true rfl) dL_does_32 (fun z1 v1 hz1 => ?_)
  refine g_goto F (tgt := 136) rfl dL_does_35 ?_
  exact g_ireturn F rfl rfl rfl rfl (Nat.le_of_ble_eq_true rfl) (Nat.le_of_ble_eq_true rfl) dL_does_136
theorem c_L_does_24 (a2 a3 a4 a5 : Int) : ∀ l, CtW l yL_does cL_does 7 (some .int) [(0, 136, 137, 43), (0, 136, 142, 46), (0, 136, 147, 48)] ({ frames := 10, cells := 5, slots := 30, locals := 178 }) (some 0) [(17, 0), (0, 24), (0, a2), (0, a3), (0, a4), (0, a5)] (sp_L_does_24 a2 a3 a4 a5) := g_methodW (by decide +kernel) (Nat.le_of_ble_eq_true rfl) (fun x v F hT ho => k_L_does_24 a2 a3 a4 a5 x v F hT ho)
def sp_L_does_25 (a2 a3 a4 a5 : Int) (v : V) : Res := (rBx (sp_X7_price 0 a2 a3 v) (fun z1 v1 => (rOk z1 v1)) (kxC (-2100000000) [1, 2, 3]))
set_option maxRecDepth 100000 in
set_option maxHeartbeats 4000000 in
theorem k_L_does_25 (a2 a3 a4 a5 : Int) (x : Cx) (v : V) (F : Fx x cL_does RL "does" ({ frames := 8, cells := 2, slots := 12, locals := 127 }) 7 (some 0) (some .int) 2) (hTb : Tb x [(0, 136, 137, 43), (0, 136, 142, 46), (0, 136, 147, 48)]) (ho : ∀ a ∈ [(17, 0), (0, 25), (0, a2), (0, a3), (0, a4), (0, a5)], okv v a) : Gs x (sp_L_does_25 a2 a3 a4 a5 v) v 0 0 0 (avArgs 0 [(17, 0), (0, 25), (0, a2), (0, a3), (0, a4), (0, a5)]) [] := by
  show Gs x _ v 0 0 0 [(0, (17, 0)), (1, (0, 25)), (2, (0, a2)), (3, (0, a3)), (4, (0, a4)), (5, (0, a5))] []
  unfold sp_L_does_25
  refine g_iload_n F rfl 1 rfl rfl dL_does_0 ?_
  refine g_bipush F rfl (by decide) dL_does_1 ?_
  refine g_icmp_ge_t F rfl rfl (by decide) (tgt := 18) rfl dL_does_3 ?_
  refine g_iload_n F rfl 1 rfl rfl dL_does_18 ?_
  refine g_bipush F rfl (by decide) dL_does_19 ?_
  refine g_icmp_ge_t F rfl rfl (by decide) (tgt := 38) rfl dL_does_21 ?_
  refine g_iload_n F rfl 1 rfl rfl dL_does_38 ?_
  refine g_bipush F rfl (by decide) dL_does_39 ?_
  refine g_icmp_ne_f F rfl rfl (by decide) (tgt := 53) rfl dL_does_41 ?_
  refine g_aload_n F rfl 0 rfl dL_does_44 ?_
  refine g_iload_n F rfl 2 rfl rfl dL_does_45 ?_
  refine g_iload_n F rfl 3 rfl rfl dL_does_46 ?_
  refine g_callX F hTb hx_L_does_47 (K := 7) (b := 0) [(0, a2), (0, a3)] [0, 0] ml_RL_18 wi_X7_price ws_X7_price (c_X7_price 0 a2 a3 (by decide)) mi_X7_price (by decide) ⟨_, rfl, rfl⟩ (by decide) rfl rfl rfl (Nat.le_of_ble_eq_true rfl) (Nat.le_of_ble_eq_true rfl) (Nat.le_of_ble_eq_true rfl) (Nat.le_of_ble_eq_true rfl) (Nat.le_of_ble_eq_true rfl) dL_does_47 (fun z1 v1 hz1 => ?_)
  refine g_goto F (tgt := 136) rfl dL_does_50 ?_
  exact g_ireturn F rfl rfl rfl rfl (Nat.le_of_ble_eq_true rfl) (Nat.le_of_ble_eq_true rfl) dL_does_136
theorem c_L_does_25 (a2 a3 a4 a5 : Int) : ∀ l, CtW l yL_does cL_does 7 (some .int) [(0, 136, 137, 43), (0, 136, 142, 46), (0, 136, 147, 48)] ({ frames := 8, cells := 2, slots := 12, locals := 127 }) (some 0) [(17, 0), (0, 25), (0, a2), (0, a3), (0, a4), (0, a5)] (sp_L_does_25 a2 a3 a4 a5) := g_methodW (by decide +kernel) (Nat.le_of_ble_eq_true rfl) (fun x v F hT ho => k_L_does_25 a2 a3 a4 a5 x v F hT ho)
def sp_L_does_26 (a2 a3 a4 a5 : Int) (v : V) : Res := (rBx (sp_X7_ofParty 0 a2 a3 v) (fun z1 v1 => (rOk z1 v1)) (kxC (-2100000000) [1, 2, 3]))
set_option maxRecDepth 100000 in
set_option maxHeartbeats 4000000 in
theorem k_L_does_26 (a2 a3 a4 a5 : Int) (x : Cx) (v : V) (F : Fx x cL_does RL "does" ({ frames := 8, cells := 2, slots := 12, locals := 127 }) 7 (some 0) (some .int) 2) (hTb : Tb x [(0, 136, 137, 43), (0, 136, 142, 46), (0, 136, 147, 48)]) (ho : ∀ a ∈ [(17, 0), (0, 26), (0, a2), (0, a3), (0, a4), (0, a5)], okv v a) : Gs x (sp_L_does_26 a2 a3 a4 a5 v) v 0 0 0 (avArgs 0 [(17, 0), (0, 26), (0, a2), (0, a3), (0, a4), (0, a5)]) [] := by
  show Gs x _ v 0 0 0 [(0, (17, 0)), (1, (0, 26)), (2, (0, a2)), (3, (0, a3)), (4, (0, a4)), (5, (0, a5))] []
  unfold sp_L_does_26
  refine g_iload_n F rfl 1 rfl rfl dL_does_0 ?_
  refine g_bipush F rfl (by decide) dL_does_1 ?_
  refine g_icmp_ge_t F rfl rfl (by decide) (tgt := 18) rfl dL_does_3 ?_
  refine g_iload_n F rfl 1 rfl rfl dL_does_18 ?_
  refine g_bipush F rfl (by decide) dL_does_19 ?_
  refine g_icmp_ge_t F rfl rfl (by decide) (tgt := 38) rfl dL_does_21 ?_
  refine g_iload_n F rfl 1 rfl rfl dL_does_38 ?_
  refine g_bipush F rfl (by decide) dL_does_39 ?_
  refine g_icmp_ne_t F rfl rfl (by decide) (tgt := 53) rfl dL_does_41 ?_
  refine g_iload_n F rfl 1 rfl rfl dL_does_53 ?_
  refine g_bipush F rfl (by decide) dL_does_54 ?_
  refine g_icmp_ne_f F rfl rfl (by decide) (tgt := 68) rfl dL_does_56 ?_
  refine g_aload_n F rfl 0 rfl dL_does_59 ?_
  refine g_iload_n F rfl 2 rfl rfl dL_does_60 ?_
  refine g_iload_n F rfl 3 rfl rfl dL_does_61 ?_
  refine g_callX F hTb hx_L_does_62 (K := 7) (b := 0) [(0, a2), (0, a3)] [0, 0] ml_RL_24 wi_X7_ofParty ws_X7_ofParty (c_X7_ofParty 0 a2 a3 (by decide)) mi_X7_ofParty (by decide) ⟨_, rfl, rfl⟩ (by decide) rfl rfl rfl (Nat.le_of_ble_eq_true rfl) (Nat.le_of_ble_eq_true rfl) (Nat.le_of_ble_eq_true rfl) (Nat.le_of_ble_eq_true rfl) (Nat.le_of_ble_eq_true rfl) dL_does_62 (fun z1 v1 hz1 => ?_)
  refine g_goto F (tgt := 136) rfl dL_does_65 ?_
  exact g_ireturn F rfl rfl rfl rfl (Nat.le_of_ble_eq_true rfl) (Nat.le_of_ble_eq_true rfl) dL_does_136
theorem c_L_does_26 (a2 a3 a4 a5 : Int) : ∀ l, CtW l yL_does cL_does 7 (some .int) [(0, 136, 137, 43), (0, 136, 142, 46), (0, 136, 147, 48)] ({ frames := 8, cells := 2, slots := 12, locals := 127 }) (some 0) [(17, 0), (0, 26), (0, a2), (0, a3), (0, a4), (0, a5)] (sp_L_does_26 a2 a3 a4 a5) := g_methodW (by decide +kernel) (Nat.le_of_ble_eq_true rfl) (fun x v F hT ho => k_L_does_26 a2 a3 a4 a5 x v F hT ho)
def sp_L_does_27 (a2 a3 a4 a5 : Int) (v : V) : Res := (rBx (sp_X7_ofWork 0 a2 a3 v) (fun z1 v1 => (rOk z1 v1)) (kxC (-2100000000) [1, 2, 3]))
set_option maxRecDepth 100000 in
set_option maxHeartbeats 4000000 in
theorem k_L_does_27 (a2 a3 a4 a5 : Int) (x : Cx) (v : V) (F : Fx x cL_does RL "does" ({ frames := 8, cells := 2, slots := 12, locals := 127 }) 7 (some 0) (some .int) 2) (hTb : Tb x [(0, 136, 137, 43), (0, 136, 142, 46), (0, 136, 147, 48)]) (ho : ∀ a ∈ [(17, 0), (0, 27), (0, a2), (0, a3), (0, a4), (0, a5)], okv v a) : Gs x (sp_L_does_27 a2 a3 a4 a5 v) v 0 0 0 (avArgs 0 [(17, 0), (0, 27), (0, a2), (0, a3), (0, a4), (0, a5)]) [] := by
  show Gs x _ v 0 0 0 [(0, (17, 0)), (1, (0, 27)), (2, (0, a2)), (3, (0, a3)), (4, (0, a4)), (5, (0, a5))] []
  unfold sp_L_does_27
  refine g_iload_n F rfl 1 rfl rfl dL_does_0 ?_
  refine g_bipush F rfl (by decide) dL_does_1 ?_
  refine g_icmp_ge_t F rfl rfl (by decide) (tgt := 18) rfl dL_does_3 ?_
  refine g_iload_n F rfl 1 rfl rfl dL_does_18 ?_
  refine g_bipush F rfl (by decide) dL_does_19 ?_
  refine g_icmp_ge_t F rfl rfl (by decide) (tgt := 38) rfl dL_does_21 ?_
  refine g_iload_n F rfl 1 rfl rfl dL_does_38 ?_
  refine g_bipush F rfl (by decide) dL_does_39 ?_
  refine g_icmp_ne_t F rfl rfl (by decide) (tgt := 53) rfl dL_does_41 ?_
  refine g_iload_n F rfl 1 rfl rfl dL_does_53 ?_
  refine g_bipush F rfl (by decide) dL_does_54 ?_
  refine g_icmp_ne_t F rfl rfl (by decide) (tgt := 68) rfl dL_does_56 ?_
  refine g_iload_n F rfl 1 rfl rfl dL_does_68 ?_
  refine g_bipush F rfl (by decide) dL_does_69 ?_
  refine g_icmp_ne_f F rfl rfl (by decide) (tgt := 83) rfl dL_does_71 ?_
  refine g_aload_n F rfl 0 rfl dL_does_74 ?_
  refine g_iload_n F rfl 2 rfl rfl dL_does_75 ?_
  refine g_iload_n F rfl 3 rfl rfl dL_does_76 ?_
  refine g_callX F hTb hx_L_does_77 (K := 7) (b := 0) [(0, a2), (0, a3)] [0, 0] ml_RL_27 wi_X7_ofWork ws_X7_ofWork (c_X7_ofWork 0 a2 a3 (by decide)) mi_X7_ofWork (by decide) ⟨_, rfl, rfl⟩ (by decide) rfl rfl rfl (Nat.le_of_ble_eq_true rfl) (Nat.le_of_ble_eq_true rfl) (Nat.le_of_ble_eq_true rfl) (Nat.le_of_ble_eq_true rfl) (Nat.le_of_ble_eq_true rfl) dL_does_77 (fun z1 v1 hz1 => ?_)
  refine g_goto F (tgt := 136) rfl dL_does_80 ?_
  exact g_ireturn F rfl rfl rfl rfl (Nat.le_of_ble_eq_true rfl) (Nat.le_of_ble_eq_true rfl) dL_does_136
theorem c_L_does_27 (a2 a3 a4 a5 : Int) : ∀ l, CtW l yL_does cL_does 7 (some .int) [(0, 136, 137, 43), (0, 136, 142, 46), (0, 136, 147, 48)] ({ frames := 8, cells := 2, slots := 12, locals := 127 }) (some 0) [(17, 0), (0, 27), (0, a2), (0, a3), (0, a4), (0, a5)] (sp_L_does_27 a2 a3 a4 a5) := g_methodW (by decide +kernel) (Nat.le_of_ble_eq_true rfl) (fun x v F hT ho => k_L_does_27 a2 a3 a4 a5 x v F hT ho)
def sp_L_does_28 (a2 a3 a4 a5 : Int) (v : V) : Res := (rBx (sp_X7_ofLot 0 a2 a3 v) (fun z1 v1 => (rOk z1 v1)) (kxC (-2100000000) [1, 2, 3]))
set_option maxRecDepth 100000 in
set_option maxHeartbeats 4000000 in
theorem k_L_does_28 (a2 a3 a4 a5 : Int) (x : Cx) (v : V) (F : Fx x cL_does RL "does" ({ frames := 8, cells := 2, slots := 12, locals := 127 }) 7 (some 0) (some .int) 2) (hTb : Tb x [(0, 136, 137, 43), (0, 136, 142, 46), (0, 136, 147, 48)]) (ho : ∀ a ∈ [(17, 0), (0, 28), (0, a2), (0, a3), (0, a4), (0, a5)], okv v a) : Gs x (sp_L_does_28 a2 a3 a4 a5 v) v 0 0 0 (avArgs 0 [(17, 0), (0, 28), (0, a2), (0, a3), (0, a4), (0, a5)]) [] := by
  show Gs x _ v 0 0 0 [(0, (17, 0)), (1, (0, 28)), (2, (0, a2)), (3, (0, a3)), (4, (0, a4)), (5, (0, a5))] []
  unfold sp_L_does_28
  refine g_iload_n F rfl 1 rfl rfl dL_does_0 ?_
  refine g_bipush F rfl (by decide) dL_does_1 ?_
  refine g_icmp_ge_t F rfl rfl (by decide) (tgt := 18) rfl dL_does_3 ?_
  refine g_iload_n F rfl 1 rfl rfl dL_does_18 ?_
  refine g_bipush F rfl (by decide) dL_does_19 ?_
  refine g_icmp_ge_t F rfl rfl (by decide) (tgt := 38) rfl dL_does_21 ?_
  refine g_iload_n F rfl 1 rfl rfl dL_does_38 ?_
  refine g_bipush F rfl (by decide) dL_does_39 ?_
  refine g_icmp_ne_t F rfl rfl (by decide) (tgt := 53) rfl dL_does_41 ?_
  refine g_iload_n F rfl 1 rfl rfl dL_does_53 ?_
  refine g_bipush F rfl (by decide) dL_does_54 ?_
  refine g_icmp_ne_t F rfl rfl (by decide) (tgt := 68) rfl dL_does_56 ?_
  refine g_iload_n F rfl 1 rfl rfl dL_does_68 ?_
  refine g_bipush F rfl (by decide) dL_does_69 ?_
  refine g_icmp_ne_t F rfl rfl (by decide) (tgt := 83) rfl dL_does_71 ?_
  refine g_iload_n F rfl 1 rfl rfl dL_does_83 ?_
  refine g_bipush F rfl (by decide) dL_does_84 ?_
  refine g_icmp_ne_f F rfl rfl (by decide) (tgt := 98) rfl dL_does_86 ?_
  refine g_aload_n F rfl 0 rfl dL_does_89 ?_
  refine g_iload_n F rfl 2 rfl rfl dL_does_90 ?_
  refine g_iload_n F rfl 3 rfl rfl dL_does_91 ?_
  refine g_callX F hTb hx_L_does_92 (K := 7) (b := 0) [(0, a2), (0, a3)] [0, 0] ml_RL_30 wi_X7_ofLot ws_X7_ofLot (c_X7_ofLot 0 a2 a3 (by decide)) mi_X7_ofLot (by decide) ⟨_, rfl, rfl⟩ (by decide) rfl rfl rfl (Nat.le_of_ble_eq_true rfl) (Nat.le_of_ble_eq_true rfl) (Nat.le_of_ble_eq_true rfl) (Nat.le_of_ble_eq_true rfl) (Nat.le_of_ble_eq_true rfl) dL_does_92 (fun z1 v1 hz1 => ?_)
  refine g_goto F (tgt := 136) rfl dL_does_95 ?_
  exact g_ireturn F rfl rfl rfl rfl (Nat.le_of_ble_eq_true rfl) (Nat.le_of_ble_eq_true rfl) dL_does_136
theorem c_L_does_28 (a2 a3 a4 a5 : Int) : ∀ l, CtW l yL_does cL_does 7 (some .int) [(0, 136, 137, 43), (0, 136, 142, 46), (0, 136, 147, 48)] ({ frames := 8, cells := 2, slots := 12, locals := 127 }) (some 0) [(17, 0), (0, 28), (0, a2), (0, a3), (0, a4), (0, a5)] (sp_L_does_28 a2 a3 a4 a5) := g_methodW (by decide +kernel) (Nat.le_of_ble_eq_true rfl) (fun x v F hT ho => k_L_does_28 a2 a3 a4 a5 x v F hT ho)
def sp_L_does_29 (a2 a3 a4 a5 : Int) (v : V) : Res := (rBx (sp_X7_ofLoan 0 a2 a3 v) (fun z1 v1 => (rOk z1 v1)) (kxC (-2100000000) [1, 2, 3]))
set_option maxRecDepth 100000 in
set_option maxHeartbeats 4000000 in
theorem k_L_does_29 (a2 a3 a4 a5 : Int) (x : Cx) (v : V) (F : Fx x cL_does RL "does" ({ frames := 8, cells := 2, slots := 12, locals := 135 }) 7 (some 0) (some .int) 2) (hTb : Tb x [(0, 136, 137, 43), (0, 136, 142, 46), (0, 136, 147, 48)]) (ho : ∀ a ∈ [(17, 0), (0, 29), (0, a2), (0, a3), (0, a4), (0, a5)], okv v a) : Gs x (sp_L_does_29 a2 a3 a4 a5 v) v 0 0 0 (avArgs 0 [(17, 0), (0, 29), (0, a2), (0, a3), (0, a4), (0, a5)]) [] := by
  show Gs x _ v 0 0 0 [(0, (17, 0)), (1, (0, 29)), (2, (0, a2)), (3, (0, a3)), (4, (0, a4)), (5, (0, a5))] []
  unfold sp_L_does_29
  refine g_iload_n F rfl 1 rfl rfl dL_does_0 ?_
  refine g_bipush F rfl (by decide) dL_does_1 ?_
  refine g_icmp_ge_t F rfl rfl (by decide) (tgt := 18) rfl dL_does_3 ?_
  refine g_iload_n F rfl 1 rfl rfl dL_does_18 ?_
  refine g_bipush F rfl (by decide) dL_does_19 ?_
  refine g_icmp_ge_t F rfl rfl (by decide) (tgt := 38) rfl dL_does_21 ?_
  refine g_iload_n F rfl 1 rfl rfl dL_does_38 ?_
  refine g_bipush F rfl (by decide) dL_does_39 ?_
  refine g_icmp_ne_t F rfl rfl (by decide) (tgt := 53) rfl dL_does_41 ?_
  refine g_iload_n F rfl 1 rfl rfl dL_does_53 ?_
  refine g_bipush F rfl (by decide) dL_does_54 ?_
  refine g_icmp_ne_t F rfl rfl (by decide) (tgt := 68) rfl dL_does_56 ?_
  refine g_iload_n F rfl 1 rfl rfl dL_does_68 ?_
  refine g_bipush F rfl (by decide) dL_does_69 ?_
  refine g_icmp_ne_t F rfl rfl (by decide) (tgt := 83) rfl dL_does_71 ?_
  refine g_iload_n F rfl 1 rfl rfl dL_does_83 ?_
  refine g_bipush F rfl (by decide) dL_does_84 ?_
  refine g_icmp_ne_t F rfl rfl (by decide) (tgt := 98) rfl dL_does_86 ?_
  refine g_iload_n F rfl 1 rfl rfl dL_does_98 ?_
  refine g_bipush F rfl (by decide) dL_does_99 ?_
  refine g_icmp_ne_f F rfl rfl (by decide) (tgt := 113) rfl dL_does_101 ?_
  refine g_aload_n F rfl 0 rfl dL_does_104 ?_
  refine g_iload_n F rfl 2 rfl rfl dL_does_105 ?_
  refine g_iload_n F rfl 3 rfl rfl dL_does_106 ?_
  refine g_callX F hTb hx_L_does_107 (K := 7) (b := 0) [(0, a2), (0, a3)] [0, 0] ml_RL_33 wi_X7_ofLoan ws_X7_ofLoan (c_X7_ofLoan 0 a2 a3 (by decide)) mi_X7_ofLoan (by decide) ⟨_, rfl, rfl⟩ (by decide) rfl rfl rfl (Nat.le_of_ble_eq_true rfl) (Nat.le_of_ble_eq_true rfl) (Nat.le_of_ble_eq_true rfl) (Nat.le_of_ble_eq_true rfl) (Nat.le_of_ble_eq_true rfl) dL_does_107 (fun z1 v1 hz1 => ?_)
  refine g_goto F (tgt := 136) rfl dL_does_110 ?_
  exact g_ireturn F rfl rfl rfl rfl (Nat.le_of_ble_eq_true rfl) (Nat.le_of_ble_eq_true rfl) dL_does_136
theorem c_L_does_29 (a2 a3 a4 a5 : Int) : ∀ l, CtW l yL_does cL_does 7 (some .int) [(0, 136, 137, 43), (0, 136, 142, 46), (0, 136, 147, 48)] ({ frames := 8, cells := 2, slots := 12, locals := 135 }) (some 0) [(17, 0), (0, 29), (0, a2), (0, a3), (0, a4), (0, a5)] (sp_L_does_29 a2 a3 a4 a5) := g_methodW (by decide +kernel) (Nat.le_of_ble_eq_true rfl) (fun x v F hT ho => k_L_does_29 a2 a3 a4 a5 x v F hT ho)

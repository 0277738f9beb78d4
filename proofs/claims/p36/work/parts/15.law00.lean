def sp_L_low (a0 a1 : Int) (v : V) : Res := (chk (¬ a1 = 0) (rOk (rem32 (and32 a0 2147483647) a1) v))
set_option maxRecDepth 100000 in
set_option maxHeartbeats 4000000 in
theorem k_L_low (a0 a1 : Int) (x : Cx) (v : V) (F : Fx x cL_low RL "low" ({ frames := 0, cells := 0, slots := 0, locals := 0 }) 2 (some 0) (some .int) 0) (ho : ∀ a ∈ [(0, a0), (0, a1)], okv v a) : Gs x (sp_L_low a0 a1 v) v 0 0 0 (avArgs 0 [(0, a0), (0, a1)]) [] := by
  show Gs x _ v 0 0 0 [(0, (0, a0)), (1, (0, a1))] []
  unfold sp_L_low
  refine g_iload_n F rfl 0 rfl rfl dL_low_0 ?_
  refine g_ldc F rfl cn_RL_7 dL_low_1 ?_
  refine g_iand F rfl rfl dL_low_3 ?_
  refine g_iload_n F rfl 1 rfl rfl dL_low_4 ?_
  refine g_chk (fun n1 => ?_)
  refine g_irem F n1 rfl rfl dL_low_5 ?_
  exact g_ireturn F rfl rfl rfl rfl (Nat.le_of_ble_eq_true rfl) (Nat.le_of_ble_eq_true rfl) dL_low_6
theorem c_L_low (a0 a1 : Int) : ∀ l, Ct l yL_low cL_low 2 (some .int) ({ frames := 0, cells := 0, slots := 0, locals := 0 }) (some 0) [(0, a0), (0, a1)] (sp_L_low a0 a1) := g_method (by decide +kernel) (Nat.le_of_ble_eq_true rfl) (fun x v F ho => k_L_low a0 a1 x v F ho)
def sp_L_early_3 (a2 a3 a4 : Int) (v : V) : Res := (rB (sp_X7_pass 0 a2 v) (fun z1 v1 => (rOk z1 v1)))
set_option maxRecDepth 100000 in
set_option maxHeartbeats 4000000 in
theorem k_L_early_3 (a2 a3 a4 : Int) (x : Cx) (v : V) (F : Fx x cL_early RL "early" ({ frames := 8, cells := 2, slots := 12, locals := 125 }) 5 (some 0) (some .int) 0) (ho : ∀ a ∈ [(17, 0), (0, 3), (0, a2), (0, a3), (0, a4)], okv v a) : Gs x (sp_L_early_3 a2 a3 a4 v) v 0 0 0 (avArgs 0 [(17, 0), (0, 3), (0, a2), (0, a3), (0, a4)]) [] := by
  show Gs x _ v 0 0 0 [(0, (17, 0)), (1, (0, 3)), (2, (0, a2)), (3, (0, a3)), (4, (0, a4))] []
  unfold sp_L_early_3
  refine g_iload_n F rfl 1 rfl rfl dL_early_0 ?_
  refine g_if_ne_t F rfl (by decide) (tgt := 13) rfl dL_early_1 ?_
  refine g_iload_n F rfl 1 rfl rfl dL_early_13 ?_
  refine g_iconst F 2 rfl dL_early_14 ?_
  refine g_icmp_ne_t F rfl rfl (by decide) (tgt := 27) rfl dL_early_15 ?_
  refine g_iload_n F rfl 1 rfl rfl dL_early_27 ?_
  refine g_iconst F 0 rfl dL_early_28 ?_
  refine g_icmp_ne_t F rfl rfl (by decide) (tgt := 41) rfl dL_early_29 ?_
  refine g_iload_n F rfl 1 rfl rfl dL_early_41 ?_
  refine g_iconst F 0 rfl dL_early_42 ?_
  refine g_icmp_ne_f F rfl rfl (by decide) (tgt := 54) rfl dL_early_43 ?_
  refine g_aload_n F rfl 0 rfl dL_early_46 ?_
  refine g_iload_n F rfl 2 rfl rfl dL_early_47 ?_
  refine g_callV F (by decide) (K := 7) (b := 0) [(0, a2)] [0] ml_RL_59 wi_X7_pass ws_X7_pass (c_X7_pass 0 a2 (by decide)) mi_X7_pass (by decide) ⟨_, rfl, rfl⟩ (by decide) rfl rfl rfl (Nat.le_of_ble_eq_true rfl) (Nat.le_of_ble_eq_true rfl) (Nat.le_of_ble_eq_true rfl) (Nat.le_of_ble_eq_true rfl) (Nat.le_of_ble_eq_true rfl) dL_early_48 (fun z1 v1 hz1 => ?_)
  refine g_goto F (tgt := 201) rfl dL_early_51 ?_
  exact g_ireturn F rfl rfl rfl rfl (Nat.le_of_ble_eq_true rfl) (Nat.le_of_ble_eq_true rfl) dL_early_201
theorem c_L_early_3 (a2 a3 a4 : Int) : ∀ l, Ct l yL_early cL_early 5 (some .int) ({ frames := 8, cells := 2, slots := 12, locals := 125 }) (some 0) [(17, 0), (0, 3), (0, a2), (0, a3), (0, a4)] (sp_L_early_3 a2 a3 a4) := g_method (by decide +kernel) (Nat.le_of_ble_eq_true rfl) (fun x v F ho => k_L_early_3 a2 a3 a4 x v F ho)
def sp_L_does_3 (a2 a3 a4 a5 : Int) (v : V) : Res := (rBx (sp_L_early_3 a2 a3 a4 v) (fun z1 v1 => (rOk z1 v1)) (kxC (-2100000000) [1, 2, 3]))
set_option maxRecDepth 100000 in
set_option maxHeartbeats 4000000 in
theorem k_L_does_3 (a2 a3 a4 a5 : Int) (x : Cx) (v : V) (F : Fx x cL_does RL "does" ({ frames := 9, cells := 2, slots := 12, locals := 149 }) 7 (some 0) (some .int) 2) (hTb : Tb x [(0, 136, 137, 43), (0, 136, 142, 46), (0, 136, 147, 48)]) (ho : ∀ a ∈ [(17, 0), (0, 3), (0, a2), (0, a3), (0, a4), (0, a5)], okv v a) : Gs x (sp_L_does_3 a2 a3 a4 a5 v) v 0 0 0 (avArgs 0 [(17, 0), (0, 3), (0, a2), (0, a3), (0, a4), (0, a5)]) [] := by
  show Gs x _ v 0 0 0 [(0, (17, 0)), (1, (0, 3)), (2, (0, a2)), (3, (0, a3)), (4, (0, a4)), (5, (0, a5))] []
  unfold sp_L_does_3
  refine g_iload_n F rfl 1 rfl rfl dL_does_0 ?_
  refine g_bipush F rfl (by decide) dL_does_1 ?_
  refine g_icmp_ge_f F rfl rfl (by decide) (tgt := 18) rfl dL_does_3 ?_
  refine g_aload_n F rfl 0 rfl dL_does_6 ?_
  refine g_iload_n F rfl 1 rfl rfl dL_does_7 ?_
  refine g_iload_n F rfl 2 rfl rfl dL_does_8 ?_
  refine g_iload_n F rfl 3 rfl rfl dL_does_9 ?_
  refine g_iload F 4 rfl rfl dL_does_10 ?_
  refine g_callXS F hTb hx_L_does_12 [(17, 0), (0, 3), (0, a2), (0, a3), (0, a4)] [17, 0, 0, 0, 0] ml_RL_8 wt_L_early (c_L_early_3 a2 a3 a4) mi_L_early rfl rfl rfl (Nat.le_of_ble_eq_true rfl) (Nat.le_of_ble_eq_true rfl) (Nat.le_of_ble_eq_true rfl) (Nat.le_of_ble_eq_true rfl) (Nat.le_of_ble_eq_true rfl) dL_does_12 (fun z1 v1 hz1 => ?_)
  refine g_goto F (tgt := 136) rfl dL_does_15 ?_
  exact g_ireturn F rfl rfl rfl rfl (Nat.le_of_ble_eq_true rfl) (Nat.le_of_ble_eq_true rfl) dL_does_136
theorem c_L_does_3 (a2 a3 a4 a5 : Int) : ∀ l, CtW l yL_does cL_does 7 (some .int) [(0, 136, 137, 43), (0, 136, 142, 46), (0, 136, 147, 48)] ({ frames := 9, cells := 2, slots := 12, locals := 149 }) (some 0) [(17, 0), (0, 3), (0, a2), (0, a3), (0, a4), (0, a5)] (sp_L_does_3 a2 a3 a4 a5) := g_methodW (by decide +kernel) (Nat.le_of_ble_eq_true rfl) (fun x v F hT ho => k_L_does_3 a2 a3 a4 a5 x v F hT ho)
def sp_L_middle_22 (a2 a3 a4 a5 : Int) (v : V) : Res := (rB (sp_X7_assign 0 a2 a3 a4 v) (fun z1 v1 => (rOk z1 v1)))
set_option maxRecDepth 100000 in
set_option maxHeartbeats 4000000 in
theorem k_L_middle_22 (a2 a3 a4 a5 : Int) (x : Cx) (v : V) (F : Fx x cL_middle RL "middle" ({ frames := 8, cells := 6, slots := 36, locals := 130 }) 6 (some 0) (some .int) 0) (ho : ∀ a ∈ [(17, 0), (0, 22), (0, a2), (0, a3), (0, a4), (0, a5)], okv v a) : Gs x (sp_L_middle_22 a2 a3 a4 a5 v) v 0 0 0 (avArgs 0 [(17, 0), (0, 22), (0, a2), (0, a3), (0, a4), (0, a5)]) [] := by
  show Gs x _ v 0 0 0 [(0, (17, 0)), (1, (0, 22)), (2, (0, a2)), (3, (0, a3)), (4, (0, a4)), (5, (0, a5))] []
  unfold sp_L_middle_22
  refine g_iload_n F rfl 1 rfl rfl dL_middle_0 ?_
  refine g_bipush F rfl (by decide) dL_middle_1 ?_
  refine g_icmp_ne_t F rfl rfl (by decide) (tgt := 19) rfl dL_middle_3 ?_
  refine g_iload_n F rfl 1 rfl rfl dL_middle_19 ?_
  refine g_bipush F rfl (by decide) dL_middle_20 ?_
  refine g_icmp_ne_t F rfl rfl (by decide) (tgt := 46) rfl dL_middle_22 ?_
  refine g_iload_n F rfl 1 rfl rfl dL_middle_46 ?_
  refine g_bipush F rfl (by decide) dL_middle_47 ?_
  refine g_icmp_ne_t F rfl rfl (by decide) (tgt := 60) rfl dL_middle_49 ?_
  refine g_iload_n F rfl 1 rfl rfl dL_middle_60 ?_
  refine g_bipush F rfl (by decide) dL_middle_61 ?_
  refine g_icmp_ne_t F rfl rfl (by decide) (tgt := 77) rfl dL_middle_63 ?_
  refine g_iload_n F rfl 1 rfl rfl dL_middle_77 ?_
  refine g_bipush F rfl (by decide) dL_middle_78 ?_
  refine g_icmp_ne_t F rfl rfl (by decide) (tgt := 97) rfl dL_middle_80 ?_
  refine g_iload_n F rfl 1 rfl rfl dL_middle_97 ?_
  refine g_bipush F rfl (by decide) dL_middle_98 ?_
  refine g_icmp_ne_t F rfl rfl (by decide) (tgt := 112) rfl dL_middle_100 ?_
  refine g_iload_n F rfl 1 rfl rfl dL_middle_112 ?_
  refine g_bipush F rfl (by decide) dL_middle_113 ?_
  refine g_icmp_ne_t F rfl rfl (by decide) (tgt := 141) rfl dL_middle_115 ?_
  refine g_iload_n F rfl 1 rfl rfl dL_middle_141 ?_
  refine g_bipush F rfl (by decide) dL_middle_142 ?_
  refine g_icmp_ne_t F rfl rfl (by decide) (tgt := 155) rfl dL_middle_144 ?_
  refine g_iload_n F rfl 1 rfl rfl dL_middle_155 ?_
  refine g_bipush F rfl (by decide) dL_middle_156 ?_
  refine g_icmp_ne_t F rfl rfl (by decide) (tgt := 169) rfl dL_middle_158 ?_
  refine g_iload_n F rfl 1 rfl rfl dL_middle_169 ?_
  refine g_bipush F rfl (by decide) dL_middle_170 ?_
  refine g_icmp_ne_f F rfl rfl (by decide) (tgt := 186) rfl dL_middle_172 ?_
  refine g_aload_n F rfl 0 rfl dL_middle_175 ?_
  refine g_iload_n F rfl 2 rfl rfl dL_middle_176 ?_
  refine g_iload_n F rfl 3 rfl rfl dL_middle_177 ?_
  refine g_iload F 4 rfl rfl dL_middle_178 ?_
  refine g_callV F (by decide) (K := 7) (b := 0) [(0, a2), (0, a3), (0, a4)] [0, 0, 0] ml_RL_128 wi_X7_assign ws_X7_assign (c_X7_assign 0 a2 a3 a4 (by decide)) mi_X7_assign (by decide) ⟨_, rfl, rfl⟩ (by decide) rfl rfl rfl (Nat.le_of_ble_eq_true rfl) (Nat.le_of_ble_eq_true rfl) (Nat.le_of_ble_eq_true rfl) (Nat.le_of_ble_eq_true rfl) (Nat.le_of_ble_eq_true rfl) dL_middle_180 (fun z1 v1 hz1 => ?_)
  refine g_goto F (tgt := 215) rfl dL_middle_183 ?_
  exact g_ireturn F rfl rfl rfl rfl (Nat.le_of_ble_eq_true rfl) (Nat.le_of_ble_eq_true rfl) dL_middle_215
theorem c_L_middle_22 (a2 a3 a4 a5 : Int) : ∀ l, Ct l yL_middle cL_middle 6 (some .int) ({ frames := 8, cells := 6, slots := 36, locals := 130 }) (some 0) [(17, 0), (0, 22), (0, a2), (0, a3), (0, a4), (0, a5)] (sp_L_middle_22 a2 a3 a4 a5) := g_method (by decide +kernel) (Nat.le_of_ble_eq_true rfl) (fun x v F ho => k_L_middle_22 a2 a3 a4 a5 x v F ho)
def sp_L_does_22 (a2 a3 a4 a5 : Int) (v : V) : Res := (rBx (sp_L_middle_22 a2 a3 a4 a5 v) (fun z1 v1 => (rOk z1 v1)) (kxC (-2100000000) [1, 2, 3]))
set_option maxRecDepth 100000 in
set_option maxHeartbeats 4000000 in
theorem k_L_does_22 (a2 a3 a4 a5 : Int) (x : Cx) (v : V) (F : Fx x cL_does RL "does" ({ frames := 9, cells := 6, slots := 36, locals := 155 }) 7 (some 0) (some .int) 2) (hTb : Tb x [(0, 136, 137, 43), (0, 136, 142, 46), (0, 136, 147, 48)]) (ho : ∀ a ∈ [(17, 0), (0, 22), (0, a2), (0, a3), (0, a4), (0, a5)], okv v a) : Gs x (sp_L_does_22 a2 a3 a4 a5 v) v 0 0 0 (avArgs 0 [(17, 0), (0, 22), (0, a2), (0, a3), (0, a4), (0, a5)]) [] := by
  show Gs x _ v 0 0 0 [(0, (17, 0)), (1, (0, 22)), (2, (0, a2)), (3, (0, a3)), (4, (0, a4)), (5, (0, a5))] []
  unfold sp_L_does_22
  refine g_iload_n F rfl 1 rfl rfl dL_does_0 ?_
  refine g_bipush F rfl (by decide) dL_does_1 ?_
  refine g_icmp_ge_t F rfl rfl (by decide) (tgt := 18) rfl dL_does_3 ?_
  refine g_iload_n F rfl 1 rfl rfl dL_does_18 ?_
  refine g_bipush F rfl (by decide) dL_does_19 ?_
  refine g_icmp_ge_f F rfl rfl (by decide) (tgt := 38) rfl dL_does_21 ?_
  refine g_aload_n F rfl 0 rfl dL_does_24 ?_
  refine g_iload_n F rfl 1 rfl rfl dL_does_25 ?_
  refine g_iload_n F rfl 2 rfl rfl dL_does_26 ?_
  refine g_iload_n F rfl 3 rfl rfl dL_does_27 ?_
  refine g_iload F 4 rfl rfl dL_does_28 ?_
  refine g_iload F 5 rfl rfl dL_does_30 ?_
  refine g_callXS F hTb hx_L_does_32 [(17, 0), (0, 22), (0, a2), (0, a3), (0, a4), (0, a5)] [17, 0, 0, 0, 0, 0] ml_RL_14 wt_L_middle (c_L_middle_22 a2 a3 a4 a5) mi_L_middle rfl rfl rfl (Nat.le_of_ble_eq_true rfl) (Nat.le_of_ble_eq_true rfl) (Nat.le_of_ble_eq_true rfl) (Nat.le_of_ble_eq_true rfl) (Nat.le_of_ble_eq_true rfl) dL_does_32 (fun z1 v1 hz1 => ?_)
  refine g_goto F (tgt := 136) rfl dL_does_35 ?_
  exact g_ireturn F rfl rfl rfl rfl (Nat.le_of_ble_eq_true rfl) (Nat.le_of_ble_eq_true rfl) dL_does_136
theorem c_L_does_22 (a2 a3 a4 a5 : Int) : ∀ l, CtW l yL_does cL_does 7 (some .int) [(0, 136, 137, 43), (0, 136, 142, 46), (0, 136, 147, 48)] ({ frames := 9, cells := 6, slots := 36, locals := 155 }) (some 0) [(17, 0), (0, 22), (0, a2), (0, a3), (0, a4), (0, a5)] (sp_L_does_22 a2 a3 a4 a5) := g_methodW (by decide +kernel) (Nat.le_of_ble_eq_true rfl) (fun x v F hT ho => k_L_does_22 a2 a3 a4 a5 x v F hT ho)
def sp_L_middle_21 (a2 a3 a4 a5 : Int) (v : V) : Res := (rB (sp_X7_seize 0 a2 v) (fun z1 v1 => (rOk z1 v1)))
set_option maxRecDepth 100000 in
set_option maxHeartbeats 4000000 in
theorem k_L_middle_21 (a2 a3 a4 a5 : Int) (x : Cx) (v : V) (F : Fx x cL_middle RL "middle" ({ frames := 8, cells := 2, slots := 12, locals := 135 }) 6 (some 0) (some .int) 0) (ho : ∀ a ∈ [(17, 0), (0, 21), (0, a2), (0, a3), (0, a4), (0, a5)], okv v a) : Gs x (sp_L_middle_21 a2 a3 a4 a5 v) v 0 0 0 (avArgs 0 [(17, 0), (0, 21), (0, a2), (0, a3), (0, a4), (0, a5)]) [] := by
  show Gs x _ v 0 0 0 [(0, (17, 0)), (1, (0, 21)), (2, (0, a2)), (3, (0, a3)), (4, (0, a4)), (5, (0, a5))] []
  unfold sp_L_middle_21
  refine g_iload_n F rfl 1 rfl rfl dL_middle_0 ?_
  refine g_bipush F rfl (by decide) dL_middle_1 ?_
  refine g_icmp_ne_t F rfl rfl (by decide) (tgt := 19) rfl dL_middle_3 ?_
  refine g_iload_n F rfl 1 rfl rfl dL_middle_19 ?_
  refine g_bipush F rfl (by decide) dL_middle_20 ?_
  refine g_icmp_ne_t F rfl rfl (by decide) (tgt := 46) rfl dL_middle_22 ?_
  refine g_iload_n F rfl 1 rfl rfl dL_middle_46 ?_
  refine g_bipush F rfl (by decide) dL_middle_47 ?_
  refine g_icmp_ne_t F rfl rfl (by decide) (tgt := 60) rfl dL_middle_49 ?_
  refine g_iload_n F rfl 1 rfl rfl dL_middle_60 ?_
  refine g_bipush F rfl (by decide) dL_middle_61 ?_
  refine g_icmp_ne_t F rfl rfl (by decide) (tgt := 77) rfl dL_middle_63 ?_
  refine g_iload_n F rfl 1 rfl rfl dL_middle_77 ?_
  refine g_bipush F rfl (by decide) dL_middle_78 ?_
  refine g_icmp_ne_t F rfl rfl (by decide) (tgt := 97) rfl dL_middle_80 ?_
  refine g_iload_n F rfl 1 rfl rfl dL_middle_97 ?_
  refine g_bipush F rfl (by decide) dL_middle_98 ?_
  refine g_icmp_ne_t F rfl rfl (by decide) (tgt := 112) rfl dL_middle_100 ?_
  refine g_iload_n F rfl 1 rfl rfl dL_middle_112 ?_
  refine g_bipush F rfl (by decide) dL_middle_113 ?_
  refine g_icmp_ne_t F rfl rfl (by decide) (tgt := 141) rfl dL_middle_115 ?_
  refine g_iload_n F rfl 1 rfl rfl dL_middle_141 ?_
  refine g_bipush F rfl (by decide) dL_middle_142 ?_
  refine g_icmp_ne_t F rfl rfl (by decide) (tgt := 155) rfl dL_middle_144 ?_
  refine g_iload_n F rfl 1 rfl rfl dL_middle_155 ?_
  refine g_bipush F rfl (by decide) dL_middle_156 ?_
  refine g_icmp_ne_f F rfl rfl (by decide) (tgt := 169) rfl dL_middle_158 ?_
  refine g_aload_n F rfl 0 rfl dL_middle_161 ?_
  refine g_iload_n F rfl 2 rfl rfl dL_middle_162 ?_
  refine g_callV F (by decide) (K := 7) (b := 0) [(0, a2)] [0] ml_RL_125 wi_X7_seize ws_X7_seize (c_X7_seize 0 a2 (by decide)) mi_X7_seize (by decide) ⟨_, rfl, rfl⟩ (by decide) rfl rfl rfl (Nat.le_of_ble_eq_true rfl) (Nat.le_of_ble_eq_true rfl) (Nat.le_of_ble_eq_true rfl) (Nat.le_of_ble_eq_true rfl) (Nat.le_of_ble_eq_true rfl) dL_middle_163 (fun z1 v1 hz1 => ?_)
  refine g_goto F (tgt := 215) rfl dL_middle_166 ?_
  exact g_ireturn F rfl rfl rfl rfl (Nat.le_of_ble_eq_true rfl) (Nat.le_of_ble_eq_true rfl) dL_middle_215
theorem c_L_middle_21 (a2 a3 a4 a5 : Int) : ∀ l, Ct l yL_middle cL_middle 6 (some .int) ({ frames := 8, cells := 2, slots := 12, locals := 135 }) (some 0) [(17, 0), (0, 21), (0, a2), (0, a3), (0, a4), (0, a5)] (sp_L_middle_21 a2 a3 a4 a5) := g_method (by decide +kernel) (Nat.le_of_ble_eq_true rfl) (fun x v F ho => k_L_middle_21 a2 a3 a4 a5 x v F ho)
def sp_L_does_21 (a2 a3 a4 a5 : Int) (v : V) : Res := (rBx (sp_L_middle_21 a2 a3 a4 a5 v) (fun z1 v1 => (rOk z1 v1)) (kxC (-2100000000) [1, 2, 3]))
set_option maxRecDepth 100000 in
set_option maxHeartbeats 4000000 in
theorem k_L_does_21 (a2 a3 a4 a5 : Int) (x : Cx) (v : V) (F : Fx x cL_does RL "does" ({ frames := 9, cells := 2, slots := 12, locals := 160 }) 7 (some 0) (some .int) 2) (hTb : Tb x [(0, 136, 137, 43), (0, 136, 142, 46), (0, 136, 147, 48)]) (ho : ∀ a ∈ [(17, 0), (0, 21), (0, a2), (0, a3), (0, a4), (0, a5)], okv v a) : Gs x (sp_L_does_21 a2 a3 a4 a5 v) v 0 0 0 (avArgs 0 [(17, 0), (0, 21), (0, a2), (0, a3), (0, a4), (0, a5)]) [] := by
  show Gs x _ v 0 0 0 [(0, (17, 0)), (1, (0, 21)), (2, (0, a2)), (3, (0, a3)), (4, (0, a4)), (5, (0, a5))] []
  unfold sp_L_does_21
  refine g_iload_n F rfl 1 rfl rfl dL_does_0 ?_
  refine g_bipush F rfl (by decide) dL_does_1 ?_
  refine g_icmp_ge_t F rfl rfl (by decide) (tgt := 18) rfl dL_does_3 ?_
  refine g_iload_n F rfl 1 rfl rfl dL_does_18 ?_
  refine g_bipush F rfl (by decide) dL_does_19 ?_
  refine g_icmp_ge_f F rfl rfl (by decide) (tgt := 38) rfl dL_does_21 ?_
  refine g_aload_n F rfl 0 rfl dL_does_24 ?_
  refine g_iload_n F rfl 1 rfl rfl dL_does_25 ?_
  refine g_iload_n F rfl 2 rfl rfl dL_does_26 ?_
  refine g_iload_n F rfl 3 rfl rfl dL_does_27 ?_
  refine g_iload F 4 rfl rfl dL_does_28 ?_
  refine g_iload F 5 rfl rfl dL_does_30 ?_
  refine g_callXS F hTb hx_L_does_32 [(17, 0), (0, 21), (0, a2), (0, a3), (0, a4), (0, a5)] [17, 0, 0, 0, 0, 0] ml_RL_14 wt_L_middle (c_L_middle_21 a2 a3 a4 a5) mi_L_middle rfl rfl rfl (Nat.le_of_ble_eq_true rfl) (Nat.le_of_ble_eq_true rfl) (Nat.le_of_ble_eq_true rfl) (Nat.le_of_ble_eq_true rfl) (Nat.le_of_ble_eq_true rfl) dL_does_32 (fun z1 v1 hz1 => ?_)
  refine g_goto F (tgt := 136) rfl dL_does_35 ?_
  exact g_ireturn F rfl rfl rfl rfl (Nat.le_of_ble_eq_true rfl) (Nat.le_of_ble_eq_true rfl) dL_does_136
theorem c_L_does_21 (a2 a3 a4 a5 : Int) : ∀ l, CtW l yL_does cL_does 7 (some .int) [(0, 136, 137, 43), (0, 136, 142, 46), (0, 136, 147, 48)] ({ frames := 9, cells := 2, slots := 12, locals := 160 }) (some 0) [(17, 0), (0, 21), (0, a2), (0, a3), (0, a4), (0, a5)] (sp_L_does_21 a2 a3 a4 a5) := g_methodW (by decide +kernel) (Nat.le_of_ble_eq_true rfl) (fun x v F hT ho => k_L_does_21 a2 a3 a4 a5 x v F hT ho)
def sp_L_middle_20 (a2 a3 a4 a5 : Int) (v : V) : Res := (rB (sp_X7_repay 0 a2 v) (fun z1 v1 => (rOk z1 v1)))
set_option maxRecDepth 100000 in
set_option maxHeartbeats 4000000 in
theorem k_L_middle_20 (a2 a3 a4 a5 : Int) (x : Cx) (v : V) (F : Fx x cL_middle RL "middle" ({ frames := 8, cells := 2, slots := 12, locals := 126 }) 6 (some 0) (some .int) 0) (ho : ∀ a ∈ [(17, 0), (0, 20), (0, a2), (0, a3), (0, a4), (0, a5)], okv v a) : Gs x (sp_L_middle_20 a2 a3 a4 a5 v) v 0 0 0 (avArgs 0 [(17, 0), (0, 20), (0, a2), (0, a3), (0, a4), (0, a5)]) [] := by
  show Gs x _ v 0 0 0 [(0, (17, 0)), (1, (0, 20)), (2, (0, a2)), (3, (0, a3)), (4, (0, a4)), (5, (0, a5))] []
  unfold sp_L_middle_20
  refine g_iload_n F rfl 1 rfl rfl dL_middle_0 ?_
  refine g_bipush F rfl (by decide) dL_middle_1 ?_
  refine g_icmp_ne_t F rfl rfl (by decide) (tgt := 19) rfl dL_middle_3 ?_
  refine g_iload_n F rfl 1 rfl rfl dL_middle_19 ?_
  refine g_bipush F rfl (by decide) dL_middle_20 ?_
  refine g_icmp_ne_t F rfl rfl (by decide) (tgt := 46) rfl dL_middle_22 ?_
  refine g_iload_n F rfl 1 rfl rfl dL_middle_46 ?_
  refine g_bipush F rfl (by decide) dL_middle_47 ?_
  refine g_icmp_ne_t F rfl rfl (by decide) (tgt := 60) rfl dL_middle_49 ?_
  refine g_iload_n F rfl 1 rfl rfl dL_middle_60 ?_
  refine g_bipush F rfl (by decide) dL_middle_61 ?_
  refine g_icmp_ne_t F rfl rfl (by decide) (tgt := 77) rfl dL_middle_63 ?_
  refine g_iload_n F rfl 1 rfl rfl dL_middle_77 ?_
  refine g_bipush F rfl (by decide) dL_middle_78 ?_
  refine g_icmp_ne_t F rfl rfl (by decide) (tgt := 97) rfl dL_middle_80 ?_
  refine g_iload_n F rfl 1 rfl rfl dL_middle_97 ?_
  refine g_bipush F rfl (by decide) dL_middle_98 ?_
  refine g_icmp_ne_t F rfl rfl (by decide) (tgt := 112) rfl dL_middle_100 ?_
  refine g_iload_n F rfl 1 rfl rfl dL_middle_112 ?_
  refine g_bipush F rfl (by decide) dL_middle_113 ?_
  refine g_icmp_ne_t F rfl rfl (by decide) (tgt := 141) rfl dL_middle_115 ?_
  refine g_iload_n F rfl 1 rfl rfl dL_middle_141 ?_
  refine g_bipush F rfl (by decide) dL_middle_142 ?_
  refine g_icmp_ne_f F rfl rfl (by decide) (tgt := 155) rfl dL_middle_144 ?_
  refine g_aload_n F rfl 0 rfl dL_middle_147 ?_
  refine g_iload_n F rfl 2 rfl rfl dL_middle_148 ?_
  refine g_callV F (by decide) (K := 7) (b := 0) [(0, a2)] [0] ml_RL_122 wi_X7_repay ws_X7_repay (c_X7_repay 0 a2 (by decide)) mi_X7_repay (by decide) ⟨_, rfl, rfl⟩ (by decide) rfl rfl rfl (Nat.le_of_ble_eq_true rfl) (Nat.le_of_ble_eq_true rfl) (Nat.le_of_ble_eq_true rfl) (Nat.le_of_ble_eq_true rfl) (Nat.le_of_ble_eq_true rfl) dL_middle_149 (fun z1 v1 hz1 => ?_)
  refine g_goto F (tgt := 215) rfl dL_middle_152 ?_
  exact g_ireturn F rfl rfl rfl rfl (Nat.le_of_ble_eq_true rfl) (Nat.le_of_ble_eq_true rfl) dL_middle_215
theorem c_L_middle_20 (a2 a3 a4 a5 : Int) : ∀ l, Ct l yL_middle cL_middle 6 (some .int) ({ frames := 8, cells := 2, slots := 12, locals := 126 }) (some 0) [(17, 0), (0, 20), (0, a2), (0, a3), (0, a4), (0, a5)] (sp_L_middle_20 a2 a3 a4 a5) := g_method (by decide +kernel) (Nat.le_of_ble_eq_true rfl) (fun x v F ho => k_L_middle_20 a2 a3 a4 a5 x v F ho)
def sp_L_does_20 (a2 a3 a4 a5 : Int) (v : V) : Res := (rBx (sp_L_middle_20 a2 a3 a4 a5 v) (fun z1 v1 => (rOk z1 v1)) (kxC (-2100000000) [1, 2, 3]))
set_option maxRecDepth 100000 in
set_option maxHeartbeats 4000000 in
theorem k_L_does_20 (a2 a3 a4 a5 : Int) (x : Cx) (v : V) (F : Fx x cL_does RL "does" ({ frames := 9, cells := 2, slots := 12, locals := 151 }) 7 (some 0) (some .int) 2) (hTb : Tb x [(0, 136, 137, 43), (0, 136, 142, 46), (0, 136, 147, 48)]) (ho : ∀ a ∈ [(17, 0), (0, 20), (0, a2), (0, a3), (0, a4), (0, a5)], okv v a) : Gs x (sp_L_does_20 a2 a3 a4 a5 v) v 0 0 0 (avArgs 0 [(17, 0), (0, 20), (0, a2), (0, a3), (0, a4), (0, a5)]) [] := by
  show Gs x _ v 0 0 0 [(0, (17, 0)), (1, (0, 20)), (2, (0, a2)), (3, (0, a3)), (4, (0, a4)), (5, (0, a5))] []
  unfold sp_L_does_20
  refine g_iload_n F rfl 1 rfl rfl dL_does_0 ?_
  refine g_bipush F rfl (by decide) dL_does_1 ?_
  refine g_icmp_ge_t F rfl rfl (by decide) (tgt := 18) rfl dL_does_3 ?_
  refine g_iload_n F rfl 1 rfl rfl dL_does_18 ?_
  refine g_bipush F rfl (by decide) dL_does_19 ?_
  refine g_icmp_ge_f F rfl rfl (by decide) (tgt := 38) rfl dL_does_21 ?_
  refine g_aload_n F rfl 0 rfl dL_does_24 ?_
  refine g_iload_n F rfl 1 rfl rfl dL_does_25 ?_
  refine g_iload_n F rfl 2 rfl rfl dL_does_26 ?_
  refine g_iload_n F rfl 3 rfl rfl dL_does_27 ?_
  refine g_iload F 4 rfl rfl dL_does_28 ?_
  refine g_iload F 5 rfl rfl dL_does_30 ?_
  refine g_callXS F hTb hx_L_does_32 [(17, 0), (0, 20), (0, a2), (0, a3), (0, a4), (0, a5)] [17, 0, 0, 0, 0, 0] ml_RL_14 wt_L_middle (c_L_middle_20 a2 a3 a4 a5) mi_L_middle rfl rfl rfl (Nat.le_of_ble_eq_true rfl) (Nat.le_of_ble_eq_true rfl) (Nat.le_of_ble_eq_true rfl) (Nat.le_of_ble_eq_true rfl) (Nat.le_of_ble_eq_true rfl) dL_does_32 (fun z1 v1 hz1 => ?_)
  refine g_goto F (tgt := 136) rfl dL_does_35 ?_
  exact g_ireturn F rfl rfl rfl rfl (Nat.le_of_ble_eq_true rfl) (Nat.le_of_ble_eq_true rfl) dL_does_136
theorem c_L_does_20 (a2 a3 a4 a5 : Int) : ∀ l, CtW l yL_does cL_does 7 (some .int) [(0, 136, 137, 43), (0, 136, 142, 46), (0, 136, 147, 48)] ({ frames := 9, cells := 2, slots := 12, locals := 151 }) (some 0) [(17, 0), (0, 20), (0, a2), (0, a3), (0, a4), (0, a5)] (sp_L_does_20 a2 a3 a4 a5) := g_methodW (by decide +kernel) (Nat.le_of_ble_eq_true rfl) (fun x v F hT ho => k_L_does_20 a2 a3 a4 a5 x v F hT ho)
def sp_L_middle_19 (a2 a3 a4 a5 : Int) (v : V) : Res := (rB (sp_X7_lend 0 a2 a3 a4 (rem32 a5 1000) (w32 (a5.tdiv 1000)) v) (fun z1 v1 => (rOk z1 v1)))
set_option maxRecDepth 100000 in
set_option maxHeartbeats 4000000 in
theorem k_L_middle_19 (a2 a3 a4 a5 : Int) (x : Cx) (v : V) (F : Fx x cL_middle RL "middle" ({ frames := 8, cells := 10, slots := 62, locals := 133 }) 6 (some 0) (some .int) 0) (ho : ∀ a ∈ [(17, 0), (0, 19), (0, a2), (0, a3), (0, a4), (0, a5)], okv v a) : Gs x (sp_L_middle_19 a2 a3 a4 a5 v) v 0 0 0 (avArgs 0 [(17, 0), (0, 19), (0, a2), (0, a3), (0, a4), (0, a5)]) [] := by
  show Gs x _ v 0 0 0 [(0, (17, 0)), (1, (0, 19)), (2, (0, a2)), (3, (0, a3)), (4, (0, a4)), (5, (0, a5))] []
  unfold sp_L_middle_19
  refine g_iload_n F rfl 1 rfl rfl dL_middle_0 ?_
  refine g_bipush F rfl (by decide) dL_middle_1 ?_
  refine g_icmp_ne_t F rfl rfl (by decide) (tgt := 19) rfl dL_middle_3 ?_
  refine g_iload_n F rfl 1 rfl rfl dL_middle_19 ?_
  refine g_bipush F rfl (by decide) dL_middle_20 ?_
  refine g_icmp_ne_t F rfl rfl (by decide) (tgt := 46) rfl dL_middle_22 ?_
  refine g_iload_n F rfl 1 rfl rfl dL_middle_46 ?_
  refine g_bipush F rfl (by decide) dL_middle_47 ?_
  refine g_icmp_ne_t F rfl rfl (by decide) (tgt := 60) rfl dL_middle_49 ?_
  refine g_iload_n F rfl 1 rfl rfl dL_middle_60 ?_
  refine g_bipush F rfl (by decide) dL_middle_61 ?_
  refine g_icmp_ne_t F rfl rfl (by decide) (tgt := 77) rfl dL_middle_63 ?_
  refine g_iload_n F rfl 1 rfl rfl dL_middle_77 ?_
  refine g_bipush F rfl (by decide) dL_middle_78 ?_
  refine g_icmp_ne_t F rfl rfl (by decide) (tgt := 97) rfl dL_middle_80 ?_
  refine g_iload_n F rfl 1 rfl rfl dL_middle_97 ?_
  refine g_bipush F rfl (by decide) dL_middle_98 ?_
  refine g_icmp_ne_t F rfl rfl (by decide) (tgt := 112) rfl dL_middle_100 ?_
  refine g_iload_n F rfl 1 rfl rfl dL_middle_112 ?_
  refine g_bipush F rfl (by decide) dL_middle_113 ?_
  refine g_icmp_ne_f F rfl rfl (by decide) (tgt := 141) rfl dL_middle_115 ?_
  refine g_aload_n F rfl 0 rfl dL_middle_118 ?_
  refine g_iload_n F rfl 2 rfl rfl dL_middle_119 ?_
  refine g_iload_n F rfl 3 rfl rfl dL_middle_120 ?_
  refine g_iload F 4 rfl rfl dL_middle_121 ?_
  refine g_iload F 5 rfl rfl dL_middle_123 ?_
  refine g_sipush F rfl (by decide) dL_middle_125 ?_
  refine g_irem F (by decide) rfl rfl dL_middle_128 ?_
  refine g_iload F 5 rfl rfl dL_middle_129 ?_
  refine g_sipush F rfl (by decide) dL_middle_131 ?_
  refine g_idiv F (by decide) rfl rfl dL_middle_134 ?_
  refine g_callV F (by decide) (K := 7) (b := 0) [(0, a2), (0, a3), (0, a4), (0, (rem32 a5 1000)), (0, (w32 (a5.tdiv 1000)))] [0, 0, 0, 0, 0] ml_RL_118 wi_X7_lend ws_X7_lend (c_X7_lend 0 a2 a3 a4 (rem32 a5 1000) (w32 (a5.tdiv 1000)) (by decide)) mi_X7_lend (by decide) ⟨_, rfl, rfl⟩ (by decide) rfl rfl rfl (Nat.le_of_ble_eq_true rfl) (Nat.le_of_ble_eq_true rfl) (Nat.le_of_ble_eq_true rfl) (Nat.le_of_ble_eq_true rfl) (Nat.le_of_ble_eq_true rfl) dL_middle_135 (fun z1 v1 hz1 => ?_)
  refine g_goto F (tgt := 215) rfl dL_middle_138 ?_
  exact g_ireturn F rfl rfl rfl rfl (Nat.le_of_ble_eq_true rfl) (Nat.le_of_ble_eq_true rfl) dL_middle_215
theorem c_L_middle_19 (a2 a3 a4 a5 : Int) : ∀ l, Ct l yL_middle cL_middle 6 (some .int) ({ frames := 8, cells := 10, slots := 62, locals := 133 }) (some 0) [(17, 0), (0, 19), (0, a2), (0, a3), (0, a4), (0, a5)] (sp_L_middle_19 a2 a3 a4 a5) := g_method (by decide +kernel) (Nat.le_of_ble_eq_true rfl) (fun x v F ho => k_L_middle_19 a2 a3 a4 a5 x v F ho)
def sp_L_does_19 (a2 a3 a4 a5 : Int) (v : V) : Res := (rBx (sp_L_middle_19 a2 a3 a4 a5 v) (fun z1 v1 => (rOk z1 v1)) (kxC (-2100000000) [1, 2, 3]))
set_option maxRecDepth 100000 in
set_option maxHeartbeats 4000000 in
theorem k_L_does_19 (a2 a3 a4 a5 : Int) (x : Cx) (v : V) (F : Fx x cL_does RL "does" ({ frames := 9, cells := 10, slots := 62, locals := 158 }) 7 (some 0) (some .int) 2) (hTb : Tb x [(0, 136, 137, 43), (0, 136, 142, 46), (0, 136, 147, 48)]) (ho : ∀ a ∈ [(17, 0), (0, 19), (0, a2), (0, a3), (0, a4), (0, a5)], okv v a) : Gs x (sp_L_does_19 a2 a3 a4 a5 v) v 0 0 0 (avArgs 0 [(17, 0), (0, 19), (0, a2), (0, a3), (0, a4), (0, a5)]) [] := by
  show Gs x _ v 0 0 0 [(0, (17, 0)), (1, (0, 19)), (2, (0, a2)), (3, (0, a3)), (4, (0, a4)), (5, (0, a5))] []
  unfold sp_L_does_19
  refine g_iload_n F rfl 1 rfl rfl dL_does_0 ?_
  refine g_bipush F rfl (by decide) dL_does_1 ?_
  refine g_icmp_ge_t F rfl rfl (by decide) (tgt := 18) rfl dL_does_3 ?_
  refine g_iload_n F rfl 1 rfl rfl dL_does_18 ?_
  refine g_bipush F rfl (by decide) dL_does_19 ?_
  refine g_icmp_ge_f F rfl rfl (by decide) (tgt := 38) rfl dL_does_21 ?_
  refine g_aload_n F rfl 0 rfl dL_does_24 ?_
  refine g_iload_n F rfl 1 rfl rfl dL_does_25 ?_
  refine g_iload_n F rfl 2 rfl rfl dL_does_26 ?_
  refine g_iload_n F rfl 3 rfl rfl dL_does_27 ?_
  refine g_iload F 4 rfl rfl dL_does_28 ?_
  refine g_iload F 5 rfl rfl dL_does_30 ?_
  refine g_callXS F hTb hx_L_does_32 [(17, 0), (0, 19), (0, a2), (0, a3), (0, a4), (0, a5)] [17, 0, 0, 0, 0, 0] ml_RL_14 wt_L_middle (c_L_middle_19 a2 a3 a4 a5) mi_L_middle rfl rfl rfl (Nat.le_of_ble_eq_true rfl) (Nat.le_of_ble_eq_true rfl) (Nat.le_of_ble_eq_true rfl) (Nat.le_of_ble_eq_true rfl) (Nat.le_of_ble_eq_true rfl) dL_does_32 (fun z1 v1 hz1 => ?_)
  refine g_goto F (tgt := 136) rfl dL_does_35 ?_
  exact g_ireturn F rfl rfl rfl rfl (Nat.le_of_ble_eq_true rfl) (Nat.le_of_ble_eq_true rfl) dL_does_136
theorem c_L_does_19 (a2 a3 a4 a5 : Int) : ∀ l, CtW l yL_does cL_does 7 (some .int) [(0, 136, 137, 43), (0, 136, 142, 46), (0, 136, 147, 48)] ({ frames := 9, cells := 10, slots := 62, locals := 158 }) (some 0) [(17, 0), (0, 19), (0, a2), (0, a3), (0, a4), (0, a5)] (sp_L_does_19 a2 a3 a4 a5) := g_methodW (by decide +kernel) (Nat.le_of_ble_eq_true rfl) (fun x v F hT ho => k_L_does_19 a2 a3 a4 a5 x v F hT ho)
def sp_L_middle_18 (a2 a3 a4 a5 : Int) (v : V) : Res := (rB (sp_X7_restore 0 a2 a3 v) (fun z1 v1 => (rOk z1 v1)))
set_option maxRecDepth 100000 in
set_option maxHeartbeats 4000000 in
theorem k_L_middle_18 (a2 a3 a4 a5 : Int) (x : Cx) (v : V) (F : Fx x cL_middle RL "middle" ({ frames := 8, cells := 3, slots := 18, locals := 128 }) 6 (some 0) (some .int) 0) (ho : ∀ a ∈ [(17, 0), (0, 18), (0, a2), (0, a3), (0, a4), (0, a5)], okv v a) : Gs x (sp_L_middle_18 a2 a3 a4 a5 v) v 0 0 0 (avArgs 0 [(17, 0), (0, 18), (0, a2), (0, a3), (0, a4), (0, a5)]) [] := by
  show Gs x _ v 0 0 0 [(0, (17, 0)), (1, (0, 18)), (2, (0, a2)), (3, (0, a3)), (4, (0, a4)), (5, (0, a5))] []
  unfold sp_L_middle_18
  refine g_iload_n F rfl 1 rfl rfl dL_middle_0 ?_
  refine g_bipush F rfl (by decide) dL_middle_1 ?_
  refine g_icmp_ne_t F rfl rfl (by decide) (tgt := 19) rfl dL_middle_3 ?_
  refine g_iload_n F rfl 1 rfl rfl dL_middle_19 ?_
  refine g_bipush F rfl (by decide) dL_middle_20 ?_
  refine g_icmp_ne_t F rfl rfl (by decide) (tgt := 46) rfl dL_middle_22 ?_
  refine g_iload_n F rfl 1 rfl rfl dL_middle_46 ?_
  refine g_bipush F rfl (by decide) dL_middle_47 ?_
  refine g_icmp_ne_t F rfl rfl (by decide) (tgt := 60) rfl dL_middle_49 ?_
  refine g_iload_n F rfl 1 rfl rfl dL_middle_60 ?_
  refine g_bipush F rfl (by decide) dL_middle_61 ?_
  refine g_icmp_ne_t F rfl rfl (by decide) (tgt := 77) rfl dL_middle_63 ?_
  refine g_iload_n F rfl 1 rfl rfl dL_middle_77 ?_
  refine g_bipush F rfl (by decide) dL_middle_78 ?_
  refine g_icmp_ne_t F rfl rfl (by decide) (tgt := 97) rfl dL_middle_80 ?_
  refine g_iload_n F rfl 1 rfl rfl dL_middle_97 ?_
  refine g_bipush F rfl (by decide) dL_middle_98 ?_
  refine g_icmp_ne_f F rfl rfl (by decide) (tgt := 112) rfl dL_middle_100 ?_
  refine g_aload_n F rfl 0 rfl dL_middle_103 ?_
  refine g_iload_n F rfl 2 rfl rfl dL_middle_104 ?_
  refine g_iload_n F rfl 3 rfl rfl dL_middle_105 ?_
  refine g_callV F (by decide) (K := 7) (b := 0) [(0, a2), (0, a3)] [0, 0] ml_RL_115 wi_X7_restore ws_X7_restore (c_X7_restore 0 a2 a3 (by decide)) mi_X7_restore (by decide) ⟨_, rfl, rfl⟩ (by decide) rfl rfl rfl (Nat.le_of_ble_eq_true rfl) (Nat.le_of_ble_eq_true rfl) (Nat.le_of_ble_eq_true rfl) (Nat.le_of_ble_eq_true rfl) (Nat.le_of_ble_eq_true rfl) dL_middle_106 (fun z1 v1 hz1 => ?_)
  refine g_goto F (tgt := 215) rfl dL_middle_109 ?_
  exact g_ireturn F rfl rfl rfl rfl (Nat.le_of_ble_eq_true rfl) (Nat.le_of_ble_eq_true rfl) dL_middle_215
theorem c_L_middle_18 (a2 a3 a4 a5 : Int) : ∀ l, Ct l yL_middle cL_middle 6 (some .int) ({ frames := 8, cells := 3, slots := 18, locals := 128 }) (some 0) [(17, 0), (0, 18), (0, a2), (0, a3), (0, a4), (0, a5)] (sp_L_middle_18 a2 a3 a4 a5) := g_method (by decide +kernel) (Nat.le_of_ble_eq_true rfl) (fun x v F ho => k_L_middle_18 a2 a3 a4 a5 x v F ho)
def sp_L_does_18 (a2 a3 a4 a5 : Int) (v : V) : Res := (rBx (sp_L_middle_18 a2 a3 a4 a5 v) (fun z1 v1 => (rOk z1 v1)) (kxC (-2100000000) [1, 2, 3]))
set_option maxRecDepth 100000 in
set_option maxHeartbeats 4000000 in
theorem k_L_does_18 (a2 a3 a4 a5 : Int) (x : Cx) (v : V) (F : Fx x cL_does RL "does" ({ frames := 9, cells := 3, slots := 18, locals := 153 }) 7 (some 0) (some .int) 2) (hTb : Tb x [(0, 136, 137, 43), (0, 136, 142, 46), (0, 136, 147, 48)]) (ho : ∀ a ∈ [(17, 0), (0, 18), (0, a2), (0, a3), (0, a4), (0, a5)], okv v a) : Gs x (sp_L_does_18 a2 a3 a4 a5 v) v 0 0 0 (avArgs 0 [(17, 0), (0, 18), (0, a2), (0, a3), (0, a4), (0, a5)]) [] := by
  show Gs x _ v 0 0 0 [(0, (17, 0)), (1, (0, 18)), (2, (0, a2)), (3, (0, a3)), (4, (0, a4)), (5, (0, a5))] []
  unfold sp_L_does_18
  refine g_iload_n F rfl 1 rfl rfl dL_does_0 ?_
  refine g_bipush F rfl (by decide) dL_does_1 ?_
  refine g_icmp_ge_t F rfl rfl (by decide) (tgt := 18) rfl dL_does_3 ?_
  refine g_iload_n F rfl 1 rfl rfl dL_does_18 ?_
  refine g_bipush F rfl (by decide) dL_does_19 ?_
  refine g_icmp_ge_f F rfl rfl (by decide) (tgt := 38) rfl dL_does_21 ?_
  refine g_aload_n F rfl 0 rfl dL_does_24 ?_
  refine g_iload_n F rfl 1 rfl rfl dL_does_25 ?_
  refine g_iload_n F rfl 2 rfl rfl dL_does_26 ?_
  refine g_iload_n F rfl 3 rfl rfl dL_does_27 ?_
  refine g_iload F 4 rfl rfl dL_does_28 ?_
  refine g_iload F 5 rfl rfl dL_does_30 ?_
  refine g_callXS F hTb hx_L_does_32 [(17, 0), (0, 18), (0, a2), (0, a3), (0, a4), (0, a5)] [17, 0, 0, 0, 0, 0] ml_RL_14 wt_L_middle (c_L_middle_18 a2 a3 a4 a5) mi_L_middle rfl rfl rfl (Nat.le_of_ble_eq_true rfl) (Nat.le_of_ble_eq_true rfl) (Nat.le_of_ble_eq_true rfl) (Nat.le_of_ble_eq_true rfl) (Nat.le_of_ble_eq_true rfl) dL_does_32 (fun z1 v1 hz1 => ?_)
  refine g_goto F (tgt := 136) rfl dL_does_35 ?_
  exact g_ireturn F rfl rfl rfl rfl (Nat.le_of_ble_eq_true rfl) (Nat.le_of_ble_eq_true rfl) dL_does_136
theorem c_L_does_18 (a2 a3 a4 a5 : Int) : ∀ l, CtW l yL_does cL_does 7 (some .int) [(0, 136, 137, 43), (0, 136, 142, 46), (0, 136, 147, 48)] ({ frames := 9, cells := 3, slots := 18, locals := 153 }) (some 0) [(17, 0), (0, 18), (0, a2), (0, a3), (0, a4), (0, a5)] (sp_L_does_18 a2 a3 a4 a5) := g_methodW (by decide +kernel) (Nat.le_of_ble_eq_true rfl) (fun x v F hT ho => k_L_does_18 a2 a3 a4 a5 x v F hT ho)
def sp_L_bit (a0 : Int) (v : V) : Res := (if a0 = 0 then (rOk 0 v)
   else (rOk 1 v))
set_option maxRecDepth 100000 in
set_option maxHeartbeats 4000000 in
theorem k_L_bit (a0 : Int) (x : Cx) (v : V) (F : Fx x cL_bit RL "bit" ({ frames := 0, cells := 0, slots := 0, locals := 0 }) 1 (some 0) (some .int) 0) (ho : ∀ a ∈ [(2, a0)], okv v a) : Gs x (sp_L_bit a0 v) v 0 0 0 (avArgs 0 [(2, a0)]) [] := by
  show Gs x _ v 0 0 0 [(0, (2, a0))] []
  unfold sp_L_bit
  refine g_iload_n F rfl 0 rfl rfl dL_bit_0 ?_
  refine g_if_eq F rfl (tgt := 8) rfl dL_bit_1 (fun n1 => ?_) (fun n1 => ?_)
  · refine g_iconst F 2 rfl dL_bit_8 ?_
    exact g_ireturn F rfl rfl rfl rfl (Nat.le_of_ble_eq_true rfl) (Nat.le_of_ble_eq_true rfl) dL_bit_9
  · refine g_iconst F 2 rfl dL_bit_4 ?_
    refine g_goto F (tgt := 9) rfl dL_bit_5 ?_
    exact g_ireturn F rfl rfl rfl rfl (Nat.le_of_ble_eq_true rfl) (Nat.le_of_ble_eq_true rfl) dL_bit_9
theorem c_L_bit (a0 : Int) : ∀ l, Ct l yL_bit cL_bit 1 (some .int) ({ frames := 0, cells := 0, slots := 0, locals := 0 }) (some 0) [(2, a0)] (sp_L_bit a0) := g_method (by decide +kernel) (Nat.le_of_ble_eq_true rfl) (fun x v F ho => k_L_bit a0 x v F ho)
def sp_L_middle_17 (a2 a3 a4 a5 : Int) (v : V) : Res := (rB (sp_X7_tell 0 a2 a3 a4 v) (fun z1 v1 => (rB (sp_L_bit z1 v1) (fun z2 v2 => (rOk z2 v2)))))
set_option maxRecDepth 100000 in
set_option maxHeartbeats 4000000 in
theorem k_L_middle_17 (a2 a3 a4 a5 : Int) (x : Cx) (v : V) (F : Fx x cL_middle RL "middle" ({ frames := 8, cells := 4, slots := 24, locals := 130 }) 6 (some 0) (some .int) 0) (ho : ∀ a ∈ [(17, 0), (0, 17), (0, a2), (0, a3), (0, a4), (0, a5)], okv v a) : Gs x (sp_L_middle_17 a2 a3 a4 a5 v) v 0 0 0 (avArgs 0 [(17, 0), (0, 17), (0, a2), (0, a3), (0, a4), (0, a5)]) [] := by
  show Gs x _ v 0 0 0 [(0, (17, 0)), (1, (0, 17)), (2, (0, a2)), (3, (0, a3)), (4, (0, a4)), (5, (0, a5))] []
  unfold sp_L_middle_17
  refine g_iload_n F rfl 1 rfl rfl dL_middle_0 ?_
  refine g_bipush F rfl (by decide) dL_middle_1 ?_
  refine g_icmp_ne_t F rfl rfl (by decide) (tgt := 19) rfl dL_middle_3 ?_
  refine g_iload_n F rfl 1 rfl rfl dL_middle_19 ?_
  refine g_bipush F rfl (by decide) dL_middle_20 ?_
  refine g_icmp_ne_t F rfl rfl (by decide) (tgt := 46) rfl dL_middle_22 ?_
  refine g_iload_n F rfl 1 rfl rfl dL_middle_46 ?_
  refine g_bipush F rfl (by decide) dL_middle_47 ?_
  refine g_icmp_ne_t F rfl rfl (by decide) (tgt := 60) rfl dL_middle_49 ?_
  refine g_iload_n F rfl 1 rfl rfl dL_middle_60 ?_
  refine g_bipush F rfl (by decide) dL_middle_61 ?_
  refine g_icmp_ne_t F rfl rfl (by decide) (tgt := 77) rfl dL_middle_63 ?_
  refine g_iload_n F rfl 1 rfl rfl dL_middle_77 ?_
  refine g_bipush F rfl (by decide) dL_middle_78 ?_
  refine g_icmp_ne_f F rfl rfl (by decide) (tgt := 97) rfl dL_middle_80 ?_
  refine g_aload_n F rfl 0 rfl dL_middle_83 ?_
  refine g_iload_n F rfl 2 rfl rfl dL_middle_84 ?_
  refine g_iload_n F rfl 3 rfl rfl dL_middle_85 ?_
  refine g_iload F 4 rfl rfl dL_middle_86 ?_
  refine g_callV F (by decide) (K := 7) (b := 0) [(0, a2), (0, a3), (0, a4)] [0, 0, 0] ml_RL_111 wi_X7_tell ws_X7_tell (c_X7_tell 0 a2 a3 a4 (by decide)) mi_X7_tell (by decide) ⟨_, rfl, rfl⟩ (by decide) rfl rfl rfl (Nat.le_of_ble_eq_true rfl) (Nat.le_of_ble_eq_true rfl) (Nat.le_of_ble_eq_true rfl) (Nat.le_of_ble_eq_true rfl) (Nat.le_of_ble_eq_true rfl) dL_middle_88 (fun z1 v1 hz1 => ?_)
  refine g_callS F (by decide) [(2, z1)] [2] ml_RL_84 wt_L_bit (c_L_bit z1) mi_L_bit rfl rfl rfl (Nat.le_of_ble_eq_true rfl) (Nat.le_of_ble_eq_true rfl) (Nat.le_of_ble_eq_true rfl) (Nat.le_of_ble_eq_true rfl) (Nat.le_of_ble_eq_true rfl) dL_middle_91 (fun z2 v2 hz2 => ?_)
  refine g_goto F (tgt := 215) rfl dL_middle_94 ?_
  exact g_ireturn F rfl rfl rfl rfl (Nat.le_of_ble_eq_true rfl) (Nat.le_of_ble_eq_true rfl) dL_middle_215
theorem c_L_middle_17 (a2 a3 a4 a5 : Int) : ∀ l, Ct l yL_middle cL_middle 6 (some .int) ({ frames := 8, cells := 4, slots := 24, locals := 130 }) (some 0) [(17, 0), (0, 17), (0, a2), (0, a3), (0, a4), (0, a5)] (sp_L_middle_17 a2 a3 a4 a5) := g_method (by decide +kernel) (Nat.le_of_ble_eq_true rfl) (fun x v F ho => k_L_middle_17 a2 a3 a4 a5 x v F ho)
def sp_L_does_17 (a2 a3 a4 a5 : Int) (v : V) : Res := (rBx (sp_L_middle_17 a2 a3 a4 a5 v) (fun z1 v1 => (rOk z1 v1)) (kxC (-2100000000) [1, 2, 3]))
set_option maxRecDepth 100000 in
set_option maxHeartbeats 4000000 in
theorem k_L_does_17 (a2 a3 a4 a5 : Int) (x : Cx) (v : V) (F : Fx x cL_does RL "does" ({ frames := 9, cells := 4, slots := 24, locals := 155 }) 7 (some 0) (some .int) 2) (hTb : Tb x [(0, 136, 137, 43), (0, 136, 142, 46), (0, 136, 147, 48)]) (ho : ∀ a ∈ [(17, 0), (0, 17), (0, a2), (0, a3), (0, a4), (0, a5)], okv v a) : Gs x (sp_L_does_17 a2 a3 a4 a5 v) v 0 0 0 (avArgs 0 [(17, 0), (0, 17), (0, a2), (0, a3), (0, a4), (0, a5)]) [] := by
  show Gs x _ v 0 0 0 [(0, (17, 0)), (1, (0, 17)), (2, (0, a2)), (3, (0, a3)), (4, (0, a4)), (5, (0, a5))] []
  unfold sp_L_does_17
  refine g_iload_n F rfl 1 rfl rfl dL_does_0 ?_
  refine g_bipush F rfl (by decide) dL_does_1 ?_
  refine g_icmp_ge_t F rfl rfl (by decide) (tgt := 18) rfl dL_does_3 ?_
  refine g_iload_n F rfl 1 rfl rfl dL_does_18 ?_
  refine g_bipush F rfl (by decide) dL_does_19 ?_
  refine g_icmp_ge_f F rfl rfl (by decide) (tgt := 38) rfl dL_does_21 ?_
  refine g_aload_n F rfl 0 rfl dL_does_24 ?_
  refine g_iload_n F rfl 1 rfl rfl dL_does_25 ?_
  refine g_iload_n F rfl 2 rfl rfl dL_does_26 ?_
  refine g_iload_n F rfl 3 rfl rfl dL_does_27 ?_
  refine g_iload F 4 rfl rfl dL_does_28 ?_
  refine g_iload F 5 rfl rfl dL_does_30 ?_
  refine g_callXS F hTb hx_L_does_32 [(17, 0), (0, 17), (0, a2), (0, a3), (0, a4), (0, a5)] [17, 0, 0, 0, 0, 0] ml_RL_14 wt_L_middle (c_L_middle_17 a2 a3 a4 a5) mi_L_middle rfl rfl rfl (Nat.le_of_ble_eq_true rfl) (Nat.le_of_ble_eq_true rfl) (Nat.le_of_ble_eq_true rfl) (Nat.le_of_ble_eq_true rfl) (Nat.le_of_ble_eq_true rfl) dL_does_32 (fun z1 v1 hz1 => ?_)
  refine g_goto F (tgt := 136) rfl dL_does_35 ?_
  exact g_ireturn F rfl rfl rfl rfl (Nat.le_of_ble_eq_true rfl) (Nat.le_of_ble_eq_true rfl) dL_does_136
theorem c_L_does_17 (a2 a3 a4 a5 : Int) : ∀ l, CtW l yL_does cL_does 7 (some .int) [(0, 136, 137, 43), (0, 136, 142, 46), (0, 136, 147, 48)] ({ frames := 9, cells := 4, slots := 24, locals := 155 }) (some 0) [(17, 0), (0, 17), (0, a2), (0, a3), (0, a4), (0, a5)] (sp_L_does_17 a2 a3 a4 a5) := g_methodW (by decide +kernel) (Nat.le_of_ble_eq_true rfl) (fun x v F hT ho => k_L_does_17 a2 a3 a4 a5 x v F hT ho)
def sp_L_middle_16 (a2 a3 a4 a5 : Int) (v : V) : Res := (rB (sp_X7_deal 0 a2 a3 a4 v) (fun z1 v1 => (rOk z1 v1)))
set_option maxRecDepth 100000 in
set_option maxHeartbeats 4000000 in
theorem k_L_middle_16 (a2 a3 a4 a5 : Int) (x : Cx) (v : V) (F : Fx x cL_middle RL "middle" ({ frames := 8, cells := 8, slots := 49, locals := 131 }) 6 (some 0) (some .int) 0) (ho : ∀ a ∈ [(17, 0), (0, 16), (0, a2), (0, a3), (0, a4), (0, a5)], okv v a) : Gs x (sp_L_middle_16 a2 a3 a4 a5 v) v 0 0 0 (avArgs 0 [(17, 0), (0, 16), (0, a2), (0, a3), (0, a4), (0, a5)]) [] := by
  show Gs x _ v 0 0 0 [(0, (17, 0)), (1, (0, 16)), (2, (0, a2)), (3, (0, a3)), (4, (0, a4)), (5, (0, a5))] []
  unfold sp_L_middle_16
  refine g_iload_n F rfl 1 rfl rfl dL_middle_0 ?_
  refine g_bipush F rfl (by decide) dL_middle_1 ?_
  refine g_icmp_ne_t F rfl rfl (by decide) (tgt := 19) rfl dL_middle_3 ?_
  refine g_iload_n F rfl 1 rfl rfl dL_middle_19 ?_
  refine g_bipush F rfl (by decide) dL_middle_20 ?_
  refine g_icmp_ne_t F rfl rfl (by decide) (tgt := 46) rfl dL_middle_22 ?_
  refine g_iload_n F rfl 1 rfl rfl dL_middle_46 ?_
  refine g_bipush F rfl (by decide) dL_middle_47 ?_
  refine g_icmp_ne_t F rfl rfl (by decide) (tgt := 60) rfl dL_middle_49 ?_
  refine g_iload_n F rfl 1 rfl rfl dL_middle_60 ?_
  refine g_bipush F rfl (by decide) dL_middle_61 ?_
  refine g_icmp_ne_f F rfl rfl (by decide) (tgt := 77) rfl dL_middle_63 ?_
  refine g_aload_n F rfl 0 rfl dL_middle_66 ?_
  refine g_iload_n F rfl 2 rfl rfl dL_middle_67 ?_
  refine g_iload_n F rfl 3 rfl rfl dL_middle_68 ?_
  refine g_iload F 4 rfl rfl dL_middle_69 ?_
  refine g_callV F (by decide) (K := 7) (b := 0) [(0, a2), (0, a3), (0, a4)] [0, 0, 0] ml_RL_108 wi_X7_deal ws_X7_deal (c_X7_deal 0 a2 a3 a4 (by decide)) mi_X7_deal (by decide) ⟨_, rfl, rfl⟩ (by decide) rfl rfl rfl (Nat.le_of_ble_eq_true rfl) (Nat.le_of_ble_eq_true rfl) (Nat.le_of_ble_eq_true rfl) (Nat.le_of_ble_eq_true rfl) (Nat.le_of_ble_eq_true rfl) dL_middle_71 (fun z1 v1 hz1 => ?_)
  refine g_goto F (tgt := 215) rfl dL_middle_74 ?_
  exact g_ireturn F rfl rfl rfl rfl (Nat.le_of_ble_eq_true rfl) (Nat.le_of_ble_eq_true rfl) dL_middle_215
theorem c_L_middle_16 (a2 a3 a4 a5 : Int) : ∀ l, Ct l yL_middle cL_middle 6 (some .int) ({ frames := 8, cells := 8, slots := 49, locals := 131 }) (some 0) [(17, 0), (0, 16), (0, a2), (0, a3), (0, a4), (0, a5)] (sp_L_middle_16 a2 a3 a4 a5) := g_method (by decide +kernel) (Nat.le_of_ble_eq_true rfl) (fun x v F ho => k_L_middle_16 a2 a3 a4 a5 x v F ho)
def sp_L_does_16 (a2 a3 a4 a5 : Int) (v : V) : Res := (rBx (sp_L_middle_16 a2 a3 a4 a5 v) (fun z1 v1 => (rOk z1 v1)) (kxC (-2100000000) [1, 2, 3]))
set_option maxRecDepth 100000 in
set_option maxHeartbeats 4000000 in
theorem k_L_does_16 (a2 a3 a4 a5 : Int) (x : Cx) (v : V) (F : Fx x cL_does RL "does" ({ frames := 9, cells := 8, slots := 49, locals := 156 }) 7 (some 0) (some .int) 2) (hTb : Tb x [(0, 136, 137, 43), (0, 136, 142, 46), (0, 136, 147, 48)]) (ho : ∀ a ∈ [(17, 0), (0, 16), (0, a2), (0, a3), (0, a4), (0, a5)], okv v a) : Gs x (sp_L_does_16 a2 a3 a4 a5 v) v 0 0 0 (avArgs 0 [(17, 0), (0, 16), (0, a2), (0, a3), (0, a4), (0, a5)]) [] := by
  show Gs x _ v 0 0 0 [(0, (17, 0)), (1, (0, 16)), (2, (0, a2)), (3, (0, a3)), (4, (0, a4)), (5, (0, a5))] []
  unfold sp_L_does_16
  refine g_iload_n F rfl 1 rfl rfl dL_does_0 ?_
  refine g_bipush F rfl (by decide) dL_does_1 ?_
  refine g_icmp_ge_t F rfl rfl (by decide) (tgt := 18) rfl dL_does_3 ?_
  refine g_iload_n F rfl 1 rfl rfl dL_does_18 ?_
  refine g_bipush F rfl (by decide) dL_does_19 ?_
  refine g_icmp_ge_f F rfl rfl (by decide) (tgt := 38) rfl dL_does_21 ?_
  refine g_aload_n F rfl 0 rfl dL_does_24 ?_
  refine g_iload_n F rfl 1 rfl rfl dL_does_25 ?_
  refine g_iload_n F rfl 2 rfl rfl dL_does_26 ?_
  refine g_iload_n F rfl 3 rfl rfl dL_does_27 ?_
  refine g_iload F 4 rfl rfl dL_does_28 ?_
  refine g_iload F 5 rfl rfl dL_does_30 ?_
  refine g_callXS F hTb hx_L_does_32 [(17, 0), (0, 16), (0, a2), (0, a3), (0, a4), (0, a5)] [17, 0, 0, 0, 0, 0] ml_RL_14 wt_L_middle (c_L_middle_16 a2 a3 a4 a5) mi_L_middle rfl rfl rfl (Nat.le_of_ble_eq_true rfl) (Nat.le_of_ble_eq_true rfl) (Nat.le_of_ble_eq_true rfl) (Nat.le_of_ble_eq_true rfl) (Nat.le_of_ble_eq_true rfl) dL_does_32 (fun z1 v1 hz1 => ?_)
  refine g_goto F (tgt := 136) rfl dL_does_35 ?_
  exact g_ireturn F rfl rfl rfl rfl (Nat.le_of_ble_eq_true rfl) (Nat.le_of_ble_eq_true rfl) dL_does_136
theorem c_L_does_16 (a2 a3 a4 a5 : Int) : ∀ l, CtW l yL_does cL_does 7 (some .int) [(0, 136, 137, 43), (0, 136, 142, 46), (0, 136, 147, 48)] ({ frames := 9, cells := 8, slots := 49, locals := 156 }) (some 0) [(17, 0), (0, 16), (0, a2), (0, a3), (0, a4), (0, a5)] (sp_L_does_16 a2 a3 a4 a5) := g_methodW (by decide +kernel) (Nat.le_of_ble_eq_true rfl) (fun x v F hT ho => k_L_does_16 a2 a3 a4 a5 x v F hT ho)
def sp_L_middle_15 (a2 a3 a4 a5 : Int) (v : V) : Res := (rB (sp_X7_back 0 a2 v) (fun z1 v1 => (rOk z1 v1)))
set_option maxRecDepth 100000 in
set_option maxHeartbeats 4000000 in
theorem k_L_middle_15 (a2 a3 a4 a5 : Int) (x : Cx) (v : V) (F : Fx x cL_middle RL "middle" ({ frames := 8, cells := 2, slots := 12, locals := 126 }) 6 (some 0) (some .int) 0) (ho : ∀ a ∈ [(17, 0), (0, 15), (0, a2), (0, a3), (0, a4), (0, a5)], okv v a) : Gs x (sp_L_middle_15 a2 a3 a4 a5 v) v 0 0 0 (avArgs 0 [(17, 0), (0, 15), (0, a2), (0, a3), (0, a4), (0, a5)]) [] := by
  show Gs x _ v 0 0 0 [(0, (17, 0)), (1, (0, 15)), (2, (0, a2)), (3, (0, a3)), (4, (0, a4)), (5, (0, a5))] []
  unfold sp_L_middle_15
  refine g_iload_n F rfl 1 rfl rfl dL_middle_0 ?_
  refine g_bipush F rfl (by decide) dL_middle_1 ?_
  refine g_icmp_ne_t F rfl rfl (by decide) (tgt := 19) rfl dL_middle_3 ?_
  refine g_iload_n F rfl 1 rfl rfl dL_middle_19 ?_
  refine g_bipush F rfl (by decide) dL_middle_20 ?_
  refine g_icmp_ne_t F rfl rfl (by decide) (tgt := 46) rfl dL_middle_22 ?_
  refine g_iload_n F rfl 1 rfl rfl dL_middle_46 ?_
  refine g_bipush F rfl (by decide) dL_middle_47 ?_
  refine g_icmp_ne_f F rfl rfl (by decide) (tgt := 60) rfl dL_middle_49 ?_
  refine g_aload_n F rfl 0 rfl dL_middle_52 ?_
  refine g_iload_n F rfl 2 rfl rfl dL_middle_53 ?_
  refine g_callV F (by decide) (K := 7) (b := 0) [(0, a2)] [0] ml_RL_105 wi_X7_back ws_X7_back (c_X7_back 0 a2 (by decide)) mi_X7_back (by decide) ⟨_, rfl, rfl⟩ (by decide) rfl rfl rfl (Nat.le_of_ble_eq_true rfl) (Nat.le_of_ble_eq_true rfl) (Nat.le_of_ble_eq_true rfl) (Nat.le_of_ble_eq_true rfl) (Nat.le_of_ble_eq_true rfl) dL_middle_54 (fun z1 v1 hz1 => ?_)
  refine g_goto F (tgt := 215) rfl dL_middle_57 ?_
  exact g_ireturn F rfl rfl rfl rfl (Nat.le_of_ble_eq_true rfl) (Nat.le_of_ble_eq_true rfl) dL_middle_215
theorem c_L_middle_15 (a2 a3 a4 a5 : Int) : ∀ l, Ct l yL_middle cL_middle 6 (some .int) ({ frames := 8, cells := 2, slots := 12, locals := 126 }) (some 0) [(17, 0), (0, 15), (0, a2), (0, a3), (0, a4), (0, a5)] (sp_L_middle_15 a2 a3 a4 a5) := g_method (by decide +kernel) (Nat.le_of_ble_eq_true rfl) (fun x v F ho => k_L_middle_15 a2 a3 a4 a5 x v F ho)
def sp_L_does_15 (a2 a3 a4 a5 : Int) (v : V) : Res := (rBx (sp_L_middle_15 a2 a3 a4 a5 v) (fun z1 v1 => (rOk z1 v1)) (kxC (-2100000000) [1, 2, 3]))
set_option maxRecDepth 100000 in
set_option maxHeartbeats 4000000 in
theorem k_L_does_15 (a2 a3 a4 a5 : Int) (x : Cx) (v : V) (F : Fx x cL_does RL "does" ({ frames := 9, cells := 2, slots := 12, locals := 151 }) 7 (some 0) (some .int) 2) (hTb : Tb x [(0, 136, 137, 43), (0, 136, 142, 46), (0, 136, 147, 48)]) (ho : ∀ a ∈ [(17, 0), (0, 15), (0, a2), (0, a3), (0, a4), (0, a5)], okv v a) : Gs x (sp_L_does_15 a2 a3 a4 a5 v) v 0 0 0 (avArgs 0 [(17, 0), (0, 15), (0, a2), (0, a3), (0, a4), (0, a5)]) [] := by
  show Gs x _ v 0 0 0 [(0, (17, 0)), (1, (0, 15)), (2, (0, a2)), (3, (0, a3)), (4, (0, a4)), (5, (0, a5))] []
  unfold sp_L_does_15
  refine g_iload_n F rfl 1 rfl rfl dL_does_0 ?_
  refine g_bipush F rfl (by decide) dL_does_1 ?_
  refine g_icmp_ge_t F rfl rfl (by decide) (tgt := 18) rfl dL_does_3 ?_
  refine g_iload_n F rfl 1 rfl rfl dL_does_18 ?_
  refine g_bipush F rfl (by decide) dL_does_19 ?_
  refine g_icmp_ge_f F rfl rfl (by decide) (tgt := 38) rfl dL_does_21 ?_
  refine g_aload_n F rfl 0 rfl dL_does_24 ?_
  refine g_iload_n F rfl 1 rfl rfl dL_does_25 ?_
  refine g_iload_n F rfl 2 rfl rfl dL_does_26 ?_
  refine g_iload_n F rfl 3 rfl rfl dL_does_27 ?_
  refine g_iload F 4 rfl rfl dL_does_28 ?_
  refine g_iload F 5 rfl rfl dL_does_30 ?_
  refine g_callXS F hTb hx_L_does_32 [(17, 0), (0, 15), (0, a2), (0, a3), (0, a4), (0, a5)] [17, 0, 0, 0, 0, 0] ml_RL_14 wt_L_middle (c_L_middle_15 a2 a3 a4 a5) mi_L_middle rfl rfl rfl (Nat.le_of_ble_eq_true rfl) (Nat.le_of_ble_eq_true rfl) (Nat.le_of_ble_eq_true rfl) (Nat.le_of_ble_eq_true rfl) (Nat.le_of_ble_eq_true rfl) dL_does_32 (fun z1 v1 hz1 => ?_)
  refine g_goto F (tgt := 136) rfl dL_does_35 ?_
  exact g_ireturn F rfl rfl rfl rfl (Nat.le_of_ble_eq_true rfl) (Nat.le_of_ble_eq_true rfl) dL_does_136
theorem c_L_does_15 (a2 a3 a4 a5 : Int) : ∀ l, CtW l yL_does cL_does 7 (some .int) [(0, 136, 137, 43), (0, 136, 142, 46), (0, 136, 147, 48)] ({ frames := 9, cells := 2, slots := 12, locals := 151 }) (some 0) [(17, 0), (0, 15), (0, a2), (0, a3), (0, a4), (0, a5)] (sp_L_does_15 a2 a3 a4 a5) := g_methodW (by decide +kernel) (Nat.le_of_ble_eq_true rfl) (fun x v F hT ho => k_L_does_15 a2 a3 a4 a5 x v F hT ho)
def sp_L_consigns (a1 a2 a3 a4 a5 : Int) (v : V) : Res := (rB (sp_X7_consign 0 a1 a2 a3 a4 a5 v) (fun z1 v1 => (rOk 0 v1)))
set_option maxRecDepth 100000 in
set_option maxHeartbeats 4000000 in
theorem k_L_consigns (a1 a2 a3 a4 a5 : Int) (x : Cx) (v : V) (F : Fx x cL_consigns RL "consigns" ({ frames := 8, cells := 9, slots := 52, locals := 131 }) 6 (some 0) (some .int) 0) (ho : ∀ a ∈ [(17, 0), (0, a1), (0, a2), (0, a3), (0, a4), (0, a5)], okv v a) : Gs x (sp_L_consigns a1 a2 a3 a4 a5 v) v 0 0 0 (avArgs 0 [(17, 0), (0, a1), (0, a2), (0, a3), (0, a4), (0, a5)]) [] := by
  show Gs x _ v 0 0 0 [(0, (17, 0)), (1, (0, a1)), (2, (0, a2)), (3, (0, a3)), (4, (0, a4)), (5, (0, a5))] []
  unfold sp_L_consigns
  refine g_aload_n F rfl 0 rfl dL_consigns_0 ?_
  refine g_iload_n F rfl 1 rfl rfl dL_consigns_1 ?_
  refine g_iload_n F rfl 2 rfl rfl dL_consigns_2 ?_
  refine g_iload_n F rfl 3 rfl rfl dL_consigns_3 ?_
  refine g_iload F 4 rfl rfl dL_consigns_4 ?_
  refine g_iload F 5 rfl rfl dL_consigns_6 ?_
  refine g_callV F (by decide) (K := 7) (b := 0) [(0, a1), (0, a2), (0, a3), (0, a4), (0, a5)] [0, 0, 0, 0, 0] ml_RL_145 wi_X7_consign ws_X7_consign (c_X7_consign 0 a1 a2 a3 a4 a5 (by decide)) mi_X7_consign (by decide) ⟨_, rfl, rfl⟩ (by decide) rfl rfl rfl (Nat.le_of_ble_eq_true rfl) (Nat.le_of_ble_eq_true rfl) (Nat.le_of_ble_eq_true rfl) (Nat.le_of_ble_eq_true rfl) (Nat.le_of_ble_eq_true rfl) dL_consigns_8 (fun z1 v1 hz1 => ?_)
  refine g_iconst F 2 rfl dL_consigns_11 ?_
  exact g_ireturn F rfl rfl rfl rfl (Nat.le_of_ble_eq_true rfl) (Nat.le_of_ble_eq_true rfl) dL_consigns_12
theorem c_L_consigns (a1 a2 a3 a4 a5 : Int) : ∀ l, Ct l yL_consigns cL_consigns 6 (some .int) ({ frames := 8, cells := 9, slots := 52, locals := 131 }) (some 0) [(17, 0), (0, a1), (0, a2), (0, a3), (0, a4), (0, a5)] (sp_L_consigns a1 a2 a3 a4 a5) := g_method (by decide +kernel) (Nat.le_of_ble_eq_true rfl) (fun x v F ho => k_L_consigns a1 a2 a3 a4 a5 x v F ho)
def sp_L_middle_14 (a2 a3 a4 a5 : Int) (v : V) : Res := (rB (sp_L_consigns a2 a3 a4 (rem32 a5 100) (w32 (a5.tdiv 100)) v) (fun z1 v1 => (rOk z1 v1)))
set_option maxRecDepth 100000 in
set_option maxHeartbeats 4000000 in
theorem k_L_middle_14 (a2 a3 a4 a5 : Int) (x : Cx) (v : V) (F : Fx x cL_middle RL "middle" ({ frames := 9, cells := 9, slots := 52, locals := 156 }) 6 (some 0) (some .int) 0) (ho : ∀ a ∈ [(17, 0), (0, 14), (0, a2), (0, a3), (0, a4), (0, a5)], okv v a) : Gs x (sp_L_middle_14 a2 a3 a4 a5 v) v 0 0 0 (avArgs 0 [(17, 0), (0, 14), (0, a2), (0, a3), (0, a4), (0, a5)]) [] := by
  show Gs x _ v 0 0 0 [(0, (17, 0)), (1, (0, 14)), (2, (0, a2)), (3, (0, a3)), (4, (0, a4)), (5, (0, a5))] []
  unfold sp_L_middle_14
  refine g_iload_n F rfl 1 rfl rfl dL_middle_0 ?_
  refine g_bipush F rfl (by decide) dL_middle_1 ?_
  refine g_icmp_ne_t F rfl rfl (by decide) (tgt := 19) rfl dL_middle_3 ?_
  refine g_iload_n F rfl 1 rfl rfl dL_middle_19 ?_
  refine g_bipush F rfl (by decide) dL_middle_20 ?_
  refine g_icmp_ne_f F rfl rfl (by decide) (tgt := 46) rfl dL_middle_22 ?_
  refine g_aload_n F rfl 0 rfl dL_middle_25 ?_
  refine g_iload_n F rfl 2 rfl rfl dL_middle_26 ?_
  refine g_iload_n F rfl 3 rfl rfl dL_middle_27 ?_
  refine g_iload F 4 rfl rfl dL_middle_28 ?_
  refine g_iload F 5 rfl rfl dL_middle_30 ?_
  refine g_bipush F rfl (by decide) dL_middle_32 ?_
  refine g_irem F (by decide) rfl rfl dL_middle_34 ?_
  refine g_iload F 5 rfl rfl dL_middle_35 ?_
  refine g_bipush F rfl (by decide) dL_middle_37 ?_
  refine g_idiv F (by decide) rfl rfl dL_middle_39 ?_
  refine g_callS F (by decide) [(17, 0), (0, a2), (0, a3), (0, a4), (0, (rem32 a5 100)), (0, (w32 (a5.tdiv 100)))] [17, 0, 0, 0, 0, 0] ml_RL_102 wt_L_consigns (c_L_consigns a2 a3 a4 (rem32 a5 100) (w32 (a5.tdiv 100))) mi_L_consigns rfl rfl rfl (Nat.le_of_ble_eq_true rfl) (Nat.le_of_ble_eq_true rfl) (Nat.le_of_ble_eq_true rfl) (Nat.le_of_ble_eq_true rfl) (Nat.le_of_ble_eq_true rfl) dL_middle_40 (fun z1 v1 hz1 => ?_)
  refine g_goto F (tgt := 215) rfl dL_middle_43 ?_
  exact g_ireturn F rfl rfl rfl rfl (Nat.le_of_ble_eq_true rfl) (Nat.le_of_ble_eq_true rfl) dL_middle_215
theorem c_L_middle_14 (a2 a3 a4 a5 : Int) : ∀ l, Ct l yL_middle cL_middle 6 (some .int) ({ frames := 9, cells := 9, slots := 52, locals := 156 }) (some 0) [(17, 0), (0, 14), (0, a2), (0, a3), (0, a4), (0, a5)] (sp_L_middle_14 a2 a3 a4 a5) := g_method (by decide +kernel) (Nat.le_of_ble_eq_true rfl) (fun x v F ho => k_L_middle_14 a2 a3 a4 a5 x v F ho)
def sp_L_does_14 (a2 a3 a4 a5 : Int) (v : V) : Res := (rBx (sp_L_middle_14 a2 a3 a4 a5 v) (fun z1 v1 => (rOk z1 v1)) (kxC (-2100000000) [1, 2, 3]))
set_option maxRecDepth 100000 in
set_option maxHeartbeats 4000000 in
theorem k_L_does_14 (a2 a3 a4 a5 : Int) (x : Cx) (v : V) (F : Fx x cL_does RL "does" ({ frames := 10, cells := 9, slots := 52, locals := 181 }) 7 (some 0) (some .int) 2) (hTb : Tb x [(0, 136, 137, 43), (0, 136, 142, 46), (0, 136, 147, 48)]) (ho : ∀ a ∈ [(17, 0), (0, 14), (0, a2), (0, a3), (0, a4), (0, a5)], okv v a) : Gs x (sp_L_does_14 a2 a3 a4 a5 v) v 0 0 0 (avArgs 0 [(17, 0), (0, 14), (0, a2), (0, a3), (0, a4), (0, a5)]) [] := by
  show Gs x _ v 0 0 0 [(0, (17, 0)), (1, (0, 14)), (2, (0, a2)), (3, (0, a3)), (4, (0, a4)), (5, (0, a5))] []
  unfold sp_L_does_14
  refine g_iload_n F rfl 1 rfl rfl dL_does_0 ?_
  refine g_bipush F rfl (by decide) dL_does_1 ?_
  refine g_icmp_ge_t F rfl rfl (by decide) (tgt := 18) rfl dL_does_3 ?_
  refine g_iload_n F rfl 1 rfl rfl dL_does_18 ?_
  refine g_bipush F rfl (by decide) dL_does_19 ?_
  refine g_icmp_ge_f F rfl rfl (by decide) (tgt := 38) rfl dL_does_21 ?_
  refine g_aload_n F rfl 0 rfl dL_does_24 ?_
  refine g_iload_n F rfl 1 rfl rfl dL_does_25 ?_
  refine g_iload_n F rfl 2 rfl rfl dL_does_26 ?_
  refine g_iload_n F rfl 3 rfl rfl dL_does_27 ?_
  refine g_iload F 4 rfl rfl dL_does_28 ?_
  refine g_iload F 5 rfl rfl dL_does_30 ?_
  refine g_callXS F hTb hx_L_does_32 [(17, 0), (0, 14), (0, a2), (0, a3), (0, a4), (0, a5)] [17, 0, 0, 0, 0, 0] ml_RL_14 wt_L_middle (c_L_middle_14 a2 a3 a4 a5) mi_L_middle rfl rfl rfl (Nat.le_of_ble_eq_true rfl) (Nat.le_of_ble_eq_true rfl) (Nat.le_of_ble_eq_true rfl) (Nat.le_of_ble_eq_true rfl) (Nat.le_of_ble_eq_true rfl) dL_does_32 (fun z1 v1 hz1 => ?_)
  refine g_goto F (tgt := 136) rfl dL_does_35 ?_
  exact g_ireturn F rfl rfl rfl rfl (Nat.le_of_ble_eq_true rfl) (Nat.le_of_ble_eq_true rfl) dL_does_136
theorem c_L_does_14 (a2 a3 a4 a5 : Int) : ∀ l, CtW l yL_does cL_does 7 (some .int) [(0, 136, 137, 43), (0, 136, 142, 46), (0, 136, 147, 48)] ({ frames := 10, cells := 9, slots := 52, locals := 181 }) (some 0) [(17, 0), (0, 14), (0, a2), (0, a3), (0, a4), (0, a5)] (sp_L_does_14 a2 a3 a4 a5) := g_methodW (by decide +kernel) (Nat.le_of_ble_eq_true rfl) (fun x v F hT ho => k_L_does_14 a2 a3 a4 a5 x v F hT ho)
def sp_L_middle_13 (a2 a3 a4 a5 : Int) (v : V) : Res := (rB (sp_X7_sell 0 a2 a3 a4 a5 v) (fun z1 v1 => (rOk z1 v1)))
set_option maxRecDepth 100000 in
set_option maxHeartbeats 4000000 in
theorem k_L_middle_13 (a2 a3 a4 a5 : Int) (x : Cx) (v : V) (F : Fx x cL_middle RL "middle" ({ frames := 9, cells := 8, slots := 49, locals := 153 }) 6 (some 0) (some .int) 0) (ho : ∀ a ∈ [(17, 0), (0, 13), (0, a2), (0, a3), (0, a4), (0, a5)], okv v a) : Gs x (sp_L_middle_13 a2 a3 a4 a5 v) v 0 0 0 (avArgs 0 [(17, 0), (0, 13), (0, a2), (0, a3), (0, a4), (0, a5)]) [] := by
  show Gs x _ v 0 0 0 [(0, (17, 0)), (1, (0, 13)), (2, (0, a2)), (3, (0, a3)), (4, (0, a4)), (5, (0, a5))] []
  unfold sp_L_middle_13
  refine g_iload_n F rfl 1 rfl rfl dL_middle_0 ?_
  refine g_bipush F rfl (by decide) dL_middle_1 ?_
  refine g_icmp_ne_f F rfl rfl (by decide) (tgt := 19) rfl dL_middle_3 ?_
  refine g_aload_n F rfl 0 rfl dL_middle_6 ?_
  refine g_iload_n F rfl 2 rfl rfl dL_middle_7 ?_
  refine g_iload_n F rfl 3 rfl rfl dL_middle_8 ?_
  refine g_iload F 4 rfl rfl dL_middle_9 ?_
  refine g_iload F 5 rfl rfl dL_middle_11 ?_
  refine g_callV F (by decide) (K := 7) (b := 0) [(0, a2), (0, a3), (0, a4), (0, a5)] [0, 0, 0, 0] ml_RL_98 wi_X7_sell ws_X7_sell (c_X7_sell 0 a2 a3 a4 a5 (by decide)) mi_X7_sell (by decide) ⟨_, rfl, rfl⟩ (by decide) rfl rfl rfl (Nat.le_of_ble_eq_true rfl) (Nat.le_of_ble_eq_true rfl) (Nat.le_of_ble_eq_true rfl) (Nat.le_of_ble_eq_true rfl) (Nat.le_of_ble_eq_true rfl) dL_middle_13 (fun z1 v1 hz1 => ?_)
  refine g_goto F (tgt := 215) rfl dL_middle_16 ?_
  exact g_ireturn F rfl rfl rfl rfl (Nat.le_of_ble_eq_true rfl) (Nat.le_of_ble_eq_true rfl) dL_middle_215
theorem c_L_middle_13 (a2 a3 a4 a5 : Int) : ∀ l, Ct l yL_middle cL_middle 6 (some .int) ({ frames := 9, cells := 8, slots := 49, locals := 153 }) (some 0) [(17, 0), (0, 13), (0, a2), (0, a3), (0, a4), (0, a5)] (sp_L_middle_13 a2 a3 a4 a5) := g_method (by decide +kernel) (Nat.le_of_ble_eq_true rfl) (fun x v F ho => k_L_middle_13 a2 a3 a4 a5 x v F ho)
def sp_L_does_13 (a2 a3 a4 a5 : Int) (v : V) : Res := (rBx (sp_L_middle_13 a2 a3 a4 a5 v) (fun z1 v1 => (rOk z1 v1)) (kxC (-2100000000) [1, 2, 3]))
set_option maxRecDepth 100000 in
set_option maxHeartbeats 4000000 in
theorem k_L_does_13 (a2 a3 a4 a5 : Int) (x : Cx) (v : V) (F : Fx x cL_does RL "does" ({ frames := 10, cells := 8, slots := 49, locals := 178 }) 7 (some 0) (some .int) 2) (hTb : Tb x [(0, 136, 137, 43), (0, 136, 142, 46), (0, 136, 147, 48)]) (ho : ∀ a ∈ [(17, 0), (0, 13), (0, a2), (0, a3), (0, a4), (0, a5)], okv v a) : Gs x (sp_L_does_13 a2 a3 a4 a5 v) v 0 0 0 (avArgs 0 [(17, 0), (0, 13), (0, a2), (0, a3), (0, a4), (0, a5)]) [] := by
  show Gs x _ v 0 0 0 [(0, (17, 0)), (1, (0, 13)), (2, (0, a2)), (3, (0, a3)), (4, (0, a4)), (5, (0, a5))] []
  unfold sp_L_does_13
  refine g_iload_n F rfl 1 rfl rfl dL_does_0 ?_
  refine g_bipush F rfl (by decide) dL_does_1 ?_
  refine g_icmp_ge_t F rfl rfl (by decide) (tgt := 18) rfl dL_does_3 ?_
  refine g_iload_n F rfl 1 rfl rfl dL_does_18 ?_
  refine g_bipush F rfl (by decide) dL_does_19 ?_
  refine g_icmp_ge_f F rfl rfl (by decide) (tgt := 38) rfl dL_does_21 ?_
  refine g_aload_n F rfl 0 rfl dL_does_24 ?_
  refine g_iload_n F rfl 1 rfl rfl dL_does_25 ?_
  refine g_iload_n F rfl 2 rfl rfl dL_does_26 ?_
  refine g_iload_n F rfl 3 rfl rfl dL_does_27 ?_
  refine g_iload F 4 rfl rfl dL_does_28 ?_
  refine g_iload F 5 rfl rfl dL_does_30 ?_
  refine g_callXS F hTb hx_L_does_32 [(17, 0), (0, 13), (0, a2), (0, a3), (0, a4), (0, a5)] [17, 0, 0, 0, 0, 0] ml_RL_14 wt_L_middle (c_L_middle_13 a2 a3 a4 a5) mi_L_middle rfl rfl rfl (Nat.le_of_ble_eq_true rfl) (Nat.le_of_ble_eq_true rfl) (Nat.le_of_ble_eq_true rfl) (Nat.le_of_ble_eq_true rfl) (Nat.le_of_ble_eq_true rfl) dL_does_32 (fun z1 v1 hz1 => ?_)
  refine g_goto F (tgt := 136) rfl dL_does_35 ?_
  exact g_ireturn F rfl rfl rfl rfl (Nat.le_of_ble_eq_true rfl) (Nat.le_of_ble_eq_true rfl) dL_does_136
theorem c_L_does_13 (a2 a3 a4 a5 : Int) : ∀ l, CtW l yL_does cL_does 7 (some .int) [(0, 136, 137, 43), (0, 136, 142, 46), (0, 136, 147, 48)] ({ frames := 10, cells := 8, slots := 49, locals := 178 }) (some 0) [(17, 0), (0, 13), (0, a2), (0, a3), (0, a4), (0, a5)] (sp_L_does_13 a2 a3 a4 a5) := g_methodW (by decide +kernel) (Nat.le_of_ble_eq_true rfl) (fun x v F hT ho => k_L_does_13 a2 a3 a4 a5 x v F hT ho)
def sp_L_early_12 (a2 a3 a4 : Int) (v : V) : Res := (rB (sp_X7_fail 0 a2 v) (fun z1 v1 => (rOk z1 v1)))
set_option maxRecDepth 100000 in
set_option maxHeartbeats 4000000 in
theorem k_L_early_12 (a2 a3 a4 : Int) (x : Cx) (v : V) (F : Fx x cL_early RL "early" ({ frames := 8, cells := 2, slots := 12, locals := 127 }) 5 (some 0) (some .int) 0) (ho : ∀ a ∈ [(17, 0), (0, 12), (0, a2), (0, a3), (0, a4)], okv v a) : Gs x (sp_L_early_12 a2 a3 a4 v) v 0 0 0 (avArgs 0 [(17, 0), (0, 12), (0, a2), (0, a3), (0, a4)]) [] := by
  show Gs x _ v 0 0 0 [(0, (17, 0)), (1, (0, 12)), (2, (0, a2)), (3, (0, a3)), (4, (0, a4))] []
  unfold sp_L_early_12
  refine g_iload_n F rfl 1 rfl rfl dL_early_0 ?_
  refine g_if_ne_t F rfl (by decide) (tgt := 13) rfl dL_early_1 ?_
  refine g_iload_n F rfl 1 rfl rfl dL_early_13 ?_
  refine g_iconst F 2 rfl dL_early_14 ?_
  refine g_icmp_ne_t F rfl rfl (by decide) (tgt := 27) rfl dL_early_15 ?_
  refine g_iload_n F rfl 1 rfl rfl dL_early_27 ?_
  refine g_iconst F 0 rfl dL_early_28 ?_
  refine g_icmp_ne_t F rfl rfl (by decide) (tgt := 41) rfl dL_early_29 ?_
  refine g_iload_n F rfl 1 rfl rfl dL_early_41 ?_
  refine g_iconst F 0 rfl dL_early_42 ?_
  refine g_icmp_ne_t F rfl rfl (by decide) (tgt := 54) rfl dL_early_43 ?_
  refine g_iload_n F rfl 1 rfl rfl dL_early_54 ?_
  refine g_iconst F 0 rfl dL_early_55 ?_
  refine g_icmp_ne_t F rfl rfl (by decide) (tgt := 68) rfl dL_early_56 ?_
  refine g_iload_n F rfl 1 rfl rfl dL_early_68 ?_
  refine g_iconst F 0 rfl dL_early_69 ?_
  refine g_icmp_ne_t F rfl rfl (by decide) (tgt := 93) rfl dL_early_70 ?_
  refine g_iload_n F rfl 1 rfl rfl dL_early_93 ?_
  refine g_bipush F rfl (by decide) dL_early_94 ?_
  refine g_icmp_ne_t F rfl rfl (by decide) (tgt := 110) rfl dL_early_96 ?_
  refine g_iload_n F rfl 1 rfl rfl dL_early_110 ?_
  refine g_bipush F rfl (by decide) dL_early_111 ?_
  refine g_icmp_ne_t F rfl rfl (by decide) (tgt := 125) rfl dL_early_113 ?_
  refine g_iload_n F rfl 1 rfl rfl dL_early_125 ?_
  refine g_bipush F rfl (by decide) dL_early_126 ?_
  refine g_icmp_ne_t F rfl rfl (by decide) (tgt := 140) rfl dL_early_128 ?_
  refine g_iload_n F rfl 1 rfl rfl dL_early_140 ?_
  refine g_bipush F rfl (by decide) dL_early_141 ?_
  refine g_icmp_ne_t F rfl rfl (by decide) (tgt := 167) rfl dL_early_143 ?_
  refine g_iload_n F rfl 1 rfl rfl dL_early_167 ?_
  refine g_bipush F rfl (by decide) dL_early_168 ?_
  refine g_icmp_ne_t F rfl rfl (by decide) (tgt := 182) rfl dL_early_170 ?_
  refine g_iload_n F rfl 1 rfl rfl dL_early_182 ?_
  refine g_bipush F rfl (by decide) dL_early_183 ?_
  refine g_icmp_ne_t F rfl rfl (by decide) (tgt := 196) rfl dL_early_185 ?_
  refine g_aload_n F rfl 0 rfl dL_early_196 ?_
  refine g_iload_n F rfl 2 rfl rfl dL_early_197 ?_
  refine g_callV F (by decide) (K := 7) (b := 0) [(0, a2)] [0] ml_RL_95 wi_X7_fail ws_X7_fail (c_X7_fail 0 a2 (by decide)) mi_X7_fail (by decide) ⟨_, rfl, rfl⟩ (by decide) rfl rfl rfl (Nat.le_of_ble_eq_true rfl) (Nat.le_of_ble_eq_true rfl) (Nat.le_of_ble_eq_true rfl) (Nat.le_of_ble_eq_true rfl) (Nat.le_of_ble_eq_true rfl) dL_early_198 (fun z1 v1 hz1 => ?_)
  exact g_ireturn F rfl rfl rfl rfl (Nat.le_of_ble_eq_true rfl) (Nat.le_of_ble_eq_true rfl) dL_early_201
theorem c_L_early_12 (a2 a3 a4 : Int) : ∀ l, Ct l yL_early cL_early 5 (some .int) ({ frames := 8, cells := 2, slots := 12, locals := 127 }) (some 0) [(17, 0), (0, 12), (0, a2), (0, a3), (0, a4)] (sp_L_early_12 a2 a3 a4) := g_method (by decide +kernel) (Nat.le_of_ble_eq_true rfl) (fun x v F ho => k_L_early_12 a2 a3 a4 x v F ho)
def sp_L_does_12 (a2 a3 a4 a5 : Int) (v : V) : Res := (rBx (sp_L_early_12 a2 a3 a4 v) (fun z1 v1 => (rOk z1 v1)) (kxC (-2100000000) [1, 2, 3]))
set_option maxRecDepth 100000 in
set_option maxHeartbeats 4000000 in
theorem k_L_does_12 (a2 a3 a4 a5 : Int) (x : Cx) (v : V) (F : Fx x cL_does RL "does" ({ frames := 9, cells := 2, slots := 12, locals := 151 }) 7 (some 0) (some .int) 2) (hTb : Tb x [(0, 136, 137, 43), (0, 136, 142, 46), (0, 136, 147, 48)]) (ho : ∀ a ∈ [(17, 0), (0, 12), (0, a2), (0, a3), (0, a4), (0, a5)], okv v a) : Gs x (sp_L_does_12 a2 a3 a4 a5 v) v 0 0 0 (avArgs 0 [(17, 0), (0, 12), (0, a2), (0, a3), (0, a4), (0, a5)]) [] := by
  show Gs x _ v 0 0 0 [(0, (17, 0)), (1, (0, 12)), (2, (0, a2)), (3, (0, a3)), (4, (0, a4)), (5, (0, a5))] []
  unfold sp_L_does_12
  refine g_iload_n F rfl 1 rfl rfl dL_does_0 ?_
  refine g_bipush F rfl (by decide) dL_does_1 ?_
  refine g_icmp_ge_f F rfl rfl (by decide) (tgt := 18) rfl dL_does_3 ?_
  refine g_aload_n F rfl 0 rfl dL_does_6 ?_
  refine g_iload_n F rfl 1 rfl rfl dL_does_7 ?_
  refine g_iload_n F rfl 2 rfl rfl dL_does_8 ?_
  refine g_iload_n F rfl 3 rfl rfl dL_does_9 ?_
  refine g_iload F 4 rfl rfl dL_does_10 ?_
  refine g_callXS F hTb hx_L_does_12 [(17, 0), (0, 12), (0, a2), (0, a3), (0, a4)] [17, 0, 0, 0, 0] ml_RL_8 wt_L_early (c_L_early_12 a2 a3 a4) mi_L_early rfl rfl rfl (Nat.le_of_ble_eq_true rfl) (Nat.le_of_ble_eq_true rfl) (Nat.le_of_ble_eq_true rfl) (Nat.le_of_ble_eq_true rfl) (Nat.le_of_ble_eq_true rfl) dL_does_12 (fun z1 v1 hz1 => ?_)
  refine g_goto F (tgt := 136) rfl dL_does_15 ?_
  exact g_ireturn F rfl rfl rfl rfl (Nat.le_of_ble_eq_true rfl) (Nat.le_of_ble_eq_true rfl) dL_does_136
theorem c_L_does_12 (a2 a3 a4 a5 : Int) : ∀ l, CtW l yL_does cL_does 7 (some .int) [(0, 136, 137, 43), (0, 136, 142, 46), (0, 136, 147, 48)] ({ frames := 9, cells := 2, slots := 12, locals := 151 }) (some 0) [(17, 0), (0, 12), (0, a2), (0, a3), (0, a4), (0, a5)] (sp_L_does_12 a2 a3 a4 a5) := g_methodW (by decide +kernel) (Nat.le_of_ble_eq_true rfl) (fun x v F hT ho => k_L_does_12 a2 a3 a4 a5 x v F hT ho)
def sp_L_lists (a1 : Int) (v : V) : Res := (rB (sp_X7_list 0 a1 v) (fun z1 v1 => (rOk 0 v1)))
set_option maxRecDepth 100000 in
set_option maxHeartbeats 4000000 in
theorem k_L_lists (a1 : Int) (x : Cx) (v : V) (F : Fx x cL_lists RL "lists" ({ frames := 8, cells := 2, slots := 12, locals := 125 }) 2 (some 0) (some .int) 0) (ho : ∀ a ∈ [(17, 0), (0, a1)], okv v a) : Gs x (sp_L_lists a1 v) v 0 0 0 (avArgs 0 [(17, 0), (0, a1)]) [] := by
  show Gs x _ v 0 0 0 [(0, (17, 0)), (1, (0, a1))] []
  unfold sp_L_lists
  refine g_aload_n F rfl 0 rfl dL_lists_0 ?_
  refine g_iload_n F rfl 1 rfl rfl dL_lists_1 ?_
  refine g_callV F (by decide) (K := 7) (b := 0) [(0, a1)] [0] ml_RL_141 wi_X7_list ws_X7_list (c_X7_list 0 a1 (by decide)) mi_X7_list (by decide) ⟨_, rfl, rfl⟩ (by decide) rfl rfl rfl (Nat.le_of_ble_eq_true rfl) (Nat.le_of_ble_eq_true rfl) (Nat.le_of_ble_eq_true rfl) (Nat.le_of_ble_eq_true rfl) (Nat.le_of_ble_eq_true rfl) dL_lists_2 (fun z1 v1 hz1 => ?_)
  refine g_iconst F 2 rfl dL_lists_5 ?_
  exact g_ireturn F rfl rfl rfl rfl (Nat.le_of_ble_eq_true rfl) (Nat.le_of_ble_eq_true rfl) dL_lists_6
theorem c_L_lists (a1 : Int) : ∀ l, Ct l yL_lists cL_lists 2 (some .int) ({ frames := 8, cells := 2, slots := 12, locals := 125 }) (some 0) [(17, 0), (0, a1)] (sp_L_lists a1) := g_method (by decide +kernel) (Nat.le_of_ble_eq_true rfl) (fun x v F ho => k_L_lists a1 x v F ho)
def sp_L_early_11 (a2 a3 a4 : Int) (v : V) : Res := (rB (sp_L_lists a2 v) (fun z1 v1 => (rOk z1 v1)))
set_option maxRecDepth 100000 in
set_option maxHeartbeats 4000000 in
theorem k_L_early_11 (a2 a3 a4 : Int) (x : Cx) (v : V) (F : Fx x cL_early RL "early" ({ frames := 9, cells := 2, slots := 12, locals := 146 }) 5 (some 0) (some .int) 0) (ho : ∀ a ∈ [(17, 0), (0, 11), (0, a2), (0, a3), (0, a4)], okv v a) : Gs x (sp_L_early_11 a2 a3 a4 v) v 0 0 0 (avArgs 0 [(17, 0), (0, 11), (0, a2), (0, a3), (0, a4)]) [] := by
  show Gs x _ v 0 0 0 [(0, (17, 0)), (1, (0, 11)), (2, (0, a2)), (3, (0, a3)), (4, (0, a4))] []
  unfold sp_L_early_11
  refine g_iload_n F rfl 1 rfl rfl dL_early_0 ?_
  refine g_if_ne_t F rfl (by decide) (tgt := 13) rfl dL_early_1 ?_
  refine g_iload_n F rfl 1 rfl rfl dL_early_13 ?_
  refine g_iconst F 2 rfl dL_early_14 ?_
  refine g_icmp_ne_t F rfl rfl (by decide) (tgt := 27) rfl dL_early_15 ?_
  refine g_iload_n F rfl 1 rfl rfl dL_early_27 ?_
  refine g_iconst F 0 rfl dL_early_28 ?_
  refine g_icmp_ne_t F rfl rfl (by decide) (tgt := 41) rfl dL_early_29 ?_
  refine g_iload_n F rfl 1 rfl rfl dL_early_41 ?_
  refine g_iconst F 0 rfl dL_early_42 ?_
  refine g_icmp_ne_t F rfl rfl (by decide) (tgt := 54) rfl dL_early_43 ?_
  refine g_iload_n F rfl 1 rfl rfl dL_early_54 ?_
  refine g_iconst F 0 rfl dL_early_55 ?_
  refine g_icmp_ne_t F rfl rfl (by decide) (tgt := 68) rfl dL_early_56 ?_
  refine g_iload_n F rfl 1 rfl rfl dL_early_68 ?_
  refine g_iconst F 0 rfl dL_early_69 ?_
  refine g_icmp_ne_t F rfl rfl (by decide) (tgt := 93) rfl dL_early_70 ?_
  refine g_iload_n F rfl 1 rfl rfl dL_early_93 ?_
  refine g_bipush F rfl (by decide) dL_early_94 ?_
  refine g_icmp_ne_t F rfl rfl (by decide) (tgt := 110) rfl dL_early_96 ?_
  refine g_iload_n F rfl 1 rfl rfl dL_early_110 ?_
  refine g_bipush F rfl (by decide) dL_early_111 ?_
  refine g_icmp_ne_t F rfl rfl (by decide) (tgt := 125) rfl dL_early_113 ?_
  refine g_iload_n F rfl 1 rfl rfl dL_early_125 ?_
  refine g_bipush F rfl (by decide) dL_early_126 ?_
  refine g_icmp_ne_t F rfl rfl (by decide) (tgt := 140) rfl dL_early_128 ?_
  refine g_iload_n F rfl 1 rfl rfl dL_early_140 ?_
  refine g_bipush F rfl (by decide) dL_early_141 ?_
  refine g_icmp_ne_t F rfl rfl (by decide) (tgt := 167) rfl dL_early_143 ?_
  refine g_iload_n F rfl 1 rfl rfl dL_early_167 ?_
  refine g_bipush F rfl (by decide) dL_early_168 ?_
  refine g_icmp_ne_t F rfl rfl (by decide) (tgt := 182) rfl dL_early_170 ?_
  refine g_iload_n F rfl 1 rfl rfl dL_early_182 ?_
  refine g_bipush F rfl (by decide) dL_early_183 ?_
  refine g_icmp_ne_f F rfl rfl (by decide) (tgt := 196) rfl dL_early_185 ?_
  refine g_aload_n F rfl 0 rfl dL_early_188 ?_
  refine g_iload_n F rfl 2 rfl rfl dL_early_189 ?_
  refine g_callS F (by decide) [(17, 0), (0, a2)] [17, 0] ml_RL_91 wt_L_lists (c_L_lists a2) mi_L_lists rfl rfl rfl (Nat.le_of_ble_eq_true rfl) (Nat.le_of_ble_eq_true rfl) (Nat.le_of_ble_eq_true rfl) (Nat.le_of_ble_eq_true rfl) (Nat.le_of_ble_eq_true rfl) dL_early_190 (fun z1 v1 hz1 => ?_)
  refine g_goto F (tgt := 201) rfl dL_early_193 ?_
  exact g_ireturn F rfl rfl rfl rfl (Nat.le_of_ble_eq_true rfl) (Nat.le_of_ble_eq_true rfl) dL_early_201
theorem c_L_early_11 (a2 a3 a4 : Int) : ∀ l, Ct l yL_early cL_early 5 (some .int) ({ frames := 9, cells := 2, slots := 12, locals := 146 }) (some 0) [(17, 0), (0, 11), (0, a2), (0, a3), (0, a4)] (sp_L_early_11 a2 a3 a4) := g_method (by decide +kernel) (Nat.le_of_ble_eq_true rfl) (fun x v F ho => k_L_early_11 a2 a3 a4 x v F ho)
def sp_L_does_11 (a2 a3 a4 a5 : Int) (v : V) : Res := (rBx (sp_L_early_11 a2 a3 a4 v) (fun z1 v1 => (rOk z1 v1)) (kxC (-2100000000) [1, 2, 3]))
set_option maxRecDepth 100000 in
set_option maxHeartbeats 4000000 in
theorem k_L_does_11 (a2 a3 a4 a5 : Int) (x : Cx) (v : V) (F : Fx x cL_does RL "does" ({ frames := 10, cells := 2, slots := 12, locals := 170 }) 7 (some 0) (some .int) 2) (hTb : Tb x [(0, 136, 137, 43), (0, 136, 142, 46), (0, 136, 147, 48)]) (ho : ∀ a ∈ [(17, 0), (0, 11), (0, a2), (0, a3), (0, a4), (0, a5)], okv v a) : Gs x (sp_L_does_11 a2 a3 a4 a5 v) v 0 0 0 (avArgs 0 [(17, 0), (0, 11), (0, a2), (0, a3), (0, a4), (0, a5)]) [] := by
  show Gs x _ v 0 0 0 [(0, (17, 0)), (1, (0, 11)), (2, (0, a2)), (3, (0, a3)), (4, (0, a4)), (5, (0, a5))] []
  unfold sp_L_does_11
  refine g_iload_n F rfl 1 rfl rfl dL_does_0 ?_
  refine g_bipush F rfl (by decide) dL_does_1 ?_
  refine g_icmp_ge_f F rfl rfl (by decide) (tgt := 18) rfl dL_does_3 ?_
  refine g_aload_n F rfl 0 rfl dL_does_6 ?_
  refine g_iload_n F rfl 1 rfl rfl dL_does_7 ?_
  refine g_iload_n F rfl 2 rfl rfl dL_does_8 ?_
  refine g_iload_n F rfl 3 rfl rfl dL_does_9 ?_
  refine g_iload F 4 rfl rfl dL_does_10 ?_
  refine g_callXS F hTb hx_L_does_12 [(17, 0), (0, 11), (0, a2), (0, a3), (0, a4)] [17, 0, 0, 0, 0] ml_RL_8 wt_L_early (c_L_early_11 a2 a3 a4) mi_L_early rfl rfl rfl (Nat.le_of_ble_eq_true rfl) (Nat.le_of_ble_eq_true rfl) (Nat.le_of_ble_eq_true rfl) (Nat.le_of_ble_eq_true rfl) (Nat.le_of_ble_eq_true rfl) dL_does_12 (fun z1 v1 hz1 => ?_)
  refine g_goto F (tgt := 136) rfl dL_does_15 ?_
  exact g_ireturn F rfl rfl rfl rfl (Nat.le_of_ble_eq_true rfl) (Nat.le_of_ble_eq_true rfl) dL_does_136
theorem c_L_does_11 (a2 a3 a4 a5 : Int) : ∀ l, CtW l yL_does cL_does 7 (some .int) [(0, 136, 137, 43), (0, 136, 142, 46), (0, 136, 147, 48)] ({ frames := 10, cells := 2, slots := 12, locals := 170 }) (some 0) [(17, 0), (0, 11), (0, a2), (0, a3), (0, a4), (0, a5)] (sp_L_does_11 a2 a3 a4 a5) := g_methodW (by decide +kernel) (Nat.le_of_ble_eq_true rfl) (fun x v F hT ho => k_L_does_11 a2 a3 a4 a5 x v F hT ho)
def sp_L_early_10 (a2 a3 a4 : Int) (v : V) : Res := (rB (sp_X7_bring 0 a2 a3 v) (fun z1 v1 => (rOk z1 v1)))
set_option maxRecDepth 100000 in
set_option maxHeartbeats 4000000 in
theorem k_L_early_10 (a2 a3 a4 : Int) (x : Cx) (v : V) (F : Fx x cL_early RL "early" ({ frames := 8, cells := 3, slots := 18, locals := 128 }) 5 (some 0) (some .int) 0) (ho : ∀ a ∈ [(17, 0), (0, 10), (0, a2), (0, a3), (0, a4)], okv v a) : Gs x (sp_L_early_10 a2 a3 a4 v) v 0 0 0 (avArgs 0 [(17, 0), (0, 10), (0, a2), (0, a3), (0, a4)]) [] := by
  show Gs x _ v 0 0 0 [(0, (17, 0)), (1, (0, 10)), (2, (0, a2)), (3, (0, a3)), (4, (0, a4))] []
  unfold sp_L_early_10
  refine g_iload_n F rfl 1 rfl rfl dL_early_0 ?_
  refine g_if_ne_t F rfl (by decide) (tgt := 13) rfl dL_early_1 ?_
  refine g_iload_n F rfl 1 rfl rfl dL_early_13 ?_
  refine g_iconst F 2 rfl dL_early_14 ?_
  refine g_icmp_ne_t F rfl rfl (by decide) (tgt := 27) rfl dL_early_15 ?_
  refine g_iload_n F rfl 1 rfl rfl dL_early_27 ?_
  refine g_iconst F 0 rfl dL_early_28 ?_
  refine g_icmp_ne_t F rfl rfl (by decide) (tgt := 41) rfl dL_early_29 ?_
  refine g_iload_n F rfl 1 rfl rfl dL_early_41 ?_
  refine g_iconst F 0 rfl dL_early_42 ?_
  refine g_icmp_ne_t F rfl rfl (by decide) (tgt := 54) rfl dL_early_43 ?_
  refine g_iload_n F rfl 1 rfl rfl dL_early_54 ?_
  refine g_iconst F 0 rfl dL_early_55 ?_
  refine g_icmp_ne_t F rfl rfl (by decide) (tgt := 68) rfl dL_early_56 ?_
  refine g_iload_n F rfl 1 rfl rfl dL_early_68 ?_
  refine g_iconst F 0 rfl dL_early_69 ?_
  refine g_icmp_ne_t F rfl rfl (by decide) (tgt := 93) rfl dL_early_70 ?_
  refine g_iload_n F rfl 1 rfl rfl dL_early_93 ?_
  refine g_bipush F rfl (by decide) dL_early_94 ?_
  refine g_icmp_ne_t F rfl rfl (by decide) (tgt := 110) rfl dL_early_96 ?_
  refine g_iload_n F rfl 1 rfl rfl dL_early_110 ?_
  refine g_bipush F rfl (by decide) dL_early_111 ?_
  refine g_icmp_ne_t F rfl rfl (by decide) (tgt := 125) rfl dL_early_113 ?_
  refine g_iload_n F rfl 1 rfl rfl dL_early_125 ?_
  refine g_bipush F rfl (by decide) dL_early_126 ?_
  refine g_icmp_ne_t F rfl rfl (by decide) (tgt := 140) rfl dL_early_128 ?_
  refine g_iload_n F rfl 1 rfl rfl dL_early_140 ?_
  refine g_bipush F rfl (by decide) dL_early_141 ?_
  refine g_icmp_ne_t F rfl rfl (by decide) (tgt := 167) rfl dL_early_143 ?_
  refine g_iload_n F rfl 1 rfl rfl dL_early_167 ?_
  refine g_bipush F rfl (by decide) dL_early_168 ?_
  refine g_icmp_ne_f F rfl rfl (by decide) (tgt := 182) rfl dL_early_170 ?_
  refine g_aload_n F rfl 0 rfl dL_early_173 ?_
  refine g_iload_n F rfl 2 rfl rfl dL_early_174 ?_
  refine g_iload_n F rfl 3 rfl rfl dL_early_175 ?_
  refine g_callV F (by decide) (K := 7) (b := 0) [(0, a2), (0, a3)] [0, 0] ml_RL_88 wi_X7_bring ws_X7_bring (c_X7_bring 0 a2 a3 (by decide)) mi_X7_bring (by decide) ⟨_, rfl, rfl⟩ (by decide) rfl rfl rfl (Nat.le_of_ble_eq_true rfl) (Nat.le_of_ble_eq_true rfl) (Nat.le_of_ble_eq_true rfl) (Nat.le_of_ble_eq_true rfl) (Nat.le_of_ble_eq_true rfl) dL_early_176 (fun z1 v1 hz1 => ?_)
  refine g_goto F (tgt := 201) rfl dL_early_179 ?_
  exact g_ireturn F rfl rfl rfl rfl (Nat.le_of_ble_eq_true rfl) (Nat.le_of_ble_eq_true rfl) dL_early_201
theorem c_L_early_10 (a2 a3 a4 : Int) : ∀ l, Ct l yL_early cL_early 5 (some .int) ({ frames := 8, cells := 3, slots := 18, locals := 128 }) (some 0) [(17, 0), (0, 10), (0, a2), (0, a3), (0, a4)] (sp_L_early_10 a2 a3 a4) := g_method (by decide +kernel) (Nat.le_of_ble_eq_true rfl) (fun x v F ho => k_L_early_10 a2 a3 a4 x v F ho)
def sp_L_does_10 (a2 a3 a4 a5 : Int) (v : V) : Res := (rBx (sp_L_early_10 a2 a3 a4 v) (fun z1 v1 => (rOk z1 v1)) (kxC (-2100000000) [1, 2, 3]))
set_option maxRecDepth 100000 in
set_option maxHeartbeats 4000000 in
theorem k_L_does_10 (a2 a3 a4 a5 : Int) (x : Cx) (v : V) (F : Fx x cL_does RL "does" ({ frames := 9, cells := 3, slots := 18, locals := 152 }) 7 (some 0) (some .int) 2) (hTb : Tb x [(0, 136, 137, 43), (0, 136, 142, 46), (0, 136, 147, 48)]) (ho : ∀ a ∈ [(17, 0), (0, 10), (0, a2), (0, a3), (0, a4), (0, a5)], okv v a) : Gs x (sp_L_does_10 a2 a3 a4 a5 v) v 0 0 0 (avArgs 0 [(17, 0), (0, 10), (0, a2), (0, a3), (0, a4), (0, a5)]) [] := by
  show Gs x _ v 0 0 0 [(0, (17, 0)), (1, (0, 10)), (2, (0, a2)), (3, (0, a3)), (4, (0, a4)), (5, (0, a5))] []
  unfold sp_L_does_10
  refine g_iload_n F rfl 1 rfl rfl dL_does_0 ?_
  refine g_bipush F rfl (by decide) dL_does_1 ?_
  refine g_icmp_ge_f F rfl rfl (by decide) (tgt := 18) rfl dL_does_3 ?_
  refine g_aload_n F rfl 0 rfl dL_does_6 ?_
  refine g_iload_n F rfl 1 rfl rfl dL_does_7 ?_
  refine g_iload_n F rfl 2 rfl rfl dL_does_8 ?_
  refine g_iload_n F rfl 3 rfl rfl dL_does_9 ?_
  refine g_iload F 4 rfl rfl dL_does_10 ?_
  refine g_callXS F hTb hx_L_does_12 [(17, 0), (0, 10), (0, a2), (0, a3), (0, a4)] [17, 0, 0, 0, 0] ml_RL_8 wt_L_early (c_L_early_10 a2 a3 a4) mi_L_early rfl rfl rfl (Nat.le_of_ble_eq_true rfl) (Nat.le_of_ble_eq_true rfl) (Nat.le_of_ble_eq_true rfl) (Nat.le_of_ble_eq_true rfl) (Nat.le_of_ble_eq_true rfl) dL_does_12 (fun z1 v1 hz1 => ?_)
  refine g_goto F (tgt := 136) rfl dL_does_15 ?_
  exact g_ireturn F rfl rfl rfl rfl (Nat.le_of_ble_eq_true rfl) (Nat.le_of_ble_eq_true rfl) dL_does_136
theorem c_L_does_10 (a2 a3 a4 a5 : Int) : ∀ l, CtW l yL_does cL_does 7 (some .int) [(0, 136, 137, 43), (0, 136, 142, 46), (0, 136, 147, 48)] ({ frames := 9, cells := 3, slots := 18, locals := 152 }) (some 0) [(17, 0), (0, 10), (0, a2), (0, a3), (0, a4), (0, a5)] (sp_L_does_10 a2 a3 a4 a5) := g_methodW (by decide +kernel) (Nat.le_of_ble_eq_true rfl) (fun x v F hT ho => k_L_does_10 a2 a3 a4 a5 x v F hT ho)
def sp_L_early_9 (a2 a3 a4 : Int) (v : V) : Res := (if ¬ a3 = 1 then (rB (sp_X7_seal 0 a2 0 v) (fun z2 v2 => (rB (sp_L_bit z2 v2) (fun z3 v3 => (rOk z3 v3)))))
   else (rB (sp_X7_seal 0 a2 1 v) (fun z4 v4 => (rB (sp_L_bit z4 v4) (fun z5 v5 => (rOk z5 v5))))))
set_option maxRecDepth 100000 in
set_option maxHeartbeats 4000000 in
theorem k_L_early_9 (a2 a3 a4 : Int) (x : Cx) (v : V) (F : Fx x cL_early RL "early" ({ frames := 8, cells := 2, slots := 12, locals := 127 }) 5 (some 0) (some .int) 0) (ho : ∀ a ∈ [(17, 0), (0, 9), (0, a2), (0, a3), (0, a4)], okv v a) : Gs x (sp_L_early_9 a2 a3 a4 v) v 0 0 0 (avArgs 0 [(17, 0), (0, 9), (0, a2), (0, a3), (0, a4)]) [] := by
  show Gs x _ v 0 0 0 [(0, (17, 0)), (1, (0, 9)), (2, (0, a2)), (3, (0, a3)), (4, (0, a4))] []
  unfold sp_L_early_9
  refine g_iload_n F rfl 1 rfl rfl dL_early_0 ?_
  refine g_if_ne_t F rfl (by decide) (tgt := 13) rfl dL_early_1 ?_
  refine g_iload_n F rfl 1 rfl rfl dL_early_13 ?_
  refine g_iconst F 2 rfl dL_early_14 ?_
  refine g_icmp_ne_t F rfl rfl (by decide) (tgt := 27) rfl dL_early_15 ?_
  refine g_iload_n F rfl 1 rfl rfl dL_early_27 ?_
  refine g_iconst F 0 rfl dL_early_28 ?_
  refine g_icmp_ne_t F rfl rfl (by decide) (tgt := 41) rfl dL_early_29 ?_
  refine g_iload_n F rfl 1 rfl rfl dL_early_41 ?_
  refine g_iconst F 0 rfl dL_early_42 ?_
  refine g_icmp_ne_t F rfl rfl (by decide) (tgt := 54) rfl dL_early_43 ?_
  refine g_iload_n F rfl 1 rfl rfl dL_early_54 ?_
  refine g_iconst F 0 rfl dL_early_55 ?_
  refine g_icmp_ne_t F rfl rfl (by decide) (tgt := 68) rfl dL_early_56 ?_
  refine g_iload_n F rfl 1 rfl rfl dL_early_68 ?_
  refine g_iconst F 0 rfl dL_early_69 ?_
  refine g_icmp_ne_t F rfl rfl (by decide) (tgt := 93) rfl dL_early_70 ?_
  refine g_iload_n F rfl 1 rfl rfl dL_early_93 ?_
  refine g_bipush F rfl (by decide) dL_early_94 ?_
  refine g_icmp_ne_t F rfl rfl (by decide) (tgt := 110) rfl dL_early_96 ?_
  refine g_iload_n F rfl 1 rfl rfl dL_early_110 ?_
  refine g_bipush F rfl (by decide) dL_early_111 ?_
  refine g_icmp_ne_t F rfl rfl (by decide) (tgt := 125) rfl dL_early_113 ?_
  refine g_iload_n F rfl 1 rfl rfl dL_early_125 ?_
  refine g_bipush F rfl (by decide) dL_early_126 ?_
  refine g_icmp_ne_t F rfl rfl (by decide) (tgt := 140) rfl dL_early_128 ?_
  refine g_iload_n F rfl 1 rfl rfl dL_early_140 ?_
  refine g_bipush F rfl (by decide) dL_early_141 ?_
  refine g_icmp_ne_f F rfl rfl (by decide) (tgt := 167) rfl dL_early_143 ?_
  refine g_aload_n F rfl 0 rfl dL_early_146 ?_
  refine g_iload_n F rfl 2 rfl rfl dL_early_147 ?_
  refine g_iload_n F rfl 3 rfl rfl dL_early_148 ?_
  refine g_iconst F 2 rfl dL_early_149 ?_
  refine g_icmp_ne F rfl rfl (tgt := 157) rfl dL_early_150 (fun n1 => ?_) (fun n1 => ?_)
  · refine g_iconst F 2 rfl dL_early_157 ?_
    refine g_callV F (by decide) (K := 7) (b := 0) [(0, a2), (2, 0)] [0, 2] ml_RL_80 wi_X7_seal ws_X7_seal (c_X7_seal 0 a2 0 (by decide)) mi_X7_seal (by decide) ⟨_, rfl, rfl⟩ (by decide) rfl rfl rfl (Nat.le_of_ble_eq_true rfl) (Nat.le_of_ble_eq_true rfl) (Nat.le_of_ble_eq_true rfl) (Nat.le_of_ble_eq_true rfl) (Nat.le_of_ble_eq_true rfl) dL_early_158 (fun z2 v2 hz2 => ?_)
    refine g_callS F (by decide) [(2, z2)] [2] ml_RL_84 wt_L_bit (c_L_bit z2) mi_L_bit rfl rfl rfl (Nat.le_of_ble_eq_true rfl) (Nat.le_of_ble_eq_true rfl) (Nat.le_of_ble_eq_true rfl) (Nat.le_of_ble_eq_true rfl) (Nat.le_of_ble_eq_true rfl) dL_early_161 (fun z3 v3 hz3 => ?_)
    refine g_goto F (tgt := 201) rfl dL_early_164 ?_
    exact g_ireturn F rfl rfl rfl rfl (Nat.le_of_ble_eq_true rfl) (Nat.le_of_ble_eq_true rfl) dL_early_201
  · refine g_iconst F 2 rfl dL_early_153 ?_
    refine g_goto F (tgt := 158) rfl dL_early_154 ?_
    refine g_callV F (by decide) (K := 7) (b := 0) [(0, a2), (2, 1)] [0, 2] ml_RL_80 wi_X7_seal ws_X7_seal (c_X7_seal 0 a2 1 (by decide)) mi_X7_seal (by decide) ⟨_, rfl, rfl⟩ (by decide) rfl rfl rfl (Nat.le_of_ble_eq_true rfl) (Nat.le_of_ble_eq_true rfl) (Nat.le_of_ble_eq_true rfl) (Nat.le_of_ble_eq_true rfl) (Nat.le_of_ble_eq_true rfl) dL_early_158 (fun z4 v4 hz4 => ?_)
    refine g_callS F (by decide) [(2, z4)] [2] ml_RL_84 wt_L_bit (c_L_bit z4) mi_L_bit rfl rfl rfl (Nat.le_of_ble_eq_true rfl) (Nat.le_of_ble_eq_true rfl) (Nat.le_of_ble_eq_true rfl) (Nat.le_of_ble_eq_true rfl) (Nat.le_of_ble_eq_true rfl) dL_early_161 (fun z5 v5 hz5 => ?_)
    refine g_goto F (tgt := 201) rfl dL_early_164 ?_
    exact g_ireturn F rfl rfl rfl rfl (Nat.le_of_ble_eq_true rfl) (Nat.le_of_ble_eq_true rfl) dL_early_201
theorem c_L_early_9 (a2 a3 a4 : Int) : ∀ l, Ct l yL_early cL_early 5 (some .int) ({ frames := 8, cells := 2, slots := 12, locals := 127 }) (some 0) [(17, 0), (0, 9), (0, a2), (0, a3), (0, a4)] (sp_L_early_9 a2 a3 a4) := g_method (by decide +kernel) (Nat.le_of_ble_eq_true rfl) (fun x v F ho => k_L_early_9 a2 a3 a4 x v F ho)
def sp_L_does_9 (a2 a3 a4 a5 : Int) (v : V) : Res := (rBx (sp_L_early_9 a2 a3 a4 v) (fun z1 v1 => (rOk z1 v1)) (kxC (-2100000000) [1, 2, 3]))
set_option maxRecDepth 100000 in
set_option maxHeartbeats 4000000 in
theorem k_L_does_9 (a2 a3 a4 a5 : Int) (x : Cx) (v : V) (F : Fx x cL_does RL "does" ({ frames := 9, cells := 2, slots := 12, locals := 151 }) 7 (some 0) (some .int) 2) (hTb : Tb x [(0, 136, 137, 43), (0, 136, 142, 46), (0, 136, 147, 48)]) (ho : ∀ a ∈ [(17, 0), (0, 9), (0, a2), (0, a3), (0, a4), (0, a5)], okv v a) : Gs x (sp_L_does_9 a2 a3 a4 a5 v) v 0 0 0 (avArgs 0 [(17, 0), (0, 9), (0, a2), (0, a3), (0, a4), (0, a5)]) [] := by
  show Gs x _ v 0 0 0 [(0, (17, 0)), (1, (0, 9)), (2, (0, a2)), (3, (0, a3)), (4, (0, a4)), (5, (0, a5))] []
  unfold sp_L_does_9
  refine g_iload_n F rfl 1 rfl rfl dL_does_0 ?_
  refine g_bipush F rfl (by decide) dL_does_1 ?_
  refine g_icmp_ge_f F rfl rfl (by decide) (tgt := 18) rfl dL_does_3 ?_
  refine g_aload_n F rfl 0 rfl dL_does_6 ?_
  refine g_iload_n F rfl 1 rfl rfl dL_does_7 ?_
  refine g_iload_n F rfl 2 rfl rfl dL_does_8 ?_
  refine g_iload_n F rfl 3 rfl rfl dL_does_9 ?_
  refine g_iload F 4 rfl rfl dL_does_10 ?_
  refine g_callXS F hTb hx_L_does_12 [(17, 0), (0, 9), (0, a2), (0, a3), (0, a4)] [17, 0, 0, 0, 0] ml_RL_8 wt_L_early (c_L_early_9 a2 a3 a4) mi_L_early rfl rfl rfl (Nat.le_of_ble_eq_true rfl) (Nat.le_of_ble_eq_true rfl) (Nat.le_of_ble_eq_true rfl) (Nat.le_of_ble_eq_true rfl) (Nat.le_of_ble_eq_true rfl) dL_does_12 (fun z1 v1 hz1 => ?_)
  refine g_goto F (tgt := 136) rfl dL_does_15 ?_
  exact g_ireturn F rfl rfl rfl rfl (Nat.le_of_ble_eq_true rfl) (Nat.le_of_ble_eq_true rfl) dL_does_136
theorem c_L_does_9 (a2 a3 a4 a5 : Int) : ∀ l, CtW l yL_does cL_does 7 (some .int) [(0, 136, 137, 43), (0, 136, 142, 46), (0, 136, 147, 48)] ({ frames := 9, cells := 2, slots := 12, locals := 151 }) (some 0) [(17, 0), (0, 9), (0, a2), (0, a3), (0, a4), (0, a5)] (sp_L_does_9 a2 a3 a4 a5) := g_methodW (by decide +kernel) (Nat.le_of_ble_eq_true rfl) (fun x v F hT ho => k_L_does_9 a2 a3 a4 a5 x v F hT ho)
def sp_L_early_8 (a2 a3 a4 : Int) (v : V) : Res := (rB (sp_X7_bar 0 a2 a3 v) (fun z1 v1 => (rOk z1 v1)))
set_option maxRecDepth 100000 in
set_option maxHeartbeats 4000000 in
theorem k_L_early_8 (a2 a3 a4 : Int) (x : Cx) (v : V) (F : Fx x cL_early RL "early" ({ frames := 8, cells := 2, slots := 12, locals := 128 }) 5 (some 0) (some .int) 0) (ho : ∀ a ∈ [(17, 0), (0, 8), (0, a2), (0, a3), (0, a4)], okv v a) : Gs x (sp_L_early_8 a2 a3 a4 v) v 0 0 0 (avArgs 0 [(17, 0), (0, 8), (0, a2), (0, a3), (0, a4)]) [] := by
  show Gs x _ v 0 0 0 [(0, (17, 0)), (1, (0, 8)), (2, (0, a2)), (3, (0, a3)), (4, (0, a4))] []
  unfold sp_L_early_8
  refine g_iload_n F rfl 1 rfl rfl dL_early_0 ?_
  refine g_if_ne_t F rfl (by decide) (tgt := 13) rfl dL_early_1 ?_
  refine g_iload_n F rfl 1 rfl rfl dL_early_13 ?_
  refine g_iconst F 2 rfl dL_early_14 ?_
  refine g_icmp_ne_t F rfl rfl (by decide) (tgt := 27) rfl dL_early_15 ?_
  refine g_iload_n F rfl 1 rfl rfl dL_early_27 ?_
  refine g_iconst F 0 rfl dL_early_28 ?_
  refine g_icmp_ne_t F rfl rfl (by decide) (tgt := 41) rfl dL_early_29 ?_
  refine g_iload_n F rfl 1 rfl rfl dL_early_41 ?_
  refine g_iconst F 0 rfl dL_early_42 ?_
  refine g_icmp_ne_t F rfl rfl (by decide) (tgt := 54) rfl dL_early_43 ?_
  refine g_iload_n F rfl 1 rfl rfl dL_early_54 ?_
  refine g_iconst F 0 rfl dL_early_55 ?_
  refine g_icmp_ne_t F rfl rfl (by decide) (tgt := 68) rfl dL_early_56 ?_
  refine g_iload_n F rfl 1 rfl rfl dL_early_68 ?_
  refine g_iconst F 0 rfl dL_early_69 ?_
  refine g_icmp_ne_t F rfl rfl (by decide) (tgt := 93) rfl dL_early_70 ?_
  refine g_iload_n F rfl 1 rfl rfl dL_early_93 ?_
  refine g_bipush F rfl (by decide) dL_early_94 ?_
  refine g_icmp_ne_t F rfl rfl (by decide) (tgt := 110) rfl dL_early_96 ?_
  refine g_iload_n F rfl 1 rfl rfl dL_early_110 ?_
  refine g_bipush F rfl (by decide) dL_early_111 ?_
  refine g_icmp_ne_t F rfl rfl (by decide) (tgt := 125) rfl dL_early_113 ?_
  refine g_iload_n F rfl 1 rfl rfl dL_early_125 ?_
  refine g_bipush F rfl (by decide) dL_early_126 ?_
  refine g_icmp_ne_f F rfl rfl (by decide) (tgt := 140) rfl dL_early_128 ?_
  refine g_aload_n F rfl 0 rfl dL_early_131 ?_
  refine g_iload_n F rfl 2 rfl rfl dL_early_132 ?_
  refine g_iload_n F rfl 3 rfl rfl dL_early_133 ?_
  refine g_callV F (by decide) (K := 7) (b := 0) [(0, a2), (0, a3)] [0, 0] ml_RL_77 wi_X7_bar ws_X7_bar (c_X7_bar 0 a2 a3 (by decide)) mi_X7_bar (by decide) ⟨_, rfl, rfl⟩ (by decide) rfl rfl rfl (Nat.le_of_ble_eq_true rfl) (Nat.le_of_ble_eq_true rfl) (Nat.le_of_ble_eq_true rfl) (Nat.le_of_ble_eq_true rfl) (Nat.le_of_ble_eq_true rfl) dL_early_134 (fun z1 v1 hz1 => ?_)
  refine g_goto F (tgt := 201) rfl dL_early_137 ?_
  exact g_ireturn F rfl rfl rfl rfl (Nat.le_of_ble_eq_true rfl) (Nat.le_of_ble_eq_true rfl) dL_early_201
theorem c_L_early_8 (a2 a3 a4 : Int) : ∀ l, Ct l yL_early cL_early 5 (some .int) ({ frames := 8, cells := 2, slots := 12, locals := 128 }) (some 0) [(17, 0), (0, 8), (0, a2), (0, a3), (0, a4)] (sp_L_early_8 a2 a3 a4) := g_method (by decide +kernel) (Nat.le_of_ble_eq_true rfl) (fun x v F ho => k_L_early_8 a2 a3 a4 x v F ho)
def sp_L_does_8 (a2 a3 a4 a5 : Int) (v : V) : Res := (rBx (sp_L_early_8 a2 a3 a4 v) (fun z1 v1 => (rOk z1 v1)) (kxC (-2100000000) [1, 2, 3]))
set_option maxRecDepth 100000 in
set_option maxHeartbeats 4000000 in
theorem k_L_does_8 (a2 a3 a4 a5 : Int) (x : Cx) (v : V) (F : Fx x cL_does RL "does" ({ frames := 9, cells := 2, slots := 12, locals := 152 }) 7 (some 0) (some .int) 2) (hTb : Tb x [(0, 136, 137, 43), (0, 136, 142, 46), (0, 136, 147, 48)]) (ho : ∀ a ∈ [(17, 0), (0, 8), (0, a2), (0, a3), (0, a4), (0, a5)], okv v a) : Gs x (sp_L_does_8 a2 a3 a4 a5 v) v 0 0 0 (avArgs 0 [(17, 0), (0, 8), (0, a2), (0, a3), (0, a4), (0, a5)]) [] := by
  show Gs x _ v 0 0 0 [(0, (17, 0)), (1, (0, 8)), (2, (0, a2)), (3, (0, a3)), (4, (0, a4)), (5, (0, a5))] []
  unfold sp_L_does_8
  refine g_iload_n F rfl 1 rfl rfl dL_does_0 ?_
  refine g_bipush F rfl (by decide) dL_does_1 ?_
  refine g_icmp_ge_f F rfl rfl (by decide) (tgt := 18) rfl dL_does_3 ?_
  refine g_aload_n F rfl 0 rfl dL_does_6 ?_
  refine g_iload_n F rfl 1 rfl rfl dL_does_7 ?_
  refine g_iload_n F rfl 2 rfl rfl dL_does_8 ?_
  refine g_iload_n F rfl 3 rfl rfl dL_does_9 ?_
  refine g_iload F 4 rfl rfl dL_does_10 ?_
  refine g_callXS F hTb hx_L_does_12 [(17, 0), (0, 8), (0, a2), (0, a3), (0, a4)] [17, 0, 0, 0, 0] ml_RL_8 wt_L_early (c_L_early_8 a2 a3 a4) mi_L_early rfl rfl rfl (Nat.le_of_ble_eq_true rfl) (Nat.le_of_ble_eq_true rfl) (Nat.le_of_ble_eq_true rfl) (Nat.le_of_ble_eq_true rfl) (Nat.le_of_ble_eq_true rfl) dL_does_12 (fun z1 v1 hz1 => ?_)
  refine g_goto F (tgt := 136) rfl dL_does_15 ?_
  exact g_ireturn F rfl rfl rfl rfl (Nat.le_of_ble_eq_true rfl) (Nat.le_of_ble_eq_true rfl) dL_does_136
theorem c_L_does_8 (a2 a3 a4 a5 : Int) : ∀ l, CtW l yL_does cL_does 7 (some .int) [(0, 136, 137, 43), (0, 136, 142, 46), (0, 136, 147, 48)] ({ frames := 9, cells := 2, slots := 12, locals := 152 }) (some 0) [(17, 0), (0, 8), (0, a2), (0, a3), (0, a4), (0, a5)] (sp_L_does_8 a2 a3 a4 a5) := g_methodW (by decide +kernel) (Nat.le_of_ble_eq_true rfl) (fun x v F hT ho => k_L_does_8 a2 a3 a4 a5 x v F hT ho)
def sp_L_early_7 (a2 a3 a4 : Int) (v : V) : Res := (rB (sp_X7_right 0 a2 a3 v) (fun z1 v1 => (rOk z1 v1)))
set_option maxRecDepth 100000 in
set_option maxHeartbeats 4000000 in
theorem k_L_early_7 (a2 a3 a4 : Int) (x : Cx) (v : V) (F : Fx x cL_early RL "early" ({ frames := 8, cells := 2, slots := 12, locals := 127 }) 5 (some 0) (some .int) 0) (ho : ∀ a ∈ [(17, 0), (0, 7), (0, a2), (0, a3), (0, a4)], okv v a) : Gs x (sp_L_early_7 a2 a3 a4 v) v 0 0 0 (avArgs 0 [(17, 0), (0, 7), (0, a2), (0, a3), (0, a4)]) [] := by
  show Gs x _ v 0 0 0 [(0, (17, 0)), (1, (0, 7)), (2, (0, a2)), (3, (0, a3)), (4, (0, a4))] []
  unfold sp_L_early_7
  refine g_iload_n F rfl 1 rfl rfl dL_early_0 ?_
  refine g_if_ne_t F rfl (by decide) (tgt := 13) rfl dL_early_1 ?_
  refine g_iload_n F rfl 1 rfl rfl dL_early_13 ?_
  refine g_iconst F 2 rfl dL_early_14 ?_
  refine g_icmp_ne_t F rfl rfl (by decide) (tgt := 27) rfl dL_early_15 ?_
  refine g_iload_n F rfl 1 rfl rfl dL_early_27 ?_
  refine g_iconst F 0 rfl dL_early_28 ?_
  refine g_icmp_ne_t F rfl rfl (by decide) (tgt := 41) rfl dL_early_29 ?_
  refine g_iload_n F rfl 1 rfl rfl dL_early_41 ?_
  refine g_iconst F 0 rfl dL_early_42 ?_
  refine g_icmp_ne_t F rfl rfl (by decide) (tgt := 54) rfl dL_early_43 ?_
  refine g_iload_n F rfl 1 rfl rfl dL_early_54 ?_
  refine g_iconst F 0 rfl dL_early_55 ?_
  refine g_icmp_ne_t F rfl rfl (by decide) (tgt := 68) rfl dL_early_56 ?_
  refine g_iload_n F rfl 1 rfl rfl dL_early_68 ?_
  refine g_iconst F 0 rfl dL_early_69 ?_
  refine g_icmp_ne_t F rfl rfl (by decide) (tgt := 93) rfl dL_early_70 ?_
  refine g_iload_n F rfl 1 rfl rfl dL_early_93 ?_
  refine g_bipush F rfl (by decide) dL_early_94 ?_
  refine g_icmp_ne_t F rfl rfl (by decide) (tgt := 110) rfl dL_early_96 ?_
  refine g_iload_n F rfl 1 rfl rfl dL_early_110 ?_
  refine g_bipush F rfl (by decide) dL_early_111 ?_
  refine g_icmp_ne_f F rfl rfl (by decide) (tgt := 125) rfl dL_early_113 ?_
  refine g_aload_n F rfl 0 rfl dL_early_116 ?_
  refine g_iload_n F rfl 2 rfl rfl dL_early_117 ?_
  refine g_iload_n F rfl 3 rfl rfl dL_early_118 ?_
  refine g_callV F (by decide) (K := 7) (b := 0) [(0, a2), (0, a3)] [0, 0] ml_RL_74 wi_X7_right ws_X7_right (c_X7_right 0 a2 a3 (by decide)) mi_X7_right (by decide) ⟨_, rfl, rfl⟩ (by decide) rfl rfl rfl (Nat.le_of_ble_eq_true rfl) (Nat.le_of_ble_eq_true rfl) (Nat.le_of_ble_eq_true rfl) (Nat.le_of_ble_eq_true rfl) (Nat.le_of_ble_eq_true rfl) dL_early_119 (fun z1 v1 hz1 => ?_)
  refine g_goto F (tgt := 201) rfl dL_early_122 ?_
  exact g_ireturn F rfl rfl rfl rfl (Nat.le_of_ble_eq_true rfl) (Nat.le_of_ble_eq_true rfl) dL_early_201
theorem c_L_early_7 (a2 a3 a4 : Int) : ∀ l, Ct l yL_early cL_early 5 (some .int) ({ frames := 8, cells := 2, slots := 12, locals := 127 }) (some 0) [(17, 0), (0, 7), (0, a2), (0, a3), (0, a4)] (sp_L_early_7 a2 a3 a4) := g_method (by decide +kernel) (Nat.le_of_ble_eq_true rfl) (fun x v F ho => k_L_early_7 a2 a3 a4 x v F ho)
def sp_L_does_7 (a2 a3 a4 a5 : Int) (v : V) : Res := (rBx (sp_L_early_7 a2 a3 a4 v) (fun z1 v1 => (rOk z1 v1)) (kxC (-2100000000) [1, 2, 3]))
set_option maxRecDepth 100000 in
set_option maxHeartbeats 4000000 in
theorem k_L_does_7 (a2 a3 a4 a5 : Int) (x : Cx) (v : V) (F : Fx x cL_does RL "does" ({ frames := 9, cells := 2, slots := 12, locals := 151 }) 7 (some 0) (some .int) 2) (hTb : Tb x [(0, 136, 137, 43), (0, 136, 142, 46), (0, 136, 147, 48)]) (ho : ∀ a ∈ [(17, 0), (0, 7), (0, a2), (0, a3), (0, a4), (0, a5)], okv v a) : Gs x (sp_L_does_7 a2 a3 a4 a5 v) v 0 0 0 (avArgs 0 [(17, 0), (0, 7), (0, a2), (0, a3), (0, a4), (0, a5)]) [] := by
  show Gs x _ v 0 0 0 [(0, (17, 0)), (1, (0, 7)), (2, (0, a2)), (3, (0, a3)), (4, (0, a4)), (5, (0, a5))] []
  unfold sp_L_does_7
  refine g_iload_n F rfl 1 rfl rfl dL_does_0 ?_
  refine g_bipush F rfl (by decide) dL_does_1 ?_
  refine g_icmp_ge_f F rfl rfl (by decide) (tgt := 18) rfl dL_does_3 ?_
  refine g_aload_n F rfl 0 rfl dL_does_6 ?_
  refine g_iload_n F rfl 1 rfl rfl dL_does_7 ?_
  refine g_iload_n F rfl 2 rfl rfl dL_does_8 ?_
  refine g_iload_n F rfl 3 rfl rfl dL_does_9 ?_
  refine g_iload F 4 rfl rfl dL_does_10 ?_
  refine g_callXS F hTb hx_L_does_12 [(17, 0), (0, 7), (0, a2), (0, a3), (0, a4)] [17, 0, 0, 0, 0] ml_RL_8 wt_L_early (c_L_early_7 a2 a3 a4) mi_L_early rfl rfl rfl (Nat.le_of_ble_eq_true rfl) (Nat.le_of_ble_eq_true rfl) (Nat.le_of_ble_eq_true rfl) (Nat.le_of_ble_eq_true rfl) (Nat.le_of_ble_eq_true rfl) dL_does_12 (fun z1 v1 hz1 => ?_)
  refine g_goto F (tgt := 136) rfl dL_does_15 ?_
  exact g_ireturn F rfl rfl rfl rfl (Nat.le_of_ble_eq_true rfl) (Nat.le_of_ble_eq_true rfl) dL_does_136
theorem c_L_does_7 (a2 a3 a4 a5 : Int) : ∀ l, CtW l yL_does cL_does 7 (some .int) [(0, 136, 137, 43), (0, 136, 142, 46), (0, 136, 147, 48)] ({ frames := 9, cells := 2, slots := 12, locals := 151 }) (some 0) [(17, 0), (0, 7), (0, a2), (0, a3), (0, a4), (0, a5)] (sp_L_does_7 a2 a3 a4 a5) := g_methodW (by decide +kernel) (Nat.le_of_ble_eq_true rfl) (fun x v F hT ho => k_L_does_7 a2 a3 a4 a5 x v F hT ho)
def sp_L_papers (a1 a2 a3 : Int) (v : V) : Res := (rB (sp_X7_paper 0 a1 a2 a3 v) (fun z1 v1 => (rOk 0 v1)))
set_option maxRecDepth 100000 in
set_option maxHeartbeats 4000000 in
theorem k_L_papers (a1 a2 a3 : Int) (x : Cx) (v : V) (F : Fx x cL_papers RL "papers" ({ frames := 9, cells := 3, slots := 18, locals := 150 }) 4 (some 0) (some .int) 0) (ho : ∀ a ∈ [(17, 0), (0, a1), (0, a2), (0, a3)], okv v a) : Gs x (sp_L_papers a1 a2 a3 v) v 0 0 0 (avArgs 0 [(17, 0), (0, a1), (0, a2), (0, a3)]) [] := by
  show Gs x _ v 0 0 0 [(0, (17, 0)), (1, (0, a1)), (2, (0, a2)), (3, (0, a3))] []
  unfold sp_L_papers
  refine g_aload_n F rfl 0 rfl dL_papers_0 ?_
  refine g_iload_n F rfl 1 rfl rfl dL_papers_1 ?_
  refine g_iload_n F rfl 2 rfl rfl dL_papers_2 ?_
  refine g_iload_n F rfl 3 rfl rfl dL_papers_3 ?_
  refine g_callV F (by decide) (K := 7) (b := 0) [(0, a1), (0, a2), (0, a3)] [0, 0, 0] ml_RL_137 wi_X7_paper ws_X7_paper (c_X7_paper 0 a1 a2 a3 (by decide)) mi_X7_paper (by decide) ⟨_, rfl, rfl⟩ (by decide) rfl rfl rfl (Nat.le_of_ble_eq_true rfl) (Nat.le_of_ble_eq_true rfl) (Nat.le_of_ble_eq_true rfl) (Nat.le_of_ble_eq_true rfl) (Nat.le_of_ble_eq_true rfl) dL_papers_4 (fun z1 v1 hz1 => ?_)
  refine g_iconst F 2 rfl dL_papers_7 ?_
  exact g_ireturn F rfl rfl rfl rfl (Nat.le_of_ble_eq_true rfl) (Nat.le_of_ble_eq_true rfl) dL_papers_8
theorem c_L_papers (a1 a2 a3 : Int) : ∀ l, Ct l yL_papers cL_papers 4 (some .int) ({ frames := 9, cells := 3, slots := 18, locals := 150 }) (some 0) [(17, 0), (0, a1), (0, a2), (0, a3)] (sp_L_papers a1 a2 a3) := g_method (by decide +kernel) (Nat.le_of_ble_eq_true rfl) (fun x v F ho => k_L_papers a1 a2 a3 x v F ho)
def sp_L_early_6 (a2 a3 a4 : Int) (v : V) : Res := (rB (sp_L_papers a2 a3 a4 v) (fun z1 v1 => (rOk z1 v1)))
set_option maxRecDepth 100000 in
set_option maxHeartbeats 4000000 in
theorem k_L_early_6 (a2 a3 a4 : Int) (x : Cx) (v : V) (F : Fx x cL_early RL "early" ({ frames := 10, cells := 3, slots := 18, locals := 173 }) 5 (some 0) (some .int) 0) (ho : ∀ a ∈ [(17, 0), (0, 6), (0, a2), (0, a3), (0, a4)], okv v a) : Gs x (sp_L_early_6 a2 a3 a4 v) v 0 0 0 (avArgs 0 [(17, 0), (0, 6), (0, a2), (0, a3), (0, a4)]) [] := by
  show Gs x _ v 0 0 0 [(0, (17, 0)), (1, (0, 6)), (2, (0, a2)), (3, (0, a3)), (4, (0, a4))] []
  unfold sp_L_early_6
  refine g_iload_n F rfl 1 rfl rfl dL_early_0 ?_
  refine g_if_ne_t F rfl (by decide) (tgt := 13) rfl dL_early_1 ?_
  refine g_iload_n F rfl 1 rfl rfl dL_early_13 ?_
  refine g_iconst F 2 rfl dL_early_14 ?_
  refine g_icmp_ne_t F rfl rfl (by decide) (tgt := 27) rfl dL_early_15 ?_
  refine g_iload_n F rfl 1 rfl rfl dL_early_27 ?_
  refine g_iconst F 0 rfl dL_early_28 ?_
  refine g_icmp_ne_t F rfl rfl (by decide) (tgt := 41) rfl dL_early_29 ?_
  refine g_iload_n F rfl 1 rfl rfl dL_early_41 ?_
  refine g_iconst F 0 rfl dL_early_42 ?_
  refine g_icmp_ne_t F rfl rfl (by decide) (tgt := 54) rfl dL_early_43 ?_
  refine g_iload_n F rfl 1 rfl rfl dL_early_54 ?_
  refine g_iconst F 0 rfl dL_early_55 ?_
  refine g_icmp_ne_t F rfl rfl (by decide) (tgt := 68) rfl dL_early_56 ?_
  refine g_iload_n F rfl 1 rfl rfl dL_early_68 ?_
  refine g_iconst F 0 rfl dL_early_69 ?_
  refine g_icmp_ne_t F rfl rfl (by decide) (tgt := 93) rfl dL_early_70 ?_
  refine g_iload_n F rfl 1 rfl rfl dL_early_93 ?_
  refine g_bipush F rfl (by decide) dL_early_94 ?_
  refine g_icmp_ne_f F rfl rfl (by decide) (tgt := 110) rfl dL_early_96 ?_
  refine g_aload_n F rfl 0 rfl dL_early_99 ?_
  refine g_iload_n F rfl 2 rfl rfl dL_early_100 ?_
  refine g_iload_n F rfl 3 rfl rfl dL_early_101 ?_
  refine g_iload F 4 rfl rfl dL_early_102 ?_
  refine g_callS F (by decide) [(17, 0), (0, a2), (0, a3), (0, a4)] [17, 0, 0, 0] ml_RL_70 wt_L_papers (c_L_papers a2 a3 a4) mi_L_papers rfl rfl rfl (Nat.le_of_ble_eq_true rfl) (Nat.le_of_ble_eq_true rfl) (Nat.le_of_ble_eq_true rfl) (Nat.le_of_ble_eq_true rfl) (Nat.le_of_ble_eq_true rfl) dL_early_104 (fun z1 v1 hz1 => ?_)
  refine g_goto F (tgt := 201) rfl dL_early_107 ?_
  exact g_ireturn F rfl rfl rfl rfl (Nat.le_of_ble_eq_true rfl) (Nat.le_of_ble_eq_true rfl) dL_early_201
theorem c_L_early_6 (a2 a3 a4 : Int) : ∀ l, Ct l yL_early cL_early 5 (some .int) ({ frames := 10, cells := 3, slots := 18, locals := 173 }) (some 0) [(17, 0), (0, 6), (0, a2), (0, a3), (0, a4)] (sp_L_early_6 a2 a3 a4) := g_method (by decide +kernel) (Nat.le_of_ble_eq_true rfl) (fun x v F ho => k_L_early_6 a2 a3 a4 x v F ho)
def sp_L_does_6 (a2 a3 a4 a5 : Int) (v : V) : Res := (rBx (sp_L_early_6 a2 a3 a4 v) (fun z1 v1 => (rOk z1 v1)) (kxC (-2100000000) [1, 2, 3]))
set_option maxRecDepth 100000 in
set_option maxHeartbeats 4000000 in
theorem k_L_does_6 (a2 a3 a4 a5 : Int) (x : Cx) (v : V) (F : Fx x cL_does RL "does" ({ frames := 11, cells := 3, slots := 18, locals := 197 }) 7 (some 0) (some .int) 2) (hTb : Tb x [(0, 136, 137, 43), (0, 136, 142, 46), (0, 136, 147, 48)]) (ho : ∀ a ∈ [(17, 0), (0, 6), (0, a2), (0, a3), (0, a4), (0, a5)], okv v a) : Gs x (sp_L_does_6 a2 a3 a4 a5 v) v 0 0 0 (avArgs 0 [(17, 0), (0, 6), (0, a2), (0, a3), (0, a4), (0, a5)]) [] := by
  show Gs x _ v 0 0 0 [(0, (17, 0)), (1, (0, 6)), (2, (0, a2)), (3, (0, a3)), (4, (0, a4)), (5, (0, a5))] []
  unfold sp_L_does_6
  refine g_iload_n F rfl 1 rfl rfl dL_does_0 ?_
  refine g_bipush F rfl (by decide) dL_does_1 ?_
  refine g_icmp_ge_f F rfl rfl (by decide) (tgt := 18) rfl dL_does_3 ?_
  refine g_aload_n F rfl 0 rfl dL_does_6 ?_
  refine g_iload_n F rfl 1 rfl rfl dL_does_7 ?_
  refine g_iload_n F rfl 2 rfl rfl dL_does_8 ?_
  refine g_iload_n F rfl 3 rfl rfl dL_does_9 ?_
  refine g_iload F 4 rfl rfl dL_does_10 ?_
  refine g_callXS F hTb hx_L_does_12 [(17, 0), (0, 6), (0, a2), (0, a3), (0, a4)] [17, 0, 0, 0, 0] ml_RL_8 wt_L_early (c_L_early_6 a2 a3 a4) mi_L_early rfl rfl rfl (Nat.le_of_ble_eq_true rfl) (Nat.le_of_ble_eq_true rfl) (Nat.le_of_ble_eq_true rfl) (Nat.le_of_ble_eq_true rfl) (Nat.le_of_ble_eq_true rfl) dL_does_12 (fun z1 v1 hz1 => ?_)
  refine g_goto F (tgt := 136) rfl dL_does_15 ?_
  exact g_ireturn F rfl rfl rfl rfl (Nat.le_of_ble_eq_true rfl) (Nat.le_of_ble_eq_true rfl) dL_does_136
theorem c_L_does_6 (a2 a3 a4 a5 : Int) : ∀ l, CtW l yL_does cL_does 7 (some .int) [(0, 136, 137, 43), (0, 136, 142, 46), (0, 136, 147, 48)] ({ frames := 11, cells := 3, slots := 18, locals := 197 }) (some 0) [(17, 0), (0, 6), (0, a2), (0, a3), (0, a4), (0, a5)] (sp_L_does_6 a2 a3 a4 a5) := g_methodW (by decide +kernel) (Nat.le_of_ble_eq_true rfl) (fun x v F hT ho => k_L_does_6 a2 a3 a4 a5 x v F hT ho)
def sp_L_early_5 (a2 a3 a4 : Int) (v : V) : Res := (if ¬ a4 = 1 then (rB (sp_X7_word 0 a2 a3 0 v) (fun z2 v2 => (rOk z2 v2)))
   else (rB (sp_X7_word 0 a2 a3 1 v) (fun z3 v3 => (rOk z3 v3))))
set_option maxRecDepth 100000 in
set_option maxHeartbeats 4000000 in
theorem k_L_early_5 (a2 a3 a4 : Int) (x : Cx) (v : V) (F : Fx x cL_early RL "early" ({ frames := 8, cells := 4, slots := 21, locals := 128 }) 5 (some 0) (some .int) 0) (ho : ∀ a ∈ [(17, 0), (0, 5), (0, a2), (0, a3), (0, a4)], okv v a) : Gs x (sp_L_early_5 a2 a3 a4 v) v 0 0 0 (avArgs 0 [(17, 0), (0, 5), (0, a2), (0, a3), (0, a4)]) [] := by
  show Gs x _ v 0 0 0 [(0, (17, 0)), (1, (0, 5)), (2, (0, a2)), (3, (0, a3)), (4, (0, a4))] []
  unfold sp_L_early_5
  refine g_iload_n F rfl 1 rfl rfl dL_early_0 ?_
  refine g_if_ne_t F rfl (by decide) (tgt := 13) rfl dL_early_1 ?_
  refine g_iload_n F rfl 1 rfl rfl dL_early_13 ?_
  refine g_iconst F 2 rfl dL_early_14 ?_
  refine g_icmp_ne_t F rfl rfl (by decide) (tgt := 27) rfl dL_early_15 ?_
  refine g_iload_n F rfl 1 rfl rfl dL_early_27 ?_
  refine g_iconst F 0 rfl dL_early_28 ?_
  refine g_icmp_ne_t F rfl rfl (by decide) (tgt := 41) rfl dL_early_29 ?_
  refine g_iload_n F rfl 1 rfl rfl dL_early_41 ?_
  refine g_iconst F 0 rfl dL_early_42 ?_
  refine g_icmp_ne_t F rfl rfl (by decide) (tgt := 54) rfl dL_early_43 ?_
  refine g_iload_n F rfl 1 rfl rfl dL_early_54 ?_
  refine g_iconst F 0 rfl dL_early_55 ?_
  refine g_icmp_ne_t F rfl rfl (by decide) (tgt := 68) rfl dL_early_56 ?_
  refine g_iload_n F rfl 1 rfl rfl dL_early_68 ?_
  refine g_iconst F 0 rfl dL_early_69 ?_
  refine g_icmp_ne_f F rfl rfl (by decide) (tgt := 93) rfl dL_early_70 ?_
  refine g_aload_n F rfl 0 rfl dL_early_73 ?_
  refine g_iload_n F rfl 2 rfl rfl dL_early_74 ?_
  refine g_iload_n F rfl 3 rfl rfl dL_early_75 ?_
  refine g_iload F 4 rfl rfl dL_early_76 ?_
  refine g_iconst F 2 rfl dL_early_78 ?_
  refine g_icmp_ne F rfl rfl (tgt := 86) rfl dL_early_79 (fun n1 => ?_) (fun n1 => ?_)
  · refine g_iconst F 2 rfl dL_early_86 ?_
    refine g_callV F (by decide) (K := 7) (b := 0) [(0, a2), (0, a3), (2, 0)] [0, 0, 2] ml_RL_66 wi_X7_word ws_X7_word (c_X7_word 0 a2 a3 0 (by decide)) mi_X7_word (by decide) ⟨_, rfl, rfl⟩ (by decide) rfl rfl rfl (Nat.le_of_ble_eq_true rfl) (Nat.le_of_ble_eq_true rfl) (Nat.le_of_ble_eq_true rfl) (Nat.le_of_ble_eq_true rfl) (Nat.le_of_ble_eq_true rfl) dL_early_87 (fun z2 v2 hz2 => ?_)
    refine g_goto F (tgt := 201) rfl dL_early_90 ?_
    exact g_ireturn F rfl rfl rfl rfl (Nat.le_of_ble_eq_true rfl) (Nat.le_of_ble_eq_true rfl) dL_early_201
  · refine g_iconst F 2 rfl dL_early_82 ?_
    refine g_goto F (tgt := 87) rfl dL_early_83 ?_
    refine g_callV F (by decide) (K := 7) (b := 0) [(0, a2), (0, a3), (2, 1)] [0, 0, 2] ml_RL_66 wi_X7_word ws_X7_word (c_X7_word 0 a2 a3 1 (by decide)) mi_X7_word (by decide) ⟨_, rfl, rfl⟩ (by decide) rfl rfl rfl (Nat.le_of_ble_eq_true rfl) (Nat.le_of_ble_eq_true rfl) (Nat.le_of_ble_eq_true rfl) (Nat.le_of_ble_eq_true rfl) (Nat.le_of_ble_eq_true rfl) dL_early_87 (fun z3 v3 hz3 => ?_)
    refine g_goto F (tgt := 201) rfl dL_early_90 ?_
    exact g_ireturn F rfl rfl rfl rfl (Nat.le_of_ble_eq_true rfl) (Nat.le_of_ble_eq_true rfl) dL_early_201
theorem c_L_early_5 (a2 a3 a4 : Int) : ∀ l, Ct l yL_early cL_early 5 (some .int) ({ frames := 8, cells := 4, slots := 21, locals := 128 }) (some 0) [(17, 0), (0, 5), (0, a2), (0, a3), (0, a4)] (sp_L_early_5 a2 a3 a4) := g_method (by decide +kernel) (Nat.le_of_ble_eq_true rfl) (fun x v F ho => k_L_early_5 a2 a3 a4 x v F ho)
def sp_L_does_5 (a2 a3 a4 a5 : Int) (v : V) : Res := (rBx (sp_L_early_5 a2 a3 a4 v) (fun z1 v1 => (rOk z1 v1)) (kxC (-2100000000) [1, 2, 3]))
set_option maxRecDepth 100000 in
set_option maxHeartbeats 4000000 in
theorem k_L_does_5 (a2 a3 a4 a5 : Int) (x : Cx) (v : V) (F : Fx x cL_does RL "does" ({ frames := 9, cells := 4, slots := 21, locals := 152 }) 7 (some 0) (some .int) 2) (hTb : Tb x [(0, 136, 137, 43), (0, 136, 142, 46), (0, 136, 147, 48)]) (ho : ∀ a ∈ [(17, 0), (0, 5), (0, a2), (0, a3), (0, a4), (0, a5)], okv v a) : Gs x (sp_L_does_5 a2 a3 a4 a5 v) v 0 0 0 (avArgs 0 [(17, 0), (0, 5), (0, a2), (0, a3), (0, a4), (0, a5)]) [] := by
  show Gs x _ v 0 0 0 [(0, (17, 0)), (1, (0, 5)), (2, (0, a2)), (3, (0, a3)), (4, (0, a4)), (5, (0, a5))] []
  unfold sp_L_does_5
  refine g_iload_n F rfl 1 rfl rfl dL_does_0 ?_
  refine g_bipush F rfl (by decide) dL_does_1 ?_
  refine g_icmp_ge_f F rfl rfl (by decide) (tgt := 18) rfl dL_does_3 ?_
  refine g_aload_n F rfl 0 rfl dL_does_6 ?_
  refine g_iload_n F rfl 1 rfl rfl dL_does_7 ?_
  refine g_iload_n F rfl 2 rfl rfl dL_does_8 ?_
  refine g_iload_n F rfl 3 rfl rfl dL_does_9 ?_
  refine g_iload F 4 rfl rfl dL_does_10 ?_
  refine g_callXS F hTb hx_L_does_12 [(17, 0), (0, 5), (0, a2), (0, a3), (0, a4)] [17, 0, 0, 0, 0] ml_RL_8 wt_L_early (c_L_early_5 a2 a3 a4) mi_L_early rfl rfl rfl (Nat.le_of_ble_eq_true rfl) (Nat.le_of_ble_eq_true rfl) (Nat.le_of_ble_eq_true rfl) (Nat.le_of_ble_eq_true rfl) (Nat.le_of_ble_eq_true rfl) dL_does_12 (fun z1 v1 hz1 => ?_)
  refine g_goto F (tgt := 136) rfl dL_does_15 ?_
  exact g_ireturn F rfl rfl rfl rfl (Nat.le_of_ble_eq_true rfl) (Nat.le_of_ble_eq_true rfl) dL_does_136
theorem c_L_does_5 (a2 a3 a4 a5 : Int) : ∀ l, CtW l yL_does cL_does 7 (some .int) [(0, 136, 137, 43), (0, 136, 142, 46), (0, 136, 147, 48)] ({ frames := 9, cells := 4, slots := 21, locals := 152 }) (some 0) [(17, 0), (0, 5), (0, a2), (0, a3), (0, a4), (0, a5)] (sp_L_does_5 a2 a3 a4 a5) := g_methodW (by decide +kernel) (Nat.le_of_ble_eq_true rfl) (fun x v F hT ho => k_L_does_5 a2 a3 a4 a5 x v F hT ho)
def sp_L_early_4 (a2 a3 a4 : Int) (v : V) : Res := (rB (sp_X7_weight 0 a2 a3 v) (fun z1 v1 => (rOk z1 v1)))
set_option maxRecDepth 100000 in
set_option maxHeartbeats 4000000 in
theorem k_L_early_4 (a2 a3 a4 : Int) (x : Cx) (v : V) (F : Fx x cL_early RL "early" ({ frames := 8, cells := 2, slots := 12, locals := 128 }) 5 (some 0) (some .int) 0) (ho : ∀ a ∈ [(17, 0), (0, 4), (0, a2), (0, a3), (0, a4)], okv v a) : Gs x (sp_L_early_4 a2 a3 a4 v) v 0 0 0 (avArgs 0 [(17, 0), (0, 4), (0, a2), (0, a3), (0, a4)]) [] := by
  show Gs x _ v 0 0 0 [(0, (17, 0)), (1, (0, 4)), (2, (0, a2)), (3, (0, a3)), (4, (0, a4))] []
  unfold sp_L_early_4
  refine g_iload_n F rfl 1 rfl rfl dL_early_0 ?_
  refine g_if_ne_t F rfl (by decide) (tgt := 13) rfl dL_early_1 ?_
  refine g_iload_n F rfl 1 rfl rfl dL_early_13 ?_
  refine g_iconst F 2 rfl dL_early_14 ?_
  refine g_icmp_ne_t F rfl rfl (by decide) (tgt := 27) rfl dL_early_15 ?_
  refine g_iload_n F rfl 1 rfl rfl dL_early_27 ?_
  refine g_iconst F 0 rfl dL_early_28 ?_
  refine g_icmp_ne_t F rfl rfl (by decide) (tgt := 41) rfl dL_early_29 ?_
  refine g_iload_n F rfl 1 rfl rfl dL_early_41 ?_
  refine g_iconst F 0 rfl dL_early_42 ?_
  refine g_icmp_ne_t F rfl rfl (by decide) (tgt := 54) rfl dL_early_43 ?_
  refine g_iload_n F rfl 1 rfl rfl dL_early_54 ?_
  refine g_iconst F 0 rfl dL_early_55 ?_
  refine g_icmp_ne_f F rfl rfl (by decide) (tgt := 68) rfl dL_early_56 ?_
  refine g_aload_n F rfl 0 rfl dL_early_59 ?_
  refine g_iload_n F rfl 2 rfl rfl dL_early_60 ?_
  refine g_iload_n F rfl 3 rfl rfl dL_early_61 ?_
  refine g_callV F (by decide) (K := 7) (b := 0) [(0, a2), (0, a3)] [0, 0] ml_RL_63 wi_X7_weight ws_X7_weight (c_X7_weight 0 a2 a3 (by decide)) mi_X7_weight (by decide) ⟨_, rfl, rfl⟩ (by decide) rfl rfl rfl (Nat.le_of_ble_eq_true rfl) (Nat.le_of_ble_eq_true rfl) (Nat.le_of_ble_eq_true rfl) (Nat.le_of_ble_eq_true rfl) (Nat.le_of_ble_eq_true rfl) dL_early_62 (fun z1 v1 hz1 => ?_)
  refine g_goto F (tgt := 201) rfl dL_early_65 ?_
  exact g_ireturn F rfl rfl rfl rfl (Nat.le_of_ble_eq_true rfl) (Nat.le_of_ble_eq_true rfl) dL_early_201
theorem c_L_early_4 (a2 a3 a4 : Int) : ∀ l, Ct l yL_early cL_early 5 (some .int) ({ frames := 8, cells := 2, slots := 12, locals := 128 }) (some 0) [(17, 0), (0, 4), (0, a2), (0, a3), (0, a4)] (sp_L_early_4 a2 a3 a4) := g_method (by decide +kernel) (Nat.le_of_ble_eq_true rfl) (fun x v F ho => k_L_early_4 a2 a3 a4 x v F ho)
def sp_L_does_4 (a2 a3 a4 a5 : Int) (v : V) : Res := (rBx (sp_L_early_4 a2 a3 a4 v) (fun z1 v1 => (rOk z1 v1)) (kxC (-2100000000) [1, 2, 3]))
set_option maxRecDepth 100000 in
set_option maxHeartbeats 4000000 in
theorem k_L_does_4 (a2 a3 a4 a5 : Int) (x : Cx) (v : V) (F : Fx x cL_does RL "does" ({ frames := 9, cells := 2, slots := 12, locals := 152 }) 7 (some 0) (some .int) 2) (hTb : Tb x [(0, 136, 137, 43), (0, 136, 142, 46), (0, 136, 147, 48)]) (ho : ∀ a ∈ [(17, 0), (0, 4), (0, a2), (0, a3), (0, a4), (0, a5)], okv v a) : Gs x (sp_L_does_4 a2 a3 a4 a5 v) v 0 0 0 (avArgs 0 [(17, 0), (0, 4), (0, a2), (0, a3), (0, a4), (0, a5)]) [] := by
  show Gs x _ v 0 0 0 [(0, (17, 0)), (1, (0, 4)), (2, (0, a2)), (3, (0, a3)), (4, (0, a4)), (5, (0, a5))] []
  unfold sp_L_does_4
  refine g_iload_n F rfl 1 rfl rfl dL_does_0 ?_
  refine g_bipush F rfl (by decide) dL_does_1 ?_
  refine g_icmp_ge_f F rfl rfl (by decide) (tgt := 18) rfl dL_does_3 ?_
  refine g_aload_n F rfl 0 rfl dL_does_6 ?_
  refine g_iload_n F rfl 1 rfl rfl dL_does_7 ?_
  refine g_iload_n F rfl 2 rfl rfl dL_does_8 ?_
  refine g_iload_n F rfl 3 rfl rfl dL_does_9 ?_
  refine g_iload F 4 rfl rfl dL_does_10 ?_
  refine g_callXS F hTb hx_L_does_12 [(17, 0), (0, 4), (0, a2), (0, a3), (0, a4)] [17, 0, 0, 0, 0] ml_RL_8 wt_L_early (c_L_early_4 a2 a3 a4) mi_L_early rfl rfl rfl (Nat.le_of_ble_eq_true rfl) (Nat.le_of_ble_eq_true rfl) (Nat.le_of_ble_eq_true rfl) (Nat.le_of_ble_eq_true rfl) (Nat.le_of_ble_eq_true rfl) dL_does_12 (fun z1 v1 hz1 => ?_)
  refine g_goto F (tgt := 136) rfl dL_does_15 ?_
  exact g_ireturn F rfl rfl rfl rfl (Nat.le_of_ble_eq_true rfl) (Nat.le_of_ble_eq_true rfl) dL_does_136
theorem c_L_does_4 (a2 a3 a4 a5 : Int) : ∀ l, CtW l yL_does cL_does 7 (some .int) [(0, 136, 137, 43), (0, 136, 142, 46), (0, 136, 147, 48)] ({ frames := 9, cells := 2, slots := 12, locals := 152 }) (some 0) [(17, 0), (0, 4), (0, a2), (0, a3), (0, a4), (0, a5)] (sp_L_does_4 a2 a3 a4 a5) := g_methodW (by decide +kernel) (Nat.le_of_ble_eq_true rfl) (fun x v F hT ho => k_L_does_4 a2 a3 a4 a5 x v F hT ho)
def sp_L_early_2 (a2 a3 a4 : Int) (v : V) : Res := (rB (sp_X7_value 0 a2 a3 v) (fun z1 v1 => (rOk z1 v1)))
set_option maxRecDepth 100000 in
set_option maxHeartbeats 4000000 in
theorem k_L_early_2 (a2 a3 a4 : Int) (x : Cx) (v : V) (F : Fx x cL_early RL "early" ({ frames := 8, cells := 2, slots := 12, locals := 128 }) 5 (some 0) (some .int) 0) (ho : ∀ a ∈ [(17, 0), (0, 2), (0, a2), (0, a3), (0, a4)], okv v a) : Gs x (sp_L_early_2 a2 a3 a4 v) v 0 0 0 (avArgs 0 [(17, 0), (0, 2), (0, a2), (0, a3), (0, a4)]) [] := by
  show Gs x _ v 0 0 0 [(0, (17, 0)), (1, (0, 2)), (2, (0, a2)), (3, (0, a3)), (4, (0, a4))] []
  unfold sp_L_early_2
  refine g_iload_n F rfl 1 rfl rfl dL_early_0 ?_
  refine g_if_ne_t F rfl (by decide) (tgt := 13) rfl dL_early_1 ?_
  refine g_iload_n F rfl 1 rfl rfl dL_early_13 ?_
  refine g_iconst F 2 rfl dL_early_14 ?_
  refine g_icmp_ne_t F rfl rfl (by decide) (tgt := 27) rfl dL_early_15 ?_
  refine g_iload_n F rfl 1 rfl rfl dL_early_27 ?_
  refine g_iconst F 0 rfl dL_early_28 ?_
  refine g_icmp_ne_f F rfl rfl (by decide) (tgt := 41) rfl dL_early_29 ?_
  refine g_aload_n F rfl 0 rfl dL_early_32 ?_
  refine g_iload_n F rfl 2 rfl rfl dL_early_33 ?_
  refine g_iload_n F rfl 3 rfl rfl dL_early_34 ?_
  refine g_callV F (by decide) (K := 7) (b := 0) [(0, a2), (0, a3)] [0, 0] ml_RL_56 wi_X7_value ws_X7_value (c_X7_value 0 a2 a3 (by decide)) mi_X7_value (by decide) ⟨_, rfl, rfl⟩ (by decide) rfl rfl rfl (Nat.le_of_ble_eq_true rfl) (Nat.le_of_ble_eq_true rfl) (Nat.le_of_ble_eq_true rfl) (Nat.le_of_ble_eq_true rfl) (Nat.le_of_ble_eq_true rfl) dL_early_35 (fun z1 v1 hz1 => ?_)
  refine g_goto F (tgt := 201) rfl dL_early_38 ?_
  exact g_ireturn F rfl rfl rfl rfl (Nat.le_of_ble_eq_true rfl) (Nat.le_of_ble_eq_true rfl) dL_early_201
theorem c_L_early_2 (a2 a3 a4 : Int) : ∀ l, Ct l yL_early cL_early 5 (some .int) ({ frames := 8, cells := 2, slots := 12, locals := 128 }) (some 0) [(17, 0), (0, 2), (0, a2), (0, a3), (0, a4)] (sp_L_early_2 a2 a3 a4) := g_method (by decide +kernel) (Nat.le_of_ble_eq_true rfl) (fun x v F ho => k_L_early_2 a2 a3 a4 x v F ho)
def sp_L_does_2 (a2 a3 a4 a5 : Int) (v : V) : Res := (rBx (sp_L_early_2 a2 a3 a4 v) (fun z1 v1 => (rOk z1 v1)) (kxC (-2100000000) [1, 2, 3]))
set_option maxRecDepth 100000 in
set_option maxHeartbeats 4000000 in
theorem k_L_does_2 (a2 a3 a4 a5 : Int) (x : Cx) (v : V) (F : Fx x cL_does RL "does" ({ frames := 9, cells := 2, slots := 12, locals := 152 }) 7 (some 0) (some .int) 2) (hTb : Tb x [(0, 136, 137, 43), (0, 136, 142, 46), (0, 136, 147, 48)]) (ho : ∀ a ∈ [(17, 0), (0, 2), (0, a2), (0, a3), (0, a4), (0, a5)], okv v a) : Gs x (sp_L_does_2 a2 a3 a4 a5 v) v 0 0 0 (avArgs 0 [(17, 0), (0, 2), (0, a2), (0, a3), (0, a4), (0, a5)]) [] := by
  show Gs x _ v 0 0 0 [(0, (17, 0)), (1, (0, 2)), (2, (0, a2)), (3, (0, a3)), (4, (0, a4)), (5, (0, a5))] []
  unfold sp_L_does_2
  refine g_iload_n F rfl 1 rfl rfl dL_does_0 ?_
  refine g_bipush F rfl (by decide) dL_does_1 ?_
  refine g_icmp_ge_f F rfl rfl (by decide) (tgt := 18) rfl dL_does_3 ?_
  refine g_aload_n F rfl 0 rfl dL_does_6 ?_
  refine g_iload_n F rfl 1 rfl rfl dL_does_7 ?_
  refine g_iload_n F rfl 2 rfl rfl dL_does_8 ?_
  refine g_iload_n F rfl 3 rfl rfl dL_does_9 ?_
  refine g_iload F 4 rfl rfl dL_does_10 ?_
  refine g_callXS F hTb hx_L_does_12 [(17, 0), (0, 2), (0, a2), (0, a3), (0, a4)] [17, 0, 0, 0, 0] ml_RL_8 wt_L_early (c_L_early_2 a2 a3 a4) mi_L_early rfl rfl rfl (Nat.le_of_ble_eq_true rfl) (Nat.le_of_ble_eq_true rfl) (Nat.le_of_ble_eq_true rfl) (Nat.le_of_ble_eq_true rfl) (Nat.le_of_ble_eq_true rfl) dL_does_12 (fun z1 v1 hz1 => ?_)
  refine g_goto F (tgt := 136) rfl dL_does_15 ?_
  exact g_ireturn F rfl rfl rfl rfl (Nat.le_of_ble_eq_true rfl) (Nat.le_of_ble_eq_true rfl) dL_does_136
theorem c_L_does_2 (a2 a3 a4 a5 : Int) : ∀ l, CtW l yL_does cL_does 7 (some .int) [(0, 136, 137, 43), (0, 136, 142, 46), (0, 136, 147, 48)] ({ frames := 9, cells := 2, slots := 12, locals := 152 }) (some 0) [(17, 0), (0, 2), (0, a2), (0, a3), (0, a4), (0, a5)] (sp_L_does_2 a2 a3 a4 a5) := g_methodW (by decide +kernel) (Nat.le_of_ble_eq_true rfl) (fun x v F hT ho => k_L_does_2 a2 a3 a4 a5 x v F hT ho)

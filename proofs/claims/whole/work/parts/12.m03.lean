/-! methods, by the walker -/
def sp_X8_init (a0 : Int) (v : V) : Res := (chk ((0 : Int) ≤ 0 ∧ ¬ v 99 43 0 = 1) (rLet (nw v 43 0) (fun v1 => (rLet (up v1 8 a0 3 0) (fun v3 => (chk ((0 : Int) ≤ 0 ∧ ¬ v3 99 44 0 = 1) (rLet (nw v3 44 0) (fun v4 => (rLet (up v4 8 a0 4 0) (fun v6 => (chk ((0 : Int) ≤ 0 ∧ ¬ v6 99 45 0 = 1) (rLet (nw v6 45 0) (fun v7 => (rLet (up v7 8 a0 5 0) (fun v9 => (chk ((0 : Int) ≤ 0 ∧ ¬ v9 99 46 0 = 1) (rLet (nw v9 46 0) (fun v10 => (rLet (up v10 8 a0 6 0) (fun v12 => (chk ((0 : Int) ≤ 0 ∧ ¬ v12 99 47 0 = 1) (rLet (nw v12 47 0) (fun v13 => (rLet (up v13 8 a0 7 0) (fun v15 => (chk ((0 : Int) ≤ 0 ∧ ¬ v15 99 48 0 = 1) (rLet (nw v15 48 0) (fun v16 => (rLet (up v16 8 a0 8 0) (fun v18 => (chk ((0 : Int) ≤ 0 ∧ ¬ v18 99 50 0 = 1) (rLet (nw v18 50 0) (fun v19 => (rLet (up v19 8 a0 10 0) (fun v21 => (chk ((0 : Int) ≤ 0 ∧ ¬ v21 99 51 0 = 1) (rLet (nw v21 51 0) (fun v22 => (rLet (up v22 8 a0 11 0) (fun v24 => (chk ((0 : Int) ≤ 0 ∧ ¬ v24 99 52 0 = 1) (rLet (nw v24 52 0) (fun v25 => (rLet (up v25 8 a0 12 0) (fun v27 => (chk ((0 : Int) ≤ 0 ∧ ¬ v27 99 53 0 = 1) (rLet (nw v27 53 0) (fun v28 => (rLet (up v28 8 a0 13 0) (fun v30 => (chk ((0 : Int) ≤ 0 ∧ ¬ v30 99 54 0 = 1) (rLet (nw v30 54 0) (fun v31 => (rLet (up v31 8 a0 14 0) (fun v33 => (chk ((0 : Int) ≤ 0 ∧ ¬ v33 99 55 0 = 1) (rLet (nw v33 55 0) (fun v34 => (rLet (up v34 8 a0 15 0) (fun v36 => (chk ((0 : Int) ≤ 0 ∧ ¬ v36 99 56 0 = 1) (rLet (nw v36 56 0) (fun v37 => (rLet (up v37 8 a0 16 0) (fun v39 => (chk ((0 : Int) ≤ 0 ∧ ¬ v39 99 57 0 = 1) (rLet (nw v39 57 0) (fun v40 => (rLet (up v40 8 a0 17 0) (fun v42 => (chk ((0 : Int) ≤ 0 ∧ ¬ v42 99 58 0 = 1) (rLet (nw v42 58 0) (fun v43 => (rLet (up v43 8 a0 18 0) (fun v45 => (chk ((0 : Int) ≤ 0 ∧ ¬ v45 99 59 0 = 1) (rLet (nw v45 59 0) (fun v46 => (rLet (up v46 8 a0 19 0) (fun v48 => (chk ((0 : Int) ≤ 0 ∧ ¬ v48 99 60 0 = 1) (rLet (nw v48 60 0) (fun v49 => (rLet (up v49 8 a0 20 0) (fun v51 => (chk ((0 : Int) ≤ 0 ∧ ¬ v51 99 62 0 = 1) (rLet (nw v51 62 0) (fun v52 => (rLet (up v52 8 a0 22 0) (fun v54 => (chk ((0 : Int) ≤ 0 ∧ ¬ v54 99 63 0 = 1) (rLet (nw v54 63 0) (fun v55 => (rLet (up v55 8 a0 23 0) (fun v57 => (chk ((0 : Int) ≤ 0 ∧ ¬ v57 99 64 0 = 1) (rLet (nw v57 64 0) (fun v58 => (rLet (up v58 8 a0 24 0) (fun v60 => (chk ((0 : Int) ≤ 0 ∧ ¬ v60 99 65 0 = 1) (rLet (nw v60 65 0) (fun v61 => (rLet (up v61 8 a0 25 0) (fun v63 => (chk ((0 : Int) ≤ 0 ∧ ¬ v63 99 66 0 = 1) (rLet (nw v63 66 0) (fun v64 => (rLet (up v64 8 a0 26 0) (fun v66 => (chk ((0 : Int) ≤ 0 ∧ ¬ v66 99 67 0 = 1) (rLet (nw v66 67 0) (fun v67 => (rLet (up v67 8 a0 27 0) (fun v69 => (chk ((0 : Int) ≤ 0 ∧ ¬ v69 99 68 0 = 1) (rLet (nw v69 68 0) (fun v70 => (rLet (up v70 8 a0 28 0) (fun v72 => (chk ((0 : Int) ≤ 0 ∧ ¬ v72 99 69 0 = 1) (rLet (nw v72 69 0) (fun v73 => (rLet (up v73 8 a0 29 0) (fun v75 => (chk ((0 : Int) ≤ 0 ∧ ¬ v75 99 70 0 = 1) (rLet (nw v75 70 0) (fun v76 => (rLet (up v76 8 a0 30 0) (fun v78 => (chk ((0 : Int) ≤ 0 ∧ ¬ v78 99 71 0 = 1) (rLet (nw v78 71 0) (fun v79 => (rLet (up v79 8 a0 31 0) (fun v81 => (chk ((0 : Int) ≤ 0 ∧ ¬ v81 99 72 0 = 1) (rLet (nw v81 72 0) (fun v82 => (rLet (up v82 8 a0 32 0) (fun v84 => (chk ((0 : Int) ≤ 0 ∧ ¬ v84 99 73 0 = 1) (rLet (nw v84 73 0) (fun v85 => (rLet (up v85 8 a0 33 0) (fun v87 => (chk ((0 : Int) ≤ 0 ∧ ¬ v87 99 74 0 = 1) (rLet (nw v87 74 0) (fun v88 => (rLet (up v88 8 a0 34 0) (fun v90 => (chk ((0 : Int) ≤ 0 ∧ ¬ v90 99 75 0 = 1) (rLet (nw v90 75 0) (fun v91 => (rLet (up v91 8 a0 35 0) (fun v93 => (chk ((0 : Int) ≤ 0 ∧ ¬ v93 99 77 0 = 1) (rLet (nw v93 77 0) (fun v94 => (rLet (up v94 8 a0 37 0) (fun v96 => (chk ((0 : Int) ≤ 0 ∧ ¬ v96 99 78 0 = 1) (rLet (nw v96 78 0) (fun v97 => (rLet (up v97 8 a0 38 0) (fun v99 => (chk ((0 : Int) ≤ 0 ∧ ¬ v99 99 79 0 = 1) (rLet (nw v99 79 0) (fun v100 => (rLet (up v100 8 a0 39 0) (fun v102 => (chk ((0 : Int) ≤ 0 ∧ ¬ v102 99 80 0 = 1) (rLet (nw v102 80 0) (fun v103 => (rLet (up v103 8 a0 40 0) (fun v105 => (chk ((0 : Int) ≤ 0 ∧ ¬ v105 99 81 0 = 1) (rLet (nw v105 81 0) (fun v106 => (rLet (up v106 8 a0 41 0) (fun v108 => (chk ((0 : Int) ≤ 0 ∧ ¬ v108 99 82 0 = 1) (rLet (nw v108 82 0) (fun v109 => (rLet (up v109 8 a0 42 0) (fun v111 => (chk ((0 : Int) ≤ 0 ∧ ¬ v111 99 83 0 = 1) (rLet (nw v111 83 0) (fun v112 => (rLet (up v112 8 a0 43 0) (fun v114 => (rOk 0 v114)))))))))))))))))))))))))))))))))))))))))))))))))))))))))))))))))))))))))))))))))))))))))))))))))))))))))))))))))))))))))))))))))))))))))))))))))))))))))))))))))))))))))))))))))))))))))))))))
set_option maxRecDepth 100000 in
set_option maxHeartbeats 4000000 in
theorem k_X8_init (a0 : Int) (h0 : 0 ≤ a0) (x : Cx) (v : V) (F : Fx x cX8_init RX8 "<init>" ({ frames := 1, cells := 38, slots := 4220, locals := 12 }) 1 none none 0) (ho : ∀ a ∈ [(18, a0)], okv v a) : Gs x (sp_X8_init a0 v) v 0 0 0 (avArgs 0 [(18, a0)]) [] := by
  show Gs x _ v 0 0 0 [(0, (18, a0))] []
  unfold sp_X8_init
  refine g_aload_n F rfl 0 rfl dX8_init_0 ?_
  refine g_objinit F ol_RX8_1 oi_i oi_c (Nat.le_of_ble_eq_true rfl) (Int.not_lt.mp (Int.not_lt.mpr h0)) (Nat.le_of_ble_eq_true rfl) dX8_init_1 ?_
  refine g_aload_n F rfl 0 rfl dX8_init_4 ?_
  refine g_bipush F rfl (by decide) dX8_init_5 ?_
  refine g_chk (fun n2 => ?_)
  refine h_newa F (n := 10) (Kz := 43) 0 ak_43 rfl rfl aw_long rfl (Nat.le_of_ble_eq_true rfl) rfl n2 rfl (Nat.le_of_ble_eq_true rfl) (Nat.le_of_ble_eq_true rfl) dX8_init_7 (fun v1 => ?_)
  refine h_put F (sI := 3) fl_RX8_7 ⟨_, rfl, Or.inr ⟨rfl, rfl⟩⟩ rfl rfl (Int.not_lt.mp (Int.not_lt.mpr h0)) dX8_init_9 (fun v3 => ?_)
  refine g_aload_n F rfl 0 rfl dX8_init_12 ?_
  refine g_bipush F rfl (by decide) dX8_init_13 ?_
  refine g_chk (fun n5 => ?_)
  refine h_newa F (n := 10) (Kz := 44) 0 ak_44 rfl rfl aw_int rfl (Nat.le_of_ble_eq_true rfl) rfl n5 rfl (Nat.le_of_ble_eq_true rfl) (Nat.le_of_ble_eq_true rfl) dX8_init_15 (fun v4 => ?_)
  refine h_put F (sI := 4) fl_RX8_13 ⟨_, rfl, Or.inr ⟨rfl, rfl⟩⟩ rfl rfl (Int.not_lt.mp (Int.not_lt.mpr h0)) dX8_init_17 (fun v6 => ?_)
  refine g_aload_n F rfl 0 rfl dX8_init_20 ?_
  refine g_bipush F rfl (by decide) dX8_init_21 ?_
  refine g_chk (fun n8 => ?_)
  refine h_newa F (n := 10) (Kz := 45) 0 ak_45 rfl rfl aw_boolean rfl (Nat.le_of_ble_eq_true rfl) rfl n8 rfl (Nat.le_of_ble_eq_true rfl) (Nat.le_of_ble_eq_true rfl) dX8_init_23 (fun v7 => ?_)
  refine h_put F (sI := 5) fl_RX8_17 ⟨_, rfl, Or.inr ⟨rfl, rfl⟩⟩ rfl rfl (Int.not_lt.mp (Int.not_lt.mpr h0)) dX8_init_25 (fun v9 => ?_)
  refine g_aload_n F rfl 0 rfl dX8_init_28 ?_
  refine g_bipush F rfl (by decide) dX8_init_29 ?_
  refine g_chk (fun n11 => ?_)
  refine h_newa F (n := 10) (Kz := 46) 0 ak_46 rfl rfl aw_int rfl (Nat.le_of_ble_eq_true rfl) rfl n11 rfl (Nat.le_of_ble_eq_true rfl) (Nat.le_of_ble_eq_true rfl) dX8_init_31 (fun v10 => ?_)
  refine h_put F (sI := 6) fl_RX8_21 ⟨_, rfl, Or.inr ⟨rfl, rfl⟩⟩ rfl rfl (Int.not_lt.mp (Int.not_lt.mpr h0)) dX8_init_33 (fun v12 => ?_)
  refine g_aload_n F rfl 0 rfl dX8_init_36 ?_
  refine g_bipush F rfl (by decide) dX8_init_37 ?_
  refine g_chk (fun n14 => ?_)
  refine h_newa F (n := 100) (Kz := 47) 0 ak_47 rfl rfl aw_boolean rfl (Nat.le_of_ble_eq_true rfl) rfl n14 rfl (Nat.le_of_ble_eq_true rfl) (Nat.le_of_ble_eq_true rfl) dX8_init_39 (fun v13 => ?_)
  refine h_put F (sI := 7) fl_RX8_24 ⟨_, rfl, Or.inr ⟨rfl, rfl⟩⟩ rfl rfl (Int.not_lt.mp (Int.not_lt.mpr h0)) dX8_init_41 (fun v15 => ?_)
  refine g_aload_n F rfl 0 rfl dX8_init_44 ?_
  refine g_iconst F 0 rfl dX8_init_45 ?_
  refine g_chk (fun n17 => ?_)
  refine h_newa F (n := 4) (Kz := 48) 0 ak_48 rfl rfl aw_int rfl (Nat.le_of_ble_eq_true rfl) rfl n17 rfl (Nat.le_of_ble_eq_true rfl) (Nat.le_of_ble_eq_true rfl) dX8_init_46 (fun v16 => ?_)
  refine h_put F (sI := 8) fl_RX8_27 ⟨_, rfl, Or.inr ⟨rfl, rfl⟩⟩ rfl rfl (Int.not_lt.mp (Int.not_lt.mpr h0)) dX8_init_48 (fun v18 => ?_)
  refine g_aload_n F rfl 0 rfl dX8_init_51 ?_
  refine g_bipush F rfl (by decide) dX8_init_52 ?_
  refine g_chk (fun n20 => ?_)
  refine h_newa F (n := 12) (Kz := 50) 0 ak_50 rfl rfl aw_int rfl (Nat.le_of_ble_eq_true rfl) rfl n20 rfl (Nat.le_of_ble_eq_true rfl) (Nat.le_of_ble_eq_true rfl) dX8_init_54 (fun v19 => ?_)
  refine h_put F (sI := 10) fl_RX8_30 ⟨_, rfl, Or.inr ⟨rfl, rfl⟩⟩ rfl rfl (Int.not_lt.mp (Int.not_lt.mpr h0)) dX8_init_56 (fun v21 => ?_)
  refine g_aload_n F rfl 0 rfl dX8_init_59 ?_
  refine g_bipush F rfl (by decide) dX8_init_60 ?_
  refine g_chk (fun n23 => ?_)
  refine h_newa F (n := 12) (Kz := 51) 0 ak_51 rfl rfl aw_int rfl (Nat.le_of_ble_eq_true rfl) rfl n23 rfl (Nat.le_of_ble_eq_true rfl) (Nat.le_of_ble_eq_true rfl) dX8_init_62 (fun v22 => ?_)
  refine h_put F (sI := 11) fl_RX8_33 ⟨_, rfl, Or.inr ⟨rfl, rfl⟩⟩ rfl rfl (Int.not_lt.mp (Int.not_lt.mpr h0)) dX8_init_64 (fun v24 => ?_)
  refine g_aload_n F rfl 0 rfl dX8_init_67 ?_
  refine g_bipush F rfl (by decide) dX8_init_68 ?_
  refine g_chk (fun n26 => ?_)
  refine h_newa F (n := 12) (Kz := 52) 0 ak_52 rfl rfl aw_int rfl (Nat.le_of_ble_eq_true rfl) rfl n26 rfl (Nat.le_of_ble_eq_true rfl) (Nat.le_of_ble_eq_true rfl) dX8_init_70 (fun v25 => ?_)
  refine h_put F (sI := 12) fl_RX8_36 ⟨_, rfl, Or.inr ⟨rfl, rfl⟩⟩ rfl rfl (Int.not_lt.mp (Int.not_lt.mpr h0)) dX8_init_72 (fun v27 => ?_)
  refine g_aload_n F rfl 0 rfl dX8_init_75 ?_
  refine g_bipush F rfl (by decide) dX8_init_76 ?_
  refine g_chk (fun n29 => ?_)
  refine h_newa F (n := 12) (Kz := 53) 0 ak_53 rfl rfl aw_boolean rfl (Nat.le_of_ble_eq_true rfl) rfl n29 rfl (Nat.le_of_ble_eq_true rfl) (Nat.le_of_ble_eq_true rfl) dX8_init_78 (fun v28 => ?_)
  refine h_put F (sI := 13) fl_RX8_39 ⟨_, rfl, Or.inr ⟨rfl, rfl⟩⟩ rfl rfl (Int.not_lt.mp (Int.not_lt.mpr h0)) dX8_init_80 (fun v30 => ?_)
  refine g_aload_n F rfl 0 rfl dX8_init_83 ?_
  refine g_bipush F rfl (by decide) dX8_init_84 ?_
  refine g_chk (fun n32 => ?_)
  refine h_newa F (n := 12) (Kz := 54) 0 ak_54 rfl rfl aw_int rfl (Nat.le_of_ble_eq_true rfl) rfl n32 rfl (Nat.le_of_ble_eq_true rfl) (Nat.le_of_ble_eq_true rfl) dX8_init_86 (fun v31 => ?_)
  refine h_put F (sI := 14) fl_RX8_42 ⟨_, rfl, Or.inr ⟨rfl, rfl⟩⟩ rfl rfl (Int.not_lt.mp (Int.not_lt.mpr h0)) dX8_init_88 (fun v33 => ?_)
  refine g_aload_n F rfl 0 rfl dX8_init_91 ?_
  refine g_bipush F rfl (by decide) dX8_init_92 ?_
  refine g_chk (fun n35 => ?_)
  refine h_newa F (n := 12) (Kz := 55) 0 ak_55 rfl rfl aw_int rfl (Nat.le_of_ble_eq_true rfl) rfl n35 rfl (Nat.le_of_ble_eq_true rfl) (Nat.le_of_ble_eq_true rfl) dX8_init_94 (fun v34 => ?_)
  refine h_put F (sI := 15) fl_RX8_45 ⟨_, rfl, Or.inr ⟨rfl, rfl⟩⟩ rfl rfl (Int.not_lt.mp (Int.not_lt.mpr h0)) dX8_init_96 (fun v36 => ?_)
  refine g_aload_n F rfl 0 rfl dX8_init_99 ?_
  refine g_sipush F rfl (by decide) dX8_init_100 ?_
  refine g_chk (fun n38 => ?_)
  refine h_newa F (n := 1212) (Kz := 56) 0 ak_56 rfl rfl aw_boolean rfl (Nat.le_of_ble_eq_true rfl) rfl n38 rfl (Nat.le_of_ble_eq_true rfl) (Nat.le_of_ble_eq_true rfl) dX8_init_103 (fun v37 => ?_)
  refine h_put F (sI := 16) fl_RX8_48 ⟨_, rfl, Or.inr ⟨rfl, rfl⟩⟩ rfl rfl (Int.not_lt.mp (Int.not_lt.mpr h0)) dX8_init_105 (fun v39 => ?_)
  refine g_aload_n F rfl 0 rfl dX8_init_108 ?_
  refine g_bipush F rfl (by decide) dX8_init_109 ?_
  refine g_chk (fun n41 => ?_)
  refine h_newa F (n := 12) (Kz := 57) 0 ak_57 rfl rfl aw_int rfl (Nat.le_of_ble_eq_true rfl) rfl n41 rfl (Nat.le_of_ble_eq_true rfl) (Nat.le_of_ble_eq_true rfl) dX8_init_111 (fun v40 => ?_)
  refine h_put F (sI := 17) fl_RX8_51 ⟨_, rfl, Or.inr ⟨rfl, rfl⟩⟩ rfl rfl (Int.not_lt.mp (Int.not_lt.mpr h0)) dX8_init_113 (fun v42 => ?_)
  refine g_aload_n F rfl 0 rfl dX8_init_116 ?_
  refine g_sipush F rfl (by decide) dX8_init_117 ?_
  refine g_chk (fun n44 => ?_)
  refine h_newa F (n := 600) (Kz := 58) 0 ak_58 rfl rfl aw_int rfl (Nat.le_of_ble_eq_true rfl) rfl n44 rfl (Nat.le_of_ble_eq_true rfl) (Nat.le_of_ble_eq_true rfl) dX8_init_120 (fun v43 => ?_)
  refine h_put F (sI := 18) fl_RX8_54 ⟨_, rfl, Or.inr ⟨rfl, rfl⟩⟩ rfl rfl (Int.not_lt.mp (Int.not_lt.mpr h0)) dX8_init_122 (fun v45 => ?_)
  refine g_aload_n F rfl 0 rfl dX8_init_125 ?_
  refine g_sipush F rfl (by decide) dX8_init_126 ?_
  refine g_chk (fun n47 => ?_)
  refine h_newa F (n := 600) (Kz := 59) 0 ak_59 rfl rfl aw_int rfl (Nat.le_of_ble_eq_true rfl) rfl n47 rfl (Nat.le_of_ble_eq_true rfl) (Nat.le_of_ble_eq_true rfl) dX8_init_129 (fun v46 => ?_)
  refine h_put F (sI := 19) fl_RX8_57 ⟨_, rfl, Or.inr ⟨rfl, rfl⟩⟩ rfl rfl (Int.not_lt.mp (Int.not_lt.mpr h0)) dX8_init_131 (fun v48 => ?_)
  refine g_aload_n F rfl 0 rfl dX8_init_134 ?_
  refine g_sipush F rfl (by decide) dX8_init_135 ?_
  refine g_chk (fun n50 => ?_)
  refine h_newa F (n := 600) (Kz := 60) 0 ak_60 rfl rfl aw_boolean rfl (Nat.le_of_ble_eq_true rfl) rfl n50 rfl (Nat.le_of_ble_eq_true rfl) (Nat.le_of_ble_eq_true rfl) dX8_init_138 (fun v49 => ?_)
  refine h_put F (sI := 20) fl_RX8_60 ⟨_, rfl, Or.inr ⟨rfl, rfl⟩⟩ rfl rfl (Int.not_lt.mp (Int.not_lt.mpr h0)) dX8_init_140 (fun v51 => ?_)
  refine g_aload_n F rfl 0 rfl dX8_init_143 ?_
  refine g_bipush F rfl (by decide) dX8_init_144 ?_
  refine g_chk (fun n53 => ?_)
  refine h_newa F (n := 60) (Kz := 62) 0 ak_62 rfl rfl aw_int rfl (Nat.le_of_ble_eq_true rfl) rfl n53 rfl (Nat.le_of_ble_eq_true rfl) (Nat.le_of_ble_eq_true rfl) dX8_init_146 (fun v52 => ?_)
  refine h_put F (sI := 22) fl_RX8_63 ⟨_, rfl, Or.inr ⟨rfl, rfl⟩⟩ rfl rfl (Int.not_lt.mp (Int.not_lt.mpr h0)) dX8_init_148 (fun v54 => ?_)
  refine g_aload_n F rfl 0 rfl dX8_init_151 ?_
  refine g_bipush F rfl (by decide) dX8_init_152 ?_
  refine g_chk (fun n56 => ?_)
  refine h_newa F (n := 60) (Kz := 63) 0 ak_63 rfl rfl aw_int rfl (Nat.le_of_ble_eq_true rfl) rfl n56 rfl (Nat.le_of_ble_eq_true rfl) (Nat.le_of_ble_eq_true rfl) dX8_init_154 (fun v55 => ?_)
  refine h_put F (sI := 23) fl_RX8_66 ⟨_, rfl, Or.inr ⟨rfl, rfl⟩⟩ rfl rfl (Int.not_lt.mp (Int.not_lt.mpr h0)) dX8_init_156 (fun v57 => ?_)
  refine g_aload_n F rfl 0 rfl dX8_init_159 ?_
  refine g_bipush F rfl (by decide) dX8_init_160 ?_
  refine g_chk (fun n59 => ?_)
  refine h_newa F (n := 60) (Kz := 64) 0 ak_64 rfl rfl aw_int rfl (Nat.le_of_ble_eq_true rfl) rfl n59 rfl (Nat.le_of_ble_eq_true rfl) (Nat.le_of_ble_eq_true rfl) dX8_init_162 (fun v58 => ?_)
  refine h_put F (sI := 24) fl_RX8_69 ⟨_, rfl, Or.inr ⟨rfl, rfl⟩⟩ rfl rfl (Int.not_lt.mp (Int.not_lt.mpr h0)) dX8_init_164 (fun v60 => ?_)
  refine g_aload_n F rfl 0 rfl dX8_init_167 ?_
  refine g_bipush F rfl (by decide) dX8_init_168 ?_
  refine g_chk (fun n62 => ?_)
  refine h_newa F (n := 60) (Kz := 65) 0 ak_65 rfl rfl aw_int rfl (Nat.le_of_ble_eq_true rfl) rfl n62 rfl (Nat.le_of_ble_eq_true rfl) (Nat.le_of_ble_eq_true rfl) dX8_init_170 (fun v61 => ?_)
  refine h_put F (sI := 25) fl_RX8_72 ⟨_, rfl, Or.inr ⟨rfl, rfl⟩⟩ rfl rfl (Int.not_lt.mp (Int.not_lt.mpr h0)) dX8_init_172 (fun v63 => ?_)
  refine g_aload_n F rfl 0 rfl dX8_init_175 ?_
  refine g_bipush F rfl (by decide) dX8_init_176 ?_
  refine g_chk (fun n65 => ?_)
  refine h_newa F (n := 60) (Kz := 66) 0 ak_66 rfl rfl aw_int rfl (Nat.le_of_ble_eq_true rfl) rfl n65 rfl (Nat.le_of_ble_eq_true rfl) (Nat.le_of_ble_eq_true rfl) dX8_init_178 (fun v64 => ?_)
  refine h_put F (sI := 26) fl_RX8_75 ⟨_, rfl, Or.inr ⟨rfl, rfl⟩⟩ rfl rfl (Int.not_lt.mp (Int.not_lt.mpr h0)) dX8_init_180 (fun v66 => ?_)
  refine g_aload_n F rfl 0 rfl dX8_init_183 ?_
  refine g_bipush F rfl (by decide) dX8_init_184 ?_
  refine g_chk (fun n68 => ?_)
  refine h_newa F (n := 60) (Kz := 67) 0 ak_67 rfl rfl aw_int rfl (Nat.le_of_ble_eq_true rfl) rfl n68 rfl (Nat.le_of_ble_eq_true rfl) (Nat.le_of_ble_eq_true rfl) dX8_init_186 (fun v67 => ?_)
  refine h_put F (sI := 27) fl_RX8_78 ⟨_, rfl, Or.inr ⟨rfl, rfl⟩⟩ rfl rfl (Int.not_lt.mp (Int.not_lt.mpr h0)) dX8_init_188 (fun v69 => ?_)
  refine g_aload_n F rfl 0 rfl dX8_init_191 ?_
  refine g_bipush F rfl (by decide) dX8_init_192 ?_
  refine g_chk (fun n71 => ?_)
  refine h_newa F (n := 60) (Kz := 68) 0 ak_68 rfl rfl aw_int rfl (Nat.le_of_ble_eq_true rfl) rfl n71 rfl (Nat.le_of_ble_eq_true rfl) (Nat.le_of_ble_eq_true rfl) dX8_init_194 (fun v70 => ?_)
  refine h_put F (sI := 28) fl_RX8_81 ⟨_, rfl, Or.inr ⟨rfl, rfl⟩⟩ rfl rfl (Int.not_lt.mp (Int.not_lt.mpr h0)) dX8_init_196 (fun v72 => ?_)
  refine g_aload_n F rfl 0 rfl dX8_init_199 ?_
  refine g_bipush F rfl (by decide) dX8_init_200 ?_
  refine g_chk (fun n74 => ?_)
  refine h_newa F (n := 60) (Kz := 69) 0 ak_69 rfl rfl aw_int rfl (Nat.le_of_ble_eq_true rfl) rfl n74 rfl (Nat.le_of_ble_eq_true rfl) (Nat.le_of_ble_eq_true rfl) dX8_init_202 (fun v73 => ?_)
  refine h_put F (sI := 29) fl_RX8_84 ⟨_, rfl, Or.inr ⟨rfl, rfl⟩⟩ rfl rfl (Int.not_lt.mp (Int.not_lt.mpr h0)) dX8_init_204 (fun v75 => ?_)
  refine g_aload_n F rfl 0 rfl dX8_init_207 ?_
  refine g_bipush F rfl (by decide) dX8_init_208 ?_
  refine g_chk (fun n77 => ?_)
  refine h_newa F (n := 60) (Kz := 70) 0 ak_70 rfl rfl aw_int rfl (Nat.le_of_ble_eq_true rfl) rfl n77 rfl (Nat.le_of_ble_eq_true rfl) (Nat.le_of_ble_eq_true rfl) dX8_init_210 (fun v76 => ?_)
  refine h_put F (sI := 30) fl_RX8_87 ⟨_, rfl, Or.inr ⟨rfl, rfl⟩⟩ rfl rfl (Int.not_lt.mp (Int.not_lt.mpr h0)) dX8_init_212 (fun v78 => ?_)
  refine g_aload_n F rfl 0 rfl dX8_init_215 ?_
  refine g_bipush F rfl (by decide) dX8_init_216 ?_
  refine g_chk (fun n80 => ?_)
  refine h_newa F (n := 60) (Kz := 71) 0 ak_71 rfl rfl aw_int rfl (Nat.le_of_ble_eq_true rfl) rfl n80 rfl (Nat.le_of_ble_eq_true rfl) (Nat.le_of_ble_eq_true rfl) dX8_init_218 (fun v79 => ?_)
  refine h_put F (sI := 31) fl_RX8_90 ⟨_, rfl, Or.inr ⟨rfl, rfl⟩⟩ rfl rfl (Int.not_lt.mp (Int.not_lt.mpr h0)) dX8_init_220 (fun v81 => ?_)
  refine g_aload_n F rfl 0 rfl dX8_init_223 ?_
  refine g_bipush F rfl (by decide) dX8_init_224 ?_
  refine g_chk (fun n83 => ?_)
  refine h_newa F (n := 60) (Kz := 72) 0 ak_72 rfl rfl aw_int rfl (Nat.le_of_ble_eq_true rfl) rfl n83 rfl (Nat.le_of_ble_eq_true rfl) (Nat.le_of_ble_eq_true rfl) dX8_init_226 (fun v82 => ?_)
  refine h_put F (sI := 32) fl_RX8_93 ⟨_, rfl, Or.inr ⟨rfl, rfl⟩⟩ rfl rfl (Int.not_lt.mp (Int.not_lt.mpr h0)) dX8_init_228 (fun v84 => ?_)
  refine g_aload_n F rfl 0 rfl dX8_init_231 ?_
  refine g_bipush F rfl (by decide) dX8_init_232 ?_
  refine g_chk (fun n86 => ?_)
  refine h_newa F (n := 60) (Kz := 73) 0 ak_73 rfl rfl aw_int rfl (Nat.le_of_ble_eq_true rfl) rfl n86 rfl (Nat.le_of_ble_eq_true rfl) (Nat.le_of_ble_eq_true rfl) dX8_init_234 (fun v85 => ?_)
  refine h_put F (sI := 33) fl_RX8_96 ⟨_, rfl, Or.inr ⟨rfl, rfl⟩⟩ rfl rfl (Int.not_lt.mp (Int.not_lt.mpr h0)) dX8_init_236 (fun v87 => ?_)
  refine g_aload_n F rfl 0 rfl dX8_init_239 ?_
  refine g_bipush F rfl (by decide) dX8_init_240 ?_
  refine g_chk (fun n89 => ?_)
  refine h_newa F (n := 60) (Kz := 74) 0 ak_74 rfl rfl aw_boolean rfl (Nat.le_of_ble_eq_true rfl) rfl n89 rfl (Nat.le_of_ble_eq_true rfl) (Nat.le_of_ble_eq_true rfl) dX8_init_242 (fun v88 => ?_)
  refine h_put F (sI := 34) fl_RX8_99 ⟨_, rfl, Or.inr ⟨rfl, rfl⟩⟩ rfl rfl (Int.not_lt.mp (Int.not_lt.mpr h0)) dX8_init_244 (fun v90 => ?_)
  refine g_aload_n F rfl 0 rfl dX8_init_247 ?_
  refine g_bipush F rfl (by decide) dX8_init_248 ?_
  refine g_chk (fun n92 => ?_)
  refine h_newa F (n := 60) (Kz := 75) 0 ak_75 rfl rfl aw_int rfl (Nat.le_of_ble_eq_true rfl) rfl n92 rfl (Nat.le_of_ble_eq_true rfl) (Nat.le_of_ble_eq_true rfl) dX8_init_250 (fun v91 => ?_)
  refine h_put F (sI := 35) fl_RX8_102 ⟨_, rfl, Or.inr ⟨rfl, rfl⟩⟩ rfl rfl (Int.not_lt.mp (Int.not_lt.mpr h0)) dX8_init_252 (fun v93 => ?_)
  refine g_aload_n F rfl 0 rfl dX8_init_255 ?_
  refine g_bipush F rfl (by decide) dX8_init_256 ?_
  refine g_chk (fun n95 => ?_)
  refine h_newa F (n := 20) (Kz := 77) 0 ak_77 rfl rfl aw_int rfl (Nat.le_of_ble_eq_true rfl) rfl n95 rfl (Nat.le_of_ble_eq_true rfl) (Nat.le_of_ble_eq_true rfl) dX8_init_258 (fun v94 => ?_)
  refine h_put F (sI := 37) fl_RX8_105 ⟨_, rfl, Or.inr ⟨rfl, rfl⟩⟩ rfl rfl (Int.not_lt.mp (Int.not_lt.mpr h0)) dX8_init_260 (fun v96 => ?_)
  refine g_aload_n F rfl 0 rfl dX8_init_263 ?_
  refine g_bipush F rfl (by decide) dX8_init_264 ?_
  refine g_chk (fun n98 => ?_)
  refine h_newa F (n := 20) (Kz := 78) 0 ak_78 rfl rfl aw_int rfl (Nat.le_of_ble_eq_true rfl) rfl n98 rfl (Nat.le_of_ble_eq_true rfl) (Nat.le_of_ble_eq_true rfl) dX8_init_266 (fun v97 => ?_)
  refine h_put F (sI := 38) fl_RX8_108 ⟨_, rfl, Or.inr ⟨rfl, rfl⟩⟩ rfl rfl (Int.not_lt.mp (Int.not_lt.mpr h0)) dX8_init_268 (fun v99 => ?_)
  refine g_aload_n F rfl 0 rfl dX8_init_271 ?_
  refine g_bipush F rfl (by decide) dX8_init_272 ?_
  refine g_chk (fun n101 => ?_)
  refine h_newa F (n := 20) (Kz := 79) 0 ak_79 rfl rfl aw_int rfl (Nat.le_of_ble_eq_true rfl) rfl n101 rfl (Nat.le_of_ble_eq_true rfl) (Nat.le_of_ble_eq_true rfl) dX8_init_274 (fun v100 => ?_)
  refine h_put F (sI := 39) fl_RX8_111 ⟨_, rfl, Or.inr ⟨rfl, rfl⟩⟩ rfl rfl (Int.not_lt.mp (Int.not_lt.mpr h0)) dX8_init_276 (fun v102 => ?_)
  refine g_aload_n F rfl 0 rfl dX8_init_279 ?_
  refine g_bipush F rfl (by decide) dX8_init_280 ?_
  refine g_chk (fun n104 => ?_)
  refine h_newa F (n := 20) (Kz := 80) 0 ak_80 rfl rfl aw_int rfl (Nat.le_of_ble_eq_true rfl) rfl n104 rfl (Nat.le_of_ble_eq_true rfl) (Nat.le_of_ble_eq_true rfl) dX8_init_282 (fun v103 => ?_)
  refine h_put F (sI := 40) fl_RX8_114 ⟨_, rfl, Or.inr ⟨rfl, rfl⟩⟩ rfl rfl (Int.not_lt.mp (Int.not_lt.mpr h0)) dX8_init_284 (fun v105 => ?_)
  refine g_aload_n F rfl 0 rfl dX8_init_287 ?_
  refine g_bipush F rfl (by decide) dX8_init_288 ?_
  refine g_chk (fun n107 => ?_)
  refine h_newa F (n := 20) (Kz := 81) 0 ak_81 rfl rfl aw_int rfl (Nat.le_of_ble_eq_true rfl) rfl n107 rfl (Nat.le_of_ble_eq_true rfl) (Nat.le_of_ble_eq_true rfl) dX8_init_290 (fun v106 => ?_)
  refine h_put F (sI := 41) fl_RX8_117 ⟨_, rfl, Or.inr ⟨rfl, rfl⟩⟩ rfl rfl (Int.not_lt.mp (Int.not_lt.mpr h0)) dX8_init_292 (fun v108 => ?_)
  refine g_aload_n F rfl 0 rfl dX8_init_295 ?_
  refine g_bipush F rfl (by decide) dX8_init_296 ?_
  refine g_chk (fun n110 => ?_)
  refine h_newa F (n := 20) (Kz := 82) 0 ak_82 rfl rfl aw_int rfl (Nat.le_of_ble_eq_true rfl) rfl n110 rfl (Nat.le_of_ble_eq_true rfl) (Nat.le_of_ble_eq_true rfl) dX8_init_298 (fun v109 => ?_)
  refine h_put F (sI := 42) fl_RX8_120 ⟨_, rfl, Or.inr ⟨rfl, rfl⟩⟩ rfl rfl (Int.not_lt.mp (Int.not_lt.mpr h0)) dX8_init_300 (fun v111 => ?_)
  refine g_aload_n F rfl 0 rfl dX8_init_303 ?_
  refine g_bipush F rfl (by decide) dX8_init_304 ?_
  refine g_chk (fun n113 => ?_)
  refine h_newa F (n := 20) (Kz := 83) 0 ak_83 rfl rfl aw_boolean rfl (Nat.le_of_ble_eq_true rfl) rfl n113 rfl (Nat.le_of_ble_eq_true rfl) (Nat.le_of_ble_eq_true rfl) dX8_init_306 (fun v112 => ?_)
  refine h_put F (sI := 43) fl_RX8_123 ⟨_, rfl, Or.inr ⟨rfl, rfl⟩⟩ rfl rfl (Int.not_lt.mp (Int.not_lt.mpr h0)) dX8_init_308 (fun v114 => ?_)
  exact g_return F rfl (Nat.le_of_ble_eq_true rfl) (Nat.le_of_ble_eq_true rfl) dX8_init_311
theorem c_X8_init (a0 : Int) (h0 : 0 ≤ a0) : ∀ l, Ct l yX8_init cX8_init 1 none ({ frames := 1, cells := 38, slots := 4220, locals := 12 }) none [(18, a0)] (sp_X8_init a0) := g_method (by decide +kernel) (Nat.le_of_ble_eq_true rfl) (fun x v F ho => k_X8_init a0 h0 x v F ho)
def sp_X8_thrown (a0 : Int) (v : V) : Res := (rOk (v 8 a0 0) v)
set_option maxRecDepth 100000 in
set_option maxHeartbeats 4000000 in
theorem k_X8_thrown (a0 : Int) (h0 : 0 ≤ a0) (x : Cx) (v : V) (F : Fx x cX8_thrown RX8 "thrown" ({ frames := 0, cells := 0, slots := 0, locals := 0 }) 1 (some 0) (some .int) 0) (ho : ∀ a ∈ [(18, a0)], okv v a) : Gs x (sp_X8_thrown a0 v) v 0 0 0 (avArgs 0 [(18, a0)]) [] := by
  show Gs x _ v 0 0 0 [(0, (18, a0))] []
  unfold sp_X8_thrown
  refine g_aload_n F rfl 0 rfl dX8_thrown_0 ?_
  refine g_get F (t := 0) (sI := 0) fl_RX8_126 rfl rfl (Int.not_lt.mp (Int.not_lt.mpr h0)) dX8_thrown_1 ?_
  exact g_ireturn F rfl rfl rfl rfl (Nat.le_of_ble_eq_true rfl) (Nat.le_of_ble_eq_true rfl) dX8_thrown_4
theorem c_X8_thrown (a0 : Int) (h0 : 0 ≤ a0) : ∀ l, Ct l yX8_thrown cX8_thrown 1 (some .int) ({ frames := 0, cells := 0, slots := 0, locals := 0 }) (some 0) [(18, a0)] (sp_X8_thrown a0) := g_method (by decide +kernel) (Nat.le_of_ble_eq_true rfl) (fun x v F ho => k_X8_thrown a0 h0 x v F ho)
def sp_X8_holds (a0 a1 : Int) (v : V) : Res := (rLet (up v 8 a0 0 a1) (fun v1 => (if ¬ a1 = 0 then (rOk 0 v1)
   else (rOk 1 v1))))
set_option maxRecDepth 100000 in
set_option maxHeartbeats 4000000 in
theorem k_X8_holds (a0 a1 : Int) (h0 : 0 ≤ a0) (x : Cx) (v : V) (F : Fx x cX8_holds RX8 "holds" ({ frames := 0, cells := 0, slots := 0, locals := 0 }) 2 (some 2) (some .boolean) 0) (ho : ∀ a ∈ [(18, a0), (0, a1)], okv v a) : Gs x (sp_X8_holds a0 a1 v) v 0 0 0 (avArgs 0 [(18, a0), (0, a1)]) [] := by
  show Gs x _ v 0 0 0 [(0, (18, a0)), (1, (0, a1))] []
  unfold sp_X8_holds
  refine g_aload_n F rfl 0 rfl dX8_holds_0 ?_
  refine g_iload_n F rfl 1 rfl rfl dX8_holds_1 ?_
  refine h_put F (sI := 0) fl_RX8_126 ⟨_, rfl, Or.inl rfl⟩ rfl rfl (Int.not_lt.mp (Int.not_lt.mpr h0)) dX8_holds_2 (fun v1 => ?_)
  refine g_iload_n F rfl 1 rfl rfl dX8_holds_5 ?_
  refine g_if_ne F rfl (tgt := 13) rfl dX8_holds_6 (fun n2 => ?_) (fun n2 => ?_)
  · refine g_iconst F 2 rfl dX8_holds_13 ?_
    exact g_ireturn F rfl rfl rfl rfl (Nat.le_of_ble_eq_true rfl) (Nat.le_of_ble_eq_true rfl) dX8_holds_14
  · refine g_iconst F 2 rfl dX8_holds_9 ?_
    refine g_goto F (tgt := 14) rfl dX8_holds_10 ?_
    exact g_ireturn F rfl rfl rfl rfl (Nat.le_of_ble_eq_true rfl) (Nat.le_of_ble_eq_true rfl) dX8_holds_14
theorem c_X8_holds (a0 a1 : Int) (h0 : 0 ≤ a0) : ∀ l, Ct l yX8_holds cX8_holds 2 (some .boolean) ({ frames := 0, cells := 0, slots := 0, locals := 0 }) (some 2) [(18, a0), (0, a1)] (sp_X8_holds a0 a1) := g_method (by decide +kernel) (Nat.le_of_ble_eq_true rfl) (fun x v F ho => k_X8_holds a0 a1 h0 x v F ho)
def sp_X8_in (a0 a1 a2 : Int) (v : V) : Res := (if a0 < a1 then (rOk 0 v)
   else (if a2 < a0 then (rOk 0 v)
   else (rOk 1 v)))
set_option maxRecDepth 100000 in
set_option maxHeartbeats 4000000 in
theorem k_X8_in (a0 a1 a2 : Int) (x : Cx) (v : V) (F : Fx x cX8_in RX8 "in" ({ frames := 0, cells := 0, slots := 0, locals := 0 }) 3 (some 2) (some .boolean) 0) (ho : ∀ a ∈ [(0, a0), (0, a1), (0, a2)], okv v a) : Gs x (sp_X8_in a0 a1 a2 v) v 0 0 0 (avArgs 0 [(0, a0), (0, a1), (0, a2)]) [] := by
  show Gs x _ v 0 0 0 [(0, (0, a0)), (1, (0, a1)), (2, (0, a2))] []
  unfold sp_X8_in
  refine g_iload_n F rfl 0 rfl rfl dX8_in_0 ?_
  refine g_iload_n F rfl 1 rfl rfl dX8_in_1 ?_
  refine g_icmp_lt F rfl rfl (tgt := 14) rfl dX8_in_2 (fun n1 => ?_) (fun n1 => ?_)
  · refine g_iconst F 2 rfl dX8_in_14 ?_
    exact g_ireturn F rfl rfl rfl rfl (Nat.le_of_ble_eq_true rfl) (Nat.le_of_ble_eq_true rfl) dX8_in_15
  · refine g_iload_n F rfl 0 rfl rfl dX8_in_5 ?_
    refine g_iload_n F rfl 2 rfl rfl dX8_in_6 ?_
    refine g_icmp_gt F rfl rfl (tgt := 14) rfl dX8_in_7 (fun n2 => ?_) (fun n2 => ?_)
    · refine g_iconst F 2 rfl dX8_in_14 ?_
      exact g_ireturn F rfl rfl rfl rfl (Nat.le_of_ble_eq_true rfl) (Nat.le_of_ble_eq_true rfl) dX8_in_15
    · refine g_iconst F 2 rfl dX8_in_10 ?_
      refine g_goto F (tgt := 15) rfl dX8_in_11 ?_
      exact g_ireturn F rfl rfl rfl rfl (Nat.le_of_ble_eq_true rfl) (Nat.le_of_ble_eq_true rfl) dX8_in_15
theorem c_X8_in (a0 a1 a2 : Int) : ∀ l, Ct l yX8_in cX8_in 3 (some .boolean) ({ frames := 0, cells := 0, slots := 0, locals := 0 }) (some 2) [(0, a0), (0, a1), (0, a2)] (sp_X8_in a0 a1 a2) := g_method (by decide +kernel) (Nat.le_of_ble_eq_true rfl) (fun x v F ho => k_X8_in a0 a1 a2 x v F ho)
def sp_X8_isParty (a0 a1 : Int) (v : V) : Res := (rB (sp_X8_in a1 0 (w32 ((v 8 a0 2) - 1)) v) (fun z1 v1 => (rOk z1 v1)))
set_option maxRecDepth 100000 in
set_option maxHeartbeats 4000000 in
theorem k_X8_isParty (a0 a1 : Int) (h0 : 0 ≤ a0) (x : Cx) (v : V) (F : Fx x cX8_isParty RX8 "isParty" ({ frames := 1, cells := 0, slots := 0, locals := 22 }) 2 (some 2) (some .boolean) 0) (ho : ∀ a ∈ [(18, a0), (0, a1)], okv v a) : Gs x (sp_X8_isParty a0 a1 v) v 0 0 0 (avArgs 0 [(18, a0), (0, a1)]) [] := by
  show Gs x _ v 0 0 0 [(0, (18, a0)), (1, (0, a1))] []
  unfold sp_X8_isParty
  refine g_iload_n F rfl 1 rfl rfl dX8_isParty_0 ?_
  refine g_iconst F 2 rfl dX8_isParty_1 ?_
  refine g_aload_n F rfl 0 rfl dX8_isParty_2 ?_
  refine g_get F (t := 0) (sI := 2) fl_RX8_130 rfl rfl (Int.not_lt.mp (Int.not_lt.mpr h0)) dX8_isParty_3 ?_
  refine g_iconst F 2 rfl dX8_isParty_6 ?_
  refine g_isub F rfl rfl dX8_isParty_7 ?_
  refine g_callS F (by decide) [(0, a1), (2, 0), (0, (w32 ((v 8 a0 2) - 1)))] [0, 0, 0] ml_RX8_133 wt_X8_in (c_X8_in a1 0 (w32 ((v 8 a0 2) - 1))) mi_X8_in rfl rfl rfl (Nat.le_of_ble_eq_true rfl) (Nat.le_of_ble_eq_true rfl) (Nat.le_of_ble_eq_true rfl) (Nat.le_of_ble_eq_true rfl) (Nat.le_of_ble_eq_true rfl) dX8_isParty_8 (fun z1 v1 hz1 => ?_)
  exact g_ireturn F rfl rfl rfl rfl (Nat.le_of_ble_eq_true rfl) (Nat.le_of_ble_eq_true rfl) dX8_isParty_11
theorem c_X8_isParty (a0 a1 : Int) (h0 : 0 ≤ a0) : ∀ l, Ct l yX8_isParty cX8_isParty 2 (some .boolean) ({ frames := 1, cells := 0, slots := 0, locals := 22 }) (some 2) [(18, a0), (0, a1)] (sp_X8_isParty a0 a1) := g_method (by decide +kernel) (Nat.le_of_ble_eq_true rfl) (fun x v F ho => k_X8_isParty a0 a1 h0 x v F ho)
def sp_X8_isWork (a0 a1 : Int) (v : V) : Res := (rB (sp_X8_in a1 0 (w32 ((v 8 a0 9) - 1)) v) (fun z1 v1 => (rOk z1 v1)))
set_option maxRecDepth 100000 in
set_option maxHeartbeats 4000000 in
theorem k_X8_isWork (a0 a1 : Int) (h0 : 0 ≤ a0) (x : Cx) (v : V) (F : Fx x cX8_isWork RX8 "isWork" ({ frames := 1, cells := 0, slots := 0, locals := 22 }) 2 (some 2) (some .boolean) 0) (ho : ∀ a ∈ [(18, a0), (0, a1)], okv v a) : Gs x (sp_X8_isWork a0 a1 v) v 0 0 0 (avArgs 0 [(18, a0), (0, a1)]) [] := by
  show Gs x _ v 0 0 0 [(0, (18, a0)), (1, (0, a1))] []
  unfold sp_X8_isWork
  refine g_iload_n F rfl 1 rfl rfl dX8_isWork_0 ?_
  refine g_iconst F 2 rfl dX8_isWork_1 ?_
  refine g_aload_n F rfl 0 rfl dX8_isWork_2 ?_
  refine g_get F (t := 0) (sI := 9) fl_RX8_137 rfl rfl (Int.not_lt.mp (Int.not_lt.mpr h0)) dX8_isWork_3 ?_
  refine g_iconst F 2 rfl dX8_isWork_6 ?_
  refine g_isub F rfl rfl dX8_isWork_7 ?_
  refine g_callS F (by decide) [(0, a1), (2, 0), (0, (w32 ((v 8 a0 9) - 1)))] [0, 0, 0] ml_RX8_133 wt_X8_in (c_X8_in a1 0 (w32 ((v 8 a0 9) - 1))) mi_X8_in rfl rfl rfl (Nat.le_of_ble_eq_true rfl) (Nat.le_of_ble_eq_true rfl) (Nat.le_of_ble_eq_true rfl) (Nat.le_of_ble_eq_true rfl) (Nat.le_of_ble_eq_true rfl) dX8_isWork_8 (fun z1 v1 hz1 => ?_)
  exact g_ireturn F rfl rfl rfl rfl (Nat.le_of_ble_eq_true rfl) (Nat.le_of_ble_eq_true rfl) dX8_isWork_11
theorem c_X8_isWork (a0 a1 : Int) (h0 : 0 ≤ a0) : ∀ l, Ct l yX8_isWork cX8_isWork 2 (some .boolean) ({ frames := 1, cells := 0, slots := 0, locals := 22 }) (some 2) [(18, a0), (0, a1)] (sp_X8_isWork a0 a1) := g_method (by decide +kernel) (Nat.le_of_ble_eq_true rfl) (fun x v F ho => k_X8_isWork a0 a1 h0 x v F ho)
def sp_X8_isLot (a0 a1 : Int) (v : V) : Res := (rB (sp_X8_in a1 0 (w32 ((v 8 a0 21) - 1)) v) (fun z1 v1 => (rOk z1 v1)))
set_option maxRecDepth 100000 in
set_option maxHeartbeats 4000000 in
theorem k_X8_isLot (a0 a1 : Int) (h0 : 0 ≤ a0) (x : Cx) (v : V) (F : Fx x cX8_isLot RX8 "isLot" ({ frames := 1, cells := 0, slots := 0, locals := 22 }) 2 (some 2) (some .boolean) 0) (ho : ∀ a ∈ [(18, a0), (0, a1)], okv v a) : Gs x (sp_X8_isLot a0 a1 v) v 0 0 0 (avArgs 0 [(18, a0), (0, a1)]) [] := by
  show Gs x _ v 0 0 0 [(0, (18, a0)), (1, (0, a1))] []
  unfold sp_X8_isLot
  refine g_iload_n F rfl 1 rfl rfl dX8_isLot_0 ?_
  refine g_iconst F 2 rfl dX8_isLot_1 ?_
  refine g_aload_n F rfl 0 rfl dX8_isLot_2 ?_
  refine g_get F (t := 0) (sI := 21) fl_RX8_140 rfl rfl (Int.not_lt.mp (Int.not_lt.mpr h0)) dX8_isLot_3 ?_
  refine g_iconst F 2 rfl dX8_isLot_6 ?_
  refine g_isub F rfl rfl dX8_isLot_7 ?_
  refine g_callS F (by decide) [(0, a1), (2, 0), (0, (w32 ((v 8 a0 21) - 1)))] [0, 0, 0] ml_RX8_133 wt_X8_in (c_X8_in a1 0 (w32 ((v 8 a0 21) - 1))) mi_X8_in rfl rfl rfl (Nat.le_of_ble_eq_true rfl) (Nat.le_of_ble_eq_true rfl) (Nat.le_of_ble_eq_true rfl) (Nat.le_of_ble_eq_true rfl) (Nat.le_of_ble_eq_true rfl) dX8_isLot_8 (fun z1 v1 hz1 => ?_)
  exact g_ireturn F rfl rfl rfl rfl (Nat.le_of_ble_eq_true rfl) (Nat.le_of_ble_eq_true rfl) dX8_isLot_11
theorem c_X8_isLot (a0 a1 : Int) (h0 : 0 ≤ a0) : ∀ l, Ct l yX8_isLot cX8_isLot 2 (some .boolean) ({ frames := 1, cells := 0, slots := 0, locals := 22 }) (some 2) [(18, a0), (0, a1)] (sp_X8_isLot a0 a1) := g_method (by decide +kernel) (Nat.le_of_ble_eq_true rfl) (fun x v F ho => k_X8_isLot a0 a1 h0 x v F ho)
def sp_X8_isLoan (a0 a1 : Int) (v : V) : Res := (rB (sp_X8_in a1 0 (w32 ((v 8 a0 36) - 1)) v) (fun z1 v1 => (rOk z1 v1)))
set_option maxRecDepth 100000 in
set_option maxHeartbeats 4000000 in
theorem k_X8_isLoan (a0 a1 : Int) (h0 : 0 ≤ a0) (x : Cx) (v : V) (F : Fx x cX8_isLoan RX8 "isLoan" ({ frames := 1, cells := 0, slots := 0, locals := 22 }) 2 (some 2) (some .boolean) 0) (ho : ∀ a ∈ [(18, a0), (0, a1)], okv v a) : Gs x (sp_X8_isLoan a0 a1 v) v 0 0 0 (avArgs 0 [(18, a0), (0, a1)]) [] := by
  show Gs x _ v 0 0 0 [(0, (18, a0)), (1, (0, a1))] []
  unfold sp_X8_isLoan
  refine g_iload_n F rfl 1 rfl rfl dX8_isLoan_0 ?_
  refine g_iconst F 2 rfl dX8_isLoan_1 ?_
  refine g_aload_n F rfl 0 rfl dX8_isLoan_2 ?_
  refine g_get F (t := 0) (sI := 36) fl_RX8_143 rfl rfl (Int.not_lt.mp (Int.not_lt.mpr h0)) dX8_isLoan_3 ?_
  refine g_iconst F 2 rfl dX8_isLoan_6 ?_
  refine g_isub F rfl rfl dX8_isLoan_7 ?_
  refine g_callS F (by decide) [(0, a1), (2, 0), (0, (w32 ((v 8 a0 36) - 1)))] [0, 0, 0] ml_RX8_133 wt_X8_in (c_X8_in a1 0 (w32 ((v 8 a0 36) - 1))) mi_X8_in rfl rfl rfl (Nat.le_of_ble_eq_true rfl) (Nat.le_of_ble_eq_true rfl) (Nat.le_of_ble_eq_true rfl) (Nat.le_of_ble_eq_true rfl) (Nat.le_of_ble_eq_true rfl) dX8_isLoan_8 (fun z1 v1 hz1 => ?_)
  exact g_ireturn F rfl rfl rfl rfl (Nat.le_of_ble_eq_true rfl) (Nat.le_of_ble_eq_true rfl) dX8_isLoan_11
theorem c_X8_isLoan (a0 a1 : Int) (h0 : 0 ≤ a0) : ∀ l, Ct l yX8_isLoan cX8_isLoan 2 (some .boolean) ({ frames := 1, cells := 0, slots := 0, locals := 22 }) (some 2) [(18, a0), (0, a1)] (sp_X8_isLoan a0 a1) := g_method (by decide +kernel) (Nat.le_of_ble_eq_true rfl) (fun x v F ho => k_X8_isLoan a0 a1 h0 x v F ho)
def sp_X8_isLand (a0 : Int) (v : V) : Res := (rB (sp_X8_in a0 0 3 v) (fun z1 v1 => (rOk z1 v1)))
set_option maxRecDepth 100000 in
set_option maxHeartbeats 4000000 in
theorem k_X8_isLand (a0 : Int) (x : Cx) (v : V) (F : Fx x cX8_isLand RX8 "isLand" ({ frames := 1, cells := 0, slots := 0, locals := 22 }) 1 (some 2) (some .boolean) 0) (ho : ∀ a ∈ [(0, a0)], okv v a) : Gs x (sp_X8_isLand a0 v) v 0 0 0 (avArgs 0 [(0, a0)]) [] := by
  show Gs x _ v 0 0 0 [(0, (0, a0))] []
  unfold sp_X8_isLand
  refine g_iload_n F rfl 0 rfl rfl dX8_isLand_0 ?_
  refine g_iconst F 2 rfl dX8_isLand_1 ?_
  refine g_iconst F 0 rfl dX8_isLand_2 ?_
  refine g_callS F (by decide) [(0, a0), (2, 0), (0, 3)] [0, 0, 0] ml_RX8_133 wt_X8_in (c_X8_in a0 0 3) mi_X8_in rfl rfl rfl (Nat.le_of_ble_eq_true rfl) (Nat.le_of_ble_eq_true rfl) (Nat.le_of_ble_eq_true rfl) (Nat.le_of_ble_eq_true rfl) (Nat.le_of_ble_eq_true rfl) dX8_isLand_3 (fun z1 v1 hz1 => ?_)
  exact g_ireturn F rfl rfl rfl rfl (Nat.le_of_ble_eq_true rfl) (Nat.le_of_ble_eq_true rfl) dX8_isLand_6
theorem c_X8_isLand (a0 : Int) : ∀ l, Ct l yX8_isLand cX8_isLand 1 (some .boolean) ({ frames := 1, cells := 0, slots := 0, locals := 22 }) (some 2) [(0, a0)] (sp_X8_isLand a0) := g_method (by decide +kernel) (Nat.le_of_ble_eq_true rfl) (fun x v F ho => k_X8_isLand a0 x v F ho)
def sp_X8_party (a0 a1 a2 : Int) (v : V) : Res := (rB (sp_X8_isLand a2 v) (fun z1 v1 => (if ¬ z1 = 0 then (rB (sp_X8_in a1 0 1000000 v1) (fun z3 v3 => (if ¬ z3 = 0 then (if ¬ (v3 8 a0 2) = 10 then (rB (sp_X8_holds a0 0 v3) (fun z6 v6 => (if ¬ z6 = 0 then (chk (0 ≤ (v6 8 a0 3)) (chk (0 ≤ (v6 8 a0 2) ∧ (v6 8 a0 2) < 10) (rLet (up v6 43 (v6 8 a0 3) (v6 8 a0 2) a1) (fun v10 => (chk (0 ≤ (v10 8 a0 4)) (chk (0 ≤ (v10 8 a0 2) ∧ (v10 8 a0 2) < 10) (rLet (up v10 44 (v10 8 a0 4) (v10 8 a0 2) a2) (fun v13 => (rLet (up v13 8 a0 2 (w32 ((v13 8 a0 2) + 1))) (fun v14 => (rOk (w32 ((v14 8 a0 2) - 1)) v14)))))))))))
   else none)))
   else (rB (sp_X8_holds a0 3 v3) (fun z15 v15 => (if ¬ z15 = 0 then none
   else (rOk 0 v15)))))
   else (rB (sp_X8_holds a0 2 v3) (fun z17 v17 => (if ¬ z17 = 0 then none
   else (rOk 0 v17)))))))
   else (rB (sp_X8_holds a0 1 v1) (fun z19 v19 => (if ¬ z19 = 0 then none
   else (rOk 0 v19)))))))
set_option maxRecDepth 100000 in
set_option maxHeartbeats 4000000 in
theorem k_X8_party (a0 a1 a2 : Int) (h0 : 0 ≤ a0) (x : Cx) (v : V) (F : Fx x cX8_party RX8 "party" ({ frames := 2, cells := 0, slots := 0, locals := 42 }) 3 (some 0) (some .int) 0) (ho : ∀ a ∈ [(18, a0), (0, a1), (0, a2)], okv v a) : Gs x (sp_X8_party a0 a1 a2 v) v 0 0 0 (avArgs 0 [(18, a0), (0, a1), (0, a2)]) [] := by
  show Gs x _ v 0 0 0 [(0, (18, a0)), (1, (0, a1)), (2, (0, a2))] []
  unfold sp_X8_party
  refine g_aload_n F rfl 0 rfl dX8_party_0 ?_
  refine g_iload_n F rfl 2 rfl rfl dX8_party_1 ?_
  refine g_callS F (by decide) [(0, a2)] [0] ml_RX8_146 wt_X8_isLand (c_X8_isLand a2) mi_X8_isLand rfl rfl rfl (Nat.le_of_ble_eq_true rfl) (Nat.le_of_ble_eq_true rfl) (Nat.le_of_ble_eq_true rfl) (Nat.le_of_ble_eq_true rfl) (Nat.le_of_ble_eq_true rfl) dX8_party_2 (fun z1 v1 hz1 => ?_)
  refine g_if_ne F rfl (tgt := 12) rfl dX8_party_5 (fun n2 => ?_) (fun n2 => ?_)
  · refine g_iload_n F rfl 1 rfl rfl dX8_party_12 ?_
    refine g_iconst F 2 rfl dX8_party_13 ?_
    refine g_ldc F rfl cn_RX8_150 dX8_party_14 ?_
    refine g_callS F (by decide) [(0, a1), (2, 0), (0, 1000000)] [0, 0, 0] ml_RX8_133 wt_X8_in (c_X8_in a1 0 1000000) mi_X8_in rfl rfl rfl (Nat.le_of_ble_eq_true rfl) (Nat.le_of_ble_eq_true rfl) (Nat.le_of_ble_eq_true rfl) (Nat.le_of_ble_eq_true rfl) (Nat.le_of_ble_eq_true rfl) dX8_party_16 (fun z3 v3 hz3 => ?_)
    refine g_if_ne F rfl (tgt := 26) rfl dX8_party_19 (fun n4 => ?_) (fun n4 => ?_)
    · refine g_aload_n F rfl 0 rfl dX8_party_26 ?_
      refine g_get F (t := 0) (sI := 2) fl_RX8_130 rfl rfl (Int.not_lt.mp (Int.not_lt.mpr h0)) dX8_party_27 ?_
      refine g_bipush F rfl (by decide) dX8_party_30 ?_
      refine g_icmp_ne F rfl rfl (tgt := 39) rfl dX8_party_32 (fun n5 => ?_) (fun n5 => ?_)
      · refine g_iconst F 2 rfl dX8_party_39 ?_
        refine g_callV F (by decide) (K := 8) (b := a0) [(2, 0)] [0] ml_RX8_151 wi_X8_holds ws_X8_holds (c_X8_holds a0 0 (Int.not_lt.mp (Int.not_lt.mpr h0))) mi_X8_holds (by decide) ⟨_, rfl, rfl⟩ (Int.not_lt.mp (Int.not_lt.mpr h0)) rfl rfl rfl (Nat.le_of_ble_eq_true rfl) (Nat.le_of_ble_eq_true rfl) (Nat.le_of_ble_eq_true rfl) (Nat.le_of_ble_eq_true rfl) (Nat.le_of_ble_eq_true rfl) dX8_party_40 (fun z6 v6 hz6 => ?_)
        refine g_if_ne F rfl (tgt := 48) rfl dX8_party_43 (fun n7 => ?_) (fun n7 => ?_)
        · refine g_aload_n F rfl 0 rfl dX8_party_48 ?_
          refine g_get F (t := 53) (sI := 3) fl_RX8_7 rfl rfl (Int.not_lt.mp (Int.not_lt.mpr h0)) dX8_party_49 ?_
          refine g_aload_n F rfl 0 rfl dX8_party_52 ?_
          refine g_get F (t := 0) (sI := 2) fl_RX8_130 rfl rfl (Int.not_lt.mp (Int.not_lt.mpr h0)) dX8_party_53 ?_
          refine g_iload_n F rfl 1 rfl rfl dX8_party_56 ?_
          refine g_i2l F rfl dX8_party_57 ?_
          refine g_chk (fun n8 => ?_)
          refine g_chk (fun n9 => ?_)
          refine h_last F (n := 10) ak_43 rfl (Int.not_lt.mp (Int.not_lt.mpr n8)) n9 rfl dX8_party_58 (fun v10 => ?_)
          refine g_aload_n F rfl 0 rfl dX8_party_59 ?_
          refine g_get F (t := 54) (sI := 4) fl_RX8_13 rfl rfl (Int.not_lt.mp (Int.not_lt.mpr h0)) dX8_party_60 ?_
          refine g_aload_n F rfl 0 rfl dX8_party_63 ?_
          refine g_get F (t := 0) (sI := 2) fl_RX8_130 rfl rfl (Int.not_lt.mp (Int.not_lt.mpr h0)) dX8_party_64 ?_
          refine g_iload_n F rfl 2 rfl rfl dX8_party_67 ?_
          refine g_chk (fun n11 => ?_)
          refine g_chk (fun n12 => ?_)
          refine h_iast F (n := 10) ak_44 rfl (Int.not_lt.mp (Int.not_lt.mpr n11)) n12 rfl dX8_party_68 (fun v13 => ?_)
          refine g_aload_n F rfl 0 rfl dX8_party_69 ?_
          refine g_dup F rfl dX8_party_70 ?_
          refine g_get F (t := 0) (sI := 2) fl_RX8_130 rfl rfl (Int.not_lt.mp (Int.not_lt.mpr h0)) dX8_party_71 ?_
          refine g_iconst F 2 rfl dX8_party_74 ?_
          refine g_iadd F rfl rfl dX8_party_75 ?_
          refine h_put F (sI := 2) fl_RX8_130 ⟨_, rfl, Or.inl rfl⟩ rfl rfl (Int.not_lt.mp (Int.not_lt.mpr h0)) dX8_party_76 (fun v14 => ?_)
          refine g_aload_n F rfl 0 rfl dX8_party_79 ?_
          refine g_get F (t := 0) (sI := 2) fl_RX8_130 rfl rfl (Int.not_lt.mp (Int.not_lt.mpr h0)) dX8_party_80 ?_
          refine g_iconst F 2 rfl dX8_party_83 ?_
          refine g_isub F rfl rfl dX8_party_84 ?_
          exact g_ireturn F rfl rfl rfl rfl (Nat.le_of_ble_eq_true rfl) (Nat.le_of_ble_eq_true rfl) dX8_party_85
        · exact g_none
      · refine g_iconst F 0 rfl dX8_party_35 ?_
        refine g_goto F (tgt := 40) rfl dX8_party_36 ?_
        refine g_callV F (by decide) (K := 8) (b := a0) [(0, 3)] [0] ml_RX8_151 wi_X8_holds ws_X8_holds (c_X8_holds a0 3 (Int.not_lt.mp (Int.not_lt.mpr h0))) mi_X8_holds (by decide) ⟨_, rfl, rfl⟩ (Int.not_lt.mp (Int.not_lt.mpr h0)) rfl rfl rfl (Nat.le_of_ble_eq_true rfl) (Nat.le_of_ble_eq_true rfl) (Nat.le_of_ble_eq_true rfl) (Nat.le_of_ble_eq_true rfl) (Nat.le_of_ble_eq_true rfl) dX8_party_40 (fun z15 v15 hz15 => ?_)
        refine g_if_ne F rfl (tgt := 48) rfl dX8_party_43 (fun n16 => ?_) (fun n16 => ?_)
        · exact g_none
        · refine g_iconst F 2 rfl dX8_party_46 ?_
          exact g_ireturn F rfl rfl rfl rfl (Nat.le_of_ble_eq_true rfl) (Nat.le_of_ble_eq_true rfl) dX8_party_47
    · refine g_iconst F 0 rfl dX8_party_22 ?_
      refine g_goto F (tgt := 40) rfl dX8_party_23 ?_
      refine g_callV F (by decide) (K := 8) (b := a0) [(0, 2)] [0] ml_RX8_151 wi_X8_holds ws_X8_holds (c_X8_holds a0 2 (Int.not_lt.mp (Int.not_lt.mpr h0))) mi_X8_holds (by decide) ⟨_, rfl, rfl⟩ (Int.not_lt.mp (Int.not_lt.mpr h0)) rfl rfl rfl (Nat.le_of_ble_eq_true rfl) (Nat.le_of_ble_eq_true rfl) (Nat.le_of_ble_eq_true rfl) (Nat.le_of_ble_eq_true rfl) (Nat.le_of_ble_eq_true rfl) dX8_party_40 (fun z17 v17 hz17 => ?_)
      refine g_if_ne F rfl (tgt := 48) rfl dX8_party_43 (fun n18 => ?_) (fun n18 => ?_)
      · exact g_none
      · refine g_iconst F 2 rfl dX8_party_46 ?_
        exact g_ireturn F rfl rfl rfl rfl (Nat.le_of_ble_eq_true rfl) (Nat.le_of_ble_eq_true rfl) dX8_party_47
  · refine g_iconst F 2 rfl dX8_party_8 ?_
    refine g_goto F (tgt := 40) rfl dX8_party_9 ?_
    refine g_callV F (by decide) (K := 8) (b := a0) [(2, 1)] [0] ml_RX8_151 wi_X8_holds ws_X8_holds (c_X8_holds a0 1 (Int.not_lt.mp (Int.not_lt.mpr h0))) mi_X8_holds (by decide) ⟨_, rfl, rfl⟩ (Int.not_lt.mp (Int.not_lt.mpr h0)) rfl rfl rfl (Nat.le_of_ble_eq_true rfl) (Nat.le_of_ble_eq_true rfl) (Nat.le_of_ble_eq_true rfl) (Nat.le_of_ble_eq_true rfl) (Nat.le_of_ble_eq_true rfl) dX8_party_40 (fun z19 v19 hz19 => ?_)
    refine g_if_ne F rfl (tgt := 48) rfl dX8_party_43 (fun n20 => ?_) (fun n20 => ?_)
    · exact g_none
    · refine g_iconst F 2 rfl dX8_party_46 ?_
      exact g_ireturn F rfl rfl rfl rfl (Nat.le_of_ble_eq_true rfl) (Nat.le_of_ble_eq_true rfl) dX8_party_47
theorem c_X8_party (a0 a1 a2 : Int) (h0 : 0 ≤ a0) : ∀ l, Ct l yX8_party cX8_party 3 (some .int) ({ frames := 2, cells := 0, slots := 0, locals := 42 }) (some 0) [(18, a0), (0, a1), (0, a2)] (sp_X8_party a0 a1 a2) := g_method (by decide +kernel) (Nat.le_of_ble_eq_true rfl) (fun x v F ho => k_X8_party a0 a1 a2 h0 x v F ho)
def sp_X8_lays (a0 a1 a2 a3 a4 a5 : Int) (v : V) : Res := (chk (0 ≤ (v 8 a0 22)) (chk (0 ≤ (v 8 a0 21) ∧ (v 8 a0 21) < 60) (rLet (up v 62 (v 8 a0 22) (v 8 a0 21) a1) (fun v3 => (chk (0 ≤ (v3 8 a0 23)) (chk (0 ≤ (v3 8 a0 21) ∧ (v3 8 a0 21) < 60) (rLet (up v3 63 (v3 8 a0 23) (v3 8 a0 21) a2) (fun v6 => (chk (0 ≤ (v6 8 a0 24)) (chk (0 ≤ (v6 8 a0 21) ∧ (v6 8 a0 21) < 60) (rLet (up v6 64 (v6 8 a0 24) (v6 8 a0 21) a3) (fun v9 => (chk (0 ≤ (v9 8 a0 25)) (chk (0 ≤ (v9 8 a0 21) ∧ (v9 8 a0 21) < 60) (rLet (up v9 65 (v9 8 a0 25) (v9 8 a0 21) a4) (fun v12 => (chk (0 ≤ (v12 8 a0 26)) (chk (0 ≤ (v12 8 a0 21) ∧ (v12 8 a0 21) < 60) (rLet (up v12 66 (v12 8 a0 26) (v12 8 a0 21) (-1)) (fun v15 => (chk (0 ≤ (v15 8 a0 30)) (chk (0 ≤ (v15 8 a0 21) ∧ (v15 8 a0 21) < 60) (rLet (up v15 70 (v15 8 a0 30) (v15 8 a0 21) a5) (fun v18 => (chk (0 ≤ (v18 8 a0 31)) (chk (0 ≤ (v18 8 a0 21) ∧ (v18 8 a0 21) < 60) (rLet (up v18 71 (v18 8 a0 31) (v18 8 a0 21) (-1)) (fun v21 => (rLet (up v21 8 a0 21 (w32 ((v21 8 a0 21) + 1))) (fun v22 => (rOk (w32 ((v22 8 a0 21) - 1)) v22)))))))))))))))))))))))))))))))
set_option maxRecDepth 100000 in
set_option maxHeartbeats 4000000 in
theorem k_X8_lays (a0 a1 a2 a3 a4 a5 : Int) (h0 : 0 ≤ a0) (x : Cx) (v : V) (F : Fx x cX8_lays RX8 "lays" ({ frames := 0, cells := 0, slots := 0, locals := 0 }) 6 (some 0) (some .int) 0) (ho : ∀ a ∈ [(18, a0), (0, a1), (0, a2), (0, a3), (0, a4), (0, a5)], okv v a) : Gs x (sp_X8_lays a0 a1 a2 a3 a4 a5 v) v 0 0 0 (avArgs 0 [(18, a0), (0, a1), (0, a2), (0, a3), (0, a4), (0, a5)]) [] := by
  show Gs x _ v 0 0 0 [(0, (18, a0)), (1, (0, a1)), (2, (0, a2)), (3, (0, a3)), (4, (0, a4)), (5, (0, a5))] []
  unfold sp_X8_lays
  refine g_aload_n F rfl 0 rfl dX8_lays_0 ?_
  refine g_get F (t := 72) (sI := 22) fl_RX8_63 rfl rfl (Int.not_lt.mp (Int.not_lt.mpr h0)) dX8_lays_1 ?_
  refine g_aload_n F rfl 0 rfl dX8_lays_4 ?_
  refine g_get F (t := 0) (sI := 21) fl_RX8_140 rfl rfl (Int.not_lt.mp (Int.not_lt.mpr h0)) dX8_lays_5 ?_
  refine g_iload_n F rfl 1 rfl rfl dX8_lays_8 ?_
  refine g_chk (fun n1 => ?_)
  refine g_chk (fun n2 => ?_)
  refine h_iast F (n := 60) ak_62 rfl (Int.not_lt.mp (Int.not_lt.mpr n1)) n2 rfl dX8_lays_9 (fun v3 => ?_)
  refine g_aload_n F rfl 0 rfl dX8_lays_10 ?_
  refine g_get F (t := 73) (sI := 23) fl_RX8_66 rfl rfl (Int.not_lt.mp (Int.not_lt.mpr h0)) dX8_lays_11 ?_
  refine g_aload_n F rfl 0 rfl dX8_lays_14 ?_
  refine g_get F (t := 0) (sI := 21) fl_RX8_140 rfl rfl (Int.not_lt.mp (Int.not_lt.mpr h0)) dX8_lays_15 ?_
  refine g_iload_n F rfl 2 rfl rfl dX8_lays_18 ?_
  refine g_chk (fun n4 => ?_)
  refine g_chk (fun n5 => ?_)
  refine h_iast F (n := 60) ak_63 rfl (Int.not_lt.mp (Int.not_lt.mpr n4)) n5 rfl dX8_lays_19 (fun v6 => ?_)
  refine g_aload_n F rfl 0 rfl dX8_lays_20 ?_
  refine g_get F (t := 74) (sI := 24) fl_RX8_69 rfl rfl (Int.not_lt.mp (Int.not_lt.mpr h0)) dX8_lays_21 ?_
  refine g_aload_n F rfl 0 rfl dX8_lays_24 ?_
  refine g_get F (t := 0) (sI := 21) fl_RX8_140 rfl rfl (Int.not_lt.mp (Int.not_lt.mpr h0)) dX8_lays_25 ?_
  refine g_iload_n F rfl 3 rfl rfl dX8_lays_28 ?_
  refine g_chk (fun n7 => ?_)
  refine g_chk (fun n8 => ?_)
  refine h_iast F (n := 60) ak_64 rfl (Int.not_lt.mp (Int.not_lt.mpr n7)) n8 rfl dX8_lays_29 (fun v9 => ?_)
  refine g_aload_n F rfl 0 rfl dX8_lays_30 ?_
  refine g_get F (t := 75) (sI := 25) fl_RX8_72 rfl rfl (Int.not_lt.mp (Int.not_lt.mpr h0)) dX8_lays_31 ?_
  refine g_aload_n F rfl 0 rfl dX8_lays_34 ?_
  refine g_get F (t := 0) (sI := 21) fl_RX8_140 rfl rfl (Int.not_lt.mp (Int.not_lt.mpr h0)) dX8_lays_35 ?_
  refine g_iload F 4 rfl rfl dX8_lays_38 ?_
  refine g_chk (fun n10 => ?_)
  refine g_chk (fun n11 => ?_)
  refine h_iast F (n := 60) ak_65 rfl (Int.not_lt.mp (Int.not_lt.mpr n10)) n11 rfl dX8_lays_40 (fun v12 => ?_)
  refine g_aload_n F rfl 0 rfl dX8_lays_41 ?_
  refine g_get F (t := 76) (sI := 26) fl_RX8_75 rfl rfl (Int.not_lt.mp (Int.not_lt.mpr h0)) dX8_lays_42 ?_
  refine g_aload_n F rfl 0 rfl dX8_lays_45 ?_
  refine g_get F (t := 0) (sI := 21) fl_RX8_140 rfl rfl (Int.not_lt.mp (Int.not_lt.mpr h0)) dX8_lays_46 ?_
  refine g_iconst F 0 rfl dX8_lays_49 ?_
  refine g_chk (fun n13 => ?_)
  refine g_chk (fun n14 => ?_)
  refine h_iast F (n := 60) ak_66 rfl (Int.not_lt.mp (Int.not_lt.mpr n13)) n14 rfl dX8_lays_50 (fun v15 => ?_)
  refine g_aload_n F rfl 0 rfl dX8_lays_51 ?_
  refine g_get F (t := 80) (sI := 30) fl_RX8_87 rfl rfl (Int.not_lt.mp (Int.not_lt.mpr h0)) dX8_lays_52 ?_
  refine g_aload_n F rfl 0 rfl dX8_lays_55 ?_
  refine g_get F (t := 0) (sI := 21) fl_RX8_140 rfl rfl (Int.not_lt.mp (Int.not_lt.mpr h0)) dX8_lays_56 ?_
  refine g_iload F 5 rfl rfl dX8_lays_59 ?_
  refine g_chk (fun n16 => ?_)
  refine g_chk (fun n17 => ?_)
  refine h_iast F (n := 60) ak_70 rfl (Int.not_lt.mp (Int.not_lt.mpr n16)) n17 rfl dX8_lays_61 (fun v18 => ?_)
  refine g_aload_n F rfl 0 rfl dX8_lays_62 ?_
  refine g_get F (t := 81) (sI := 31) fl_RX8_90 rfl rfl (Int.not_lt.mp (Int.not_lt.mpr h0)) dX8_lays_63 ?_
  refine g_aload_n F rfl 0 rfl dX8_lays_66 ?_
  refine g_get F (t := 0) (sI := 21) fl_RX8_140 rfl rfl (Int.not_lt.mp (Int.not_lt.mpr h0)) dX8_lays_67 ?_
  refine g_iconst F 0 rfl dX8_lays_70 ?_
  refine g_chk (fun n19 => ?_)
  refine g_chk (fun n20 => ?_)
  refine h_iast F (n := 60) ak_71 rfl (Int.not_lt.mp (Int.not_lt.mpr n19)) n20 rfl dX8_lays_71 (fun v21 => ?_)
  refine g_aload_n F rfl 0 rfl dX8_lays_72 ?_
  refine g_dup F rfl dX8_lays_73 ?_
  refine g_get F (t := 0) (sI := 21) fl_RX8_140 rfl rfl (Int.not_lt.mp (Int.not_lt.mpr h0)) dX8_lays_74 ?_
  refine g_iconst F 2 rfl dX8_lays_77 ?_
  refine g_iadd F rfl rfl dX8_lays_78 ?_
  refine h_put F (sI := 21) fl_RX8_140 ⟨_, rfl, Or.inl rfl⟩ rfl rfl (Int.not_lt.mp (Int.not_lt.mpr h0)) dX8_lays_79 (fun v22 => ?_)
  refine g_aload_n F rfl 0 rfl dX8_lays_82 ?_
  refine g_get F (t := 0) (sI := 21) fl_RX8_140 rfl rfl (Int.not_lt.mp (Int.not_lt.mpr h0)) dX8_lays_83 ?_
  refine g_iconst F 2 rfl dX8_lays_86 ?_
  refine g_isub F rfl rfl dX8_lays_87 ?_
  exact g_ireturn F rfl rfl rfl rfl (Nat.le_of_ble_eq_true rfl) (Nat.le_of_ble_eq_true rfl) dX8_lays_88
theorem c_X8_lays (a0 a1 a2 a3 a4 a5 : Int) (h0 : 0 ≤ a0) : ∀ l, Ct l yX8_lays cX8_lays 6 (some .int) ({ frames := 0, cells := 0, slots := 0, locals := 0 }) (some 0) [(18, a0), (0, a1), (0, a2), (0, a3), (0, a4), (0, a5)] (sp_X8_lays a0 a1 a2 a3 a4 a5) := g_method (by decide +kernel) (Nat.le_of_ble_eq_true rfl) (fun x v F ho => k_X8_lays a0 a1 a2 a3 a4 a5 h0 x v F ho)
def sp_X8_work (a0 a1 a2 : Int) (v : V) : Res := (rB (sp_X8_isParty a0 a1 v) (fun z1 v1 => (if ¬ z1 = 0 then (rB (sp_X8_in a2 0 1000000 v1) (fun z3 v3 => (if ¬ z3 = 0 then (if (v3 8 a0 9) = 12 then (rB (sp_X8_holds a0 3 v3) (fun z6 v6 => (if ¬ z6 = 0 then none
   else (rOk 0 v6))))
   else (if ¬ (v3 8 a0 21) = 60 then (rB (sp_X8_holds a0 0 v3) (fun z9 v9 => (if ¬ z9 = 0 then (chk (0 ≤ (v9 8 a0 10)) (chk (0 ≤ (v9 8 a0 9) ∧ (v9 8 a0 9) < 12) (rLet (up v9 50 (v9 8 a0 10) (v9 8 a0 9) a1) (fun v13 => (chk (0 ≤ (v13 8 a0 11)) (chk (0 ≤ (v13 8 a0 9) ∧ (v13 8 a0 9) < 12) (rLet (up v13 51 (v13 8 a0 11) (v13 8 a0 9) a2) (fun v16 => (chk (0 ≤ (v16 8 a0 4)) (chk (0 ≤ a1 ∧ a1 < 10) (chk (0 ≤ (v16 8 a0 12)) (chk (0 ≤ (v16 8 a0 9) ∧ (v16 8 a0 9) < 12) (rLet (up v16 52 (v16 8 a0 12) (v16 8 a0 9) (v16 44 (v16 8 a0 4) a1)) (fun v21 => (chk (0 ≤ (v21 8 a0 15)) (chk (0 ≤ (v21 8 a0 9) ∧ (v21 8 a0 9) < 12) (rLet (up v21 55 (v21 8 a0 15) (v21 8 a0 9) (-1)) (fun v24 => (rB (sp_X8_lays a0 (v24 8 a0 9) a1 60 (-1) (-1) v24) (fun z25 v25 => (rLet (up v25 8 a0 9 (w32 ((v25 8 a0 9) + 1))) (fun v26 => (rOk (w32 ((v26 8 a0 9) - 1)) v26)))))))))))))))))))))))
   else none)))
   else (rB (sp_X8_holds a0 3 v3) (fun z27 v27 => (if ¬ z27 = 0 then none
   else (rOk 0 v27))))))
   else (rB (sp_X8_holds a0 2 v3) (fun z29 v29 => (if ¬ z29 = 0 then none
   else (rOk 0 v29)))))))
   else (rB (sp_X8_holds a0 1 v1) (fun z31 v31 => (if ¬ z31 = 0 then none
   else (rOk 0 v31)))))))
set_option maxRecDepth 100000 in
set_option maxHeartbeats 4000000 in
theorem k_X8_work (a0 a1 a2 : Int) (h0 : 0 ≤ a0) (x : Cx) (v : V) (F : Fx x cX8_work RX8 "work" ({ frames := 2, cells := 0, slots := 0, locals := 43 }) 4 (some 0) (some .int) 0) (ho : ∀ a ∈ [(18, a0), (0, a1), (0, a2)], okv v a) : Gs x (sp_X8_work a0 a1 a2 v) v 0 0 0 (avArgs 0 [(18, a0), (0, a1), (0, a2)]) [] := by
  show Gs x _ v 0 0 0 [(0, (18, a0)), (1, (0, a1)), (2, (0, a2))] []
  unfold sp_X8_work
  refine g_aload_n F rfl 0 rfl dX8_work_0 ?_
  refine g_iload_n F rfl 1 rfl rfl dX8_work_1 ?_
  refine g_callV F (by decide) (K := 8) (b := a0) [(0, a1)] [0] ml_RX8_154 wi_X8_isParty ws_X8_isParty (c_X8_isParty a0 a1 (Int.not_lt.mp (Int.not_lt.mpr h0))) mi_X8_isParty (by decide) ⟨_, rfl, rfl⟩ (Int.not_lt.mp (Int.not_lt.mpr h0)) rfl rfl rfl (Nat.le_of_ble_eq_true rfl) (Nat.le_of_ble_eq_true rfl) (Nat.le_of_ble_eq_true rfl) (Nat.le_of_ble_eq_true rfl) (Nat.le_of_ble_eq_true rfl) dX8_work_2 (fun z1 v1 hz1 => ?_)
  refine g_istore_n F rfl rfl (Nat.le_of_ble_eq_true rfl) (ls' := [(3, (2, z1)), (0, (18, a0)), (1, (0, a1)), (2, (0, a2))]) rfl dX8_work_5 ?_
  refine g_aload_n F rfl 1 rfl dX8_work_6 ?_
  refine g_iload_n F rfl 0 rfl rfl dX8_work_7 ?_
  refine g_if_ne F rfl (tgt := 15) rfl dX8_work_8 (fun n2 => ?_) (fun n2 => ?_)
  · refine g_iload_n F rfl 3 rfl rfl dX8_work_15 ?_
    refine g_iconst F 2 rfl dX8_work_16 ?_
    refine g_ldc F rfl cn_RX8_150 dX8_work_17 ?_
    refine g_callS F (by decide) [(0, a2), (2, 0), (0, 1000000)] [0, 0, 0] ml_RX8_133 wt_X8_in (c_X8_in a2 0 1000000) mi_X8_in rfl rfl rfl (Nat.le_of_ble_eq_true rfl) (Nat.le_of_ble_eq_true rfl) (Nat.le_of_ble_eq_true rfl) (Nat.le_of_ble_eq_true rfl) (Nat.le_of_ble_eq_true rfl) dX8_work_19 (fun z3 v3 hz3 => ?_)
    refine g_if_ne F rfl (tgt := 29) rfl dX8_work_22 (fun n4 => ?_) (fun n4 => ?_)
    · refine g_aload_n F rfl 1 rfl dX8_work_29 ?_
      refine g_get F (t := 0) (sI := 9) fl_RX8_137 rfl rfl (Int.not_lt.mp (Int.not_lt.mpr h0)) dX8_work_30 ?_
      refine g_bipush F rfl (by decide) dX8_work_33 ?_
      refine g_icmp_eq F rfl rfl (tgt := 47) rfl dX8_work_35 (fun n5 => ?_) (fun n5 => ?_)
      · refine g_iconst F 0 rfl dX8_work_47 ?_
        refine g_goto F (tgt := 52) rfl dX8_work_48 ?_
        refine g_callV F (by decide) (K := 8) (b := a0) [(0, 3)] [0] ml_RX8_151 wi_X8_holds ws_X8_holds (c_X8_holds a0 3 (Int.not_lt.mp (Int.not_lt.mpr h0))) mi_X8_holds (by decide) ⟨_, rfl, rfl⟩ (Int.not_lt.mp (Int.not_lt.mpr h0)) rfl rfl rfl (Nat.le_of_ble_eq_true rfl) (Nat.le_of_ble_eq_true rfl) (Nat.le_of_ble_eq_true rfl) (Nat.le_of_ble_eq_true rfl) (Nat.le_of_ble_eq_true rfl) dX8_work_52 (fun z6 v6 hz6 => ?_)
        refine g_if_ne F rfl (tgt := 60) rfl dX8_work_55 (fun n7 => ?_) (fun n7 => ?_)
        · exact g_none
        · refine g_iconst F 2 rfl dX8_work_58 ?_
          exact g_ireturn F rfl rfl rfl rfl (Nat.le_of_ble_eq_true rfl) (Nat.le_of_ble_eq_true rfl) dX8_work_59
      · refine g_aload_n F rfl 1 rfl dX8_work_38 ?_
        refine g_get F (t := 0) (sI := 21) fl_RX8_140 rfl rfl (Int.not_lt.mp (Int.not_lt.mpr h0)) dX8_work_39 ?_
        refine g_bipush F rfl (by decide) dX8_work_42 ?_
        refine g_icmp_ne F rfl rfl (tgt := 51) rfl dX8_work_44 (fun n8 => ?_) (fun n8 => ?_)
        · refine g_iconst F 2 rfl dX8_work_51 ?_
          refine g_callV F (by decide) (K := 8) (b := a0) [(2, 0)] [0] ml_RX8_151 wi_X8_holds ws_X8_holds (c_X8_holds a0 0 (Int.not_lt.mp (Int.not_lt.mpr h0))) mi_X8_holds (by decide) ⟨_, rfl, rfl⟩ (Int.not_lt.mp (Int.not_lt.mpr h0)) rfl rfl rfl (Nat.le_of_ble_eq_true rfl) (Nat.le_of_ble_eq_true rfl) (Nat.le_of_ble_eq_true rfl) (Nat.le_of_ble_eq_true rfl) (Nat.le_of_ble_eq_true rfl) dX8_work_52 (fun z9 v9 hz9 => ?_)
          refine g_if_ne F rfl (tgt := 60) rfl dX8_work_55 (fun n10 => ?_) (fun n10 => ?_)
          · refine g_aload_n F rfl 1 rfl dX8_work_60 ?_
            refine g_get F (t := 60) (sI := 10) fl_RX8_30 rfl rfl (Int.not_lt.mp (Int.not_lt.mpr h0)) dX8_work_61 ?_
            refine g_aload_n F rfl 1 rfl dX8_work_64 ?_
            refine g_get F (t := 0) (sI := 9) fl_RX8_137 rfl rfl (Int.not_lt.mp (Int.not_lt.mpr h0)) dX8_work_65 ?_
            refine g_iload_n F rfl 2 rfl rfl dX8_work_68 ?_
            refine g_chk (fun n11 => ?_)
            refine g_chk (fun n12 => ?_)
            refine h_iast F (n := 12) ak_50 rfl (Int.not_lt.mp (Int.not_lt.mpr n11)) n12 rfl dX8_work_69 (fun v13 => ?_)
            refine g_aload_n F rfl 1 rfl dX8_work_70 ?_
            refine g_get F (t := 61) (sI := 11) fl_RX8_33 rfl rfl (Int.not_lt.mp (Int.not_lt.mpr h0)) dX8_work_71 ?_
            refine g_aload_n F rfl 1 rfl dX8_work_74 ?_
            refine g_get F (t := 0) (sI := 9) fl_RX8_137 rfl rfl (Int.not_lt.mp (Int.not_lt.mpr h0)) dX8_work_75 ?_
            refine g_iload_n F rfl 3 rfl rfl dX8_work_78 ?_
            refine g_chk (fun n14 => ?_)
            refine g_chk (fun n15 => ?_)
            refine h_iast F (n := 12) ak_51 rfl (Int.not_lt.mp (Int.not_lt.mpr n14)) n15 rfl dX8_work_79 (fun v16 => ?_)
            refine g_aload_n F rfl 1 rfl dX8_work_80 ?_
            refine g_get F (t := 62) (sI := 12) fl_RX8_36 rfl rfl (Int.not_lt.mp (Int.not_lt.mpr h0)) dX8_work_81 ?_
            refine g_aload_n F rfl 1 rfl dX8_work_84 ?_
            refine g_get F (t := 0) (sI := 9) fl_RX8_137 rfl rfl (Int.not_lt.mp (Int.not_lt.mpr h0)) dX8_work_85 ?_
            refine g_aload_n F rfl 1 rfl dX8_work_88 ?_
            refine g_get F (t := 54) (sI := 4) fl_RX8_13 rfl rfl (Int.not_lt.mp (Int.not_lt.mpr h0)) dX8_work_89 ?_
            refine g_iload_n F rfl 2 rfl rfl dX8_work_92 ?_
            refine g_chk (fun n17 => ?_)
            refine g_chk (fun n18 => ?_)
            refine h_iald F (n := 10) ak_44 (Int.not_lt.mp (Int.not_lt.mpr n17)) n18 rfl dX8_work_93 ?_
            refine g_chk (fun n19 => ?_)
            refine g_chk (fun n20 => ?_)
            refine h_iast F (n := 12) ak_52 rfl (Int.not_lt.mp (Int.not_lt.mpr n19)) n20 rfl dX8_work_94 (fun v21 => ?_)
            refine g_aload_n F rfl 1 rfl dX8_work_95 ?_
            refine g_get F (t := 65) (sI := 15) fl_RX8_45 rfl rfl (Int.not_lt.mp (Int.not_lt.mpr h0)) dX8_work_96 ?_
            refine g_aload_n F rfl 1 rfl dX8_work_99 ?_
            refine g_get F (t := 0) (sI := 9) fl_RX8_137 rfl rfl (Int.not_lt.mp (Int.not_lt.mpr h0)) dX8_work_100 ?_
            refine g_iconst F 0 rfl dX8_work_103 ?_
            refine g_chk (fun n22 => ?_)
            refine g_chk (fun n23 => ?_)
            refine h_iast F (n := 12) ak_55 rfl (Int.not_lt.mp (Int.not_lt.mpr n22)) n23 rfl dX8_work_104 (fun v24 => ?_)
            refine g_aload_n F rfl 1 rfl dX8_work_105 ?_
            refine g_aload_n F rfl 1 rfl dX8_work_106 ?_
            refine g_get F (t := 0) (sI := 9) fl_RX8_137 rfl rfl (Int.not_lt.mp (Int.not_lt.mpr h0)) dX8_work_107 ?_
            refine g_iload_n F rfl 2 rfl rfl dX8_work_110 ?_
            refine g_bipush F rfl (by decide) dX8_work_111 ?_
            refine g_iconst F 0 rfl dX8_work_113 ?_
            refine g_iconst F 0 rfl dX8_work_114 ?_
            refine g_callV F (by decide) (K := 8) (b := a0) [(0, (v24 8 a0 9)), (0, a1), (0, 60), (0, (-1)), (0, (-1))] [0, 0, 0, 0, 0] ml_RX8_157 wi_X8_lays ws_X8_lays (c_X8_lays a0 (v24 8 a0 9) a1 60 (-1) (-1) (Int.not_lt.mp (Int.not_lt.mpr h0))) mi_X8_lays (by decide) ⟨_, rfl, rfl⟩ (Int.not_lt.mp (Int.not_lt.mpr h0)) rfl rfl rfl (Nat.le_of_ble_eq_true rfl) (Nat.le_of_ble_eq_true rfl) (Nat.le_of_ble_eq_true rfl) (Nat.le_of_ble_eq_true rfl) (Nat.le_of_ble_eq_true rfl) dX8_work_115 (fun z25 v25 hz25 => ?_)
            refine g_pop F rfl dX8_work_118 ?_
            refine g_aload_n F rfl 1 rfl dX8_work_119 ?_
            refine g_dup F rfl dX8_work_120 ?_
            refine g_get F (t := 0) (sI := 9) fl_RX8_137 rfl rfl (Int.not_lt.mp (Int.not_lt.mpr h0)) dX8_work_121 ?_
            refine g_iconst F 2 rfl dX8_work_124 ?_
            refine g_iadd F rfl rfl dX8_work_125 ?_
            refine h_put F (sI := 9) fl_RX8_137 ⟨_, rfl, Or.inl rfl⟩ rfl rfl (Int.not_lt.mp (Int.not_lt.mpr h0)) dX8_work_126 (fun v26 => ?_)
            refine g_aload_n F rfl 1 rfl dX8_work_129 ?_
            refine g_get F (t := 0) (sI := 9) fl_RX8_137 rfl rfl (Int.not_lt.mp (Int.not_lt.mpr h0)) dX8_work_130 ?_
            refine g_iconst F 2 rfl dX8_work_133 ?_
            refine g_isub F rfl rfl dX8_work_134 ?_
            exact g_ireturn F rfl rfl rfl rfl (Nat.le_of_ble_eq_true rfl) (Nat.le_of_ble_eq_true rfl) dX8_work_135
          · exact g_none
        · refine g_iconst F 0 rfl dX8_work_47 ?_
          refine g_goto F (tgt := 52) rfl dX8_work_48 ?_
          refine g_callV F (by decide) (K := 8) (b := a0) [(0, 3)] [0] ml_RX8_151 wi_X8_holds ws_X8_holds (c_X8_holds a0 3 (Int.not_lt.mp (Int.not_lt.mpr h0))) mi_X8_holds (by decide) ⟨_, rfl, rfl⟩ (Int.not_lt.mp (Int.not_lt.mpr h0)) rfl rfl rfl (Nat.le_of_ble_eq_true rfl) (Nat.le_of_ble_eq_true rfl) (Nat.le_of_ble_eq_true rfl) (Nat.le_of_ble_eq_true rfl) (Nat.le_of_ble_eq_true rfl) dX8_work_52 (fun z27 v27 hz27 => ?_)
          refine g_if_ne F rfl (tgt := 60) rfl dX8_work_55 (fun n28 => ?_) (fun n28 => ?_)
          · exact g_none
          · refine g_iconst F 2 rfl dX8_work_58 ?_
            exact g_ireturn F rfl rfl rfl rfl (Nat.le_of_ble_eq_true rfl) (Nat.le_of_ble_eq_true rfl) dX8_work_59
    · refine g_iconst F 0 rfl dX8_work_25 ?_
      refine g_goto F (tgt := 52) rfl dX8_work_26 ?_
      refine g_callV F (by decide) (K := 8) (b := a0) [(0, 2)] [0] ml_RX8_151 wi_X8_holds ws_X8_holds (c_X8_holds a0 2 (Int.not_lt.mp (Int.not_lt.mpr h0))) mi_X8_holds (by decide) ⟨_, rfl, rfl⟩ (Int.not_lt.mp (Int.not_lt.mpr h0)) rfl rfl rfl (Nat.le_of_ble_eq_true rfl) (Nat.le_of_ble_eq_true rfl) (Nat.le_of_ble_eq_true rfl) (Nat.le_of_ble_eq_true rfl) (Nat.le_of_ble_eq_true rfl) dX8_work_52 (fun z29 v29 hz29 => ?_)
      refine g_if_ne F rfl (tgt := 60) rfl dX8_work_55 (fun n30 => ?_) (fun n30 => ?_)
      · exact g_none
      · refine g_iconst F 2 rfl dX8_work_58 ?_
        exact g_ireturn F rfl rfl rfl rfl (Nat.le_of_ble_eq_true rfl) (Nat.le_of_ble_eq_true rfl) dX8_work_59
  · refine g_iconst F 2 rfl dX8_work_11 ?_
    refine g_goto F (tgt := 52) rfl dX8_work_12 ?_
    refine g_callV F (by decide) (K := 8) (b := a0) [(2, 1)] [0] ml_RX8_151 wi_X8_holds ws_X8_holds (c_X8_holds a0 1 (Int.not_lt.mp (Int.not_lt.mpr h0))) mi_X8_holds (by decide) ⟨_, rfl, rfl⟩ (Int.not_lt.mp (Int.not_lt.mpr h0)) rfl rfl rfl (Nat.le_of_ble_eq_true rfl) (Nat.le_of_ble_eq_true rfl) (Nat.le_of_ble_eq_true rfl) (Nat.le_of_ble_eq_true rfl) (Nat.le_of_ble_eq_true rfl) dX8_work_52 (fun z31 v31 hz31 => ?_)
    refine g_if_ne F rfl (tgt := 60) rfl dX8_work_55 (fun n32 => ?_) (fun n32 => ?_)
    · exact g_none
    · refine g_iconst F 2 rfl dX8_work_58 ?_
      exact g_ireturn F rfl rfl rfl rfl (Nat.le_of_ble_eq_true rfl) (Nat.le_of_ble_eq_true rfl) dX8_work_59
theorem c_X8_work (a0 a1 a2 : Int) (h0 : 0 ≤ a0) : ∀ l, Ct l yX8_work cX8_work 4 (some .int) ({ frames := 2, cells := 0, slots := 0, locals := 43 }) (some 0) [(18, a0), (0, a1), (0, a2)] (sp_X8_work a0 a1 a2) := g_method (by decide +kernel) (Nat.le_of_ble_eq_true rfl) (fun x v F ho => k_X8_work a0 a1 a2 h0 x v F ho)
def sp_X8_value (a0 a1 a2 : Int) (v : V) : Res := (rB (sp_X8_isWork a0 a1 v) (fun z1 v1 => (if ¬ z1 = 0 then (rB (sp_X8_in a2 0 1000000 v1) (fun z3 v3 => (if z3 = 0 then (rB (sp_X8_holds a0 2 v3) (fun z5 v5 => (if ¬ z5 = 0 then none
   else (rOk 0 v5))))
   else (rB (sp_X8_holds a0 0 v3) (fun z7 v7 => (if ¬ z7 = 0 then (chk (0 ≤ (v7 8 a0 11)) (chk (0 ≤ a1 ∧ a1 < 12) (rLet (up v7 51 (v7 8 a0 11) a1 a2) (fun v11 => (rOk (v7 51 (v7 8 a0 11) a1) v11)))))
   else none))))))
   else (rB (sp_X8_holds a0 1 v1) (fun z12 v12 => (if ¬ z12 = 0 then none
   else (rOk 0 v12)))))))
set_option maxRecDepth 100000 in
set_option maxHeartbeats 4000000 in
theorem k_X8_value (a0 a1 a2 : Int) (h0 : 0 ≤ a0) (x : Cx) (v : V) (F : Fx x cX8_value RX8 "value" ({ frames := 2, cells := 0, slots := 0, locals := 43 }) 4 (some 0) (some .int) 0) (ho : ∀ a ∈ [(18, a0), (0, a1), (0, a2)], okv v a) : Gs x (sp_X8_value a0 a1 a2 v) v 0 0 0 (avArgs 0 [(18, a0), (0, a1), (0, a2)]) [] := by
  show Gs x _ v 0 0 0 [(0, (18, a0)), (1, (0, a1)), (2, (0, a2))] []
  unfold sp_X8_value
  refine g_aload_n F rfl 0 rfl dX8_value_0 ?_
  refine g_aload_n F rfl 0 rfl dX8_value_1 ?_
  refine g_iload_n F rfl 1 rfl rfl dX8_value_2 ?_
  refine g_callV F (by decide) (K := 8) (b := a0) [(0, a1)] [0] ml_RX8_161 wi_X8_isWork ws_X8_isWork (c_X8_isWork a0 a1 (Int.not_lt.mp (Int.not_lt.mpr h0))) mi_X8_isWork (by decide) ⟨_, rfl, rfl⟩ (Int.not_lt.mp (Int.not_lt.mpr h0)) rfl rfl rfl (Nat.le_of_ble_eq_true rfl) (Nat.le_of_ble_eq_true rfl) (Nat.le_of_ble_eq_true rfl) (Nat.le_of_ble_eq_true rfl) (Nat.le_of_ble_eq_true rfl) dX8_value_3 (fun z1 v1 hz1 => ?_)
  refine g_if_ne F rfl (tgt := 13) rfl dX8_value_6 (fun n2 => ?_) (fun n2 => ?_)
  · refine g_iload_n F rfl 2 rfl rfl dX8_value_13 ?_
    refine g_iconst F 2 rfl dX8_value_14 ?_
    refine g_ldc F rfl cn_RX8_150 dX8_value_15 ?_
    refine g_callS F (by decide) [(0, a2), (2, 0), (0, 1000000)] [0, 0, 0] ml_RX8_133 wt_X8_in (c_X8_in a2 0 1000000) mi_X8_in rfl rfl rfl (Nat.le_of_ble_eq_true rfl) (Nat.le_of_ble_eq_true rfl) (Nat.le_of_ble_eq_true rfl) (Nat.le_of_ble_eq_true rfl) (Nat.le_of_ble_eq_true rfl) dX8_value_17 (fun z3 v3 hz3 => ?_)
    refine g_if_eq F rfl (tgt := 27) rfl dX8_value_20 (fun n4 => ?_) (fun n4 => ?_)
    · refine g_iconst F 0 rfl dX8_value_27 ?_
      refine g_callV F (by decide) (K := 8) (b := a0) [(0, 2)] [0] ml_RX8_151 wi_X8_holds ws_X8_holds (c_X8_holds a0 2 (Int.not_lt.mp (Int.not_lt.mpr h0))) mi_X8_holds (by decide) ⟨_, rfl, rfl⟩ (Int.not_lt.mp (Int.not_lt.mpr h0)) rfl rfl rfl (Nat.le_of_ble_eq_true rfl) (Nat.le_of_ble_eq_true rfl) (Nat.le_of_ble_eq_true rfl) (Nat.le_of_ble_eq_true rfl) (Nat.le_of_ble_eq_true rfl) dX8_value_28 (fun z5 v5 hz5 => ?_)
      refine g_if_ne F rfl (tgt := 36) rfl dX8_value_31 (fun n6 => ?_) (fun n6 => ?_)
      · exact g_none
      · refine g_iconst F 2 rfl dX8_value_34 ?_
        exact g_ireturn F rfl rfl rfl rfl (Nat.le_of_ble_eq_true rfl) (Nat.le_of_ble_eq_true rfl) dX8_value_35
    · refine g_iconst F 2 rfl dX8_value_23 ?_
      refine g_goto F (tgt := 28) rfl dX8_value_24 ?_
      refine g_callV F (by decide) (K := 8) (b := a0) [(2, 0)] [0] ml_RX8_151 wi_X8_holds ws_X8_holds (c_X8_holds a0 0 (Int.not_lt.mp (Int.not_lt.mpr h0))) mi_X8_holds (by decide) ⟨_, rfl, rfl⟩ (Int.not_lt.mp (Int.not_lt.mpr h0)) rfl rfl rfl (Nat.le_of_ble_eq_true rfl) (Nat.le_of_ble_eq_true rfl) (Nat.le_of_ble_eq_true rfl) (Nat.le_of_ble_eq_true rfl) (Nat.le_of_ble_eq_true rfl) dX8_value_28 (fun z7 v7 hz7 => ?_)
      refine g_if_ne F rfl (tgt := 36) rfl dX8_value_31 (fun n8 => ?_) (fun n8 => ?_)
      · refine g_aload_n F rfl 0 rfl dX8_value_36 ?_
        refine g_get F (t := 61) (sI := 11) fl_RX8_33 rfl rfl (Int.not_lt.mp (Int.not_lt.mpr h0)) dX8_value_37 ?_
        refine g_iload_n F rfl 1 rfl rfl dX8_value_40 ?_
        refine g_chk (fun n9 => ?_)
        refine g_chk (fun n10 => ?_)
        refine h_iald F (n := 12) ak_51 (Int.not_lt.mp (Int.not_lt.mpr n9)) n10 rfl dX8_value_41 ?_
        refine g_istore_n F rfl rfl (Nat.le_of_ble_eq_true rfl) (ls' := [(3, (0, (v7 51 (v7 8 a0 11) a1))), (0, (18, a0)), (1, (0, a1)), (2, (0, a2))]) rfl dX8_value_42 ?_
        refine g_aload_n F rfl 1 rfl dX8_value_43 ?_
        refine g_get F (t := 61) (sI := 11) fl_RX8_33 rfl rfl (Int.not_lt.mp (Int.not_lt.mpr h0)) dX8_value_44 ?_
        refine g_iload_n F rfl 2 rfl rfl dX8_value_47 ?_
        refine g_iload_n F rfl 3 rfl rfl dX8_value_48 ?_
        refine h_iast F (n := 12) ak_51 rfl (Int.not_lt.mp (Int.not_lt.mpr n9)) n10 rfl dX8_value_49 (fun v11 => ?_)
        refine g_iload_n F rfl 0 rfl rfl dX8_value_50 ?_
        exact g_ireturn F rfl rfl rfl rfl (Nat.le_of_ble_eq_true rfl) (Nat.le_of_ble_eq_true rfl) dX8_value_51
      · exact g_none
  · refine g_iconst F 2 rfl dX8_value_9 ?_
    refine g_goto F (tgt := 28) rfl dX8_value_10 ?_
    refine g_callV F (by decide) (K := 8) (b := a0) [(2, 1)] [0] ml_RX8_151 wi_X8_holds ws_X8_holds (c_X8_holds a0 1 (Int.not_lt.mp (Int.not_lt.mpr h0))) mi_X8_holds (by decide) ⟨_, rfl, rfl⟩ (Int.not_lt.mp (Int.not_lt.mpr h0)) rfl rfl rfl (Nat.le_of_ble_eq_true rfl) (Nat.le_of_ble_eq_true rfl) (Nat.le_of_ble_eq_true rfl) (Nat.le_of_ble_eq_true rfl) (Nat.le_of_ble_eq_true rfl) dX8_value_28 (fun z12 v12 hz12 => ?_)
    refine g_if_ne F rfl (tgt := 36) rfl dX8_value_31 (fun n13 => ?_) (fun n13 => ?_)
    · exact g_none
    · refine g_iconst F 2 rfl dX8_value_34 ?_
      exact g_ireturn F rfl rfl rfl rfl (Nat.le_of_ble_eq_true rfl) (Nat.le_of_ble_eq_true rfl) dX8_value_35
theorem c_X8_value (a0 a1 a2 : Int) (h0 : 0 ≤ a0) : ∀ l, Ct l yX8_value cX8_value 4 (some .int) ({ frames := 2, cells := 0, slots := 0, locals := 43 }) (some 0) [(18, a0), (0, a1), (0, a2)] (sp_X8_value a0 a1 a2) := g_method (by decide +kernel) (Nat.le_of_ble_eq_true rfl) (fun x v F ho => k_X8_value a0 a1 a2 h0 x v F ho)
def sp_X8_pass (a0 a1 : Int) (v : V) : Res := (rB (sp_X8_in a1 1 1000 v) (fun z1 v1 => (if ¬ z1 = 0 then (if (w32 ((v1 8 a0 1) + a1)) ≤ 20000 then (rB (sp_X8_holds a0 0 v1) (fun z4 v4 => (if ¬ z4 = 0 then (rLet (up v4 8 a0 1 (w32 ((v4 8 a0 1) + a1))) (fun v6 => (rOk (v6 8 a0 1) v6)))
   else none)))
   else (rB (sp_X8_holds a0 2 v1) (fun z7 v7 => (if ¬ z7 = 0 then none
   else (rOk 0 v7)))))
   else (rB (sp_X8_holds a0 1 v1) (fun z9 v9 => (if ¬ z9 = 0 then none
   else (rOk 0 v9)))))))
set_option maxRecDepth 100000 in
set_option maxHeartbeats 4000000 in
theorem k_X8_pass (a0 a1 : Int) (h0 : 0 ≤ a0) (x : Cx) (v : V) (F : Fx x cX8_pass RX8 "pass" ({ frames := 1, cells := 0, slots := 0, locals := 22 }) 2 (some 0) (some .int) 0) (ho : ∀ a ∈ [(18, a0), (0, a1)], okv v a) : Gs x (sp_X8_pass a0 a1 v) v 0 0 0 (avArgs 0 [(18, a0), (0, a1)]) [] := by
  show Gs x _ v 0 0 0 [(0, (18, a0)), (1, (0, a1))] []
  unfold sp_X8_pass
  refine g_aload_n F rfl 0 rfl dX8_pass_0 ?_
  refine g_iload_n F rfl 1 rfl rfl dX8_pass_1 ?_
  refine g_iconst F 2 rfl dX8_pass_2 ?_
  refine g_sipush F rfl (by decide) dX8_pass_3 ?_
  refine g_callS F (by decide) [(0, a1), (2, 1), (0, 1000)] [0, 0, 0] ml_RX8_133 wt_X8_in (c_X8_in a1 1 1000) mi_X8_in rfl rfl rfl (Nat.le_of_ble_eq_true rfl) (Nat.le_of_ble_eq_true rfl) (Nat.le_of_ble_eq_true rfl) (Nat.le_of_ble_eq_true rfl) (Nat.le_of_ble_eq_true rfl) dX8_pass_6 (fun z1 v1 hz1 => ?_)
  refine g_if_ne F rfl (tgt := 16) rfl dX8_pass_9 (fun n2 => ?_) (fun n2 => ?_)
  · refine g_aload_n F rfl 0 rfl dX8_pass_16 ?_
    refine g_get F (t := 0) (sI := 1) fl_RX8_164 rfl rfl (Int.not_lt.mp (Int.not_lt.mpr h0)) dX8_pass_17 ?_
    refine g_iload_n F rfl 1 rfl rfl dX8_pass_20 ?_
    refine g_iadd F rfl rfl dX8_pass_21 ?_
    refine g_sipush F rfl (by decide) dX8_pass_22 ?_
    refine g_icmp_le F rfl rfl (tgt := 32) rfl dX8_pass_25 (fun n3 => ?_) (fun n3 => ?_)
    · refine g_iconst F 2 rfl dX8_pass_32 ?_
      refine g_callV F (by decide) (K := 8) (b := a0) [(2, 0)] [0] ml_RX8_151 wi_X8_holds ws_X8_holds (c_X8_holds a0 0 (Int.not_lt.mp (Int.not_lt.mpr h0))) mi_X8_holds (by decide) ⟨_, rfl, rfl⟩ (Int.not_lt.mp (Int.not_lt.mpr h0)) rfl rfl rfl (Nat.le_of_ble_eq_true rfl) (Nat.le_of_ble_eq_true rfl) (Nat.le_of_ble_eq_true rfl) (Nat.le_of_ble_eq_true rfl) (Nat.le_of_ble_eq_true rfl) dX8_pass_33 (fun z4 v4 hz4 => ?_)
      refine g_if_ne F rfl (tgt := 41) rfl dX8_pass_36 (fun n5 => ?_) (fun n5 => ?_)
      · refine g_aload_n F rfl 0 rfl dX8_pass_41 ?_
        refine g_dup F rfl dX8_pass_42 ?_
        refine g_get F (t := 0) (sI := 1) fl_RX8_164 rfl rfl (Int.not_lt.mp (Int.not_lt.mpr h0)) dX8_pass_43 ?_
        refine g_iload_n F rfl 1 rfl rfl dX8_pass_46 ?_
        refine g_iadd F rfl rfl dX8_pass_47 ?_
        refine h_put F (sI := 1) fl_RX8_164 ⟨_, rfl, Or.inl rfl⟩ rfl rfl (Int.not_lt.mp (Int.not_lt.mpr h0)) dX8_pass_48 (fun v6 => ?_)
        refine g_aload_n F rfl 0 rfl dX8_pass_51 ?_
        refine g_get F (t := 0) (sI := 1) fl_RX8_164 rfl rfl (Int.not_lt.mp (Int.not_lt.mpr h0)) dX8_pass_52 ?_
        exact g_ireturn F rfl rfl rfl rfl (Nat.le_of_ble_eq_true rfl) (Nat.le_of_ble_eq_true rfl) dX8_pass_55
      · exact g_none
    · refine g_iconst F 0 rfl dX8_pass_28 ?_
      refine g_goto F (tgt := 33) rfl dX8_pass_29 ?_
      refine g_callV F (by decide) (K := 8) (b := a0) [(0, 2)] [0] ml_RX8_151 wi_X8_holds ws_X8_holds (c_X8_holds a0 2 (Int.not_lt.mp (Int.not_lt.mpr h0))) mi_X8_holds (by decide) ⟨_, rfl, rfl⟩ (Int.not_lt.mp (Int.not_lt.mpr h0)) rfl rfl rfl (Nat.le_of_ble_eq_true rfl) (Nat.le_of_ble_eq_true rfl) (Nat.le_of_ble_eq_true rfl) (Nat.le_of_ble_eq_true rfl) (Nat.le_of_ble_eq_true rfl) dX8_pass_33 (fun z7 v7 hz7 => ?_)
      refine g_if_ne F rfl (tgt := 41) rfl dX8_pass_36 (fun n8 => ?_) (fun n8 => ?_)
      · exact g_none
      · refine g_iconst F 2 rfl dX8_pass_39 ?_
        exact g_ireturn F rfl rfl rfl rfl (Nat.le_of_ble_eq_true rfl) (Nat.le_of_ble_eq_true rfl) dX8_pass_40
  · refine g_iconst F 2 rfl dX8_pass_12 ?_
    refine g_goto F (tgt := 33) rfl dX8_pass_13 ?_
    refine g_callV F (by decide) (K := 8) (b := a0) [(2, 1)] [0] ml_RX8_151 wi_X8_holds ws_X8_holds (c_X8_holds a0 1 (Int.not_lt.mp (Int.not_lt.mpr h0))) mi_X8_holds (by decide) ⟨_, rfl, rfl⟩ (Int.not_lt.mp (Int.not_lt.mpr h0)) rfl rfl rfl (Nat.le_of_ble_eq_true rfl) (Nat.le_of_ble_eq_true rfl) (Nat.le_of_ble_eq_true rfl) (Nat.le_of_ble_eq_true rfl) (Nat.le_of_ble_eq_true rfl) dX8_pass_33 (fun z9 v9 hz9 => ?_)
    refine g_if_ne F rfl (tgt := 41) rfl dX8_pass_36 (fun n10 => ?_) (fun n10 => ?_)
    · exact g_none
    · refine g_iconst F 2 rfl dX8_pass_39 ?_
      exact g_ireturn F rfl rfl rfl rfl (Nat.le_of_ble_eq_true rfl) (Nat.le_of_ble_eq_true rfl) dX8_pass_40
theorem c_X8_pass (a0 a1 : Int) (h0 : 0 ≤ a0) : ∀ l, Ct l yX8_pass cX8_pass 2 (some .int) ({ frames := 1, cells := 0, slots := 0, locals := 22 }) (some 0) [(18, a0), (0, a1)] (sp_X8_pass a0 a1) := g_method (by decide +kernel) (Nat.le_of_ble_eq_true rfl) (fun x v F ho => k_X8_pass a0 a1 h0 x v F ho)
def sp_X8_weight (a0 a1 a2 : Int) (v : V) : Res := (rB (sp_X8_isParty a0 a1 v) (fun z1 v1 => (if ¬ z1 = 0 then (rB (sp_X8_in a2 0 9 v1) (fun z3 v3 => (if z3 = 0 then (rB (sp_X8_holds a0 2 v3) (fun z5 v5 => (if ¬ z5 = 0 then none
   else (rOk 0 v5))))
   else (rB (sp_X8_holds a0 0 v3) (fun z7 v7 => (if ¬ z7 = 0 then (chk (0 ≤ (v7 8 a0 6)) (chk (0 ≤ a1 ∧ a1 < 10) (rLet (up v7 46 (v7 8 a0 6) a1 a2) (fun v11 => (rOk (v7 46 (v7 8 a0 6) a1) v11)))))
   else none))))))
   else (rB (sp_X8_holds a0 1 v1) (fun z12 v12 => (if ¬ z12 = 0 then none
   else (rOk 0 v12)))))))
set_option maxRecDepth 100000 in
set_option maxHeartbeats 4000000 in
theorem k_X8_weight (a0 a1 a2 : Int) (h0 : 0 ≤ a0) (x : Cx) (v : V) (F : Fx x cX8_weight RX8 "weight" ({ frames := 2, cells := 0, slots := 0, locals := 43 }) 4 (some 0) (some .int) 0) (ho : ∀ a ∈ [(18, a0), (0, a1), (0, a2)], okv v a) : Gs x (sp_X8_weight a0 a1 a2 v) v 0 0 0 (avArgs 0 [(18, a0), (0, a1), (0, a2)]) [] := by
  show Gs x _ v 0 0 0 [(0, (18, a0)), (1, (0, a1)), (2, (0, a2))] []
  unfold sp_X8_weight
  refine g_aload_n F rfl 0 rfl dX8_weight_0 ?_
  refine g_aload_n F rfl 0 rfl dX8_weight_1 ?_
  refine g_iload_n F rfl 1 rfl rfl dX8_weight_2 ?_
  refine g_callV F (by decide) (K := 8) (b := a0) [(0, a1)] [0] ml_RX8_154 wi_X8_isParty ws_X8_isParty (c_X8_isParty a0 a1 (Int.not_lt.mp (Int.not_lt.mpr h0))) mi_X8_isParty (by decide) ⟨_, rfl, rfl⟩ (Int.not_lt.mp (Int.not_lt.mpr h0)) rfl rfl rfl (Nat.le_of_ble_eq_true rfl) (Nat.le_of_ble_eq_true rfl) (Nat.le_of_ble_eq_true rfl) (Nat.le_of_ble_eq_true rfl) (Nat.le_of_ble_eq_true rfl) dX8_weight_3 (fun z1 v1 hz1 => ?_)
  refine g_if_ne F rfl (tgt := 13) rfl dX8_weight_6 (fun n2 => ?_) (fun n2 => ?_)
  · refine g_iload_n F rfl 2 rfl rfl dX8_weight_13 ?_
    refine g_iconst F 2 rfl dX8_weight_14 ?_
    refine g_bipush F rfl (by decide) dX8_weight_15 ?_
    refine g_callS F (by decide) [(0, a2), (2, 0), (0, 9)] [0, 0, 0] ml_RX8_133 wt_X8_in (c_X8_in a2 0 9) mi_X8_in rfl rfl rfl (Nat.le_of_ble_eq_true rfl) (Nat.le_of_ble_eq_true rfl) (Nat.le_of_ble_eq_true rfl) (Nat.le_of_ble_eq_true rfl) (Nat.le_of_ble_eq_true rfl) dX8_weight_17 (fun z3 v3 hz3 => ?_)
    refine g_if_eq F rfl (tgt := 27) rfl dX8_weight_20 (fun n4 => ?_) (fun n4 => ?_)
    · refine g_iconst F 0 rfl dX8_weight_27 ?_
      refine g_callV F (by decide) (K := 8) (b := a0) [(0, 2)] [0] ml_RX8_151 wi_X8_holds ws_X8_holds (c_X8_holds a0 2 (Int.not_lt.mp (Int.not_lt.mpr h0))) mi_X8_holds (by decide) ⟨_, rfl, rfl⟩ (Int.not_lt.mp (Int.not_lt.mpr h0)) rfl rfl rfl (Nat.le_of_ble_eq_true rfl) (Nat.le_of_ble_eq_true rfl) (Nat.le_of_ble_eq_true rfl) (Nat.le_of_ble_eq_true rfl) (Nat.le_of_ble_eq_true rfl) dX8_weight_28 (fun z5 v5 hz5 => ?_)
      refine g_if_ne F rfl (tgt := 36) rfl dX8_weight_31 (fun n6 => ?_) (fun n6 => ?_)
      · exact g_none
      · refine g_iconst F 2 rfl dX8_weight_34 ?_
        exact g_ireturn F rfl rfl rfl rfl (Nat.le_of_ble_eq_true rfl) (Nat.le_of_ble_eq_true rfl) dX8_weight_35
    · refine g_iconst F 2 rfl dX8_weight_23 ?_
      refine g_goto F (tgt := 28) rfl dX8_weight_24 ?_
      refine g_callV F (by decide) (K := 8) (b := a0) [(2, 0)] [0] ml_RX8_151 wi_X8_holds ws_X8_holds (c_X8_holds a0 0 (Int.not_lt.mp (Int.not_lt.mpr h0))) mi_X8_holds (by decide) ⟨_, rfl, rfl⟩ (Int.not_lt.mp (Int.not_lt.mpr h0)) rfl rfl rfl (Nat.le_of_ble_eq_true rfl) (Nat.le_of_ble_eq_true rfl) (Nat.le_of_ble_eq_true rfl) (Nat.le_of_ble_eq_true rfl) (Nat.le_of_ble_eq_true rfl) dX8_weight_28 (fun z7 v7 hz7 => ?_)
      refine g_if_ne F rfl (tgt := 36) rfl dX8_weight_31 (fun n8 => ?_) (fun n8 => ?_)
      · refine g_aload_n F rfl 0 rfl dX8_weight_36 ?_
        refine g_get F (t := 56) (sI := 6) fl_RX8_21 rfl rfl (Int.not_lt.mp (Int.not_lt.mpr h0)) dX8_weight_37 ?_
        refine g_iload_n F rfl 1 rfl rfl dX8_weight_40 ?_
        refine g_chk (fun n9 => ?_)
        refine g_chk (fun n10 => ?_)
        refine h_iald F (n := 10) ak_46 (Int.not_lt.mp (Int.not_lt.mpr n9)) n10 rfl dX8_weight_41 ?_
        refine g_istore_n F rfl rfl (Nat.le_of_ble_eq_true rfl) (ls' := [(3, (0, (v7 46 (v7 8 a0 6) a1))), (0, (18, a0)), (1, (0, a1)), (2, (0, a2))]) rfl dX8_weight_42 ?_
        refine g_aload_n F rfl 1 rfl dX8_weight_43 ?_
        refine g_get F (t := 56) (sI := 6) fl_RX8_21 rfl rfl (Int.not_lt.mp (Int.not_lt.mpr h0)) dX8_weight_44 ?_
        refine g_iload_n F rfl 2 rfl rfl dX8_weight_47 ?_
        refine g_iload_n F rfl 3 rfl rfl dX8_weight_48 ?_
        refine h_iast F (n := 10) ak_46 rfl (Int.not_lt.mp (Int.not_lt.mpr n9)) n10 rfl dX8_weight_49 (fun v11 => ?_)
        refine g_iload_n F rfl 0 rfl rfl dX8_weight_50 ?_
        exact g_ireturn F rfl rfl rfl rfl (Nat.le_of_ble_eq_true rfl) (Nat.le_of_ble_eq_true rfl) dX8_weight_51
      · exact g_none
  · refine g_iconst F 2 rfl dX8_weight_9 ?_
    refine g_goto F (tgt := 28) rfl dX8_weight_10 ?_
    refine g_callV F (by decide) (K := 8) (b := a0) [(2, 1)] [0] ml_RX8_151 wi_X8_holds ws_X8_holds (c_X8_holds a0 1 (Int.not_lt.mp (Int.not_lt.mpr h0))) mi_X8_holds (by decide) ⟨_, rfl, rfl⟩ (Int.not_lt.mp (Int.not_lt.mpr h0)) rfl rfl rfl (Nat.le_of_ble_eq_true rfl) (Nat.le_of_ble_eq_true rfl) (Nat.le_of_ble_eq_true rfl) (Nat.le_of_ble_eq_true rfl) (Nat.le_of_ble_eq_true rfl) dX8_weight_28 (fun z12 v12 hz12 => ?_)
    refine g_if_ne F rfl (tgt := 36) rfl dX8_weight_31 (fun n13 => ?_) (fun n13 => ?_)
    · exact g_none
    · refine g_iconst F 2 rfl dX8_weight_34 ?_
      exact g_ireturn F rfl rfl rfl rfl (Nat.le_of_ble_eq_true rfl) (Nat.le_of_ble_eq_true rfl) dX8_weight_35
theorem c_X8_weight (a0 a1 a2 : Int) (h0 : 0 ≤ a0) : ∀ l, Ct l yX8_weight cX8_weight 4 (some .int) ({ frames := 2, cells := 0, slots := 0, locals := 43 }) (some 0) [(18, a0), (0, a1), (0, a2)] (sp_X8_weight a0 a1 a2) := g_method (by decide +kernel) (Nat.le_of_ble_eq_true rfl) (fun x v F ho => k_X8_weight a0 a1 a2 h0 x v F ho)
def sp_X8_word (a0 a1 a2 a3 : Int) (v : V) : Res := (rB (sp_X8_isParty a0 a1 v) (fun z1 v1 => (if z1 = 0 then (rB (sp_X8_holds a0 1 v1) (fun z3 v3 => (if ¬ z3 = 0 then none
   else (rOk 0 v3))))
   else (rB (sp_X8_isWork a0 a2 v1) (fun z5 v5 => (if z5 = 0 then (rB (sp_X8_holds a0 1 v5) (fun z7 v7 => (if ¬ z7 = 0 then none
   else (rOk 0 v7))))
   else (chk (0 ≤ (v5 8 a0 17)) (chk (0 ≤ a2 ∧ a2 < 12) (if ¬ (v5 57 (v5 8 a0 17) a2) = 50 then (rB (sp_X8_holds a0 0 v5) (fun z12 v12 => (if ¬ z12 = 0 then (chk (0 ≤ (v12 8 a0 17)) (chk (0 ≤ (v12 8 a0 18)) (chk (0 ≤ (w32 ((w32 (50 * a2)) + (v12 57 (v12 8 a0 17) a2))) ∧ (w32 ((w32 (50 * a2)) + (v12 57 (v12 8 a0 17) a2))) < 600) (rLet (up v12 58 (v12 8 a0 18) (w32 ((w32 (50 * a2)) + (v12 57 (v12 8 a0 17) a2))) a1) (fun v17 => (chk (0 ≤ (v17 8 a0 19)) (rLet (up v17 59 (v17 8 a0 19) (w32 ((w32 (50 * a2)) + (v12 57 (v12 8 a0 17) a2))) (v17 8 a0 1)) (fun v19 => (chk (0 ≤ (v19 8 a0 20)) (rLet (up v19 60 (v19 8 a0 20) (w32 ((w32 (50 * a2)) + (v12 57 (v12 8 a0 17) a2))) a3) (fun v21 => (chk (0 ≤ (v21 8 a0 17)) (rLet (up v21 57 (v21 8 a0 17) a2 (w32 ((v21 57 (v21 8 a0 17) a2) + 1))) (fun v23 => (chk (0 ≤ (v23 8 a0 17)) (rOk (v23 57 (v23 8 a0 17) a2) v23))))))))))))))))
   else none)))
   else (rB (sp_X8_holds a0 2 v5) (fun z25 v25 => (if ¬ z25 = 0 then none
   else (rOk 0 v25)))))))))))))
set_option maxRecDepth 100000 in
set_option maxHeartbeats 4000000 in
theorem k_X8_word (a0 a1 a2 a3 : Int) (h0 : 0 ≤ a0) (x : Cx) (v : V) (F : Fx x cX8_word RX8 "word" ({ frames := 2, cells := 0, slots := 0, locals := 43 }) 6 (some 0) (some .int) 0) (ho : ∀ a ∈ [(18, a0), (0, a1), (0, a2), (2, a3)], okv v a) : Gs x (sp_X8_word a0 a1 a2 a3 v) v 0 0 0 (avArgs 0 [(18, a0), (0, a1), (0, a2), (2, a3)]) [] := by
  show Gs x _ v 0 0 0 [(0, (18, a0)), (1, (0, a1)), (2, (0, a2)), (3, (2, a3))] []
  unfold sp_X8_word
  refine g_aload_n F rfl 0 rfl dX8_word_0 ?_
  refine g_iload_n F rfl 1 rfl rfl dX8_word_1 ?_
  refine g_callV F (by decide) (K := 8) (b := a0) [(0, a1)] [0] ml_RX8_154 wi_X8_isParty ws_X8_isParty (c_X8_isParty a0 a1 (Int.not_lt.mp (Int.not_lt.mpr h0))) mi_X8_isParty (by decide) ⟨_, rfl, rfl⟩ (Int.not_lt.mp (Int.not_lt.mpr h0)) rfl rfl rfl (Nat.le_of_ble_eq_true rfl) (Nat.le_of_ble_eq_true rfl) (Nat.le_of_ble_eq_true rfl) (Nat.le_of_ble_eq_true rfl) (Nat.le_of_ble_eq_true rfl) dX8_word_2 (fun z1 v1 hz1 => ?_)
  refine g_if_eq F rfl (tgt := 20) rfl dX8_word_5 (fun n2 => ?_) (fun n2 => ?_)
  · refine g_iconst F 2 rfl dX8_word_20 ?_
    refine g_istore F rfl (Nat.le_of_ble_eq_true rfl) (ls' := [(4, (2, 0)), (0, (18, a0)), (1, (0, a1)), (2, (0, a2)), (3, (2, a3))]) rfl dX8_word_21 ?_
    refine g_aload_n F rfl 1 rfl dX8_word_23 ?_
    refine g_iload F 0 rfl rfl dX8_word_24 ?_
    refine g_if_ne_f F rfl (by decide) (tgt := 33) rfl dX8_word_26 ?_
    refine g_iconst F 2 rfl dX8_word_29 ?_
    refine g_goto F (tgt := 49) rfl dX8_word_30 ?_
    refine g_callV F (by decide) (K := 8) (b := a0) [(2, 1)] [0] ml_RX8_151 wi_X8_holds ws_X8_holds (c_X8_holds a0 1 (Int.not_lt.mp (Int.not_lt.mpr h0))) mi_X8_holds (by decide) ⟨_, rfl, rfl⟩ (Int.not_lt.mp (Int.not_lt.mpr h0)) rfl rfl rfl (Nat.le_of_ble_eq_true rfl) (Nat.le_of_ble_eq_true rfl) (Nat.le_of_ble_eq_true rfl) (Nat.le_of_ble_eq_true rfl) (Nat.le_of_ble_eq_true rfl) dX8_word_49 (fun z3 v3 hz3 => ?_)
    refine g_if_ne F rfl (tgt := 57) rfl dX8_word_52 (fun n4 => ?_) (fun n4 => ?_)
    · exact g_none
    · refine g_iconst F 2 rfl dX8_word_55 ?_
      exact g_ireturn F rfl rfl rfl rfl (Nat.le_of_ble_eq_true rfl) (Nat.le_of_ble_eq_true rfl) dX8_word_56
  · refine g_aload_n F rfl 0 rfl dX8_word_8 ?_
    refine g_iload_n F rfl 2 rfl rfl dX8_word_9 ?_
    refine g_callV F (by decide) (K := 8) (b := a0) [(0, a2)] [0] ml_RX8_161 wi_X8_isWork ws_X8_isWork (c_X8_isWork a0 a2 (Int.not_lt.mp (Int.not_lt.mpr h0))) mi_X8_isWork (by decide) ⟨_, rfl, rfl⟩ (Int.not_lt.mp (Int.not_lt.mpr h0)) rfl rfl rfl (Nat.le_of_ble_eq_true rfl) (Nat.le_of_ble_eq_true rfl) (Nat.le_of_ble_eq_true rfl) (Nat.le_of_ble_eq_true rfl) (Nat.le_of_ble_eq_true rfl) dX8_word_10 (fun z5 v5 hz5 => ?_)
    refine g_if_eq F rfl (tgt := 20) rfl dX8_word_13 (fun n6 => ?_) (fun n6 => ?_)
    · refine g_iconst F 2 rfl dX8_word_20 ?_
      refine g_istore F rfl (Nat.le_of_ble_eq_true rfl) (ls' := [(4, (2, 0)), (0, (18, a0)), (1, (0, a1)), (2, (0, a2)), (3, (2, a3))]) rfl dX8_word_21 ?_
      refine g_aload_n F rfl 1 rfl dX8_word_23 ?_
      refine g_iload F 0 rfl rfl dX8_word_24 ?_
      refine g_if_ne_f F rfl (by decide) (tgt := 33) rfl dX8_word_26 ?_
      refine g_iconst F 2 rfl dX8_word_29 ?_
      refine g_goto F (tgt := 49) rfl dX8_word_30 ?_
      refine g_callV F (by decide) (K := 8) (b := a0) [(2, 1)] [0] ml_RX8_151 wi_X8_holds ws_X8_holds (c_X8_holds a0 1 (Int.not_lt.mp (Int.not_lt.mpr h0))) mi_X8_holds (by decide) ⟨_, rfl, rfl⟩ (Int.not_lt.mp (Int.not_lt.mpr h0)) rfl rfl rfl (Nat.le_of_ble_eq_true rfl) (Nat.le_of_ble_eq_true rfl) (Nat.le_of_ble_eq_true rfl) (Nat.le_of_ble_eq_true rfl) (Nat.le_of_ble_eq_true rfl) dX8_word_49 (fun z7 v7 hz7 => ?_)
      refine g_if_ne F rfl (tgt := 57) rfl dX8_word_52 (fun n8 => ?_) (fun n8 => ?_)
      · exact g_none
      · refine g_iconst F 2 rfl dX8_word_55 ?_
        exact g_ireturn F rfl rfl rfl rfl (Nat.le_of_ble_eq_true rfl) (Nat.le_of_ble_eq_true rfl) dX8_word_56
    · refine g_iconst F 2 rfl dX8_word_16 ?_
      refine g_goto F (tgt := 21) rfl dX8_word_17 ?_
      refine g_istore F rfl (Nat.le_of_ble_eq_true rfl) (ls' := [(4, (2, 1)), (0, (18, a0)), (1, (0, a1)), (2, (0, a2)), (3, (2, a3))]) rfl dX8_word_21 ?_
      refine g_aload_n F rfl 1 rfl dX8_word_23 ?_
      refine g_iload F 0 rfl rfl dX8_word_24 ?_
      refine g_if_ne_t F rfl (by decide) (tgt := 33) rfl dX8_word_26 ?_
      refine g_aload_n F rfl 1 rfl dX8_word_33 ?_
      refine g_get F (t := 67) (sI := 17) fl_RX8_51 rfl rfl (Int.not_lt.mp (Int.not_lt.mpr h0)) dX8_word_34 ?_
      refine g_iload_n F rfl 3 rfl rfl dX8_word_37 ?_
      refine g_chk (fun n9 => ?_)
      refine g_chk (fun n10 => ?_)
      refine h_iald F (n := 12) ak_57 (Int.not_lt.mp (Int.not_lt.mpr n9)) n10 rfl dX8_word_38 ?_
      refine g_bipush F rfl (by decide) dX8_word_39 ?_
      refine g_icmp_ne F rfl rfl (tgt := 48) rfl dX8_word_41 (fun n11 => ?_) (fun n11 => ?_)
      · refine g_iconst F 2 rfl dX8_word_48 ?_
        refine g_callV F (by decide) (K := 8) (b := a0) [(2, 0)] [0] ml_RX8_151 wi_X8_holds ws_X8_holds (c_X8_holds a0 0 (Int.not_lt.mp (Int.not_lt.mpr h0))) mi_X8_holds (by decide) ⟨_, rfl, rfl⟩ (Int.not_lt.mp (Int.not_lt.mpr h0)) rfl rfl rfl (Nat.le_of_ble_eq_true rfl) (Nat.le_of_ble_eq_true rfl) (Nat.le_of_ble_eq_true rfl) (Nat.le_of_ble_eq_true rfl) (Nat.le_of_ble_eq_true rfl) dX8_word_49 (fun z12 v12 hz12 => ?_)
        refine g_if_ne F rfl (tgt := 57) rfl dX8_word_52 (fun n13 => ?_) (fun n13 => ?_)
        · refine g_bipush F rfl (by decide) dX8_word_57 ?_
          refine g_iload_n F rfl 3 rfl rfl dX8_word_59 ?_
          refine g_imul F rfl rfl dX8_word_60 ?_
          refine g_aload_n F rfl 1 rfl dX8_word_61 ?_
          refine g_get F (t := 67) (sI := 17) fl_RX8_51 rfl rfl (Int.not_lt.mp (Int.not_lt.mpr h0)) dX8_word_62 ?_
          refine g_iload_n F rfl 3 rfl rfl dX8_word_65 ?_
          refine g_chk (fun n14 => ?_)
          refine h_iald F (n := 12) ak_57 (Int.not_lt.mp (Int.not_lt.mpr n14)) n10 rfl dX8_word_66 ?_
          refine g_iadd F rfl rfl dX8_word_67 ?_
          refine g_istore F rfl (Nat.le_of_ble_eq_true rfl) (ls' := [(5, (0, (w32 ((w32 (50 * a2)) + (v12 57 (v12 8 a0 17) a2))))), (4, (2, 1)), (0, (18, a0)), (1, (0, a1)), (2, (0, a2)), (3, (2, a3))]) rfl dX8_word_68 ?_
          refine g_aload_n F rfl 2 rfl dX8_word_70 ?_
          refine g_get F (t := 68) (sI := 18) fl_RX8_54 rfl rfl (Int.not_lt.mp (Int.not_lt.mpr h0)) dX8_word_71 ?_
          refine g_iload F 0 rfl rfl dX8_word_74 ?_
          refine g_iload_n F rfl 3 rfl rfl dX8_word_76 ?_
          refine g_chk (fun n15 => ?_)
          refine g_chk (fun n16 => ?_)
          refine h_iast F (n := 600) ak_58 rfl (Int.not_lt.mp (Int.not_lt.mpr n15)) n16 rfl dX8_word_77 (fun v17 => ?_)
          refine g_aload_n F rfl 2 rfl dX8_word_78 ?_
          refine g_get F (t := 69) (sI := 19) fl_RX8_57 rfl rfl (Int.not_lt.mp (Int.not_lt.mpr h0)) dX8_word_79 ?_
          refine g_iload F 0 rfl rfl dX8_word_82 ?_
          refine g_aload_n F rfl 2 rfl dX8_word_84 ?_
          refine g_get F (t := 0) (sI := 1) fl_RX8_164 rfl rfl (Int.not_lt.mp (Int.not_lt.mpr h0)) dX8_word_85 ?_
          refine g_chk (fun n18 => ?_)
          refine h_iast F (n := 600) ak_59 rfl (Int.not_lt.mp (Int.not_lt.mpr n18)) n16 rfl dX8_word_88 (fun v19 => ?_)
          refine g_aload_n F rfl 2 rfl dX8_word_89 ?_
          refine g_get F (t := 70) (sI := 20) fl_RX8_60 rfl rfl (Int.not_lt.mp (Int.not_lt.mpr h0)) dX8_word_90 ?_
          refine g_iload F 0 rfl rfl dX8_word_93 ?_
          refine g_iload_n F rfl 5 rfl rfl dX8_word_95 ?_
          refine g_chk (fun n20 => ?_)
          refine h_zast F (n := 600) ak_60 rfl (Int.not_lt.mp (Int.not_lt.mpr n20)) n16 rfl dX8_word_96 (fun v21 => ?_)
          refine g_aload_n F rfl 2 rfl dX8_word_97 ?_
          refine g_get F (t := 67) (sI := 17) fl_RX8_51 rfl rfl (Int.not_lt.mp (Int.not_lt.mpr h0)) dX8_word_98 ?_
          refine g_iload_n F rfl 4 rfl rfl dX8_word_101 ?_
          refine g_dup2 F rfl rfl dX8_word_102 ?_
          refine g_chk (fun n22 => ?_)
          refine h_iald F (n := 12) ak_57 (Int.not_lt.mp (Int.not_lt.mpr n22)) n10 rfl dX8_word_103 ?_
          refine g_iconst F 2 rfl dX8_word_104 ?_
          refine g_iadd F rfl rfl dX8_word_105 ?_
          refine h_iast F (n := 12) ak_57 rfl (Int.not_lt.mp (Int.not_lt.mpr n22)) n10 rfl dX8_word_106 (fun v23 => ?_)
          refine g_aload_n F rfl 2 rfl dX8_word_107 ?_
          refine g_get F (t := 67) (sI := 17) fl_RX8_51 rfl rfl (Int.not_lt.mp (Int.not_lt.mpr h0)) dX8_word_108 ?_
          refine g_iload_n F rfl 4 rfl rfl dX8_word_111 ?_
          refine g_chk (fun n24 => ?_)
          refine h_iald F (n := 12) ak_57 (Int.not_lt.mp (Int.not_lt.mpr n24)) n10 rfl dX8_word_112 ?_
          exact g_ireturn F rfl rfl rfl rfl (Nat.le_of_ble_eq_true rfl) (Nat.le_of_ble_eq_true rfl) dX8_word_113
        · exact g_none
      · refine g_iconst F 0 rfl dX8_word_44 ?_
        refine g_goto F (tgt := 49) rfl dX8_word_45 ?_
        refine g_callV F (by decide) (K := 8) (b := a0) [(0, 2)] [0] ml_RX8_151 wi_X8_holds ws_X8_holds (c_X8_holds a0 2 (Int.not_lt.mp (Int.not_lt.mpr h0))) mi_X8_holds (by decide) ⟨_, rfl, rfl⟩ (Int.not_lt.mp (Int.not_lt.mpr h0)) rfl rfl rfl (Nat.le_of_ble_eq_true rfl) (Nat.le_of_ble_eq_true rfl) (Nat.le_of_ble_eq_true rfl) (Nat.le_of_ble_eq_true rfl) (Nat.le_of_ble_eq_true rfl) dX8_word_49 (fun z25 v25 hz25 => ?_)
        refine g_if_ne F rfl (tgt := 57) rfl dX8_word_52 (fun n26 => ?_) (fun n26 => ?_)
        · exact g_none
        · refine g_iconst F 2 rfl dX8_word_55 ?_
          exact g_ireturn F rfl rfl rfl rfl (Nat.le_of_ble_eq_true rfl) (Nat.le_of_ble_eq_true rfl) dX8_word_56
theorem c_X8_word (a0 a1 a2 a3 : Int) (h0 : 0 ≤ a0) : ∀ l, Ct l yX8_word cX8_word 6 (some .int) ({ frames := 2, cells := 0, slots := 0, locals := 43 }) (some 0) [(18, a0), (0, a1), (0, a2), (2, a3)] (sp_X8_word a0 a1 a2 a3) := g_method (by decide +kernel) (Nat.le_of_ble_eq_true rfl) (fun x v F ho => k_X8_word a0 a1 a2 a3 h0 x v F ho)
def lp_X8_paper_62 (l0 l1 l2 l3 l4 l5 : Int) (k : V → Int → Res) : Nat → V → Int → Res
  | 0, _, _ => none
  | n + 1, v, l6 => (if l5 = 0 then (k v l6)
   else (if l3 < l6 then (k v l6)
   else (chk (0 ≤ (v 8 l0 16)) (chk (0 ≤ (w32 ((w32 ((w32 (101 * l1)) + l6)) - 1900)) ∧ (w32 ((w32 ((w32 (101 * l1)) + l6)) - 1900)) < 1212) (rLet (up v 56 (v 8 l0 16) (w32 ((w32 ((w32 (101 * l1)) + l6)) - 1900)) 1) (fun v10 => (lp_X8_paper_62 l0 l1 l2 l3 l4 l5 k n v10 (w32 (l6 + 1)))))))))
set_option maxRecDepth 100000 in
set_option maxHeartbeats 4000000 in
theorem kl_X8_paper_62 {l0 l1 l2 l3 l4 l5 : Int} (h0 : 0 ≤ l0) {x : Cx} (F : Fx x cX8_paper RX8 "paper" ({ frames := 2, cells := 0, slots := 0, locals := 43 }) 7 none none 0) {k : V → Int → Res} (hk : ∀ (v : V) (l6 : Int), Gs x (k v l6) v 0 0 96 [(0, (18, l0)), (1, (0, l1)), (2, (0, l2)), (3, (0, l3)), (4, (2, l4)), (5, (2, l5)), (6, (0, l6))] []) : ∀ (n : Nat) (v : V) (l6 : Int), Gs x (lp_X8_paper_62 l0 l1 l2 l3 l4 l5 k n v l6) v 0 0 62 [(0, (18, l0)), (1, (0, l1)), (2, (0, l2)), (3, (0, l3)), (4, (2, l4)), (5, (2, l5)), (6, (0, l6))] [] := by
  intro n
  induction n with
  | zero => intro v l6; exact g_none
  | succ n ih =>
    intro v l6
    rw [lp_X8_paper_62]
    refine g_iload F 5 rfl rfl dX8_paper_62 ?_
    refine g_if_eq F rfl (tgt := 96) rfl dX8_paper_64 (fun n6 => ?_) (fun n6 => ?_)
    · refine g_loc [(0, 18), (1, 0), (2, 0), (3, 0), (4, 2), (5, 2), (6, 0)] rfl ?_
      exact hk v l6
    · refine g_iload F 6 rfl rfl dX8_paper_67 ?_
      refine g_iload_n F rfl 3 rfl rfl dX8_paper_69 ?_
      refine g_icmp_gt F rfl rfl (tgt := 96) rfl dX8_paper_70 (fun n7 => ?_) (fun n7 => ?_)
      · refine g_loc [(0, 18), (1, 0), (2, 0), (3, 0), (4, 2), (5, 2), (6, 0)] rfl ?_
        exact hk v l6
      · refine g_aload_n F rfl 0 rfl dX8_paper_73 ?_
        refine g_get F (t := 66) (sI := 16) fl_RX8_48 rfl rfl (Int.not_lt.mp (Int.not_lt.mpr h0)) dX8_paper_74 ?_
        refine g_bipush F rfl (by decide) dX8_paper_77 ?_
        refine g_iload_n F rfl 1 rfl rfl dX8_paper_79 ?_
        refine g_imul F rfl rfl dX8_paper_80 ?_
        refine g_iload F 6 rfl rfl dX8_paper_81 ?_
        refine g_iadd F rfl rfl dX8_paper_83 ?_
        refine g_sipush F rfl (by decide) dX8_paper_84 ?_
        refine g_isub F rfl rfl dX8_paper_87 ?_
        refine g_iconst F 2 rfl dX8_paper_88 ?_
        refine g_chk (fun n8 => ?_)
        refine g_chk (fun n9 => ?_)
        refine h_zast F (n := 1212) ak_56 rfl (Int.not_lt.mp (Int.not_lt.mpr n8)) n9 rfl dX8_paper_89 (fun v10 => ?_)
        refine g_iinc F 6 rfl rfl (Nat.le_of_ble_eq_true rfl) (ls' := [(6, (0, (w32 (l6 + 1)))), (0, (18, l0)), (1, (0, l1)), (2, (0, l2)), (3, (0, l3)), (4, (2, l4)), (5, (2, l5))]) rfl dX8_paper_90 ?_
        refine g_goto F (tgt := 62) rfl dX8_paper_93 ?_
        refine g_loc [(1, 18), (2, 0), (3, 0), (4, 0), (5, 2), (6, 2), (0, 0)] rfl ?_
        exact ih v10 (w32 (l6 + 1))
def sp_X8_paper (a0 a1 a2 a3 : Int) (v : V) : Res := (rB (sp_X8_in a2 1900 2000 v) (fun z1 v1 => (if z1 = 0 then (rB (sp_X8_isWork a0 a1 v1) (fun z3 v3 => (if ¬ z3 = 0 then (rB (sp_X8_holds a0 2 v3) (fun z5 v5 => (lp_X8_paper_62 a0 a1 a2 a3 0 z5 (fun v11 u11_6 => (rOk 0 v11)) 200 v5 a2)))
   else (rB (sp_X8_holds a0 1 v3) (fun z12 v12 => (lp_X8_paper_62 a0 a1 a2 a3 0 z12 (fun v13 u13_6 => (rOk 0 v13)) 200 v12 a2))))))
   else (rB (sp_X8_in a3 a2 2000 v1) (fun z14 v14 => (if z14 = 0 then (rB (sp_X8_isWork a0 a1 v14) (fun z16 v16 => (if ¬ z16 = 0 then (rB (sp_X8_holds a0 2 v16) (fun z18 v18 => (lp_X8_paper_62 a0 a1 a2 a3 0 z18 (fun v19 u19_6 => (rOk 0 v19)) 200 v18 a2)))
   else (rB (sp_X8_holds a0 1 v16) (fun z20 v20 => (lp_X8_paper_62 a0 a1 a2 a3 0 z20 (fun v21 u21_6 => (rOk 0 v21)) 200 v20 a2))))))
   else (rB (sp_X8_isWork a0 a1 v14) (fun z22 v22 => (if ¬ z22 = 0 then (rB (sp_X8_holds a0 0 v22) (fun z24 v24 => (lp_X8_paper_62 a0 a1 a2 a3 1 z24 (fun v25 u25_6 => (rOk 0 v25)) 200 v24 a2)))
   else (rB (sp_X8_holds a0 1 v22) (fun z26 v26 => (lp_X8_paper_62 a0 a1 a2 a3 1 z26 (fun v27 u27_6 => (rOk 0 v27)) 200 v26 a2))))))))))))
set_option maxRecDepth 100000 in
set_option maxHeartbeats 4000000 in
theorem k_X8_paper (a0 a1 a2 a3 : Int) (h0 : 0 ≤ a0) (x : Cx) (v : V) (F : Fx x cX8_paper RX8 "paper" ({ frames := 2, cells := 0, slots := 0, locals := 43 }) 7 none none 0) (ho : ∀ a ∈ [(18, a0), (0, a1), (0, a2), (0, a3)], okv v a) : Gs x (sp_X8_paper a0 a1 a2 a3 v) v 0 0 0 (avArgs 0 [(18, a0), (0, a1), (0, a2), (0, a3)]) [] := by
  show Gs x _ v 0 0 0 [(0, (18, a0)), (1, (0, a1)), (2, (0, a2)), (3, (0, a3))] []
  unfold sp_X8_paper
  refine g_iload_n F rfl 2 rfl rfl dX8_paper_0 ?_
  refine g_sipush F rfl (by decide) dX8_paper_1 ?_
  refine g_sipush F rfl (by decide) dX8_paper_4 ?_
  refine g_callS F (by decide) [(0, a2), (0, 1900), (0, 2000)] [0, 0, 0] ml_RX8_133 wt_X8_in (c_X8_in a2 1900 2000) mi_X8_in rfl rfl rfl (Nat.le_of_ble_eq_true rfl) (Nat.le_of_ble_eq_true rfl) (Nat.le_of_ble_eq_true rfl) (Nat.le_of_ble_eq_true rfl) (Nat.le_of_ble_eq_true rfl) dX8_paper_7 (fun z1 v1 hz1 => ?_)
  refine g_if_eq F rfl (tgt := 28) rfl dX8_paper_10 (fun n2 => ?_) (fun n2 => ?_)
  · refine g_iconst F 2 rfl dX8_paper_28 ?_
    refine g_istore F rfl (Nat.le_of_ble_eq_true rfl) (ls' := [(4, (2, 0)), (0, (18, a0)), (1, (0, a1)), (2, (0, a2)), (3, (0, a3))]) rfl dX8_paper_29 ?_
    refine g_aload_n F rfl 1 rfl dX8_paper_31 ?_
    refine g_aload_n F rfl 1 rfl dX8_paper_32 ?_
    refine g_iload_n F rfl 2 rfl rfl dX8_paper_33 ?_
    refine g_callV F (by decide) (K := 8) (b := a0) [(0, a1)] [0] ml_RX8_161 wi_X8_isWork ws_X8_isWork (c_X8_isWork a0 a1 (Int.not_lt.mp (Int.not_lt.mpr h0))) mi_X8_isWork (by decide) ⟨_, rfl, rfl⟩ (Int.not_lt.mp (Int.not_lt.mpr h0)) rfl rfl rfl (Nat.le_of_ble_eq_true rfl) (Nat.le_of_ble_eq_true rfl) (Nat.le_of_ble_eq_true rfl) (Nat.le_of_ble_eq_true rfl) (Nat.le_of_ble_eq_true rfl) dX8_paper_34 (fun z3 v3 hz3 => ?_)
    refine g_if_ne F rfl (tgt := 44) rfl dX8_paper_37 (fun n4 => ?_) (fun n4 => ?_)
    · refine g_iload F 0 rfl rfl dX8_paper_44 ?_
      refine g_if_eq_t F rfl (by decide) (tgt := 53) rfl dX8_paper_46 ?_
      refine g_iconst F 0 rfl dX8_paper_53 ?_
      refine g_callV F (by decide) (K := 8) (b := a0) [(0, 2)] [0] ml_RX8_151 wi_X8_holds ws_X8_holds (c_X8_holds a0 2 (Int.not_lt.mp (Int.not_lt.mpr h0))) mi_X8_holds (by decide) ⟨_, rfl, rfl⟩ (Int.not_lt.mp (Int.not_lt.mpr h0)) rfl rfl rfl (Nat.le_of_ble_eq_true rfl) (Nat.le_of_ble_eq_true rfl) (Nat.le_of_ble_eq_true rfl) (Nat.le_of_ble_eq_true rfl) (Nat.le_of_ble_eq_true rfl) dX8_paper_54 (fun z5 v5 hz5 => ?_)
      refine g_istore F rfl (Nat.le_of_ble_eq_true rfl) (ls' := [(5, (2, z5)), (4, (2, 0)), (0, (18, a0)), (1, (0, a1)), (2, (0, a2)), (3, (0, a3))]) rfl dX8_paper_57 ?_
      refine g_iload_n F rfl 4 rfl rfl dX8_paper_59 ?_
      refine g_istore F rfl (Nat.le_of_ble_eq_true rfl) (ls' := [(6, (0, a2)), (5, (2, z5)), (4, (2, 0)), (0, (18, a0)), (1, (0, a1)), (2, (0, a2)), (3, (0, a3))]) rfl dX8_paper_60 ?_
      refine g_loc [(3, 18), (4, 0), (5, 0), (6, 0), (2, 2), (1, 2), (0, 0)] rfl ?_
      refine kl_X8_paper_62 (Int.not_lt.mp (Int.not_lt.mpr h0)) F (fun v11 u11_6 => ?_) 200 v5 a2
      exact g_return F rfl (Nat.le_of_ble_eq_true rfl) (Nat.le_of_ble_eq_true rfl) dX8_paper_96
    · refine g_iconst F 2 rfl dX8_paper_40 ?_
      refine g_goto F (tgt := 54) rfl dX8_paper_41 ?_
      refine g_callV F (by decide) (K := 8) (b := a0) [(2, 1)] [0] ml_RX8_151 wi_X8_holds ws_X8_holds (c_X8_holds a0 1 (Int.not_lt.mp (Int.not_lt.mpr h0))) mi_X8_holds (by decide) ⟨_, rfl, rfl⟩ (Int.not_lt.mp (Int.not_lt.mpr h0)) rfl rfl rfl (Nat.le_of_ble_eq_true rfl) (Nat.le_of_ble_eq_true rfl) (Nat.le_of_ble_eq_true rfl) (Nat.le_of_ble_eq_true rfl) (Nat.le_of_ble_eq_true rfl) dX8_paper_54 (fun z12 v12 hz12 => ?_)
      refine g_istore F rfl (Nat.le_of_ble_eq_true rfl) (ls' := [(5, (2, z12)), (4, (2, 0)), (0, (18, a0)), (1, (0, a1)), (2, (0, a2)), (3, (0, a3))]) rfl dX8_paper_57 ?_
      refine g_iload_n F rfl 4 rfl rfl dX8_paper_59 ?_
      refine g_istore F rfl (Nat.le_of_ble_eq_true rfl) (ls' := [(6, (0, a2)), (5, (2, z12)), (4, (2, 0)), (0, (18, a0)), (1, (0, a1)), (2, (0, a2)), (3, (0, a3))]) rfl dX8_paper_60 ?_
      refine g_loc [(3, 18), (4, 0), (5, 0), (6, 0), (2, 2), (1, 2), (0, 0)] rfl ?_
      refine kl_X8_paper_62 (Int.not_lt.mp (Int.not_lt.mpr h0)) F (fun v13 u13_6 => ?_) 200 v12 a2
      exact g_return F rfl (Nat.le_of_ble_eq_true rfl) (Nat.le_of_ble_eq_true rfl) dX8_paper_96
  · refine g_iload_n F rfl 3 rfl rfl dX8_paper_13 ?_
    refine g_iload_n F rfl 2 rfl rfl dX8_paper_14 ?_
    refine g_sipush F rfl (by decide) dX8_paper_15 ?_
    refine g_callS F (by decide) [(0, a3), (0, a2), (0, 2000)] [0, 0, 0] ml_RX8_133 wt_X8_in (c_X8_in a3 a2 2000) mi_X8_in rfl rfl rfl (Nat.le_of_ble_eq_true rfl) (Nat.le_of_ble_eq_true rfl) (Nat.le_of_ble_eq_true rfl) (Nat.le_of_ble_eq_true rfl) (Nat.le_of_ble_eq_true rfl) dX8_paper_18 (fun z14 v14 hz14 => ?_)
    refine g_if_eq F rfl (tgt := 28) rfl dX8_paper_21 (fun n15 => ?_) (fun n15 => ?_)
    · refine g_iconst F 2 rfl dX8_paper_28 ?_
      refine g_istore F rfl (Nat.le_of_ble_eq_true rfl) (ls' := [(4, (2, 0)), (0, (18, a0)), (1, (0, a1)), (2, (0, a2)), (3, (0, a3))]) rfl dX8_paper_29 ?_
      refine g_aload_n F rfl 1 rfl dX8_paper_31 ?_
      refine g_aload_n F rfl 1 rfl dX8_paper_32 ?_
      refine g_iload_n F rfl 2 rfl rfl dX8_paper_33 ?_
      refine g_callV F (by decide) (K := 8) (b := a0) [(0, a1)] [0] ml_RX8_161 wi_X8_isWork ws_X8_isWork (c_X8_isWork a0 a1 (Int.not_lt.mp (Int.not_lt.mpr h0))) mi_X8_isWork (by decide) ⟨_, rfl, rfl⟩ (Int.not_lt.mp (Int.not_lt.mpr h0)) rfl rfl rfl (Nat.le_of_ble_eq_true rfl) (Nat.le_of_ble_eq_true rfl) (Nat.le_of_ble_eq_true rfl) (Nat.le_of_ble_eq_true rfl) (Nat.le_of_ble_eq_true rfl) dX8_paper_34 (fun z16 v16 hz16 => ?_)
      refine g_if_ne F rfl (tgt := 44) rfl dX8_paper_37 (fun n17 => ?_) (fun n17 => ?_)
      · refine g_iload F 0 rfl rfl dX8_paper_44 ?_
        refine g_if_eq_t F rfl (by decide) (tgt := 53) rfl dX8_paper_46 ?_
        refine g_iconst F 0 rfl dX8_paper_53 ?_
        refine g_callV F (by decide) (K := 8) (b := a0) [(0, 2)] [0] ml_RX8_151 wi_X8_holds ws_X8_holds (c_X8_holds a0 2 (Int.not_lt.mp (Int.not_lt.mpr h0))) mi_X8_holds (by decide) ⟨_, rfl, rfl⟩ (Int.not_lt.mp (Int.not_lt.mpr h0)) rfl rfl rfl (Nat.le_of_ble_eq_true rfl) (Nat.le_of_ble_eq_true rfl) (Nat.le_of_ble_eq_true rfl) (Nat.le_of_ble_eq_true rfl) (Nat.le_of_ble_eq_true rfl) dX8_paper_54 (fun z18 v18 hz18 => ?_)
        refine g_istore F rfl (Nat.le_of_ble_eq_true rfl) (ls' := [(5, (2, z18)), (4, (2, 0)), (0, (18, a0)), (1, (0, a1)), (2, (0, a2)), (3, (0, a3))]) rfl dX8_paper_57 ?_
        refine g_iload_n F rfl 4 rfl rfl dX8_paper_59 ?_
        refine g_istore F rfl (Nat.le_of_ble_eq_true rfl) (ls' := [(6, (0, a2)), (5, (2, z18)), (4, (2, 0)), (0, (18, a0)), (1, (0, a1)), (2, (0, a2)), (3, (0, a3))]) rfl dX8_paper_60 ?_
        refine g_loc [(3, 18), (4, 0), (5, 0), (6, 0), (2, 2), (1, 2), (0, 0)] rfl ?_
        refine kl_X8_paper_62 (Int.not_lt.mp (Int.not_lt.mpr h0)) F (fun v19 u19_6 => ?_) 200 v18 a2
        exact g_return F rfl (Nat.le_of_ble_eq_true rfl) (Nat.le_of_ble_eq_true rfl) dX8_paper_96
      · refine g_iconst F 2 rfl dX8_paper_40 ?_
        refine g_goto F (tgt := 54) rfl dX8_paper_41 ?_
        refine g_callV F (by decide) (K := 8) (b := a0) [(2, 1)] [0] ml_RX8_151 wi_X8_holds ws_X8_holds (c_X8_holds a0 1 (Int.not_lt.mp (Int.not_lt.mpr h0))) mi_X8_holds (by decide) ⟨_, rfl, rfl⟩ (Int.not_lt.mp (Int.not_lt.mpr h0)) rfl rfl rfl (Nat.le_of_ble_eq_true rfl) (Nat.le_of_ble_eq_true rfl) (Nat.le_of_ble_eq_true rfl) (Nat.le_of_ble_eq_true rfl) (Nat.le_of_ble_eq_true rfl) dX8_paper_54 (fun z20 v20 hz20 => ?_)
        refine g_istore F rfl (Nat.le_of_ble_eq_true rfl) (ls' := [(5, (2, z20)), (4, (2, 0)), (0, (18, a0)), (1, (0, a1)), (2, (0, a2)), (3, (0, a3))]) rfl dX8_paper_57 ?_
        refine g_iload_n F rfl 4 rfl rfl dX8_paper_59 ?_
        refine g_istore F rfl (Nat.le_of_ble_eq_true rfl) (ls' := [(6, (0, a2)), (5, (2, z20)), (4, (2, 0)), (0, (18, a0)), (1, (0, a1)), (2, (0, a2)), (3, (0, a3))]) rfl dX8_paper_60 ?_
        refine g_loc [(3, 18), (4, 0), (5, 0), (6, 0), (2, 2), (1, 2), (0, 0)] rfl ?_
        refine kl_X8_paper_62 (Int.not_lt.mp (Int.not_lt.mpr h0)) F (fun v21 u21_6 => ?_) 200 v20 a2
        exact g_return F rfl (Nat.le_of_ble_eq_true rfl) (Nat.le_of_ble_eq_true rfl) dX8_paper_96
    · refine g_iconst F 2 rfl dX8_paper_24 ?_
      refine g_goto F (tgt := 29) rfl dX8_paper_25 ?_
      refine g_istore F rfl (Nat.le_of_ble_eq_true rfl) (ls' := [(4, (2, 1)), (0, (18, a0)), (1, (0, a1)), (2, (0, a2)), (3, (0, a3))]) rfl dX8_paper_29 ?_
      refine g_aload_n F rfl 1 rfl dX8_paper_31 ?_
      refine g_aload_n F rfl 1 rfl dX8_paper_32 ?_
      refine g_iload_n F rfl 2 rfl rfl dX8_paper_33 ?_
      refine g_callV F (by decide) (K := 8) (b := a0) [(0, a1)] [0] ml_RX8_161 wi_X8_isWork ws_X8_isWork (c_X8_isWork a0 a1 (Int.not_lt.mp (Int.not_lt.mpr h0))) mi_X8_isWork (by decide) ⟨_, rfl, rfl⟩ (Int.not_lt.mp (Int.not_lt.mpr h0)) rfl rfl rfl (Nat.le_of_ble_eq_true rfl) (Nat.le_of_ble_eq_true rfl) (Nat.le_of_ble_eq_true rfl) (Nat.le_of_ble_eq_true rfl) (Nat.le_of_ble_eq_true rfl) dX8_paper_34 (fun z22 v22 hz22 => ?_)
      refine g_if_ne F rfl (tgt := 44) rfl dX8_paper_37 (fun n23 => ?_) (fun n23 => ?_)
      · refine g_iload F 0 rfl rfl dX8_paper_44 ?_
        refine g_if_eq_f F rfl (by decide) (tgt := 53) rfl dX8_paper_46 ?_
        refine g_iconst F 2 rfl dX8_paper_49 ?_
        refine g_goto F (tgt := 54) rfl dX8_paper_50 ?_
        refine g_callV F (by decide) (K := 8) (b := a0) [(2, 0)] [0] ml_RX8_151 wi_X8_holds ws_X8_holds (c_X8_holds a0 0 (Int.not_lt.mp (Int.not_lt.mpr h0))) mi_X8_holds (by decide) ⟨_, rfl, rfl⟩ (Int.not_lt.mp (Int.not_lt.mpr h0)) rfl rfl rfl (Nat.le_of_ble_eq_true rfl) (Nat.le_of_ble_eq_true rfl) (Nat.le_of_ble_eq_true rfl) (Nat.le_of_ble_eq_true rfl) (Nat.le_of_ble_eq_true rfl) dX8_paper_54 (fun z24 v24 hz24 => ?_)
        refine g_istore F rfl (Nat.le_of_ble_eq_true rfl) (ls' := [(5, (2, z24)), (4, (2, 1)), (0, (18, a0)), (1, (0, a1)), (2, (0, a2)), (3, (0, a3))]) rfl dX8_paper_57 ?_
        refine g_iload_n F rfl 4 rfl rfl dX8_paper_59 ?_
        refine g_istore F rfl (Nat.le_of_ble_eq_true rfl) (ls' := [(6, (0, a2)), (5, (2, z24)), (4, (2, 1)), (0, (18, a0)), (1, (0, a1)), (2, (0, a2)), (3, (0, a3))]) rfl dX8_paper_60 ?_
        refine g_loc [(3, 18), (4, 0), (5, 0), (6, 0), (2, 2), (1, 2), (0, 0)] rfl ?_
        refine kl_X8_paper_62 (Int.not_lt.mp (Int.not_lt.mpr h0)) F (fun v25 u25_6 => ?_) 200 v24 a2
        exact g_return F rfl (Nat.le_of_ble_eq_true rfl) (Nat.le_of_ble_eq_true rfl) dX8_paper_96
      · refine g_iconst F 2 rfl dX8_paper_40 ?_
        refine g_goto F (tgt := 54) rfl dX8_paper_41 ?_
        refine g_callV F (by decide) (K := 8) (b := a0) [(2, 1)] [0] ml_RX8_151 wi_X8_holds ws_X8_holds (c_X8_holds a0 1 (Int.not_lt.mp (Int.not_lt.mpr h0))) mi_X8_holds (by decide) ⟨_, rfl, rfl⟩ (Int.not_lt.mp (Int.not_lt.mpr h0)) rfl rfl rfl (Nat.le_of_ble_eq_true rfl) (Nat.le_of_ble_eq_true rfl) (Nat.le_of_ble_eq_true rfl) (Nat.le_of_ble_eq_true rfl) (Nat.le_of_ble_eq_true rfl) dX8_paper_54 (fun z26 v26 hz26 => ?_)
        refine g_istore F rfl (Nat.le_of_ble_eq_true rfl) (ls' := [(5, (2, z26)), (4, (2, 1)), (0, (18, a0)), (1, (0, a1)), (2, (0, a2)), (3, (0, a3))]) rfl dX8_paper_57 ?_
        refine g_iload_n F rfl 4 rfl rfl dX8_paper_59 ?_
        refine g_istore F rfl (Nat.le_of_ble_eq_true rfl) (ls' := [(6, (0, a2)), (5, (2, z26)), (4, (2, 1)), (0, (18, a0)), (1, (0, a1)), (2, (0, a2)), (3, (0, a3))]) rfl dX8_paper_60 ?_
        refine g_loc [(3, 18), (4, 0), (5, 0), (6, 0), (2, 2), (1, 2), (0, 0)] rfl ?_
        refine kl_X8_paper_62 (Int.not_lt.mp (Int.not_lt.mpr h0)) F (fun v27 u27_6 => ?_) 200 v26 a2
        exact g_return F rfl (Nat.le_of_ble_eq_true rfl) (Nat.le_of_ble_eq_true rfl) dX8_paper_96
theorem c_X8_paper (a0 a1 a2 a3 : Int) (h0 : 0 ≤ a0) : ∀ l, Ct l yX8_paper cX8_paper 7 none ({ frames := 2, cells := 0, slots := 0, locals := 43 }) none [(18, a0), (0, a1), (0, a2), (0, a3)] (sp_X8_paper a0 a1 a2 a3) := g_method (by decide +kernel) (Nat.le_of_ble_eq_true rfl) (fun x v F ho => k_X8_paper a0 a1 a2 a3 h0 x v F ho)
def sp_X8_right (a0 a1 a2 : Int) (v : V) : Res := (rB (sp_X8_isLand a1 v) (fun z1 v1 => (if ¬ z1 = 0 then (rB (sp_X8_in a2 0 20 v1) (fun z3 v3 => (if z3 = 0 then (rB (sp_X8_holds a0 2 v3) (fun z5 v5 => (if ¬ z5 = 0 then none
   else (rOk 0 v5))))
   else (rB (sp_X8_holds a0 0 v3) (fun z7 v7 => (if ¬ z7 = 0 then (chk (0 ≤ (v7 8 a0 8)) (chk (0 ≤ a1 ∧ a1 < 4) (rLet (up v7 48 (v7 8 a0 8) a1 a2) (fun v11 => (rOk (v7 48 (v7 8 a0 8) a1) v11)))))
   else none))))))
   else (rB (sp_X8_holds a0 1 v1) (fun z12 v12 => (if ¬ z12 = 0 then none
   else (rOk 0 v12)))))))
set_option maxRecDepth 100000 in
set_option maxHeartbeats 4000000 in
theorem k_X8_right (a0 a1 a2 : Int) (h0 : 0 ≤ a0) (x : Cx) (v : V) (F : Fx x cX8_right RX8 "right" ({ frames := 2, cells := 0, slots := 0, locals := 42 }) 4 (some 0) (some .int) 0) (ho : ∀ a ∈ [(18, a0), (0, a1), (0, a2)], okv v a) : Gs x (sp_X8_right a0 a1 a2 v) v 0 0 0 (avArgs 0 [(18, a0), (0, a1), (0, a2)]) [] := by
  show Gs x _ v 0 0 0 [(0, (18, a0)), (1, (0, a1)), (2, (0, a2))] []
  unfold sp_X8_right
  refine g_aload_n F rfl 0 rfl dX8_right_0 ?_
  refine g_iload_n F rfl 1 rfl rfl dX8_right_1 ?_
  refine g_callS F (by decide) [(0, a1)] [0] ml_RX8_146 wt_X8_isLand (c_X8_isLand a1) mi_X8_isLand rfl rfl rfl (Nat.le_of_ble_eq_true rfl) (Nat.le_of_ble_eq_true rfl) (Nat.le_of_ble_eq_true rfl) (Nat.le_of_ble_eq_true rfl) (Nat.le_of_ble_eq_true rfl) dX8_right_2 (fun z1 v1 hz1 => ?_)
  refine g_if_ne F rfl (tgt := 12) rfl dX8_right_5 (fun n2 => ?_) (fun n2 => ?_)
  · refine g_iload_n F rfl 2 rfl rfl dX8_right_12 ?_
    refine g_iconst F 2 rfl dX8_right_13 ?_
    refine g_bipush F rfl (by decide) dX8_right_14 ?_
    refine g_callS F (by decide) [(0, a2), (2, 0), (0, 20)] [0, 0, 0] ml_RX8_133 wt_X8_in (c_X8_in a2 0 20) mi_X8_in rfl rfl rfl (Nat.le_of_ble_eq_true rfl) (Nat.le_of_ble_eq_true rfl) (Nat.le_of_ble_eq_true rfl) (Nat.le_of_ble_eq_true rfl) (Nat.le_of_ble_eq_true rfl) dX8_right_16 (fun z3 v3 hz3 => ?_)
    refine g_if_eq F rfl (tgt := 26) rfl dX8_right_19 (fun n4 => ?_) (fun n4 => ?_)
    · refine g_iconst F 0 rfl dX8_right_26 ?_
      refine g_callV F (by decide) (K := 8) (b := a0) [(0, 2)] [0] ml_RX8_151 wi_X8_holds ws_X8_holds (c_X8_holds a0 2 (Int.not_lt.mp (Int.not_lt.mpr h0))) mi_X8_holds (by decide) ⟨_, rfl, rfl⟩ (Int.not_lt.mp (Int.not_lt.mpr h0)) rfl rfl rfl (Nat.le_of_ble_eq_true rfl) (Nat.le_of_ble_eq_true rfl) (Nat.le_of_ble_eq_true rfl) (Nat.le_of_ble_eq_true rfl) (Nat.le_of_ble_eq_true rfl) dX8_right_27 (fun z5 v5 hz5 => ?_)
      refine g_if_ne F rfl (tgt := 35) rfl dX8_right_30 (fun n6 => ?_) (fun n6 => ?_)
      · exact g_none
      · refine g_iconst F 2 rfl dX8_right_33 ?_
        exact g_ireturn F rfl rfl rfl rfl (Nat.le_of_ble_eq_true rfl) (Nat.le_of_ble_eq_true rfl) dX8_right_34
    · refine g_iconst F 2 rfl dX8_right_22 ?_
      refine g_goto F (tgt := 27) rfl dX8_right_23 ?_
      refine g_callV F (by decide) (K := 8) (b := a0) [(2, 0)] [0] ml_RX8_151 wi_X8_holds ws_X8_holds (c_X8_holds a0 0 (Int.not_lt.mp (Int.not_lt.mpr h0))) mi_X8_holds (by decide) ⟨_, rfl, rfl⟩ (Int.not_lt.mp (Int.not_lt.mpr h0)) rfl rfl rfl (Nat.le_of_ble_eq_true rfl) (Nat.le_of_ble_eq_true rfl) (Nat.le_of_ble_eq_true rfl) (Nat.le_of_ble_eq_true rfl) (Nat.le_of_ble_eq_true rfl) dX8_right_27 (fun z7 v7 hz7 => ?_)
      refine g_if_ne F rfl (tgt := 35) rfl dX8_right_30 (fun n8 => ?_) (fun n8 => ?_)
      · refine g_aload_n F rfl 0 rfl dX8_right_35 ?_
        refine g_get F (t := 58) (sI := 8) fl_RX8_27 rfl rfl (Int.not_lt.mp (Int.not_lt.mpr h0)) dX8_right_36 ?_
        refine g_iload_n F rfl 1 rfl rfl dX8_right_39 ?_
        refine g_chk (fun n9 => ?_)
        refine g_chk (fun n10 => ?_)
        refine h_iald F (n := 4) ak_48 (Int.not_lt.mp (Int.not_lt.mpr n9)) n10 rfl dX8_right_40 ?_
        refine g_istore_n F rfl rfl (Nat.le_of_ble_eq_true rfl) (ls' := [(3, (0, (v7 48 (v7 8 a0 8) a1))), (0, (18, a0)), (1, (0, a1)), (2, (0, a2))]) rfl dX8_right_41 ?_
        refine g_aload_n F rfl 1 rfl dX8_right_42 ?_
        refine g_get F (t := 58) (sI := 8) fl_RX8_27 rfl rfl (Int.not_lt.mp (Int.not_lt.mpr h0)) dX8_right_43 ?_
        refine g_iload_n F rfl 2 rfl rfl dX8_right_46 ?_
        refine g_iload_n F rfl 3 rfl rfl dX8_right_47 ?_
        refine h_iast F (n := 4) ak_48 rfl (Int.not_lt.mp (Int.not_lt.mpr n9)) n10 rfl dX8_right_48 (fun v11 => ?_)
        refine g_iload_n F rfl 0 rfl rfl dX8_right_49 ?_
        exact g_ireturn F rfl rfl rfl rfl (Nat.le_of_ble_eq_true rfl) (Nat.le_of_ble_eq_true rfl) dX8_right_50
      · exact g_none
  · refine g_iconst F 2 rfl dX8_right_8 ?_
    refine g_goto F (tgt := 27) rfl dX8_right_9 ?_
    refine g_callV F (by decide) (K := 8) (b := a0) [(2, 1)] [0] ml_RX8_151 wi_X8_holds ws_X8_holds (c_X8_holds a0 1 (Int.not_lt.mp (Int.not_lt.mpr h0))) mi_X8_holds (by decide) ⟨_, rfl, rfl⟩ (Int.not_lt.mp (Int.not_lt.mpr h0)) rfl rfl rfl (Nat.le_of_ble_eq_true rfl) (Nat.le_of_ble_eq_true rfl) (Nat.le_of_ble_eq_true rfl) (Nat.le_of_ble_eq_true rfl) (Nat.le_of_ble_eq_true rfl) dX8_right_27 (fun z12 v12 hz12 => ?_)
    refine g_if_ne F rfl (tgt := 35) rfl dX8_right_30 (fun n13 => ?_) (fun n13 => ?_)
    · exact g_none
    · refine g_iconst F 2 rfl dX8_right_33 ?_
      exact g_ireturn F rfl rfl rfl rfl (Nat.le_of_ble_eq_true rfl) (Nat.le_of_ble_eq_true rfl) dX8_right_34
theorem c_X8_right (a0 a1 a2 : Int) (h0 : 0 ≤ a0) : ∀ l, Ct l yX8_right cX8_right 4 (some .int) ({ frames := 2, cells := 0, slots := 0, locals := 42 }) (some 0) [(18, a0), (0, a1), (0, a2)] (sp_X8_right a0 a1 a2) := g_method (by decide +kernel) (Nat.le_of_ble_eq_true rfl) (fun x v F ho => k_X8_right a0 a1 a2 h0 x v F ho)
def sp_X8_leftOf (a0 a1 : Int) (v : V) : Res := (chk (0 ≤ (v 8 a0 14)) (chk (0 ≤ a1 ∧ a1 < 12) (if (v 54 (v 8 a0 14) a1) ≤ (v 8 a0 1) then (rOk 0 v)
   else (rOk (w32 ((v 54 (v 8 a0 14) a1) - (v 8 a0 1))) v))))
set_option maxRecDepth 100000 in
set_option maxHeartbeats 4000000 in
theorem k_X8_leftOf (a0 a1 : Int) (h0 : 0 ≤ a0) (x : Cx) (v : V) (F : Fx x cX8_leftOf RX8 "leftOf" ({ frames := 0, cells := 0, slots := 0, locals := 0 }) 2 (some 0) (some .int) 0) (ho : ∀ a ∈ [(18, a0), (0, a1)], okv v a) : Gs x (sp_X8_leftOf a0 a1 v) v 0 0 0 (avArgs 0 [(18, a0), (0, a1)]) [] := by
  show Gs x _ v 0 0 0 [(0, (18, a0)), (1, (0, a1))] []
  unfold sp_X8_leftOf
  refine g_aload_n F rfl 0 rfl dX8_leftOf_0 ?_
  refine g_get F (t := 64) (sI := 14) fl_RX8_42 rfl rfl (Int.not_lt.mp (Int.not_lt.mpr h0)) dX8_leftOf_1 ?_
  refine g_iload_n F rfl 1 rfl rfl dX8_leftOf_4 ?_
  refine g_chk (fun n1 => ?_)
  refine g_chk (fun n2 => ?_)
  refine h_iald F (n := 12) ak_54 (Int.not_lt.mp (Int.not_lt.mpr n1)) n2 rfl dX8_leftOf_5 ?_
  refine g_aload_n F rfl 0 rfl dX8_leftOf_6 ?_
  refine g_get F (t := 0) (sI := 1) fl_RX8_164 rfl rfl (Int.not_lt.mp (Int.not_lt.mpr h0)) dX8_leftOf_7 ?_
  refine g_icmp_le F rfl rfl (tgt := 27) rfl dX8_leftOf_10 (fun n3 => ?_) (fun n3 => ?_)
  · refine g_iconst F 2 rfl dX8_leftOf_27 ?_
    exact g_ireturn F rfl rfl rfl rfl (Nat.le_of_ble_eq_true rfl) (Nat.le_of_ble_eq_true rfl) dX8_leftOf_28
  · refine g_aload_n F rfl 0 rfl dX8_leftOf_13 ?_
    refine g_get F (t := 64) (sI := 14) fl_RX8_42 rfl rfl (Int.not_lt.mp (Int.not_lt.mpr h0)) dX8_leftOf_14 ?_
    refine g_iload_n F rfl 1 rfl rfl dX8_leftOf_17 ?_
    refine h_iald F (n := 12) ak_54 (Int.not_lt.mp (Int.not_lt.mpr n1)) n2 rfl dX8_leftOf_18 ?_
    refine g_aload_n F rfl 0 rfl dX8_leftOf_19 ?_
    refine g_get F (t := 0) (sI := 1) fl_RX8_164 rfl rfl (Int.not_lt.mp (Int.not_lt.mpr h0)) dX8_leftOf_20 ?_
    refine g_isub F rfl rfl dX8_leftOf_23 ?_
    refine g_goto F (tgt := 28) rfl dX8_leftOf_24 ?_
    exact g_ireturn F rfl rfl rfl rfl (Nat.le_of_ble_eq_true rfl) (Nat.le_of_ble_eq_true rfl) dX8_leftOf_28
theorem c_X8_leftOf (a0 a1 : Int) (h0 : 0 ≤ a0) : ∀ l, Ct l yX8_leftOf cX8_leftOf 2 (some .int) ({ frames := 0, cells := 0, slots := 0, locals := 0 }) (some 0) [(18, a0), (0, a1)] (sp_X8_leftOf a0 a1) := g_method (by decide +kernel) (Nat.le_of_ble_eq_true rfl) (fun x v F ho => k_X8_leftOf a0 a1 h0 x v F ho)
def sp_X8_bar (a0 a1 a2 : Int) (v : V) : Res := (rB (sp_X8_isWork a0 a1 v) (fun z1 v1 => (if ¬ z1 = 0 then (rB (sp_X8_in a2 0 1000 v1) (fun z3 v3 => (if z3 = 0 then (rB (sp_X8_holds a0 2 v3) (fun z5 v5 => (if ¬ z5 = 0 then none
   else (rOk 0 v5))))
   else (rB (sp_X8_holds a0 0 v3) (fun z7 v7 => (if ¬ z7 = 0 then (rB (sp_X8_leftOf a0 a1 v7) (fun z9 v9 => (chk (0 ≤ (v9 8 a0 14)) (chk (0 ≤ a1 ∧ a1 < 12) (rLet (up v9 54 (v9 8 a0 14) a1 (w32 ((v9 8 a0 1) + a2))) (fun v12 => (rOk z9 v12)))))))
   else none))))))
   else (rB (sp_X8_holds a0 1 v1) (fun z13 v13 => (if ¬ z13 = 0 then none
   else (rOk 0 v13)))))))
set_option maxRecDepth 100000 in
set_option maxHeartbeats 4000000 in
theorem k_X8_bar (a0 a1 a2 : Int) (h0 : 0 ≤ a0) (x : Cx) (v : V) (F : Fx x cX8_bar RX8 "bar" ({ frames := 2, cells := 0, slots := 0, locals := 43 }) 4 (some 0) (some .int) 0) (ho : ∀ a ∈ [(18, a0), (0, a1), (0, a2)], okv v a) : Gs x (sp_X8_bar a0 a1 a2 v) v 0 0 0 (avArgs 0 [(18, a0), (0, a1), (0, a2)]) [] := by
  show Gs x _ v 0 0 0 [(0, (18, a0)), (1, (0, a1)), (2, (0, a2))] []
  unfold sp_X8_bar
  refine g_aload_n F rfl 0 rfl dX8_bar_0 ?_
  refine g_aload_n F rfl 0 rfl dX8_bar_1 ?_
  refine g_iload_n F rfl 1 rfl rfl dX8_bar_2 ?_
  refine g_callV F (by decide) (K := 8) (b := a0) [(0, a1)] [0] ml_RX8_161 wi_X8_isWork ws_X8_isWork (c_X8_isWork a0 a1 (Int.not_lt.mp (Int.not_lt.mpr h0))) mi_X8_isWork (by decide) ⟨_, rfl, rfl⟩ (Int.not_lt.mp (Int.not_lt.mpr h0)) rfl rfl rfl (Nat.le_of_ble_eq_true rfl) (Nat.le_of_ble_eq_true rfl) (Nat.le_of_ble_eq_true rfl) (Nat.le_of_ble_eq_true rfl) (Nat.le_of_ble_eq_true rfl) dX8_bar_3 (fun z1 v1 hz1 => ?_)
  refine g_if_ne F rfl (tgt := 13) rfl dX8_bar_6 (fun n2 => ?_) (fun n2 => ?_)
  · refine g_iload_n F rfl 2 rfl rfl dX8_bar_13 ?_
    refine g_iconst F 2 rfl dX8_bar_14 ?_
    refine g_sipush F rfl (by decide) dX8_bar_15 ?_
    refine g_callS F (by decide) [(0, a2), (2, 0), (0, 1000)] [0, 0, 0] ml_RX8_133 wt_X8_in (c_X8_in a2 0 1000) mi_X8_in rfl rfl rfl (Nat.le_of_ble_eq_true rfl) (Nat.le_of_ble_eq_true rfl) (Nat.le_of_ble_eq_true rfl) (Nat.le_of_ble_eq_true rfl) (Nat.le_of_ble_eq_true rfl) dX8_bar_18 (fun z3 v3 hz3 => ?_)
    refine g_if_eq F rfl (tgt := 28) rfl dX8_bar_21 (fun n4 => ?_) (fun n4 => ?_)
    · refine g_iconst F 0 rfl dX8_bar_28 ?_
      refine g_callV F (by decide) (K := 8) (b := a0) [(0, 2)] [0] ml_RX8_151 wi_X8_holds ws_X8_holds (c_X8_holds a0 2 (Int.not_lt.mp (Int.not_lt.mpr h0))) mi_X8_holds (by decide) ⟨_, rfl, rfl⟩ (Int.not_lt.mp (Int.not_lt.mpr h0)) rfl rfl rfl (Nat.le_of_ble_eq_true rfl) (Nat.le_of_ble_eq_true rfl) (Nat.le_of_ble_eq_true rfl) (Nat.le_of_ble_eq_true rfl) (Nat.le_of_ble_eq_true rfl) dX8_bar_29 (fun z5 v5 hz5 => ?_)
      refine g_if_ne F rfl (tgt := 37) rfl dX8_bar_32 (fun n6 => ?_) (fun n6 => ?_)
      · exact g_none
      · refine g_iconst F 2 rfl dX8_bar_35 ?_
        exact g_ireturn F rfl rfl rfl rfl (Nat.le_of_ble_eq_true rfl) (Nat.le_of_ble_eq_true rfl) dX8_bar_36
    · refine g_iconst F 2 rfl dX8_bar_24 ?_
      refine g_goto F (tgt := 29) rfl dX8_bar_25 ?_
      refine g_callV F (by decide) (K := 8) (b := a0) [(2, 0)] [0] ml_RX8_151 wi_X8_holds ws_X8_holds (c_X8_holds a0 0 (Int.not_lt.mp (Int.not_lt.mpr h0))) mi_X8_holds (by decide) ⟨_, rfl, rfl⟩ (Int.not_lt.mp (Int.not_lt.mpr h0)) rfl rfl rfl (Nat.le_of_ble_eq_true rfl) (Nat.le_of_ble_eq_true rfl) (Nat.le_of_ble_eq_true rfl) (Nat.le_of_ble_eq_true rfl) (Nat.le_of_ble_eq_true rfl) dX8_bar_29 (fun z7 v7 hz7 => ?_)
      refine g_if_ne F rfl (tgt := 37) rfl dX8_bar_32 (fun n8 => ?_) (fun n8 => ?_)
      · refine g_aload_n F rfl 0 rfl dX8_bar_37 ?_
        refine g_iload_n F rfl 1 rfl rfl dX8_bar_38 ?_
        refine g_callV F (by decide) (K := 8) (b := a0) [(0, a1)] [0] ml_RX8_167 wi_X8_leftOf ws_X8_leftOf (c_X8_leftOf a0 a1 (Int.not_lt.mp (Int.not_lt.mpr h0))) mi_X8_leftOf (by decide) ⟨_, rfl, rfl⟩ (Int.not_lt.mp (Int.not_lt.mpr h0)) rfl rfl rfl (Nat.le_of_ble_eq_true rfl) (Nat.le_of_ble_eq_true rfl) (Nat.le_of_ble_eq_true rfl) (Nat.le_of_ble_eq_true rfl) (Nat.le_of_ble_eq_true rfl) dX8_bar_39 (fun z9 v9 hz9 => ?_)
        refine g_istore_n F rfl rfl (Nat.le_of_ble_eq_true rfl) (ls' := [(3, (0, z9)), (0, (18, a0)), (1, (0, a1)), (2, (0, a2))]) rfl dX8_bar_42 ?_
        refine g_aload_n F rfl 1 rfl dX8_bar_43 ?_
        refine g_get F (t := 64) (sI := 14) fl_RX8_42 rfl rfl (Int.not_lt.mp (Int.not_lt.mpr h0)) dX8_bar_44 ?_
        refine g_iload_n F rfl 2 rfl rfl dX8_bar_47 ?_
        refine g_aload_n F rfl 1 rfl dX8_bar_48 ?_
        refine g_get F (t := 0) (sI := 1) fl_RX8_164 rfl rfl (Int.not_lt.mp (Int.not_lt.mpr h0)) dX8_bar_49 ?_
        refine g_iload_n F rfl 3 rfl rfl dX8_bar_52 ?_
        refine g_iadd F rfl rfl dX8_bar_53 ?_
        refine g_chk (fun n10 => ?_)
        refine g_chk (fun n11 => ?_)
        refine h_iast F (n := 12) ak_54 rfl (Int.not_lt.mp (Int.not_lt.mpr n10)) n11 rfl dX8_bar_54 (fun v12 => ?_)
        refine g_iload_n F rfl 0 rfl rfl dX8_bar_55 ?_
        exact g_ireturn F rfl rfl rfl rfl (Nat.le_of_ble_eq_true rfl) (Nat.le_of_ble_eq_true rfl) dX8_bar_56
      · exact g_none
  · refine g_iconst F 2 rfl dX8_bar_9 ?_
    refine g_goto F (tgt := 29) rfl dX8_bar_10 ?_
    refine g_callV F (by decide) (K := 8) (b := a0) [(2, 1)] [0] ml_RX8_151 wi_X8_holds ws_X8_holds (c_X8_holds a0 1 (Int.not_lt.mp (Int.not_lt.mpr h0))) mi_X8_holds (by decide) ⟨_, rfl, rfl⟩ (Int.not_lt.mp (Int.not_lt.mpr h0)) rfl rfl rfl (Nat.le_of_ble_eq_true rfl) (Nat.le_of_ble_eq_true rfl) (Nat.le_of_ble_eq_true rfl) (Nat.le_of_ble_eq_true rfl) (Nat.le_of_ble_eq_true rfl) dX8_bar_29 (fun z13 v13 hz13 => ?_)
    refine g_if_ne F rfl (tgt := 37) rfl dX8_bar_32 (fun n14 => ?_) (fun n14 => ?_)
    · exact g_none
    · refine g_iconst F 2 rfl dX8_bar_35 ?_
      exact g_ireturn F rfl rfl rfl rfl (Nat.le_of_ble_eq_true rfl) (Nat.le_of_ble_eq_true rfl) dX8_bar_36
theorem c_X8_bar (a0 a1 a2 : Int) (h0 : 0 ≤ a0) : ∀ l, Ct l yX8_bar cX8_bar 4 (some .int) ({ frames := 2, cells := 0, slots := 0, locals := 43 }) (some 0) [(18, a0), (0, a1), (0, a2)] (sp_X8_bar a0 a1 a2) := g_method (by decide +kernel) (Nat.le_of_ble_eq_true rfl) (fun x v F ho => k_X8_bar a0 a1 a2 h0 x v F ho)
def sp_X8_seal (a0 a1 a2 : Int) (v : V) : Res := (rB (sp_X8_isWork a0 a1 v) (fun z1 v1 => (if ¬ z1 = 0 then (if a2 = 0 then (rB (sp_X8_holds a0 0 v1) (fun z4 v4 => (if ¬ z4 = 0 then (chk (0 ≤ (v4 8 a0 13)) (chk (0 ≤ a1 ∧ a1 < 12) (rLet (up v4 53 (v4 8 a0 13) a1 a2) (fun v8 => (rOk (v4 53 (v4 8 a0 13) a1) v8)))))
   else none)))
   else (chk (0 ≤ (v1 8 a0 12)) (chk (0 ≤ a1 ∧ a1 < 12) (if (v1 52 (v1 8 a0 12) a1) = 0 then (rB (sp_X8_holds a0 0 v1) (fun z12 v12 => (if ¬ z12 = 0 then (chk (0 ≤ (v12 8 a0 13)) (rLet (up v12 53 (v12 8 a0 13) a1 a2) (fun v15 => (rOk (v12 53 (v12 8 a0 13) a1) v15))))
   else none)))
   else (rB (sp_X8_holds a0 2 v1) (fun z16 v16 => (if ¬ z16 = 0 then none
   else (rOk 0 v16))))))))
   else (rB (sp_X8_holds a0 1 v1) (fun z18 v18 => (if ¬ z18 = 0 then none
   else (rOk 0 v18)))))))
set_option maxRecDepth 100000 in
set_option maxHeartbeats 4000000 in
theorem k_X8_seal (a0 a1 a2 : Int) (h0 : 0 ≤ a0) (x : Cx) (v : V) (F : Fx x cX8_seal RX8 "seal" ({ frames := 2, cells := 0, slots := 0, locals := 43 }) 5 (some 2) (some .boolean) 0) (ho : ∀ a ∈ [(18, a0), (0, a1), (2, a2)], okv v a) : Gs x (sp_X8_seal a0 a1 a2 v) v 0 0 0 (avArgs 0 [(18, a0), (0, a1), (2, a2)]) [] := by
  show Gs x _ v 0 0 0 [(0, (18, a0)), (1, (0, a1)), (2, (2, a2))] []
  unfold sp_X8_seal
  refine g_aload_n F rfl 0 rfl dX8_seal_0 ?_
  refine g_iload_n F rfl 1 rfl rfl dX8_seal_1 ?_
  refine g_callV F (by decide) (K := 8) (b := a0) [(0, a1)] [0] ml_RX8_161 wi_X8_isWork ws_X8_isWork (c_X8_isWork a0 a1 (Int.not_lt.mp (Int.not_lt.mpr h0))) mi_X8_isWork (by decide) ⟨_, rfl, rfl⟩ (Int.not_lt.mp (Int.not_lt.mpr h0)) rfl rfl rfl (Nat.le_of_ble_eq_true rfl) (Nat.le_of_ble_eq_true rfl) (Nat.le_of_ble_eq_true rfl) (Nat.le_of_ble_eq_true rfl) (Nat.le_of_ble_eq_true rfl) dX8_seal_2 (fun z1 v1 hz1 => ?_)
  refine g_istore_n F rfl rfl (Nat.le_of_ble_eq_true rfl) (ls' := [(3, (2, z1)), (0, (18, a0)), (1, (0, a1)), (2, (2, a2))]) rfl dX8_seal_5 ?_
  refine g_aload_n F rfl 1 rfl dX8_seal_6 ?_
  refine g_iload_n F rfl 0 rfl rfl dX8_seal_7 ?_
  refine g_if_ne F rfl (tgt := 15) rfl dX8_seal_8 (fun n2 => ?_) (fun n2 => ?_)
  · refine g_iload_n F rfl 3 rfl rfl dX8_seal_15 ?_
    refine g_if_eq F rfl (tgt := 32) rfl dX8_seal_16 (fun n3 => ?_) (fun n3 => ?_)
    · refine g_iconst F 2 rfl dX8_seal_32 ?_
      refine g_callV F (by decide) (K := 8) (b := a0) [(2, 0)] [0] ml_RX8_151 wi_X8_holds ws_X8_holds (c_X8_holds a0 0 (Int.not_lt.mp (Int.not_lt.mpr h0))) mi_X8_holds (by decide) ⟨_, rfl, rfl⟩ (Int.not_lt.mp (Int.not_lt.mpr h0)) rfl rfl rfl (Nat.le_of_ble_eq_true rfl) (Nat.le_of_ble_eq_true rfl) (Nat.le_of_ble_eq_true rfl) (Nat.le_of_ble_eq_true rfl) (Nat.le_of_ble_eq_true rfl) dX8_seal_33 (fun z4 v4 hz4 => ?_)
      refine g_if_ne F rfl (tgt := 41) rfl dX8_seal_36 (fun n5 => ?_) (fun n5 => ?_)
      · refine g_aload_n F rfl 1 rfl dX8_seal_41 ?_
        refine g_get F (t := 63) (sI := 13) fl_RX8_39 rfl rfl (Int.not_lt.mp (Int.not_lt.mpr h0)) dX8_seal_42 ?_
        refine g_iload_n F rfl 2 rfl rfl dX8_seal_45 ?_
        refine g_chk (fun n6 => ?_)
        refine g_chk (fun n7 => ?_)
        refine h_zald F (n := 12) ak_53 (Int.not_lt.mp (Int.not_lt.mpr n6)) n7 rfl dX8_seal_46 ?_
        refine g_istore F rfl (Nat.le_of_ble_eq_true rfl) (ls' := [(4, (2, (v4 53 (v4 8 a0 13) a1))), (3, (2, z1)), (0, (18, a0)), (1, (0, a1)), (2, (2, a2))]) rfl dX8_seal_47 ?_
        refine g_aload_n F rfl 2 rfl dX8_seal_49 ?_
        refine g_get F (t := 63) (sI := 13) fl_RX8_39 rfl rfl (Int.not_lt.mp (Int.not_lt.mpr h0)) dX8_seal_50 ?_
        refine g_iload_n F rfl 3 rfl rfl dX8_seal_53 ?_
        refine g_iload_n F rfl 4 rfl rfl dX8_seal_54 ?_
        refine h_zast F (n := 12) ak_53 rfl (Int.not_lt.mp (Int.not_lt.mpr n6)) n7 rfl dX8_seal_55 (fun v8 => ?_)
        refine g_iload F 0 rfl rfl dX8_seal_56 ?_
        exact g_ireturn F rfl rfl rfl rfl (Nat.le_of_ble_eq_true rfl) (Nat.le_of_ble_eq_true rfl) dX8_seal_58
      · exact g_none
    · refine g_aload_n F rfl 1 rfl dX8_seal_19 ?_
      refine g_get F (t := 62) (sI := 12) fl_RX8_36 rfl rfl (Int.not_lt.mp (Int.not_lt.mpr h0)) dX8_seal_20 ?_
      refine g_iload_n F rfl 2 rfl rfl dX8_seal_23 ?_
      refine g_chk (fun n9 => ?_)
      refine g_chk (fun n10 => ?_)
      refine h_iald F (n := 12) ak_52 (Int.not_lt.mp (Int.not_lt.mpr n9)) n10 rfl dX8_seal_24 ?_
      refine g_if_eq F rfl (tgt := 32) rfl dX8_seal_25 (fun n11 => ?_) (fun n11 => ?_)
      · refine g_iconst F 2 rfl dX8_seal_32 ?_
        refine g_callV F (by decide) (K := 8) (b := a0) [(2, 0)] [0] ml_RX8_151 wi_X8_holds ws_X8_holds (c_X8_holds a0 0 (Int.not_lt.mp (Int.not_lt.mpr h0))) mi_X8_holds (by decide) ⟨_, rfl, rfl⟩ (Int.not_lt.mp (Int.not_lt.mpr h0)) rfl rfl rfl (Nat.le_of_ble_eq_true rfl) (Nat.le_of_ble_eq_true rfl) (Nat.le_of_ble_eq_true rfl) (Nat.le_of_ble_eq_true rfl) (Nat.le_of_ble_eq_true rfl) dX8_seal_33 (fun z12 v12 hz12 => ?_)
        refine g_if_ne F rfl (tgt := 41) rfl dX8_seal_36 (fun n13 => ?_) (fun n13 => ?_)
        · refine g_aload_n F rfl 1 rfl dX8_seal_41 ?_
          refine g_get F (t := 63) (sI := 13) fl_RX8_39 rfl rfl (Int.not_lt.mp (Int.not_lt.mpr h0)) dX8_seal_42 ?_
          refine g_iload_n F rfl 2 rfl rfl dX8_seal_45 ?_
          refine g_chk (fun n14 => ?_)
          refine h_zald F (n := 12) ak_53 (Int.not_lt.mp (Int.not_lt.mpr n14)) n10 rfl dX8_seal_46 ?_
          refine g_istore F rfl (Nat.le_of_ble_eq_true rfl) (ls' := [(4, (2, (v12 53 (v12 8 a0 13) a1))), (3, (2, z1)), (0, (18, a0)), (1, (0, a1)), (2, (2, a2))]) rfl dX8_seal_47 ?_
          refine g_aload_n F rfl 2 rfl dX8_seal_49 ?_
          refine g_get F (t := 63) (sI := 13) fl_RX8_39 rfl rfl (Int.not_lt.mp (Int.not_lt.mpr h0)) dX8_seal_50 ?_
          refine g_iload_n F rfl 3 rfl rfl dX8_seal_53 ?_
          refine g_iload_n F rfl 4 rfl rfl dX8_seal_54 ?_
          refine h_zast F (n := 12) ak_53 rfl (Int.not_lt.mp (Int.not_lt.mpr n14)) n10 rfl dX8_seal_55 (fun v15 => ?_)
          refine g_iload F 0 rfl rfl dX8_seal_56 ?_
          exact g_ireturn F rfl rfl rfl rfl (Nat.le_of_ble_eq_true rfl) (Nat.le_of_ble_eq_true rfl) dX8_seal_58
        · exact g_none
      · refine g_iconst F 0 rfl dX8_seal_28 ?_
        refine g_goto F (tgt := 33) rfl dX8_seal_29 ?_
        refine g_callV F (by decide) (K := 8) (b := a0) [(0, 2)] [0] ml_RX8_151 wi_X8_holds ws_X8_holds (c_X8_holds a0 2 (Int.not_lt.mp (Int.not_lt.mpr h0))) mi_X8_holds (by decide) ⟨_, rfl, rfl⟩ (Int.not_lt.mp (Int.not_lt.mpr h0)) rfl rfl rfl (Nat.le_of_ble_eq_true rfl) (Nat.le_of_ble_eq_true rfl) (Nat.le_of_ble_eq_true rfl) (Nat.le_of_ble_eq_true rfl) (Nat.le_of_ble_eq_true rfl) dX8_seal_33 (fun z16 v16 hz16 => ?_)
        refine g_if_ne F rfl (tgt := 41) rfl dX8_seal_36 (fun n17 => ?_) (fun n17 => ?_)
        · exact g_none
        · refine g_iconst F 2 rfl dX8_seal_39 ?_
          exact g_ireturn F rfl rfl rfl rfl (Nat.le_of_ble_eq_true rfl) (Nat.le_of_ble_eq_true rfl) dX8_seal_40
  · refine g_iconst F 2 rfl dX8_seal_11 ?_
    refine g_goto F (tgt := 33) rfl dX8_seal_12 ?_
    refine g_callV F (by decide) (K := 8) (b := a0) [(2, 1)] [0] ml_RX8_151 wi_X8_holds ws_X8_holds (c_X8_holds a0 1 (Int.not_lt.mp (Int.not_lt.mpr h0))) mi_X8_holds (by decide) ⟨_, rfl, rfl⟩ (Int.not_lt.mp (Int.not_lt.mpr h0)) rfl rfl rfl (Nat.le_of_ble_eq_true rfl) (Nat.le_of_ble_eq_true rfl) (Nat.le_of_ble_eq_true rfl) (Nat.le_of_ble_eq_true rfl) (Nat.le_of_ble_eq_true rfl) dX8_seal_33 (fun z18 v18 hz18 => ?_)
    refine g_if_ne F rfl (tgt := 41) rfl dX8_seal_36 (fun n19 => ?_) (fun n19 => ?_)
    · exact g_none
    · refine g_iconst F 2 rfl dX8_seal_39 ?_
      exact g_ireturn F rfl rfl rfl rfl (Nat.le_of_ble_eq_true rfl) (Nat.le_of_ble_eq_true rfl) dX8_seal_40
theorem c_X8_seal (a0 a1 a2 : Int) (h0 : 0 ≤ a0) : ∀ l, Ct l yX8_seal cX8_seal 5 (some .boolean) ({ frames := 2, cells := 0, slots := 0, locals := 43 }) (some 2) [(18, a0), (0, a1), (2, a2)] (sp_X8_seal a0 a1 a2) := g_method (by decide +kernel) (Nat.le_of_ble_eq_true rfl) (fun x v F ho => k_X8_seal a0 a1 a2 h0 x v F ho)

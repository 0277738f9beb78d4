def cp_L_act_215 (l1 l3 l4 l5 l6 l7 l8 l9 : Int) (v : V) : Res := (if 16 ≤ l3 then (if 54 ≤ l3 then (if 72 ≤ l3 then (if ¬ (and32 (shr32 l4 7) 3) = 0 then (rB (sp_L_low l4 12 v) (fun z14 v14 => (rB (sp_L_does_3 (w32 (1 + z14)) 0 0 0 v14) (fun z15 v15 => (rOk z15 v15)))))
   else (rB (sp_L_low l4 300 v) (fun z16 v16 => (rB (sp_L_does_3 (w32 (1 + z16)) 0 0 0 v16) (fun z17 v17 => (rOk z17 v17))))))
   else (if 62 ≤ l3 then (if 65 ≤ l3 then (if 69 ≤ l3 then (rB (sp_L_low (shr32 l4 2) 8 v) (fun z21 v21 => (rB (sp_L_low l4 5000 v21) (fun z22 v22 => (rB (sp_L_does_22 z21 l5 z22 0 v22) (fun z23 v23 => (rOk z23 v23)))))))
   else (rB (sp_L_low l4 8 v) (fun z24 v24 => (rB (sp_L_does_21 z24 0 0 0 v24) (fun z25 v25 => (rOk z25 v25))))))
   else (rB (sp_L_low l4 8 v) (fun z26 v26 => (rB (sp_L_does_20 z26 0 0 0 v26) (fun z27 v27 => (rOk z27 v27))))))
   else (if ¬ (and32 (shr32 l4 7) 1) = 0 then (rB (sp_L_low (shr32 l4 3) 200000 v) (fun z29 v29 => (rB (sp_L_low (shr32 l4 4) 101 v29) (fun z30 v30 => (rB (sp_L_low (shr32 l4 5) 60 v30) (fun z31 v31 => (rB (sp_L_does_19 l8 l5 (w32 (1 + z29)) (w32 (z30 + (w32 (1000 * (w32 (1 + z31)))))) v31) (fun z32 v32 => (rOk z32 v32)))))))))
   else (rB (sp_L_low (shr32 l4 3) 2000 v) (fun z33 v33 => (rB (sp_L_low (shr32 l4 4) 101 v33) (fun z34 v34 => (rB (sp_L_low (shr32 l4 5) 60 v34) (fun z35 v35 => (rB (sp_L_does_19 l8 l5 (w32 (1 + z33)) (w32 (z34 + (w32 (1000 * (w32 (1 + z35)))))) v35) (fun z36 v36 => (rOk z36 v36))))))))))))
   else (if ¬ (and32 (shr32 l4 8) 1) = 0 then (rB (sp_L_low (shr32 l4 5) 9 v) (fun z38 v38 => (if 30 ≤ l3 then (if 37 ≤ l3 then (if 39 ≤ l3 then (if 48 ≤ l3 then (if 51 ≤ l3 then (rB (sp_L_does_18 l8 l5 0 0 v38) (fun z44 v44 => (rOk z44 v44)))
   else (rB (sp_L_does_17 l8 l5 l6 0 v38) (fun z45 v45 => (rOk z45 v45))))
   else (rB (sp_L_does_16 l8 l5 l9 0 v38) (fun z46 v46 => (rOk z46 v46))))
   else (rB (sp_L_does_15 l8 0 0 0 v38) (fun z47 v47 => (rOk z47 v47))))
   else (rB (sp_L_low l4 3000 v38) (fun z48 v48 => (rB (sp_L_low (shr32 l4 4) 51 v48) (fun z49 v49 => (rB (sp_L_low (shr32 l4 5) 40 v49) (fun z50 v50 => (rB (sp_L_does_14 l8 l5 z48 (w32 (z49 + (w32 (100 * z50)))) v50) (fun z51 v51 => (rOk z51 v51))))))))))
   else (rB (sp_L_does_13 l8 (w32 (1 + z38)) l5 l9 v38) (fun z52 v52 => (rOk z52 v52))))))
   else (rB (sp_L_low (shr32 l4 5) 60 v) (fun z53 v53 => (if 30 ≤ l3 then (if 37 ≤ l3 then (if 39 ≤ l3 then (if 48 ≤ l3 then (if 51 ≤ l3 then (rB (sp_L_does_18 l8 l5 0 0 v53) (fun z59 v59 => (rOk z59 v59)))
   else (rB (sp_L_does_17 l8 l5 l6 0 v53) (fun z60 v60 => (rOk z60 v60))))
   else (rB (sp_L_does_16 l8 l5 l9 0 v53) (fun z61 v61 => (rOk z61 v61))))
   else (rB (sp_L_does_15 l8 0 0 0 v53) (fun z62 v62 => (rOk z62 v62))))
   else (rB (sp_L_low l4 3000 v53) (fun z63 v63 => (rB (sp_L_low (shr32 l4 4) 51 v63) (fun z64 v64 => (rB (sp_L_low (shr32 l4 5) 40 v64) (fun z65 v65 => (rB (sp_L_does_14 l8 l5 z63 (w32 (z64 + (w32 (100 * z65)))) v65) (fun z66 v66 => (rOk z66 v66))))))))))
   else (rB (sp_L_does_13 l8 (w32 (1 + z53)) l5 l9 v53) (fun z67 v67 => (rOk z67 v67))))))))
   else (if 2 ≤ l3 then (if 4 ≤ l3 then (if 7 ≤ l3 then (if ¬ l3 = 7 then (if ¬ l3 = 8 then (if ¬ l3 = 9 then (if ¬ l3 = 10 then (if 14 ≤ l3 then (if ¬ l3 = 14 then (if ¬ (and32 (shr32 l4 8) 3) = 0 then (rOk (-2100000000) v)
   else (rB (sp_L_does_12 l5 0 0 0 v) (fun z78 v78 => (rOk z78 v78))))
   else (rB (sp_L_does_11 l7 0 0 0 v) (fun z79 v79 => (rOk z79 v79))))
   else (rB (sp_L_low l4 4 v) (fun z80 v80 => (rB (sp_L_does_10 l7 z80 0 0 v80) (fun z81 v81 => (rOk z81 v81))))))
   else (rB (sp_L_does_9 l7 (and32 l4 1) 0 0 v) (fun z82 v82 => (rOk z82 v82))))
   else (rB (sp_L_low l4 30 v) (fun z83 v83 => (rB (sp_L_does_8 l7 z83 0 0 v83) (fun z84 v84 => (rOk z84 v84))))))
   else (rB (sp_L_low l4 4 v) (fun z85 v85 => (rB (sp_L_low (shr32 l4 4) 21 v85) (fun z86 v86 => (rB (sp_L_does_7 z85 z86 0 0 v86) (fun z87 v87 => (rOk z87 v87))))))))
   else (rB (sp_L_low l4 80 v) (fun z88 v88 => (rB (sp_L_low (shr32 l4 2) 20 v88) (fun z89 v89 => (rB (sp_L_does_6 l7 (w32 (1900 + z88)) (w32 (1980 + z89)) 0 v89) (fun z90 v90 => (rOk z90 v90))))))))
   else (rB (sp_L_does_5 l5 l7 (and32 (shr32 l4 7) 1) 0 v) (fun z91 v91 => (rOk z91 v91))))
   else (rB (sp_L_low (shr32 l4 5) 10 v) (fun z92 v92 => (rB (sp_L_does_4 l5 z92 0 0 v92) (fun z93 v93 => (rOk z93 v93))))))
   else (rB (sp_L_low (shr32 l4 2) 1000001 v) (fun z94 v94 => (rB (sp_L_does_2 l7 z94 0 0 v94) (fun z95 v95 => (rOk z95 v95)))))))
set_option maxRecDepth 100000 in
set_option maxHeartbeats 4000000 in
theorem kc_L_act_215 {l1 l3 l4 l5 l6 l7 l8 l9 : Int} {x : Cx} (F : Fx x cL_act RL "act" ({ frames := 12, cells := 10, slots := 62, locals := 223 }) 11 (some 0) (some .int) 0) (v : V) : Gs x (cp_L_act_215 l1 l3 l4 l5 l6 l7 l8 l9 v) v 0 0 215 [(0, (17, 0)), (1, (0, l1)), (2, (2, 0)), (3, (0, l3)), (4, (0, l4)), (5, (0, l5)), (6, (0, l6)), (7, (0, l7)), (8, (0, l8)), (9, (0, l9))] [] := by
  unfold cp_L_act_215
  refine g_iload_n F rfl 3 rfl rfl dL_act_215 ?_
  refine g_bipush F rfl (by decide) dL_act_216 ?_
  refine g_icmp_ge F rfl rfl (tgt := 560) rfl dL_act_218 (fun n10 => ?_) (fun n10 => ?_)
  · refine g_iload_n F rfl 3 rfl rfl dL_act_560 ?_
    refine g_bipush F rfl (by decide) dL_act_561 ?_
    refine g_icmp_ge F rfl rfl (tgt := 779) rfl dL_act_563 (fun n11 => ?_) (fun n11 => ?_)
    · refine g_iload_n F rfl 3 rfl rfl dL_act_779 ?_
      refine g_bipush F rfl (by decide) dL_act_780 ?_
      refine g_icmp_ge F rfl rfl (tgt := 985) rfl dL_act_782 (fun n12 => ?_) (fun n12 => ?_)
      · refine g_aload_n F rfl 0 rfl dL_act_985 ?_
        refine g_iconst F 0 rfl dL_act_986 ?_
        refine g_iload_n F rfl 2 rfl rfl dL_act_987 ?_
        refine g_if_eq_t F rfl (by decide) (tgt := 1005) rfl dL_act_988 ?_
        refine g_iconst F 2 rfl dL_act_1005 ?_
        refine g_iload F 4 rfl rfl dL_act_1006 ?_
        refine g_iload F 4 rfl rfl dL_act_1008 ?_
        refine g_bipush F rfl (by decide) dL_act_1010 ?_
        refine g_ishr F rfl rfl dL_act_1012 ?_
        refine g_iconst F 0 rfl dL_act_1013 ?_
        refine g_iand F rfl rfl dL_act_1014 ?_
        refine g_if_ne F rfl (tgt := 1024) rfl dL_act_1015 (fun n13 => ?_) (fun n13 => ?_)
        · refine g_bipush F rfl (by decide) dL_act_1024 ?_
          refine g_callS F (by decide) [(0, l4), (0, 12)] [0, 0] ml_RL_149 wt_L_low (c_L_low l4 12) mi_L_low rfl rfl rfl (Nat.le_of_ble_eq_true rfl) (Nat.le_of_ble_eq_true rfl) (Nat.le_of_ble_eq_true rfl) (Nat.le_of_ble_eq_true rfl) (Nat.le_of_ble_eq_true rfl) dL_act_1026 (fun z14 v14 hz14 => ?_)
          refine g_iadd F rfl rfl dL_act_1029 ?_
          refine g_iconst F 2 rfl dL_act_1030 ?_
          refine g_iconst F 2 rfl dL_act_1031 ?_
          refine g_iconst F 2 rfl dL_act_1032 ?_
          refine g_callSX F (by decide) [(17, 0), (0, 3), (0, (w32 (1 + z14))), (2, 0), (2, 0), (2, 0)] [17, 0, 0, 0, 0, 0] ml_RL_155 wt_L_does (c_L_does_3 (w32 (1 + z14)) 0 0 0) mw_L_does rfl rfl rfl (Nat.le_of_ble_eq_true rfl) (Nat.le_of_ble_eq_true rfl) (Nat.le_of_ble_eq_true rfl) (Nat.le_of_ble_eq_true rfl) (Nat.le_of_ble_eq_true rfl) dL_act_1033 (fun z15 v15 hz15 => ?_)
          exact g_ireturn F rfl rfl rfl rfl (Nat.le_of_ble_eq_true rfl) (Nat.le_of_ble_eq_true rfl) dL_act_1036
        · refine g_sipush F rfl (by decide) dL_act_1018 ?_
          refine g_goto F (tgt := 1026) rfl dL_act_1021 ?_
          refine g_callS F (by decide) [(0, l4), (0, 300)] [0, 0] ml_RL_149 wt_L_low (c_L_low l4 300) mi_L_low rfl rfl rfl (Nat.le_of_ble_eq_true rfl) (Nat.le_of_ble_eq_true rfl) (Nat.le_of_ble_eq_true rfl) (Nat.le_of_ble_eq_true rfl) (Nat.le_of_ble_eq_true rfl) dL_act_1026 (fun z16 v16 hz16 => ?_)
          refine g_iadd F rfl rfl dL_act_1029 ?_
          refine g_iconst F 2 rfl dL_act_1030 ?_
          refine g_iconst F 2 rfl dL_act_1031 ?_
          refine g_iconst F 2 rfl dL_act_1032 ?_
          refine g_callSX F (by decide) [(17, 0), (0, 3), (0, (w32 (1 + z16))), (2, 0), (2, 0), (2, 0)] [17, 0, 0, 0, 0, 0] ml_RL_155 wt_L_does (c_L_does_3 (w32 (1 + z16)) 0 0 0) mw_L_does rfl rfl rfl (Nat.le_of_ble_eq_true rfl) (Nat.le_of_ble_eq_true rfl) (Nat.le_of_ble_eq_true rfl) (Nat.le_of_ble_eq_true rfl) (Nat.le_of_ble_eq_true rfl) dL_act_1033 (fun z17 v17 hz17 => ?_)
          exact g_ireturn F rfl rfl rfl rfl (Nat.le_of_ble_eq_true rfl) (Nat.le_of_ble_eq_true rfl) dL_act_1036
      · refine g_iload_n F rfl 3 rfl rfl dL_act_785 ?_
        refine g_bipush F rfl (by decide) dL_act_786 ?_
        refine g_icmp_ge F rfl rfl (tgt := 881) rfl dL_act_788 (fun n18 => ?_) (fun n18 => ?_)
        · refine g_iload_n F rfl 3 rfl rfl dL_act_881 ?_
          refine g_bipush F rfl (by decide) dL_act_882 ?_
          refine g_icmp_ge F rfl rfl (tgt := 915) rfl dL_act_884 (fun n19 => ?_) (fun n19 => ?_)
          · refine g_iload_n F rfl 3 rfl rfl dL_act_915 ?_
            refine g_bipush F rfl (by decide) dL_act_916 ?_
            refine g_icmp_ge F rfl rfl (tgt := 949) rfl dL_act_918 (fun n20 => ?_) (fun n20 => ?_)
            · refine g_aload_n F rfl 0 rfl dL_act_949 ?_
              refine g_bipush F rfl (by decide) dL_act_950 ?_
              refine g_iload F 4 rfl rfl dL_act_952 ?_
              refine g_iconst F 0 rfl dL_act_954 ?_
              refine g_ishr F rfl rfl dL_act_955 ?_
              refine g_bipush F rfl (by decide) dL_act_956 ?_
              refine g_callS F (by decide) [(0, (shr32 l4 2)), (0, 8)] [0, 0] ml_RL_149 wt_L_low (c_L_low (shr32 l4 2) 8) mi_L_low rfl rfl rfl (Nat.le_of_ble_eq_true rfl) (Nat.le_of_ble_eq_true rfl) (Nat.le_of_ble_eq_true rfl) (Nat.le_of_ble_eq_true rfl) (Nat.le_of_ble_eq_true rfl) dL_act_958 (fun z21 v21 hz21 => ?_)
              refine g_iload F 5 rfl rfl dL_act_961 ?_
              refine g_iload_n F rfl 2 rfl rfl dL_act_963 ?_
              refine g_if_eq_t F rfl (by decide) (tgt := 972) rfl dL_act_964 ?_
              refine g_iload F 4 rfl rfl dL_act_972 ?_
              refine g_sipush F rfl (by decide) dL_act_974 ?_
              refine g_callS F (by decide) [(0, l4), (0, 5000)] [0, 0] ml_RL_149 wt_L_low (c_L_low l4 5000) mi_L_low rfl rfl rfl (Nat.le_of_ble_eq_true rfl) (Nat.le_of_ble_eq_true rfl) (Nat.le_of_ble_eq_true rfl) (Nat.le_of_ble_eq_true rfl) (Nat.le_of_ble_eq_true rfl) dL_act_977 (fun z22 v22 hz22 => ?_)
              refine g_iconst F 2 rfl dL_act_980 ?_
              refine g_callSX F (by decide) [(17, 0), (0, 22), (0, z21), (0, l5), (0, z22), (2, 0)] [17, 0, 0, 0, 0, 0] ml_RL_155 wt_L_does (c_L_does_22 z21 l5 z22 0) mw_L_does rfl rfl rfl (Nat.le_of_ble_eq_true rfl) (Nat.le_of_ble_eq_true rfl) (Nat.le_of_ble_eq_true rfl) (Nat.le_of_ble_eq_true rfl) (Nat.le_of_ble_eq_true rfl) dL_act_981 (fun z23 v23 hz23 => ?_)
              exact g_ireturn F rfl rfl rfl rfl (Nat.le_of_ble_eq_true rfl) (Nat.le_of_ble_eq_true rfl) dL_act_984
            · refine g_aload_n F rfl 0 rfl dL_act_921 ?_
              refine g_bipush F rfl (by decide) dL_act_922 ?_
              refine g_iload F 4 rfl rfl dL_act_924 ?_
              refine g_iload_n F rfl 2 rfl rfl dL_act_926 ?_
              refine g_if_eq_t F rfl (by decide) (tgt := 935) rfl dL_act_927 ?_
              refine g_bipush F rfl (by decide) dL_act_935 ?_
              refine g_callS F (by decide) [(0, l4), (0, 8)] [0, 0] ml_RL_149 wt_L_low (c_L_low l4 8) mi_L_low rfl rfl rfl (Nat.le_of_ble_eq_true rfl) (Nat.le_of_ble_eq_true rfl) (Nat.le_of_ble_eq_true rfl) (Nat.le_of_ble_eq_true rfl) (Nat.le_of_ble_eq_true rfl) dL_act_937 (fun z24 v24 hz24 => ?_)
              refine g_iconst F 2 rfl dL_act_940 ?_
              refine g_iconst F 2 rfl dL_act_941 ?_
              refine g_iconst F 2 rfl dL_act_942 ?_
              refine g_callSX F (by decide) [(17, 0), (0, 21), (0, z24), (2, 0), (2, 0), (2, 0)] [17, 0, 0, 0, 0, 0] ml_RL_155 wt_L_does (c_L_does_21 z24 0 0 0) mw_L_does rfl rfl rfl (Nat.le_of_ble_eq_true rfl) (Nat.le_of_ble_eq_true rfl) (Nat.le_of_ble_eq_true rfl) (Nat.le_of_ble_eq_true rfl) (Nat.le_of_ble_eq_true rfl) dL_act_943 (fun z25 v25 hz25 => ?_)
              refine g_goto F (tgt := 984) rfl dL_act_946 ?_
              exact g_ireturn F rfl rfl rfl rfl (Nat.le_of_ble_eq_true rfl) (Nat.le_of_ble_eq_true rfl) dL_act_984
          · refine g_aload_n F rfl 0 rfl dL_act_887 ?_
            refine g_bipush F rfl (by decide) dL_act_888 ?_
            refine g_iload F 4 rfl rfl dL_act_890 ?_
            refine g_iload_n F rfl 2 rfl rfl dL_act_892 ?_
            refine g_if_eq_t F rfl (by decide) (tgt := 901) rfl dL_act_893 ?_
            refine g_bipush F rfl (by decide) dL_act_901 ?_
            refine g_callS F (by decide) [(0, l4), (0, 8)] [0, 0] ml_RL_149 wt_L_low (c_L_low l4 8) mi_L_low rfl rfl rfl (Nat.le_of_ble_eq_true rfl) (Nat.le_of_ble_eq_true rfl) (Nat.le_of_ble_eq_true rfl) (Nat.le_of_ble_eq_true rfl) (Nat.le_of_ble_eq_true rfl) dL_act_903 (fun z26 v26 hz26 => ?_)
            refine g_iconst F 2 rfl dL_act_906 ?_
            refine g_iconst F 2 rfl dL_act_907 ?_
            refine g_iconst F 2 rfl dL_act_908 ?_
            refine g_callSX F (by decide) [(17, 0), (0, 20), (0, z26), (2, 0), (2, 0), (2, 0)] [17, 0, 0, 0, 0, 0] ml_RL_155 wt_L_does (c_L_does_20 z26 0 0 0) mw_L_does rfl rfl rfl (Nat.le_of_ble_eq_true rfl) (Nat.le_of_ble_eq_true rfl) (Nat.le_of_ble_eq_true rfl) (Nat.le_of_ble_eq_true rfl) (Nat.le_of_ble_eq_true rfl) dL_act_909 (fun z27 v27 hz27 => ?_)
            refine g_goto F (tgt := 984) rfl dL_act_912 ?_
            exact g_ireturn F rfl rfl rfl rfl (Nat.le_of_ble_eq_true rfl) (Nat.le_of_ble_eq_true rfl) dL_act_984
        · refine g_aload_n F rfl 0 rfl dL_act_791 ?_
          refine g_bipush F rfl (by decide) dL_act_792 ?_
          refine g_iload F 8 rfl rfl dL_act_794 ?_
          refine g_iload F 5 rfl rfl dL_act_796 ?_
          refine g_iload_n F rfl 2 rfl rfl dL_act_798 ?_
          refine g_if_eq_t F rfl (by decide) (tgt := 806) rfl dL_act_799 ?_
          refine g_iconst F 2 rfl dL_act_806 ?_
          refine g_iload F 4 rfl rfl dL_act_807 ?_
          refine g_iconst F 0 rfl dL_act_809 ?_
          refine g_ishr F rfl rfl dL_act_810 ?_
          refine g_iload F 4 rfl rfl dL_act_811 ?_
          refine g_bipush F rfl (by decide) dL_act_813 ?_
          refine g_ishr F rfl rfl dL_act_815 ?_
          refine g_iconst F 2 rfl dL_act_816 ?_
          refine g_iand F rfl rfl dL_act_817 ?_
          refine g_if_ne F rfl (tgt := 827) rfl dL_act_818 (fun n28 => ?_) (fun n28 => ?_)
          · refine g_ldc F rfl cn_RL_158 dL_act_827 ?_
            refine g_callS F (by decide) [(0, (shr32 l4 3)), (0, 200000)] [0, 0] ml_RL_149 wt_L_low (c_L_low (shr32 l4 3) 200000) mi_L_low rfl rfl rfl (Nat.le_of_ble_eq_true rfl) (Nat.le_of_ble_eq_true rfl) (Nat.le_of_ble_eq_true rfl) (Nat.le_of_ble_eq_true rfl) (Nat.le_of_ble_eq_true rfl) dL_act_829 (fun z29 v29 hz29 => ?_)
            refine g_iadd F rfl rfl dL_act_832 ?_
            refine g_iload F 4 rfl rfl dL_act_833 ?_
            refine g_iconst F 0 rfl dL_act_835 ?_
            refine g_ishr F rfl rfl dL_act_836 ?_
            refine g_iload_n F rfl 2 rfl rfl dL_act_837 ?_
            refine g_if_eq_t F rfl (by decide) (tgt := 846) rfl dL_act_838 ?_
            refine g_bipush F rfl (by decide) dL_act_846 ?_
            refine g_callS F (by decide) [(0, (shr32 l4 4)), (0, 101)] [0, 0] ml_RL_149 wt_L_low (c_L_low (shr32 l4 4) 101) mi_L_low rfl rfl rfl (Nat.le_of_ble_eq_true rfl) (Nat.le_of_ble_eq_true rfl) (Nat.le_of_ble_eq_true rfl) (Nat.le_of_ble_eq_true rfl) (Nat.le_of_ble_eq_true rfl) dL_act_848 (fun z30 v30 hz30 => ?_)
            refine g_sipush F rfl (by decide) dL_act_851 ?_
            refine g_iload_n F rfl 2 rfl rfl dL_act_854 ?_
            refine g_if_eq_t F rfl (by decide) (tgt := 862) rfl dL_act_855 ?_
            refine g_iconst F 2 rfl dL_act_862 ?_
            refine g_iload F 4 rfl rfl dL_act_863 ?_
            refine g_iconst F 0 rfl dL_act_865 ?_
            refine g_ishr F rfl rfl dL_act_866 ?_
            refine g_bipush F rfl (by decide) dL_act_867 ?_
            refine g_callS F (by decide) [(0, (shr32 l4 5)), (0, 60)] [0, 0] ml_RL_149 wt_L_low (c_L_low (shr32 l4 5) 60) mi_L_low rfl rfl rfl (Nat.le_of_ble_eq_true rfl) (Nat.le_of_ble_eq_true rfl) (Nat.le_of_ble_eq_true rfl) (Nat.le_of_ble_eq_true rfl) (Nat.le_of_ble_eq_true rfl) dL_act_869 (fun z31 v31 hz31 => ?_)
            refine g_iadd F rfl rfl dL_act_872 ?_
            refine g_imul F rfl rfl dL_act_873 ?_
            refine g_iadd F rfl rfl dL_act_874 ?_
            refine g_callSX F (by decide) [(17, 0), (0, 19), (0, l8), (0, l5), (0, (w32 (1 + z29))), (0, (w32 (z30 + (w32 (1000 * (w32 (1 + z31)))))))] [17, 0, 0, 0, 0, 0] ml_RL_155 wt_L_does (c_L_does_19 l8 l5 (w32 (1 + z29)) (w32 (z30 + (w32 (1000 * (w32 (1 + z31))))))) mw_L_does rfl rfl rfl (Nat.le_of_ble_eq_true rfl) (Nat.le_of_ble_eq_true rfl) (Nat.le_of_ble_eq_true rfl) (Nat.le_of_ble_eq_true rfl) (Nat.le_of_ble_eq_true rfl) dL_act_875 (fun z32 v32 hz32 => ?_)
            refine g_goto F (tgt := 984) rfl dL_act_878 ?_
            exact g_ireturn F rfl rfl rfl rfl (Nat.le_of_ble_eq_true rfl) (Nat.le_of_ble_eq_true rfl) dL_act_984
          · refine g_sipush F rfl (by decide) dL_act_821 ?_
            refine g_goto F (tgt := 829) rfl dL_act_824 ?_
            refine g_callS F (by decide) [(0, (shr32 l4 3)), (0, 2000)] [0, 0] ml_RL_149 wt_L_low (c_L_low (shr32 l4 3) 2000) mi_L_low rfl rfl rfl (Nat.le_of_ble_eq_true rfl) (Nat.le_of_ble_eq_true rfl) (Nat.le_of_ble_eq_true rfl) (Nat.le_of_ble_eq_true rfl) (Nat.le_of_ble_eq_true rfl) dL_act_829 (fun z33 v33 hz33 => ?_)
            refine g_iadd F rfl rfl dL_act_832 ?_
            refine g_iload F 4 rfl rfl dL_act_833 ?_
            refine g_iconst F 0 rfl dL_act_835 ?_
            refine g_ishr F rfl rfl dL_act_836 ?_
            refine g_iload_n F rfl 2 rfl rfl dL_act_837 ?_
            refine g_if_eq_t F rfl (by decide) (tgt := 846) rfl dL_act_838 ?_
            refine g_bipush F rfl (by decide) dL_act_846 ?_
            refine g_callS F (by decide) [(0, (shr32 l4 4)), (0, 101)] [0, 0] ml_RL_149 wt_L_low (c_L_low (shr32 l4 4) 101) mi_L_low rfl rfl rfl (Nat.le_of_ble_eq_true rfl) (Nat.le_of_ble_eq_true rfl) (Nat.le_of_ble_eq_true rfl) (Nat.le_of_ble_eq_true rfl) (Nat.le_of_ble_eq_true rfl) dL_act_848 (fun z34 v34 hz34 => ?_)
            refine g_sipush F rfl (by decide) dL_act_851 ?_
            refine g_iload_n F rfl 2 rfl rfl dL_act_854 ?_
            refine g_if_eq_t F rfl (by decide) (tgt := 862) rfl dL_act_855 ?_
            refine g_iconst F 2 rfl dL_act_862 ?_
            refine g_iload F 4 rfl rfl dL_act_863 ?_
            refine g_iconst F 0 rfl dL_act_865 ?_
            refine g_ishr F rfl rfl dL_act_866 ?_
            refine g_bipush F rfl (by decide) dL_act_867 ?_
            refine g_callS F (by decide) [(0, (shr32 l4 5)), (0, 60)] [0, 0] ml_RL_149 wt_L_low (c_L_low (shr32 l4 5) 60) mi_L_low rfl rfl rfl (Nat.le_of_ble_eq_true rfl) (Nat.le_of_ble_eq_true rfl) (Nat.le_of_ble_eq_true rfl) (Nat.le_of_ble_eq_true rfl) (Nat.le_of_ble_eq_true rfl) dL_act_869 (fun z35 v35 hz35 => ?_)
            refine g_iadd F rfl rfl dL_act_872 ?_
            refine g_imul F rfl rfl dL_act_873 ?_
            refine g_iadd F rfl rfl dL_act_874 ?_
            refine g_callSX F (by decide) [(17, 0), (0, 19), (0, l8), (0, l5), (0, (w32 (1 + z33))), (0, (w32 (z34 + (w32 (1000 * (w32 (1 + z35)))))))] [17, 0, 0, 0, 0, 0] ml_RL_155 wt_L_does (c_L_does_19 l8 l5 (w32 (1 + z33)) (w32 (z34 + (w32 (1000 * (w32 (1 + z35))))))) mw_L_does rfl rfl rfl (Nat.le_of_ble_eq_true rfl) (Nat.le_of_ble_eq_true rfl) (Nat.le_of_ble_eq_true rfl) (Nat.le_of_ble_eq_true rfl) (Nat.le_of_ble_eq_true rfl) dL_act_875 (fun z36 v36 hz36 => ?_)
            refine g_goto F (tgt := 984) rfl dL_act_878 ?_
            exact g_ireturn F rfl rfl rfl rfl (Nat.le_of_ble_eq_true rfl) (Nat.le_of_ble_eq_true rfl) dL_act_984
    · refine g_iload_n F rfl 2 rfl rfl dL_act_566 ?_
      refine g_if_eq_t F rfl (by decide) (tgt := 574) rfl dL_act_567 ?_
      refine g_iconst F 2 rfl dL_act_574 ?_
      refine g_iload F 4 rfl rfl dL_act_575 ?_
      refine g_iconst F 0 rfl dL_act_577 ?_
      refine g_ishr F rfl rfl dL_act_578 ?_
      refine g_iload F 4 rfl rfl dL_act_579 ?_
      refine g_bipush F rfl (by decide) dL_act_581 ?_
      refine g_ishr F rfl rfl dL_act_583 ?_
      refine g_iconst F 2 rfl dL_act_584 ?_
      refine g_iand F rfl rfl dL_act_585 ?_
      refine g_if_ne F rfl (tgt := 603) rfl dL_act_586 (fun n37 => ?_) (fun n37 => ?_)
      · refine g_bipush F rfl (by decide) dL_act_603 ?_
        refine g_callS F (by decide) [(0, (shr32 l4 5)), (0, 9)] [0, 0] ml_RL_149 wt_L_low (c_L_low (shr32 l4 5) 9) mi_L_low rfl rfl rfl (Nat.le_of_ble_eq_true rfl) (Nat.le_of_ble_eq_true rfl) (Nat.le_of_ble_eq_true rfl) (Nat.le_of_ble_eq_true rfl) (Nat.le_of_ble_eq_true rfl) dL_act_605 (fun z38 v38 hz38 => ?_)
        refine g_iadd F rfl rfl dL_act_608 ?_
        refine g_istore F rfl (Nat.le_of_ble_eq_true rfl) (ls' := [(10, (0, (w32 (1 + z38)))), (0, (17, 0)), (1, (0, l1)), (2, (2, 0)), (3, (0, l3)), (4, (0, l4)), (5, (0, l5)), (6, (0, l6)), (7, (0, l7)), (8, (0, l8)), (9, (0, l9))]) rfl dL_act_609 ?_
        refine g_iload_n F rfl 4 rfl rfl dL_act_611 ?_
        refine g_bipush F rfl (by decide) dL_act_612 ?_
        refine g_icmp_ge F rfl rfl (tgt := 634) rfl dL_act_614 (fun n39 => ?_) (fun n39 => ?_)
        · refine g_iload_n F rfl 4 rfl rfl dL_act_634 ?_
          refine g_bipush F rfl (by decide) dL_act_635 ?_
          refine g_icmp_ge F rfl rfl (tgt := 702) rfl dL_act_637 (fun n40 => ?_) (fun n40 => ?_)
          · refine g_iload_n F rfl 4 rfl rfl dL_act_702 ?_
            refine g_bipush F rfl (by decide) dL_act_703 ?_
            refine g_icmp_ge F rfl rfl (tgt := 722) rfl dL_act_705 (fun n41 => ?_) (fun n41 => ?_)
            · refine g_iload_n F rfl 4 rfl rfl dL_act_722 ?_
              refine g_bipush F rfl (by decide) dL_act_723 ?_
              refine g_icmp_ge F rfl rfl (tgt := 744) rfl dL_act_725 (fun n42 => ?_) (fun n42 => ?_)
              · refine g_iload_n F rfl 4 rfl rfl dL_act_744 ?_
                refine g_bipush F rfl (by decide) dL_act_745 ?_
                refine g_icmp_ge F rfl rfl (tgt := 766) rfl dL_act_747 (fun n43 => ?_) (fun n43 => ?_)
                · refine g_aload_n F rfl 1 rfl dL_act_766 ?_
                  refine g_bipush F rfl (by decide) dL_act_767 ?_
                  refine g_iload F 9 rfl rfl dL_act_769 ?_
                  refine g_iload F 6 rfl rfl dL_act_771 ?_
                  refine g_iconst F 2 rfl dL_act_773 ?_
                  refine g_iconst F 2 rfl dL_act_774 ?_
                  refine g_callSX F (by decide) [(17, 0), (0, 18), (0, l8), (0, l5), (2, 0), (2, 0)] [17, 0, 0, 0, 0, 0] ml_RL_155 wt_L_does (c_L_does_18 l8 l5 0 0) mw_L_does rfl rfl rfl (Nat.le_of_ble_eq_true rfl) (Nat.le_of_ble_eq_true rfl) (Nat.le_of_ble_eq_true rfl) (Nat.le_of_ble_eq_true rfl) (Nat.le_of_ble_eq_true rfl) dL_act_775 (fun z44 v44 hz44 => ?_)
                  exact g_ireturn F rfl rfl rfl rfl (Nat.le_of_ble_eq_true rfl) (Nat.le_of_ble_eq_true rfl) dL_act_778
                · refine g_aload_n F rfl 1 rfl dL_act_750 ?_
                  refine g_bipush F rfl (by decide) dL_act_751 ?_
                  refine g_iload F 9 rfl rfl dL_act_753 ?_
                  refine g_iload F 6 rfl rfl dL_act_755 ?_
                  refine g_iload F 7 rfl rfl dL_act_757 ?_
                  refine g_iconst F 2 rfl dL_act_759 ?_
                  refine g_callSX F (by decide) [(17, 0), (0, 17), (0, l8), (0, l5), (0, l6), (2, 0)] [17, 0, 0, 0, 0, 0] ml_RL_155 wt_L_does (c_L_does_17 l8 l5 l6 0) mw_L_does rfl rfl rfl (Nat.le_of_ble_eq_true rfl) (Nat.le_of_ble_eq_true rfl) (Nat.le_of_ble_eq_true rfl) (Nat.le_of_ble_eq_true rfl) (Nat.le_of_ble_eq_true rfl) dL_act_760 (fun z45 v45 hz45 => ?_)
                  refine g_goto F (tgt := 778) rfl dL_act_763 ?_
                  exact g_ireturn F rfl rfl rfl rfl (Nat.le_of_ble_eq_true rfl) (Nat.le_of_ble_eq_true rfl) dL_act_778
              · refine g_aload_n F rfl 1 rfl dL_act_728 ?_
                refine g_bipush F rfl (by decide) dL_act_729 ?_
                refine g_iload F 9 rfl rfl dL_act_731 ?_
                refine g_iload F 6 rfl rfl dL_act_733 ?_
                refine g_iload F 10 rfl rfl dL_act_735 ?_
                refine g_iconst F 2 rfl dL_act_737 ?_
                refine g_callSX F (by decide) [(17, 0), (0, 16), (0, l8), (0, l5), (0, l9), (2, 0)] [17, 0, 0, 0, 0, 0] ml_RL_155 wt_L_does (c_L_does_16 l8 l5 l9 0) mw_L_does rfl rfl rfl (Nat.le_of_ble_eq_true rfl) (Nat.le_of_ble_eq_true rfl) (Nat.le_of_ble_eq_true rfl) (Nat.le_of_ble_eq_true rfl) (Nat.le_of_ble_eq_true rfl) dL_act_738 (fun z46 v46 hz46 => ?_)
                refine g_goto F (tgt := 778) rfl dL_act_741 ?_
                exact g_ireturn F rfl rfl rfl rfl (Nat.le_of_ble_eq_true rfl) (Nat.le_of_ble_eq_true rfl) dL_act_778
            · refine g_aload_n F rfl 1 rfl dL_act_708 ?_
              refine g_bipush F rfl (by decide) dL_act_709 ?_
              refine g_iload F 9 rfl rfl dL_act_711 ?_
              refine g_iconst F 2 rfl dL_act_713 ?_
              refine g_iconst F 2 rfl dL_act_714 ?_
              refine g_iconst F 2 rfl dL_act_715 ?_
              refine g_callSX F (by decide) [(17, 0), (0, 15), (0, l8), (2, 0), (2, 0), (2, 0)] [17, 0, 0, 0, 0, 0] ml_RL_155 wt_L_does (c_L_does_15 l8 0 0 0) mw_L_does rfl rfl rfl (Nat.le_of_ble_eq_true rfl) (Nat.le_of_ble_eq_true rfl) (Nat.le_of_ble_eq_true rfl) (Nat.le_of_ble_eq_true rfl) (Nat.le_of_ble_eq_true rfl) dL_act_716 (fun z47 v47 hz47 => ?_)
              refine g_goto F (tgt := 778) rfl dL_act_719 ?_
              exact g_ireturn F rfl rfl rfl rfl (Nat.le_of_ble_eq_true rfl) (Nat.le_of_ble_eq_true rfl) dL_act_778
          · refine g_aload_n F rfl 1 rfl dL_act_640 ?_
            refine g_bipush F rfl (by decide) dL_act_641 ?_
            refine g_iload F 9 rfl rfl dL_act_643 ?_
            refine g_iload F 6 rfl rfl dL_act_645 ?_
            refine g_iload F 5 rfl rfl dL_act_647 ?_
            refine g_sipush F rfl (by decide) dL_act_649 ?_
            refine g_callS F (by decide) [(0, l4), (0, 3000)] [0, 0] ml_RL_149 wt_L_low (c_L_low l4 3000) mi_L_low rfl rfl rfl (Nat.le_of_ble_eq_true rfl) (Nat.le_of_ble_eq_true rfl) (Nat.le_of_ble_eq_true rfl) (Nat.le_of_ble_eq_true rfl) (Nat.le_of_ble_eq_true rfl) dL_act_652 (fun z48 v48 hz48 => ?_)
            refine g_iload F 5 rfl rfl dL_act_655 ?_
            refine g_iconst F 0 rfl dL_act_657 ?_
            refine g_ishr F rfl rfl dL_act_658 ?_
            refine g_iload_n F rfl 3 rfl rfl dL_act_659 ?_
            refine g_if_eq_t F rfl (by decide) (tgt := 668) rfl dL_act_660 ?_
            refine g_bipush F rfl (by decide) dL_act_668 ?_
            refine g_callS F (by decide) [(0, (shr32 l4 4)), (0, 51)] [0, 0] ml_RL_149 wt_L_low (c_L_low (shr32 l4 4) 51) mi_L_low rfl rfl rfl (Nat.le_of_ble_eq_true rfl) (Nat.le_of_ble_eq_true rfl) (Nat.le_of_ble_eq_true rfl) (Nat.le_of_ble_eq_true rfl) (Nat.le_of_ble_eq_true rfl) dL_act_670 (fun z49 v49 hz49 => ?_)
            refine g_bipush F rfl (by decide) dL_act_673 ?_
            refine g_iload F 5 rfl rfl dL_act_675 ?_
            refine g_iconst F 0 rfl dL_act_677 ?_
            refine g_ishr F rfl rfl dL_act_678 ?_
            refine g_iload_n F rfl 3 rfl rfl dL_act_679 ?_
            refine g_if_eq_t F rfl (by decide) (tgt := 689) rfl dL_act_680 ?_
            refine g_bipush F rfl (by decide) dL_act_689 ?_
            refine g_callS F (by decide) [(0, (shr32 l4 5)), (0, 40)] [0, 0] ml_RL_149 wt_L_low (c_L_low (shr32 l4 5) 40) mi_L_low rfl rfl rfl (Nat.le_of_ble_eq_true rfl) (Nat.le_of_ble_eq_true rfl) (Nat.le_of_ble_eq_true rfl) (Nat.le_of_ble_eq_true rfl) (Nat.le_of_ble_eq_true rfl) dL_act_691 (fun z50 v50 hz50 => ?_)
            refine g_imul F rfl rfl dL_act_694 ?_
            refine g_iadd F rfl rfl dL_act_695 ?_
            refine g_callSX F (by decide) [(17, 0), (0, 14), (0, l8), (0, l5), (0, z48), (0, (w32 (z49 + (w32 (100 * z50)))))] [17, 0, 0, 0, 0, 0] ml_RL_155 wt_L_does (c_L_does_14 l8 l5 z48 (w32 (z49 + (w32 (100 * z50))))) mw_L_does rfl rfl rfl (Nat.le_of_ble_eq_true rfl) (Nat.le_of_ble_eq_true rfl) (Nat.le_of_ble_eq_true rfl) (Nat.le_of_ble_eq_true rfl) (Nat.le_of_ble_eq_true rfl) dL_act_696 (fun z51 v51 hz51 => ?_)
            refine g_goto F (tgt := 778) rfl dL_act_699 ?_
            exact g_ireturn F rfl rfl rfl rfl (Nat.le_of_ble_eq_true rfl) (Nat.le_of_ble_eq_true rfl) dL_act_778
        · refine g_aload_n F rfl 1 rfl dL_act_617 ?_
          refine g_bipush F rfl (by decide) dL_act_618 ?_
          refine g_iload F 9 rfl rfl dL_act_620 ?_
          refine g_iload F 0 rfl rfl dL_act_622 ?_
          refine g_iload F 6 rfl rfl dL_act_624 ?_
          refine g_iload F 10 rfl rfl dL_act_626 ?_
          refine g_callSX F (by decide) [(17, 0), (0, 13), (0, l8), (0, (w32 (1 + z38))), (0, l5), (0, l9)] [17, 0, 0, 0, 0, 0] ml_RL_155 wt_L_does (c_L_does_13 l8 (w32 (1 + z38)) l5 l9) mw_L_does rfl rfl rfl (Nat.le_of_ble_eq_true rfl) (Nat.le_of_ble_eq_true rfl) (Nat.le_of_ble_eq_true rfl) (Nat.le_of_ble_eq_true rfl) (Nat.le_of_ble_eq_true rfl) dL_act_628 (fun z52 v52 hz52 => ?_)
          refine g_goto F (tgt := 778) rfl dL_act_631 ?_
          exact g_ireturn F rfl rfl rfl rfl (Nat.le_of_ble_eq_true rfl) (Nat.le_of_ble_eq_true rfl) dL_act_778
      · refine g_iload_n F rfl 2 rfl rfl dL_act_589 ?_
        refine g_if_eq_t F rfl (by decide) (tgt := 598) rfl dL_act_590 ?_
        refine g_bipush F rfl (by decide) dL_act_598 ?_
        refine g_goto F (tgt := 605) rfl dL_act_600 ?_
        refine g_callS F (by decide) [(0, (shr32 l4 5)), (0, 60)] [0, 0] ml_RL_149 wt_L_low (c_L_low (shr32 l4 5) 60) mi_L_low rfl rfl rfl (Nat.le_of_ble_eq_true rfl) (Nat.le_of_ble_eq_true rfl) (Nat.le_of_ble_eq_true rfl) (Nat.le_of_ble_eq_true rfl) (Nat.le_of_ble_eq_true rfl) dL_act_605 (fun z53 v53 hz53 => ?_)
        refine g_iadd F rfl rfl dL_act_608 ?_
        refine g_istore F rfl (Nat.le_of_ble_eq_true rfl) (ls' := [(10, (0, (w32 (1 + z53)))), (0, (17, 0)), (1, (0, l1)), (2, (2, 0)), (3, (0, l3)), (4, (0, l4)), (5, (0, l5)), (6, (0, l6)), (7, (0, l7)), (8, (0, l8)), (9, (0, l9))]) rfl dL_act_609 ?_
        refine g_iload_n F rfl 4 rfl rfl dL_act_611 ?_
        refine g_bipush F rfl (by decide) dL_act_612 ?_
        refine g_icmp_ge F rfl rfl (tgt := 634) rfl dL_act_614 (fun n54 => ?_) (fun n54 => ?_)
        · refine g_iload_n F rfl 4 rfl rfl dL_act_634 ?_
          refine g_bipush F rfl (by decide) dL_act_635 ?_
          refine g_icmp_ge F rfl rfl (tgt := 702) rfl dL_act_637 (fun n55 => ?_) (fun n55 => ?_)
          · refine g_iload_n F rfl 4 rfl rfl dL_act_702 ?_
            refine g_bipush F rfl (by decide) dL_act_703 ?_
            refine g_icmp_ge F rfl rfl (tgt := 722) rfl dL_act_705 (fun n56 => ?_) (fun n56 => ?_)
            · refine g_iload_n F rfl 4 rfl rfl dL_act_722 ?_
              refine g_bipush F rfl (by decide) dL_act_723 ?_
              refine g_icmp_ge F rfl rfl (tgt := 744) rfl dL_act_725 (fun n57 => ?_) (fun n57 => ?_)
              · refine g_iload_n F rfl 4 rfl rfl dL_act_744 ?_
                refine g_bipush F rfl (by decide) dL_act_745 ?_
                refine g_icmp_ge F rfl rfl (tgt := 766) rfl dL_act_747 (fun n58 => ?_) (fun n58 => ?_)
                · refine g_aload_n F rfl 1 rfl dL_act_766 ?_
                  refine g_bipush F rfl (by decide) dL_act_767 ?_
                  refine g_iload F 9 rfl rfl dL_act_769 ?_
                  refine g_iload F 6 rfl rfl dL_act_771 ?_
                  refine g_iconst F 2 rfl dL_act_773 ?_
                  refine g_iconst F 2 rfl dL_act_774 ?_
                  refine g_callSX F (by decide) [(17, 0), (0, 18), (0, l8), (0, l5), (2, 0), (2, 0)] [17, 0, 0, 0, 0, 0] ml_RL_155 wt_L_does (c_L_does_18 l8 l5 0 0) mw_L_does rfl rfl rfl (Nat.le_of_ble_eq_true rfl) (Nat.le_of_ble_eq_true rfl) (Nat.le_of_ble_eq_true rfl) (Nat.le_of_ble_eq_true rfl) (Nat.le_of_ble_eq_true rfl) dL_act_775 (fun z59 v59 hz59 => ?_)
                  exact g_ireturn F rfl rfl rfl rfl (Nat.le_of_ble_eq_true rfl) (Nat.le_of_ble_eq_true rfl) dL_act_778
                · refine g_aload_n F rfl 1 rfl dL_act_750 ?_
                  refine g_bipush F rfl (by decide) dL_act_751 ?_
                  refine g_iload F 9 rfl rfl dL_act_753 ?_
                  refine g_iload F 6 rfl rfl dL_act_755 ?_
                  refine g_iload F 7 rfl rfl dL_act_757 ?_
                  refine g_iconst F 2 rfl dL_act_759 ?_
                  refine g_callSX F (by decide) [(17, 0), (0, 17), (0, l8), (0, l5), (0, l6), (2, 0)] [17, 0, 0, 0, 0, 0] ml_RL_155 wt_L_does (c_L_does_17 l8 l5 l6 0) mw_L_does rfl rfl rfl (Nat.le_of_ble_eq_true rfl) (Nat.le_of_ble_eq_true rfl) (Nat.le_of_ble_eq_true rfl) (Nat.le_of_ble_eq_true rfl) (Nat.le_of_ble_eq_true rfl) dL_act_760 (fun z60 v60 hz60 => ?_)
                  refine g_goto F (tgt := 778) rfl dL_act_763 ?_
                  exact g_ireturn F rfl rfl rfl rfl (Nat.le_of_ble_eq_true rfl) (Nat.le_of_ble_eq_true rfl) dL_act_778
              · refine g_aload_n F rfl 1 rfl dL_act_728 ?_
                refine g_bipush F rfl (by decide) dL_act_729 ?_
                refine g_iload F 9 rfl rfl dL_act_731 ?_
                refine g_iload F 6 rfl rfl dL_act_733 ?_
                refine g_iload F 10 rfl rfl dL_act_735 ?_
                refine g_iconst F 2 rfl dL_act_737 ?_
                refine g_callSX F (by decide) [(17, 0), (0, 16), (0, l8), (0, l5), (0, l9), (2, 0)] [17, 0, 0, 0, 0, 0] ml_RL_155 wt_L_does (c_L_does_16 l8 l5 l9 0) mw_L_does rfl rfl rfl (Nat.le_of_ble_eq_true rfl) (Nat.le_of_ble_eq_true rfl) (Nat.le_of_ble_eq_true rfl) (Nat.le_of_ble_eq_true rfl) (Nat.le_of_ble_eq_true rfl) dL_act_738 (fun z61 v61 hz61 => ?_)
                refine g_goto F (tgt := 778) rfl dL_act_741 ?_
                exact g_ireturn F rfl rfl rfl rfl (Nat.le_of_ble_eq_true rfl) (Nat.le_of_ble_eq_true rfl) dL_act_778
            · refine g_aload_n F rfl 1 rfl dL_act_708 ?_
              refine g_bipush F rfl (by decide) dL_act_709 ?_
              refine g_iload F 9 rfl rfl dL_act_711 ?_
              refine g_iconst F 2 rfl dL_act_713 ?_
              refine g_iconst F 2 rfl dL_act_714 ?_
              refine g_iconst F 2 rfl dL_act_715 ?_
              refine g_callSX F (by decide) [(17, 0), (0, 15), (0, l8), (2, 0), (2, 0), (2, 0)] [17, 0, 0, 0, 0, 0] ml_RL_155 wt_L_does (c_L_does_15 l8 0 0 0) mw_L_does rfl rfl rfl (Nat.le_of_ble_eq_true rfl) (Nat.le_of_ble_eq_true rfl) (Nat.le_of_ble_eq_true rfl) (Nat.le_of_ble_eq_true rfl) (Nat.le_of_ble_eq_true rfl) dL_act_716 (fun z62 v62 hz62 => ?_)
              refine g_goto F (tgt := 778) rfl dL_act_719 ?_
              exact g_ireturn F rfl rfl rfl rfl (Nat.le_of_ble_eq_true rfl) (Nat.le_of_ble_eq_true rfl) dL_act_778
          · refine g_aload_n F rfl 1 rfl dL_act_640 ?_
            refine g_bipush F rfl (by decide) dL_act_641 ?_
            refine g_iload F 9 rfl rfl dL_act_643 ?_
            refine g_iload F 6 rfl rfl dL_act_645 ?_
            refine g_iload F 5 rfl rfl dL_act_647 ?_
            refine g_sipush F rfl (by decide) dL_act_649 ?_
            refine g_callS F (by decide) [(0, l4), (0, 3000)] [0, 0] ml_RL_149 wt_L_low (c_L_low l4 3000) mi_L_low rfl rfl rfl (Nat.le_of_ble_eq_true rfl) (Nat.le_of_ble_eq_true rfl) (Nat.le_of_ble_eq_true rfl) (Nat.le_of_ble_eq_true rfl) (Nat.le_of_ble_eq_true rfl) dL_act_652 (fun z63 v63 hz63 => ?_)
            refine g_iload F 5 rfl rfl dL_act_655 ?_
            refine g_iconst F 0 rfl dL_act_657 ?_
            refine g_ishr F rfl rfl dL_act_658 ?_
            refine g_iload_n F rfl 3 rfl rfl dL_act_659 ?_
            refine g_if_eq_t F rfl (by decide) (tgt := 668) rfl dL_act_660 ?_
            refine g_bipush F rfl (by decide) dL_act_668 ?_
            refine g_callS F (by decide) [(0, (shr32 l4 4)), (0, 51)] [0, 0] ml_RL_149 wt_L_low (c_L_low (shr32 l4 4) 51) mi_L_low rfl rfl rfl (Nat.le_of_ble_eq_true rfl) (Nat.le_of_ble_eq_true rfl) (Nat.le_of_ble_eq_true rfl) (Nat.le_of_ble_eq_true rfl) (Nat.le_of_ble_eq_true rfl) dL_act_670 (fun z64 v64 hz64 => ?_)
            refine g_bipush F rfl (by decide) dL_act_673 ?_
            refine g_iload F 5 rfl rfl dL_act_675 ?_
            refine g_iconst F 0 rfl dL_act_677 ?_
            refine g_ishr F rfl rfl dL_act_678 ?_
            refine g_iload_n F rfl 3 rfl rfl dL_act_679 ?_
            refine g_if_eq_t F rfl (by decide) (tgt := 689) rfl dL_act_680 ?_
            refine g_bipush F rfl (by decide) dL_act_689 ?_
            refine g_callS F (by decide) [(0, (shr32 l4 5)), (0, 40)] [0, 0] ml_RL_149 wt_L_low (c_L_low (shr32 l4 5) 40) mi_L_low rfl rfl rfl (Nat.le_of_ble_eq_true rfl) (Nat.le_of_ble_eq_true rfl) (Nat.le_of_ble_eq_true rfl) (Nat.le_of_ble_eq_true rfl) (Nat.le_of_ble_eq_true rfl) dL_act_691 (fun z65 v65 hz65 => ?_)
            refine g_imul F rfl rfl dL_act_694 ?_
            refine g_iadd F rfl rfl dL_act_695 ?_
            refine g_callSX F (by decide) [(17, 0), (0, 14), (0, l8), (0, l5), (0, z63), (0, (w32 (z64 + (w32 (100 * z65)))))] [17, 0, 0, 0, 0, 0] ml_RL_155 wt_L_does (c_L_does_14 l8 l5 z63 (w32 (z64 + (w32 (100 * z65))))) mw_L_does rfl rfl rfl (Nat.le_of_ble_eq_true rfl) (Nat.le_of_ble_eq_true rfl) (Nat.le_of_ble_eq_true rfl) (Nat.le_of_ble_eq_true rfl) (Nat.le_of_ble_eq_true rfl) dL_act_696 (fun z66 v66 hz66 => ?_)
            refine g_goto F (tgt := 778) rfl dL_act_699 ?_
            exact g_ireturn F rfl rfl rfl rfl (Nat.le_of_ble_eq_true rfl) (Nat.le_of_ble_eq_true rfl) dL_act_778
        · refine g_aload_n F rfl 1 rfl dL_act_617 ?_
          refine g_bipush F rfl (by decide) dL_act_618 ?_
          refine g_iload F 9 rfl rfl dL_act_620 ?_
          refine g_iload F 0 rfl rfl dL_act_622 ?_
          refine g_iload F 6 rfl rfl dL_act_624 ?_
          refine g_iload F 10 rfl rfl dL_act_626 ?_
          refine g_callSX F (by decide) [(17, 0), (0, 13), (0, l8), (0, (w32 (1 + z53))), (0, l5), (0, l9)] [17, 0, 0, 0, 0, 0] ml_RL_155 wt_L_does (c_L_does_13 l8 (w32 (1 + z53)) l5 l9) mw_L_does rfl rfl rfl (Nat.le_of_ble_eq_true rfl) (Nat.le_of_ble_eq_true rfl) (Nat.le_of_ble_eq_true rfl) (Nat.le_of_ble_eq_true rfl) (Nat.le_of_ble_eq_true rfl) dL_act_628 (fun z67 v67 hz67 => ?_)
          refine g_goto F (tgt := 778) rfl dL_act_631 ?_
          exact g_ireturn F rfl rfl rfl rfl (Nat.le_of_ble_eq_true rfl) (Nat.le_of_ble_eq_true rfl) dL_act_778
  · refine g_iload_n F rfl 3 rfl rfl dL_act_221 ?_
    refine g_iconst F 0 rfl dL_act_222 ?_
    refine g_icmp_ge F rfl rfl (tgt := 256) rfl dL_act_223 (fun n68 => ?_) (fun n68 => ?_)
    · refine g_iload_n F rfl 3 rfl rfl dL_act_256 ?_
      refine g_iconst F 0 rfl dL_act_257 ?_
      refine g_icmp_ge F rfl rfl (tgt := 291) rfl dL_act_258 (fun n69 => ?_) (fun n69 => ?_)
      · refine g_iload_n F rfl 3 rfl rfl dL_act_291 ?_
        refine g_bipush F rfl (by decide) dL_act_292 ?_
        refine g_icmp_ge F rfl rfl (tgt := 317) rfl dL_act_294 (fun n70 => ?_) (fun n70 => ?_)
        · refine g_iload_n F rfl 3 rfl rfl dL_act_317 ?_
          refine g_bipush F rfl (by decide) dL_act_318 ?_
          refine g_icmp_ne F rfl rfl (tgt := 380) rfl dL_act_320 (fun n71 => ?_) (fun n71 => ?_)
          · refine g_iload_n F rfl 3 rfl rfl dL_act_380 ?_
            refine g_bipush F rfl (by decide) dL_act_381 ?_
            refine g_icmp_ne F rfl rfl (tgt := 430) rfl dL_act_383 (fun n72 => ?_) (fun n72 => ?_)
            · refine g_iload_n F rfl 3 rfl rfl dL_act_430 ?_
              refine g_bipush F rfl (by decide) dL_act_431 ?_
              refine g_icmp_ne F rfl rfl (tgt := 456) rfl dL_act_433 (fun n73 => ?_) (fun n73 => ?_)
              · refine g_iload_n F rfl 3 rfl rfl dL_act_456 ?_
                refine g_bipush F rfl (by decide) dL_act_457 ?_
                refine g_icmp_ne F rfl rfl (tgt := 479) rfl dL_act_459 (fun n74 => ?_) (fun n74 => ?_)
                · refine g_iload_n F rfl 3 rfl rfl dL_act_479 ?_
                  refine g_bipush F rfl (by decide) dL_act_480 ?_
                  refine g_icmp_ge F rfl rfl (tgt := 513) rfl dL_act_482 (fun n75 => ?_) (fun n75 => ?_)
                  · refine g_iload_n F rfl 3 rfl rfl dL_act_513 ?_
                    refine g_bipush F rfl (by decide) dL_act_514 ?_
                    refine g_icmp_ne F rfl rfl (tgt := 533) rfl dL_act_516 (fun n76 => ?_) (fun n76 => ?_)
                    · refine g_iload F 4 rfl rfl dL_act_533 ?_
                      refine g_bipush F rfl (by decide) dL_act_535 ?_
                      refine g_ishr F rfl rfl dL_act_537 ?_
                      refine g_iconst F 0 rfl dL_act_538 ?_
                      refine g_iand F rfl rfl dL_act_539 ?_
                      refine g_if_ne F rfl (tgt := 557) rfl dL_act_540 (fun n77 => ?_) (fun n77 => ?_)
                      · refine g_ldc F rfl cn_RL_45 dL_act_557 ?_
                        exact g_ireturn F rfl rfl rfl rfl (Nat.le_of_ble_eq_true rfl) (Nat.le_of_ble_eq_true rfl) dL_act_559
                      · refine g_aload_n F rfl 0 rfl dL_act_543 ?_
                        refine g_bipush F rfl (by decide) dL_act_544 ?_
                        refine g_iload F 5 rfl rfl dL_act_546 ?_
                        refine g_iconst F 2 rfl dL_act_548 ?_
                        refine g_iconst F 2 rfl dL_act_549 ?_
                        refine g_iconst F 2 rfl dL_act_550 ?_
                        refine g_callSX F (by decide) [(17, 0), (0, 12), (0, l5), (2, 0), (2, 0), (2, 0)] [17, 0, 0, 0, 0, 0] ml_RL_155 wt_L_does (c_L_does_12 l5 0 0 0) mw_L_does rfl rfl rfl (Nat.le_of_ble_eq_true rfl) (Nat.le_of_ble_eq_true rfl) (Nat.le_of_ble_eq_true rfl) (Nat.le_of_ble_eq_true rfl) (Nat.le_of_ble_eq_true rfl) dL_act_551 (fun z78 v78 hz78 => ?_)
                        refine g_goto F (tgt := 559) rfl dL_act_554 ?_
                        exact g_ireturn F rfl rfl rfl rfl (Nat.le_of_ble_eq_true rfl) (Nat.le_of_ble_eq_true rfl) dL_act_559
                    · refine g_aload_n F rfl 0 rfl dL_act_519 ?_
                      refine g_bipush F rfl (by decide) dL_act_520 ?_
                      refine g_iload F 7 rfl rfl dL_act_522 ?_
                      refine g_iconst F 2 rfl dL_act_524 ?_
                      refine g_iconst F 2 rfl dL_act_525 ?_
                      refine g_iconst F 2 rfl dL_act_526 ?_
                      refine g_callSX F (by decide) [(17, 0), (0, 11), (0, l7), (2, 0), (2, 0), (2, 0)] [17, 0, 0, 0, 0, 0] ml_RL_155 wt_L_does (c_L_does_11 l7 0 0 0) mw_L_does rfl rfl rfl (Nat.le_of_ble_eq_true rfl) (Nat.le_of_ble_eq_true rfl) (Nat.le_of_ble_eq_true rfl) (Nat.le_of_ble_eq_true rfl) (Nat.le_of_ble_eq_true rfl) dL_act_527 (fun z79 v79 hz79 => ?_)
                      refine g_goto F (tgt := 559) rfl dL_act_530 ?_
                      exact g_ireturn F rfl rfl rfl rfl (Nat.le_of_ble_eq_true rfl) (Nat.le_of_ble_eq_true rfl) dL_act_559
                  · refine g_aload_n F rfl 0 rfl dL_act_485 ?_
                    refine g_bipush F rfl (by decide) dL_act_486 ?_
                    refine g_iload F 7 rfl rfl dL_act_488 ?_
                    refine g_iload F 4 rfl rfl dL_act_490 ?_
                    refine g_iload_n F rfl 2 rfl rfl dL_act_492 ?_
                    refine g_if_eq_t F rfl (by decide) (tgt := 501) rfl dL_act_493 ?_
                    refine g_iconst F 0 rfl dL_act_501 ?_
                    refine g_callS F (by decide) [(0, l4), (0, 4)] [0, 0] ml_RL_149 wt_L_low (c_L_low l4 4) mi_L_low rfl rfl rfl (Nat.le_of_ble_eq_true rfl) (Nat.le_of_ble_eq_true rfl) (Nat.le_of_ble_eq_true rfl) (Nat.le_of_ble_eq_true rfl) (Nat.le_of_ble_eq_true rfl) dL_act_502 (fun z80 v80 hz80 => ?_)
                    refine g_iconst F 2 rfl dL_act_505 ?_
                    refine g_iconst F 2 rfl dL_act_506 ?_
                    refine g_callSX F (by decide) [(17, 0), (0, 10), (0, l7), (0, z80), (2, 0), (2, 0)] [17, 0, 0, 0, 0, 0] ml_RL_155 wt_L_does (c_L_does_10 l7 z80 0 0) mw_L_does rfl rfl rfl (Nat.le_of_ble_eq_true rfl) (Nat.le_of_ble_eq_true rfl) (Nat.le_of_ble_eq_true rfl) (Nat.le_of_ble_eq_true rfl) (Nat.le_of_ble_eq_true rfl) dL_act_507 (fun z81 v81 hz81 => ?_)
                    refine g_goto F (tgt := 559) rfl dL_act_510 ?_
                    exact g_ireturn F rfl rfl rfl rfl (Nat.le_of_ble_eq_true rfl) (Nat.le_of_ble_eq_true rfl) dL_act_559
                · refine g_aload_n F rfl 0 rfl dL_act_462 ?_
                  refine g_bipush F rfl (by decide) dL_act_463 ?_
                  refine g_iload F 7 rfl rfl dL_act_465 ?_
                  refine g_iload F 4 rfl rfl dL_act_467 ?_
                  refine g_iconst F 2 rfl dL_act_469 ?_
                  refine g_iand F rfl rfl dL_act_470 ?_
                  refine g_iconst F 2 rfl dL_act_471 ?_
                  refine g_iconst F 2 rfl dL_act_472 ?_
                  refine g_callSX F (by decide) [(17, 0), (0, 9), (0, l7), (0, (and32 l4 1)), (2, 0), (2, 0)] [17, 0, 0, 0, 0, 0] ml_RL_155 wt_L_does (c_L_does_9 l7 (and32 l4 1) 0 0) mw_L_does rfl rfl rfl (Nat.le_of_ble_eq_true rfl) (Nat.le_of_ble_eq_true rfl) (Nat.le_of_ble_eq_true rfl) (Nat.le_of_ble_eq_true rfl) (Nat.le_of_ble_eq_true rfl) dL_act_473 (fun z82 v82 hz82 => ?_)
                  refine g_goto F (tgt := 559) rfl dL_act_476 ?_
                  exact g_ireturn F rfl rfl rfl rfl (Nat.le_of_ble_eq_true rfl) (Nat.le_of_ble_eq_true rfl) dL_act_559
              · refine g_aload_n F rfl 0 rfl dL_act_436 ?_
                refine g_bipush F rfl (by decide) dL_act_437 ?_
                refine g_iload F 7 rfl rfl dL_act_439 ?_
                refine g_iload F 4 rfl rfl dL_act_441 ?_
                refine g_bipush F rfl (by decide) dL_act_443 ?_
                refine g_callS F (by decide) [(0, l4), (0, 30)] [0, 0] ml_RL_149 wt_L_low (c_L_low l4 30) mi_L_low rfl rfl rfl (Nat.le_of_ble_eq_true rfl) (Nat.le_of_ble_eq_true rfl) (Nat.le_of_ble_eq_true rfl) (Nat.le_of_ble_eq_true rfl) (Nat.le_of_ble_eq_true rfl) dL_act_445 (fun z83 v83 hz83 => ?_)
                refine g_iconst F 2 rfl dL_act_448 ?_
                refine g_iconst F 2 rfl dL_act_449 ?_
                refine g_callSX F (by decide) [(17, 0), (0, 8), (0, l7), (0, z83), (2, 0), (2, 0)] [17, 0, 0, 0, 0, 0] ml_RL_155 wt_L_does (c_L_does_8 l7 z83 0 0) mw_L_does rfl rfl rfl (Nat.le_of_ble_eq_true rfl) (Nat.le_of_ble_eq_true rfl) (Nat.le_of_ble_eq_true rfl) (Nat.le_of_ble_eq_true rfl) (Nat.le_of_ble_eq_true rfl) dL_act_450 (fun z84 v84 hz84 => ?_)
                refine g_goto F (tgt := 559) rfl dL_act_453 ?_
                exact g_ireturn F rfl rfl rfl rfl (Nat.le_of_ble_eq_true rfl) (Nat.le_of_ble_eq_true rfl) dL_act_559
            · refine g_aload_n F rfl 0 rfl dL_act_386 ?_
              refine g_bipush F rfl (by decide) dL_act_387 ?_
              refine g_iload F 4 rfl rfl dL_act_389 ?_
              refine g_iload_n F rfl 2 rfl rfl dL_act_391 ?_
              refine g_if_eq_t F rfl (by decide) (tgt := 400) rfl dL_act_392 ?_
              refine g_iconst F 0 rfl dL_act_400 ?_
              refine g_callS F (by decide) [(0, l4), (0, 4)] [0, 0] ml_RL_149 wt_L_low (c_L_low l4 4) mi_L_low rfl rfl rfl (Nat.le_of_ble_eq_true rfl) (Nat.le_of_ble_eq_true rfl) (Nat.le_of_ble_eq_true rfl) (Nat.le_of_ble_eq_true rfl) (Nat.le_of_ble_eq_true rfl) dL_act_401 (fun z85 v85 hz85 => ?_)
              refine g_iload F 4 rfl rfl dL_act_404 ?_
              refine g_iconst F 0 rfl dL_act_406 ?_
              refine g_ishr F rfl rfl dL_act_407 ?_
              refine g_iload_n F rfl 2 rfl rfl dL_act_408 ?_
              refine g_if_eq_t F rfl (by decide) (tgt := 417) rfl dL_act_409 ?_
              refine g_bipush F rfl (by decide) dL_act_417 ?_
              refine g_callS F (by decide) [(0, (shr32 l4 4)), (0, 21)] [0, 0] ml_RL_149 wt_L_low (c_L_low (shr32 l4 4) 21) mi_L_low rfl rfl rfl (Nat.le_of_ble_eq_true rfl) (Nat.le_of_ble_eq_true rfl) (Nat.le_of_ble_eq_true rfl) (Nat.le_of_ble_eq_true rfl) (Nat.le_of_ble_eq_true rfl) dL_act_419 (fun z86 v86 hz86 => ?_)
              refine g_iconst F 2 rfl dL_act_422 ?_
              refine g_iconst F 2 rfl dL_act_423 ?_
              refine g_callSX F (by decide) [(17, 0), (0, 7), (0, z85), (0, z86), (2, 0), (2, 0)] [17, 0, 0, 0, 0, 0] ml_RL_155 wt_L_does (c_L_does_7 z85 z86 0 0) mw_L_does rfl rfl rfl (Nat.le_of_ble_eq_true rfl) (Nat.le_of_ble_eq_true rfl) (Nat.le_of_ble_eq_true rfl) (Nat.le_of_ble_eq_true rfl) (Nat.le_of_ble_eq_true rfl) dL_act_424 (fun z87 v87 hz87 => ?_)
              refine g_goto F (tgt := 559) rfl dL_act_427 ?_
              exact g_ireturn F rfl rfl rfl rfl (Nat.le_of_ble_eq_true rfl) (Nat.le_of_ble_eq_true rfl) dL_act_559
          · refine g_aload_n F rfl 0 rfl dL_act_323 ?_
            refine g_bipush F rfl (by decide) dL_act_324 ?_
            refine g_iload F 7 rfl rfl dL_act_326 ?_
            refine g_sipush F rfl (by decide) dL_act_328 ?_
            refine g_iload F 4 rfl rfl dL_act_331 ?_
            refine g_bipush F rfl (by decide) dL_act_333 ?_
            refine g_callS F (by decide) [(0, l4), (0, 80)] [0, 0] ml_RL_149 wt_L_low (c_L_low l4 80) mi_L_low rfl rfl rfl (Nat.le_of_ble_eq_true rfl) (Nat.le_of_ble_eq_true rfl) (Nat.le_of_ble_eq_true rfl) (Nat.le_of_ble_eq_true rfl) (Nat.le_of_ble_eq_true rfl) dL_act_335 (fun z88 v88 hz88 => ?_)
            refine g_iadd F rfl rfl dL_act_338 ?_
            refine g_iload_n F rfl 2 rfl rfl dL_act_339 ?_
            refine g_if_eq_t F rfl (by decide) (tgt := 360) rfl dL_act_340 ?_
            refine g_sipush F rfl (by decide) dL_act_360 ?_
            refine g_iload F 4 rfl rfl dL_act_363 ?_
            refine g_iconst F 0 rfl dL_act_365 ?_
            refine g_ishr F rfl rfl dL_act_366 ?_
            refine g_bipush F rfl (by decide) dL_act_367 ?_
            refine g_callS F (by decide) [(0, (shr32 l4 2)), (0, 20)] [0, 0] ml_RL_149 wt_L_low (c_L_low (shr32 l4 2) 20) mi_L_low rfl rfl rfl (Nat.le_of_ble_eq_true rfl) (Nat.le_of_ble_eq_true rfl) (Nat.le_of_ble_eq_true rfl) (Nat.le_of_ble_eq_true rfl) (Nat.le_of_ble_eq_true rfl) dL_act_369 (fun z89 v89 hz89 => ?_)
            refine g_iadd F rfl rfl dL_act_372 ?_
            refine g_iconst F 2 rfl dL_act_373 ?_
            refine g_callSX F (by decide) [(17, 0), (0, 6), (0, l7), (0, (w32 (1900 + z88))), (0, (w32 (1980 + z89))), (2, 0)] [17, 0, 0, 0, 0, 0] ml_RL_155 wt_L_does (c_L_does_6 l7 (w32 (1900 + z88)) (w32 (1980 + z89)) 0) mw_L_does rfl rfl rfl (Nat.le_of_ble_eq_true rfl) (Nat.le_of_ble_eq_true rfl) (Nat.le_of_ble_eq_true rfl) (Nat.le_of_ble_eq_true rfl) (Nat.le_of_ble_eq_true rfl) dL_act_374 (fun z90 v90 hz90 => ?_)
            refine g_goto F (tgt := 559) rfl dL_act_377 ?_
            exact g_ireturn F rfl rfl rfl rfl (Nat.le_of_ble_eq_true rfl) (Nat.le_of_ble_eq_true rfl) dL_act_559
        · refine g_aload_n F rfl 0 rfl dL_act_297 ?_
          refine g_iconst F 0 rfl dL_act_298 ?_
          refine g_iload F 5 rfl rfl dL_act_299 ?_
          refine g_iload F 7 rfl rfl dL_act_301 ?_
          refine g_iload F 4 rfl rfl dL_act_303 ?_
          refine g_bipush F rfl (by decide) dL_act_305 ?_
          refine g_ishr F rfl rfl dL_act_307 ?_
          refine g_iconst F 2 rfl dL_act_308 ?_
          refine g_iand F rfl rfl dL_act_309 ?_
          refine g_iconst F 2 rfl dL_act_310 ?_
          refine g_callSX F (by decide) [(17, 0), (0, 5), (0, l5), (0, l7), (0, (and32 (shr32 l4 7) 1)), (2, 0)] [17, 0, 0, 0, 0, 0] ml_RL_155 wt_L_does (c_L_does_5 l5 l7 (and32 (shr32 l4 7) 1) 0) mw_L_does rfl rfl rfl (Nat.le_of_ble_eq_true rfl) (Nat.le_of_ble_eq_true rfl) (Nat.le_of_ble_eq_true rfl) (Nat.le_of_ble_eq_true rfl) (Nat.le_of_ble_eq_true rfl) dL_act_311 (fun z91 v91 hz91 => ?_)
          refine g_goto F (tgt := 559) rfl dL_act_314 ?_
          exact g_ireturn F rfl rfl rfl rfl (Nat.le_of_ble_eq_true rfl) (Nat.le_of_ble_eq_true rfl) dL_act_559
      · refine g_aload_n F rfl 0 rfl dL_act_261 ?_
        refine g_iconst F 0 rfl dL_act_262 ?_
        refine g_iload F 5 rfl rfl dL_act_263 ?_
        refine g_iload F 4 rfl rfl dL_act_265 ?_
        refine g_iconst F 0 rfl dL_act_267 ?_
        refine g_ishr F rfl rfl dL_act_268 ?_
        refine g_iload_n F rfl 2 rfl rfl dL_act_269 ?_
        refine g_if_eq_t F rfl (by decide) (tgt := 278) rfl dL_act_270 ?_
        refine g_bipush F rfl (by decide) dL_act_278 ?_
        refine g_callS F (by decide) [(0, (shr32 l4 5)), (0, 10)] [0, 0] ml_RL_149 wt_L_low (c_L_low (shr32 l4 5) 10) mi_L_low rfl rfl rfl (Nat.le_of_ble_eq_true rfl) (Nat.le_of_ble_eq_true rfl) (Nat.le_of_ble_eq_true rfl) (Nat.le_of_ble_eq_true rfl) (Nat.le_of_ble_eq_true rfl) dL_act_280 (fun z92 v92 hz92 => ?_)
        refine g_iconst F 2 rfl dL_act_283 ?_
        refine g_iconst F 2 rfl dL_act_284 ?_
        refine g_callSX F (by decide) [(17, 0), (0, 4), (0, l5), (0, z92), (2, 0), (2, 0)] [17, 0, 0, 0, 0, 0] ml_RL_155 wt_L_does (c_L_does_4 l5 z92 0 0) mw_L_does rfl rfl rfl (Nat.le_of_ble_eq_true rfl) (Nat.le_of_ble_eq_true rfl) (Nat.le_of_ble_eq_true rfl) (Nat.le_of_ble_eq_true rfl) (Nat.le_of_ble_eq_true rfl) dL_act_285 (fun z93 v93 hz93 => ?_)
        refine g_goto F (tgt := 559) rfl dL_act_288 ?_
        exact g_ireturn F rfl rfl rfl rfl (Nat.le_of_ble_eq_true rfl) (Nat.le_of_ble_eq_true rfl) dL_act_559
    · refine g_aload_n F rfl 0 rfl dL_act_226 ?_
      refine g_iconst F 0 rfl dL_act_227 ?_
      refine g_iload F 7 rfl rfl dL_act_228 ?_
      refine g_iload_n F rfl 2 rfl rfl dL_act_230 ?_
      refine g_if_eq_t F rfl (by decide) (tgt := 239) rfl dL_act_231 ?_
      refine g_iload F 4 rfl rfl dL_act_239 ?_
      refine g_iconst F 0 rfl dL_act_241 ?_
      refine g_ishr F rfl rfl dL_act_242 ?_
      refine g_ldc F rfl cn_RL_154 dL_act_243 ?_
      refine g_callS F (by decide) [(0, (shr32 l4 2)), (0, 1000001)] [0, 0] ml_RL_149 wt_L_low (c_L_low (shr32 l4 2) 1000001) mi_L_low rfl rfl rfl (Nat.le_of_ble_eq_true rfl) (Nat.le_of_ble_eq_true rfl) (Nat.le_of_ble_eq_true rfl) (Nat.le_of_ble_eq_true rfl) (Nat.le_of_ble_eq_true rfl) dL_act_245 (fun z94 v94 hz94 => ?_)
      refine g_iconst F 2 rfl dL_act_248 ?_
      refine g_iconst F 2 rfl dL_act_249 ?_
      refine g_callSX F (by decide) [(17, 0), (0, 2), (0, l7), (0, z94), (2, 0), (2, 0)] [17, 0, 0, 0, 0, 0] ml_RL_155 wt_L_does (c_L_does_2 l7 z94 0 0) mw_L_does rfl rfl rfl (Nat.le_of_ble_eq_true rfl) (Nat.le_of_ble_eq_true rfl) (Nat.le_of_ble_eq_true rfl) (Nat.le_of_ble_eq_true rfl) (Nat.le_of_ble_eq_true rfl) dL_act_250 (fun z95 v95 hz95 => ?_)
      refine g_goto F (tgt := 559) rfl dL_act_253 ?_
      exact g_ireturn F rfl rfl rfl rfl (Nat.le_of_ble_eq_true rfl) (Nat.le_of_ble_eq_true rfl) dL_act_559
def cp_L_act_215_1 (l1 l3 l4 l5 l6 l7 l8 l9 : Int) (v : V) : Res := (if 16 ≤ l3 then (if 54 ≤ l3 then (if 72 ≤ l3 then (rB (sp_L_low l4 1100 v) (fun z107 v107 => (rB (sp_L_does_3 (w32 (z107 - 30)) 0 0 0 v107) (fun z108 v108 => (rOk z108 v108)))))
   else (if 62 ≤ l3 then (if 65 ≤ l3 then (if 69 ≤ l3 then (rB (sp_L_low (shr32 l4 2) 8 v) (fun z112 v112 => (rB (sp_L_does_22 z112 l5 l9 0 v112) (fun z113 v113 => (rOk z113 v113)))))
   else (rB (sp_L_low l4 23 v) (fun z114 v114 => (rB (sp_L_does_21 z114 0 0 0 v114) (fun z115 v115 => (rOk z115 v115))))))
   else (rB (sp_L_low l4 23 v) (fun z116 v116 => (rB (sp_L_does_20 z116 0 0 0 v116) (fun z117 v117 => (rOk z117 v117))))))
   else (if ¬ (and32 (shr32 l4 7) 1) = 0 then (rB (sp_L_low (shr32 l4 3) 200000 v) (fun z119 v119 => (rB (sp_L_low (shr32 l4 4) 120 v119) (fun z120 v120 => (rB (sp_L_low (shr32 l4 5) 60 v120) (fun z121 v121 => (rB (sp_L_does_19 l8 l5 (w32 (0 + z119)) (w32 (z120 + (w32 (1000 * (w32 (0 + z121)))))) v121) (fun z122 v122 => (rOk z122 v122)))))))))
   else (rB (sp_L_low (shr32 l4 3) 2000 v) (fun z123 v123 => (rB (sp_L_low (shr32 l4 4) 120 v123) (fun z124 v124 => (rB (sp_L_low (shr32 l4 5) 60 v124) (fun z125 v125 => (rB (sp_L_does_19 l8 l5 (w32 (0 + z123)) (w32 (z124 + (w32 (1000 * (w32 (0 + z125)))))) v125) (fun z126 v126 => (rOk z126 v126))))))))))))
   else (if ¬ (and32 (shr32 l4 8) 1) = 0 then (rB (sp_L_low (shr32 l4 5) 9 v) (fun z128 v128 => (if 30 ≤ l3 then (if 37 ≤ l3 then (if 39 ≤ l3 then (if 48 ≤ l3 then (if 51 ≤ l3 then (rB (sp_L_does_18 l8 l5 0 0 v128) (fun z134 v134 => (rOk z134 v134)))
   else (rB (sp_L_does_17 l8 l5 l6 0 v128) (fun z135 v135 => (rOk z135 v135))))
   else (rB (sp_L_does_16 l8 l5 l9 0 v128) (fun z136 v136 => (rOk z136 v136))))
   else (rB (sp_L_does_15 l8 0 0 0 v128) (fun z137 v137 => (rOk z137 v137))))
   else (rB (sp_L_low l4 3000 v128) (fun z138 v138 => (rB (sp_L_low (shr32 l4 4) 60 v138) (fun z139 v139 => (rB (sp_L_low (shr32 l4 5) 1100 v139) (fun z140 v140 => (rB (sp_L_does_14 l8 l5 z138 (w32 (z139 + (w32 (100 * z140)))) v140) (fun z141 v141 => (rOk z141 v141))))))))))
   else (rB (sp_L_does_13 l8 (w32 (0 + z128)) l5 l9 v128) (fun z142 v142 => (rOk z142 v142))))))
   else (rB (sp_L_low (shr32 l4 5) 70 v) (fun z143 v143 => (if 30 ≤ l3 then (if 37 ≤ l3 then (if 39 ≤ l3 then (if 48 ≤ l3 then (if 51 ≤ l3 then (rB (sp_L_does_18 l8 l5 0 0 v143) (fun z149 v149 => (rOk z149 v149)))
   else (rB (sp_L_does_17 l8 l5 l6 0 v143) (fun z150 v150 => (rOk z150 v150))))
   else (rB (sp_L_does_16 l8 l5 l9 0 v143) (fun z151 v151 => (rOk z151 v151))))
   else (rB (sp_L_does_15 l8 0 0 0 v143) (fun z152 v152 => (rOk z152 v152))))
   else (rB (sp_L_low l4 3000 v143) (fun z153 v153 => (rB (sp_L_low (shr32 l4 4) 60 v153) (fun z154 v154 => (rB (sp_L_low (shr32 l4 5) 1100 v154) (fun z155 v155 => (rB (sp_L_does_14 l8 l5 z153 (w32 (z154 + (w32 (100 * z155)))) v155) (fun z156 v156 => (rOk z156 v156))))))))))
   else (rB (sp_L_does_13 l8 (w32 (0 + z143)) l5 l9 v143) (fun z157 v157 => (rOk z157 v157))))))))
   else (if 2 ≤ l3 then (if 4 ≤ l3 then (if 7 ≤ l3 then (if ¬ l3 = 7 then (if ¬ l3 = 8 then (if ¬ l3 = 9 then (if ¬ l3 = 10 then (if 14 ≤ l3 then (if ¬ l3 = 14 then (if ¬ (and32 (shr32 l4 8) 3) = 0 then (rOk (-2100000000) v)
   else (rB (sp_L_does_12 l5 0 0 0 v) (fun z168 v168 => (rOk z168 v168))))
   else (rB (sp_L_does_11 l7 0 0 0 v) (fun z169 v169 => (rOk z169 v169))))
   else (rB (sp_L_low l4 6 v) (fun z170 v170 => (rB (sp_L_does_10 l7 z170 0 0 v170) (fun z171 v171 => (rOk z171 v171))))))
   else (rB (sp_L_does_9 l7 (and32 l4 1) 0 0 v) (fun z172 v172 => (rOk z172 v172))))
   else (rB (sp_L_low l4 30 v) (fun z173 v173 => (rB (sp_L_does_8 l7 z173 0 0 v173) (fun z174 v174 => (rOk z174 v174))))))
   else (rB (sp_L_low l4 6 v) (fun z175 v175 => (rB (sp_L_low (shr32 l4 4) 30 v175) (fun z176 v176 => (rB (sp_L_does_7 z175 z176 0 0 v176) (fun z177 v177 => (rOk z177 v177))))))))
   else (rB (sp_L_low l4 80 v) (fun z178 v178 => (rB (sp_L_low (shr32 l4 2) 130 v178) (fun z179 v179 => (rB (sp_L_does_6 l7 (w32 (1900 + z178)) (w32 (1890 + z179)) 0 v179) (fun z180 v180 => (rOk z180 v180))))))))
   else (rB (sp_L_does_5 l5 l7 (and32 (shr32 l4 7) 1) 0 v) (fun z181 v181 => (rOk z181 v181))))
   else (rB (sp_L_low (shr32 l4 5) 14 v) (fun z182 v182 => (rB (sp_L_does_4 l5 z182 0 0 v182) (fun z183 v183 => (rOk z183 v183))))))
   else (rB (sp_L_does_2 l7 l9 0 0 v) (fun z184 v184 => (rOk z184 v184)))))
set_option maxRecDepth 100000 in
set_option maxHeartbeats 4000000 in
theorem kc_L_act_215_1 {l1 l3 l4 l5 l6 l7 l8 l9 : Int} {x : Cx} (F : Fx x cL_act RL "act" ({ frames := 12, cells := 10, slots := 62, locals := 223 }) 11 (some 0) (some .int) 0) (v : V) : Gs x (cp_L_act_215_1 l1 l3 l4 l5 l6 l7 l8 l9 v) v 0 0 215 [(0, (17, 0)), (1, (0, l1)), (2, (2, 1)), (3, (0, l3)), (4, (0, l4)), (5, (0, l5)), (6, (0, l6)), (7, (0, l7)), (8, (0, l8)), (9, (0, l9))] [] := by
  unfold cp_L_act_215_1
  refine g_iload_n F rfl 3 rfl rfl dL_act_215 ?_
  refine g_bipush F rfl (by decide) dL_act_216 ?_
  refine g_icmp_ge F rfl rfl (tgt := 560) rfl dL_act_218 (fun n104 => ?_) (fun n104 => ?_)
  · refine g_iload_n F rfl 3 rfl rfl dL_act_560 ?_
    refine g_bipush F rfl (by decide) dL_act_561 ?_
    refine g_icmp_ge F rfl rfl (tgt := 779) rfl dL_act_563 (fun n105 => ?_) (fun n105 => ?_)
    · refine g_iload_n F rfl 3 rfl rfl dL_act_779 ?_
      refine g_bipush F rfl (by decide) dL_act_780 ?_
      refine g_icmp_ge F rfl rfl (tgt := 985) rfl dL_act_782 (fun n106 => ?_) (fun n106 => ?_)
      · refine g_aload_n F rfl 0 rfl dL_act_985 ?_
        refine g_iconst F 0 rfl dL_act_986 ?_
        refine g_iload_n F rfl 2 rfl rfl dL_act_987 ?_
        refine g_if_eq_f F rfl (by decide) (tgt := 1005) rfl dL_act_988 ?_
        refine g_iload F 4 rfl rfl dL_act_991 ?_
        refine g_sipush F rfl (by decide) dL_act_993 ?_
        refine g_callS F (by decide) [(0, l4), (0, 1100)] [0, 0] ml_RL_149 wt_L_low (c_L_low l4 1100) mi_L_low rfl rfl rfl (Nat.le_of_ble_eq_true rfl) (Nat.le_of_ble_eq_true rfl) (Nat.le_of_ble_eq_true rfl) (Nat.le_of_ble_eq_true rfl) (Nat.le_of_ble_eq_true rfl) dL_act_996 (fun z107 v107 hz107 => ?_)
        refine g_bipush F rfl (by decide) dL_act_999 ?_
        refine g_isub F rfl rfl dL_act_1001 ?_
        refine g_goto F (tgt := 1030) rfl dL_act_1002 ?_
        refine g_iconst F 2 rfl dL_act_1030 ?_
        refine g_iconst F 2 rfl dL_act_1031 ?_
        refine g_iconst F 2 rfl dL_act_1032 ?_
        refine g_callSX F (by decide) [(17, 0), (0, 3), (0, (w32 (z107 - 30))), (2, 0), (2, 0), (2, 0)] [17, 0, 0, 0, 0, 0] ml_RL_155 wt_L_does (c_L_does_3 (w32 (z107 - 30)) 0 0 0) mw_L_does rfl rfl rfl (Nat.le_of_ble_eq_true rfl) (Nat.le_of_ble_eq_true rfl) (Nat.le_of_ble_eq_true rfl) (Nat.le_of_ble_eq_true rfl) (Nat.le_of_ble_eq_true rfl) dL_act_1033 (fun z108 v108 hz108 => ?_)
        exact g_ireturn F rfl rfl rfl rfl (Nat.le_of_ble_eq_true rfl) (Nat.le_of_ble_eq_true rfl) dL_act_1036
      · refine g_iload_n F rfl 3 rfl rfl dL_act_785 ?_
        refine g_bipush F rfl (by decide) dL_act_786 ?_
        refine g_icmp_ge F rfl rfl (tgt := 881) rfl dL_act_788 (fun n109 => ?_) (fun n109 => ?_)
        · refine g_iload_n F rfl 3 rfl rfl dL_act_881 ?_
          refine g_bipush F rfl (by decide) dL_act_882 ?_
          refine g_icmp_ge F rfl rfl (tgt := 915) rfl dL_act_884 (fun n110 => ?_) (fun n110 => ?_)
          · refine g_iload_n F rfl 3 rfl rfl dL_act_915 ?_
            refine g_bipush F rfl (by decide) dL_act_916 ?_
            refine g_icmp_ge F rfl rfl (tgt := 949) rfl dL_act_918 (fun n111 => ?_) (fun n111 => ?_)
            · refine g_aload_n F rfl 0 rfl dL_act_949 ?_
              refine g_bipush F rfl (by decide) dL_act_950 ?_
              refine g_iload F 4 rfl rfl dL_act_952 ?_
              refine g_iconst F 0 rfl dL_act_954 ?_
              refine g_ishr F rfl rfl dL_act_955 ?_
              refine g_bipush F rfl (by decide) dL_act_956 ?_
              refine g_callS F (by decide) [(0, (shr32 l4 2)), (0, 8)] [0, 0] ml_RL_149 wt_L_low (c_L_low (shr32 l4 2) 8) mi_L_low rfl rfl rfl (Nat.le_of_ble_eq_true rfl) (Nat.le_of_ble_eq_true rfl) (Nat.le_of_ble_eq_true rfl) (Nat.le_of_ble_eq_true rfl) (Nat.le_of_ble_eq_true rfl) dL_act_958 (fun z112 v112 hz112 => ?_)
              refine g_iload F 5 rfl rfl dL_act_961 ?_
              refine g_iload_n F rfl 2 rfl rfl dL_act_963 ?_
              refine g_if_eq_f F rfl (by decide) (tgt := 972) rfl dL_act_964 ?_
              refine g_iload F 9 rfl rfl dL_act_967 ?_
              refine g_goto F (tgt := 980) rfl dL_act_969 ?_
              refine g_iconst F 2 rfl dL_act_980 ?_
              refine g_callSX F (by decide) [(17, 0), (0, 22), (0, z112), (0, l5), (0, l9), (2, 0)] [17, 0, 0, 0, 0, 0] ml_RL_155 wt_L_does (c_L_does_22 z112 l5 l9 0) mw_L_does rfl rfl rfl (Nat.le_of_ble_eq_true rfl) (Nat.le_of_ble_eq_true rfl) (Nat.le_of_ble_eq_true rfl) (Nat.le_of_ble_eq_true rfl) (Nat.le_of_ble_eq_true rfl) dL_act_981 (fun z113 v113 hz113 => ?_)
              exact g_ireturn F rfl rfl rfl rfl (Nat.le_of_ble_eq_true rfl) (Nat.le_of_ble_eq_true rfl) dL_act_984
            · refine g_aload_n F rfl 0 rfl dL_act_921 ?_
              refine g_bipush F rfl (by decide) dL_act_922 ?_
              refine g_iload F 4 rfl rfl dL_act_924 ?_
              refine g_iload_n F rfl 2 rfl rfl dL_act_926 ?_
              refine g_if_eq_f F rfl (by decide) (tgt := 935) rfl dL_act_927 ?_
              refine g_bipush F rfl (by decide) dL_act_930 ?_
              refine g_goto F (tgt := 937) rfl dL_act_932 ?_
              refine g_callS F (by decide) [(0, l4), (0, 23)] [0, 0] ml_RL_149 wt_L_low (c_L_low l4 23) mi_L_low rfl rfl rfl (Nat.le_of_ble_eq_true rfl) (Nat.le_of_ble_eq_true rfl) (Nat.le_of_ble_eq_true rfl) (Nat.le_of_ble_eq_true rfl) (Nat.le_of_ble_eq_true rfl) dL_act_937 (fun z114 v114 hz114 => ?_)
              refine g_iconst F 2 rfl dL_act_940 ?_
              refine g_iconst F 2 rfl dL_act_941 ?_
              refine g_iconst F 2 rfl dL_act_942 ?_
              refine g_callSX F (by decide) [(17, 0), (0, 21), (0, z114), (2, 0), (2, 0), (2, 0)] [17, 0, 0, 0, 0, 0] ml_RL_155 wt_L_does (c_L_does_21 z114 0 0 0) mw_L_does rfl rfl rfl (Nat.le_of_ble_eq_true rfl) (Nat.le_of_ble_eq_true rfl) (Nat.le_of_ble_eq_true rfl) (Nat.le_of_ble_eq_true rfl) (Nat.le_of_ble_eq_true rfl) dL_act_943 (fun z115 v115 hz115 => ?_)
              refine g_goto F (tgt := 984) rfl dL_act_946 ?_
              exact g_ireturn F rfl rfl rfl rfl (Nat.le_of_ble_eq_true rfl) (Nat.le_of_ble_eq_true rfl) dL_act_984
          · refine g_aload_n F rfl 0 rfl dL_act_887 ?_
            refine g_bipush F rfl (by decide) dL_act_888 ?_
            refine g_iload F 4 rfl rfl dL_act_890 ?_
            refine g_iload_n F rfl 2 rfl rfl dL_act_892 ?_
            refine g_if_eq_f F rfl (by decide) (tgt := 901) rfl dL_act_893 ?_
            refine g_bipush F rfl (by decide) dL_act_896 ?_
            refine g_goto F (tgt := 903) rfl dL_act_898 ?_
            refine g_callS F (by decide) [(0, l4), (0, 23)] [0, 0] ml_RL_149 wt_L_low (c_L_low l4 23) mi_L_low rfl rfl rfl (Nat.le_of_ble_eq_true rfl) (Nat.le_of_ble_eq_true rfl) (Nat.le_of_ble_eq_true rfl) (Nat.le_of_ble_eq_true rfl) (Nat.le_of_ble_eq_true rfl) dL_act_903 (fun z116 v116 hz116 => ?_)
            refine g_iconst F 2 rfl dL_act_906 ?_
            refine g_iconst F 2 rfl dL_act_907 ?_
            refine g_iconst F 2 rfl dL_act_908 ?_
            refine g_callSX F (by decide) [(17, 0), (0, 20), (0, z116), (2, 0), (2, 0), (2, 0)] [17, 0, 0, 0, 0, 0] ml_RL_155 wt_L_does (c_L_does_20 z116 0 0 0) mw_L_does rfl rfl rfl (Nat.le_of_ble_eq_true rfl) (Nat.le_of_ble_eq_true rfl) (Nat.le_of_ble_eq_true rfl) (Nat.le_of_ble_eq_true rfl) (Nat.le_of_ble_eq_true rfl) dL_act_909 (fun z117 v117 hz117 => ?_)
            refine g_goto F (tgt := 984) rfl dL_act_912 ?_
            exact g_ireturn F rfl rfl rfl rfl (Nat.le_of_ble_eq_true rfl) (Nat.le_of_ble_eq_true rfl) dL_act_984
        · refine g_aload_n F rfl 0 rfl dL_act_791 ?_
          refine g_bipush F rfl (by decide) dL_act_792 ?_
          refine g_iload F 8 rfl rfl dL_act_794 ?_
          refine g_iload F 5 rfl rfl dL_act_796 ?_
          refine g_iload_n F rfl 2 rfl rfl dL_act_798 ?_
          refine g_if_eq_f F rfl (by decide) (tgt := 806) rfl dL_act_799 ?_
          refine g_iconst F 2 rfl dL_act_802 ?_
          refine g_goto F (tgt := 807) rfl dL_act_803 ?_
          refine g_iload F 4 rfl rfl dL_act_807 ?_
          refine g_iconst F 0 rfl dL_act_809 ?_
          refine g_ishr F rfl rfl dL_act_810 ?_
          refine g_iload F 4 rfl rfl dL_act_811 ?_
          refine g_bipush F rfl (by decide) dL_act_813 ?_
          refine g_ishr F rfl rfl dL_act_815 ?_
          refine g_iconst F 2 rfl dL_act_816 ?_
          refine g_iand F rfl rfl dL_act_817 ?_
          refine g_if_ne F rfl (tgt := 827) rfl dL_act_818 (fun n118 => ?_) (fun n118 => ?_)
          · refine g_ldc F rfl cn_RL_158 dL_act_827 ?_
            refine g_callS F (by decide) [(0, (shr32 l4 3)), (0, 200000)] [0, 0] ml_RL_149 wt_L_low (c_L_low (shr32 l4 3) 200000) mi_L_low rfl rfl rfl (Nat.le_of_ble_eq_true rfl) (Nat.le_of_ble_eq_true rfl) (Nat.le_of_ble_eq_true rfl) (Nat.le_of_ble_eq_true rfl) (Nat.le_of_ble_eq_true rfl) dL_act_829 (fun z119 v119 hz119 => ?_)
            refine g_iadd F rfl rfl dL_act_832 ?_
            refine g_iload F 4 rfl rfl dL_act_833 ?_
            refine g_iconst F 0 rfl dL_act_835 ?_
            refine g_ishr F rfl rfl dL_act_836 ?_
            refine g_iload_n F rfl 2 rfl rfl dL_act_837 ?_
            refine g_if_eq_f F rfl (by decide) (tgt := 846) rfl dL_act_838 ?_
            refine g_bipush F rfl (by decide) dL_act_841 ?_
            refine g_goto F (tgt := 848) rfl dL_act_843 ?_
            refine g_callS F (by decide) [(0, (shr32 l4 4)), (0, 120)] [0, 0] ml_RL_149 wt_L_low (c_L_low (shr32 l4 4) 120) mi_L_low rfl rfl rfl (Nat.le_of_ble_eq_true rfl) (Nat.le_of_ble_eq_true rfl) (Nat.le_of_ble_eq_true rfl) (Nat.le_of_ble_eq_true rfl) (Nat.le_of_ble_eq_true rfl) dL_act_848 (fun z120 v120 hz120 => ?_)
            refine g_sipush F rfl (by decide) dL_act_851 ?_
            refine g_iload_n F rfl 2 rfl rfl dL_act_854 ?_
            refine g_if_eq_f F rfl (by decide) (tgt := 862) rfl dL_act_855 ?_
            refine g_iconst F 2 rfl dL_act_858 ?_
            refine g_goto F (tgt := 863) rfl dL_act_859 ?_
            refine g_iload F 4 rfl rfl dL_act_863 ?_
            refine g_iconst F 0 rfl dL_act_865 ?_
            refine g_ishr F rfl rfl dL_act_866 ?_
            refine g_bipush F rfl (by decide) dL_act_867 ?_
            refine g_callS F (by decide) [(0, (shr32 l4 5)), (0, 60)] [0, 0] ml_RL_149 wt_L_low (c_L_low (shr32 l4 5) 60) mi_L_low rfl rfl rfl (Nat.le_of_ble_eq_true rfl) (Nat.le_of_ble_eq_true rfl) (Nat.le_of_ble_eq_true rfl) (Nat.le_of_ble_eq_true rfl) (Nat.le_of_ble_eq_true rfl) dL_act_869 (fun z121 v121 hz121 => ?_)
            refine g_iadd F rfl rfl dL_act_872 ?_
            refine g_imul F rfl rfl dL_act_873 ?_
            refine g_iadd F rfl rfl dL_act_874 ?_
            refine g_callSX F (by decide) [(17, 0), (0, 19), (0, l8), (0, l5), (0, (w32 (0 + z119))), (0, (w32 (z120 + (w32 (1000 * (w32 (0 + z121)))))))] [17, 0, 0, 0, 0, 0] ml_RL_155 wt_L_does (c_L_does_19 l8 l5 (w32 (0 + z119)) (w32 (z120 + (w32 (1000 * (w32 (0 + z121))))))) mw_L_does rfl rfl rfl (Nat.le_of_ble_eq_true rfl) (Nat.le_of_ble_eq_true rfl) (Nat.le_of_ble_eq_true rfl) (Nat.le_of_ble_eq_true rfl) (Nat.le_of_ble_eq_true rfl) dL_act_875 (fun z122 v122 hz122 => ?_)
            refine g_goto F (tgt := 984) rfl dL_act_878 ?_
            exact g_ireturn F rfl rfl rfl rfl (Nat.le_of_ble_eq_true rfl) (Nat.le_of_ble_eq_true rfl) dL_act_984
          · refine g_sipush F rfl (by decide) dL_act_821 ?_
            refine g_goto F (tgt := 829) rfl dL_act_824 ?_
            refine g_callS F (by decide) [(0, (shr32 l4 3)), (0, 2000)] [0, 0] ml_RL_149 wt_L_low (c_L_low (shr32 l4 3) 2000) mi_L_low rfl rfl rfl (Nat.le_of_ble_eq_true rfl) (Nat.le_of_ble_eq_true rfl) (Nat.le_of_ble_eq_true rfl) (Nat.le_of_ble_eq_true rfl) (Nat.le_of_ble_eq_true rfl) dL_act_829 (fun z123 v123 hz123 => ?_)
            refine g_iadd F rfl rfl dL_act_832 ?_
            refine g_iload F 4 rfl rfl dL_act_833 ?_
            refine g_iconst F 0 rfl dL_act_835 ?_
            refine g_ishr F rfl rfl dL_act_836 ?_
            refine g_iload_n F rfl 2 rfl rfl dL_act_837 ?_
            refine g_if_eq_f F rfl (by decide) (tgt := 846) rfl dL_act_838 ?_
            refine g_bipush F rfl (by decide) dL_act_841 ?_
            refine g_goto F (tgt := 848) rfl dL_act_843 ?_
            refine g_callS F (by decide) [(0, (shr32 l4 4)), (0, 120)] [0, 0] ml_RL_149 wt_L_low (c_L_low (shr32 l4 4) 120) mi_L_low rfl rfl rfl (Nat.le_of_ble_eq_true rfl) (Nat.le_of_ble_eq_true rfl) (Nat.le_of_ble_eq_true rfl) (Nat.le_of_ble_eq_true rfl) (Nat.le_of_ble_eq_true rfl) dL_act_848 (fun z124 v124 hz124 => ?_)
            refine g_sipush F rfl (by decide) dL_act_851 ?_
            refine g_iload_n F rfl 2 rfl rfl dL_act_854 ?_
            refine g_if_eq_f F rfl (by decide) (tgt := 862) rfl dL_act_855 ?_
            refine g_iconst F 2 rfl dL_act_858 ?_
            refine g_goto F (tgt := 863) rfl dL_act_859 ?_
            refine g_iload F 4 rfl rfl dL_act_863 ?_
            refine g_iconst F 0 rfl dL_act_865 ?_
            refine g_ishr F rfl rfl dL_act_866 ?_
            refine g_bipush F rfl (by decide) dL_act_867 ?_
            refine g_callS F (by decide) [(0, (shr32 l4 5)), (0, 60)] [0, 0] ml_RL_149 wt_L_low (c_L_low (shr32 l4 5) 60) mi_L_low rfl rfl rfl (Nat.le_of_ble_eq_true rfl) (Nat.le_of_ble_eq_true rfl) (Nat.le_of_ble_eq_true rfl) (Nat.le_of_ble_eq_true rfl) (Nat.le_of_ble_eq_true rfl) dL_act_869 (fun z125 v125 hz125 => ?_)
            refine g_iadd F rfl rfl dL_act_872 ?_
            refine g_imul F rfl rfl dL_act_873 ?_
            refine g_iadd F rfl rfl dL_act_874 ?_
            refine g_callSX F (by decide) [(17, 0), (0, 19), (0, l8), (0, l5), (0, (w32 (0 + z123))), (0, (w32 (z124 + (w32 (1000 * (w32 (0 + z125)))))))] [17, 0, 0, 0, 0, 0] ml_RL_155 wt_L_does (c_L_does_19 l8 l5 (w32 (0 + z123)) (w32 (z124 + (w32 (1000 * (w32 (0 + z125))))))) mw_L_does rfl rfl rfl (Nat.le_of_ble_eq_true rfl) (Nat.le_of_ble_eq_true rfl) (Nat.le_of_ble_eq_true rfl) (Nat.le_of_ble_eq_true rfl) (Nat.le_of_ble_eq_true rfl) dL_act_875 (fun z126 v126 hz126 => ?_)
            refine g_goto F (tgt := 984) rfl dL_act_878 ?_
            exact g_ireturn F rfl rfl rfl rfl (Nat.le_of_ble_eq_true rfl) (Nat.le_of_ble_eq_true rfl) dL_act_984
    · refine g_iload_n F rfl 2 rfl rfl dL_act_566 ?_
      refine g_if_eq_f F rfl (by decide) (tgt := 574) rfl dL_act_567 ?_
      refine g_iconst F 2 rfl dL_act_570 ?_
      refine g_goto F (tgt := 575) rfl dL_act_571 ?_
      refine g_iload F 4 rfl rfl dL_act_575 ?_
      refine g_iconst F 0 rfl dL_act_577 ?_
      refine g_ishr F rfl rfl dL_act_578 ?_
      refine g_iload F 4 rfl rfl dL_act_579 ?_
      refine g_bipush F rfl (by decide) dL_act_581 ?_
      refine g_ishr F rfl rfl dL_act_583 ?_
      refine g_iconst F 2 rfl dL_act_584 ?_
      refine g_iand F rfl rfl dL_act_585 ?_
      refine g_if_ne F rfl (tgt := 603) rfl dL_act_586 (fun n127 => ?_) (fun n127 => ?_)
      · refine g_bipush F rfl (by decide) dL_act_603 ?_
        refine g_callS F (by decide) [(0, (shr32 l4 5)), (0, 9)] [0, 0] ml_RL_149 wt_L_low (c_L_low (shr32 l4 5) 9) mi_L_low rfl rfl rfl (Nat.le_of_ble_eq_true rfl) (Nat.le_of_ble_eq_true rfl) (Nat.le_of_ble_eq_true rfl) (Nat.le_of_ble_eq_true rfl) (Nat.le_of_ble_eq_true rfl) dL_act_605 (fun z128 v128 hz128 => ?_)
        refine g_iadd F rfl rfl dL_act_608 ?_
        refine g_istore F rfl (Nat.le_of_ble_eq_true rfl) (ls' := [(10, (0, (w32 (0 + z128)))), (0, (17, 0)), (1, (0, l1)), (2, (2, 1)), (3, (0, l3)), (4, (0, l4)), (5, (0, l5)), (6, (0, l6)), (7, (0, l7)), (8, (0, l8)), (9, (0, l9))]) rfl dL_act_609 ?_
        refine g_iload_n F rfl 4 rfl rfl dL_act_611 ?_
        refine g_bipush F rfl (by decide) dL_act_612 ?_
        refine g_icmp_ge F rfl rfl (tgt := 634) rfl dL_act_614 (fun n129 => ?_) (fun n129 => ?_)
        · refine g_iload_n F rfl 4 rfl rfl dL_act_634 ?_
          refine g_bipush F rfl (by decide) dL_act_635 ?_
          refine g_icmp_ge F rfl rfl (tgt := 702) rfl dL_act_637 (fun n130 => ?_) (fun n130 => ?_)
          · refine g_iload_n F rfl 4 rfl rfl dL_act_702 ?_
            refine g_bipush F rfl (by decide) dL_act_703 ?_
            refine g_icmp_ge F rfl rfl (tgt := 722) rfl dL_act_705 (fun n131 => ?_) (fun n131 => ?_)
            · refine g_iload_n F rfl 4 rfl rfl dL_act_722 ?_
              refine g_bipush F rfl (by decide) dL_act_723 ?_
              refine g_icmp_ge F rfl rfl (tgt := 744) rfl dL_act_725 (fun n132 => ?_) (fun n132 => ?_)
              · refine g_iload_n F rfl 4 rfl rfl dL_act_744 ?_
                refine g_bipush F rfl (by decide) dL_act_745 ?_
                refine g_icmp_ge F rfl rfl (tgt := 766) rfl dL_act_747 (fun n133 => ?_) (fun n133 => ?_)
                · refine g_aload_n F rfl 1 rfl dL_act_766 ?_
                  refine g_bipush F rfl (by decide) dL_act_767 ?_
                  refine g_iload F 9 rfl rfl dL_act_769 ?_
                  refine g_iload F 6 rfl rfl dL_act_771 ?_
                  refine g_iconst F 2 rfl dL_act_773 ?_
                  refine g_iconst F 2 rfl dL_act_774 ?_
                  refine g_callSX F (by decide) [(17, 0), (0, 18), (0, l8), (0, l5), (2, 0), (2, 0)] [17, 0, 0, 0, 0, 0] ml_RL_155 wt_L_does (c_L_does_18 l8 l5 0 0) mw_L_does rfl rfl rfl (Nat.le_of_ble_eq_true rfl) (Nat.le_of_ble_eq_true rfl) (Nat.le_of_ble_eq_true rfl) (Nat.le_of_ble_eq_true rfl) (Nat.le_of_ble_eq_true rfl) dL_act_775 (fun z134 v134 hz134 => ?_)
                  exact g_ireturn F rfl rfl rfl rfl (Nat.le_of_ble_eq_true rfl) (Nat.le_of_ble_eq_true rfl) dL_act_778
                · refine g_aload_n F rfl 1 rfl dL_act_750 ?_
                  refine g_bipush F rfl (by decide) dL_act_751 ?_
                  refine g_iload F 9 rfl rfl dL_act_753 ?_
                  refine g_iload F 6 rfl rfl dL_act_755 ?_
                  refine g_iload F 7 rfl rfl dL_act_757 ?_
                  refine g_iconst F 2 rfl dL_act_759 ?_
                  refine g_callSX F (by decide) [(17, 0), (0, 17), (0, l8), (0, l5), (0, l6), (2, 0)] [17, 0, 0, 0, 0, 0] ml_RL_155 wt_L_does (c_L_does_17 l8 l5 l6 0) mw_L_does rfl rfl rfl (Nat.le_of_ble_eq_true rfl) (Nat.le_of_ble_eq_true rfl) (Nat.le_of_ble_eq_true rfl) (Nat.le_of_ble_eq_true rfl) (Nat.le_of_ble_eq_true rfl) dL_act_760 (fun z135 v135 hz135 => ?_)
                  refine g_goto F (tgt := 778) rfl dL_act_763 ?_
                  exact g_ireturn F rfl rfl rfl rfl (Nat.le_of_ble_eq_true rfl) (Nat.le_of_ble_eq_true rfl) dL_act_778
              · refine g_aload_n F rfl 1 rfl dL_act_728 ?_
                refine g_bipush F rfl (by decide) dL_act_729 ?_
                refine g_iload F 9 rfl rfl dL_act_731 ?_
                refine g_iload F 6 rfl rfl dL_act_733 ?_
                refine g_iload F 10 rfl rfl dL_act_735 ?_
                refine g_iconst F 2 rfl dL_act_737 ?_
                refine g_callSX F (by decide) [(17, 0), (0, 16), (0, l8), (0, l5), (0, l9), (2, 0)] [17, 0, 0, 0, 0, 0] ml_RL_155 wt_L_does (c_L_does_16 l8 l5 l9 0) mw_L_does rfl rfl rfl (Nat.le_of_ble_eq_true rfl) (Nat.le_of_ble_eq_true rfl) (Nat.le_of_ble_eq_true rfl) (Nat.le_of_ble_eq_true rfl) (Nat.le_of_ble_eq_true rfl) dL_act_738 (fun z136 v136 hz136 => ?_)
                refine g_goto F (tgt := 778) rfl dL_act_741 ?_
                exact g_ireturn F rfl rfl rfl rfl (Nat.le_of_ble_eq_true rfl) (Nat.le_of_ble_eq_true rfl) dL_act_778
            · refine g_aload_n F rfl 1 rfl dL_act_708 ?_
              refine g_bipush F rfl (by decide) dL_act_709 ?_
              refine g_iload F 9 rfl rfl dL_act_711 ?_
              refine g_iconst F 2 rfl dL_act_713 ?_
              refine g_iconst F 2 rfl dL_act_714 ?_
              refine g_iconst F 2 rfl dL_act_715 ?_
              refine g_callSX F (by decide) [(17, 0), (0, 15), (0, l8), (2, 0), (2, 0), (2, 0)] [17, 0, 0, 0, 0, 0] ml_RL_155 wt_L_does (c_L_does_15 l8 0 0 0) mw_L_does rfl rfl rfl (Nat.le_of_ble_eq_true rfl) (Nat.le_of_ble_eq_true rfl) (Nat.le_of_ble_eq_true rfl) (Nat.le_of_ble_eq_true rfl) (Nat.le_of_ble_eq_true rfl) dL_act_716 (fun z137 v137 hz137 => ?_)
              refine g_goto F (tgt := 778) rfl dL_act_719 ?_
              exact g_ireturn F rfl rfl rfl rfl (Nat.le_of_ble_eq_true rfl) (Nat.le_of_ble_eq_true rfl) dL_act_778
          · refine g_aload_n F rfl 1 rfl dL_act_640 ?_
            refine g_bipush F rfl (by decide) dL_act_641 ?_
            refine g_iload F 9 rfl rfl dL_act_643 ?_
            refine g_iload F 6 rfl rfl dL_act_645 ?_
            refine g_iload F 5 rfl rfl dL_act_647 ?_
            refine g_sipush F rfl (by decide) dL_act_649 ?_
            refine g_callS F (by decide) [(0, l4), (0, 3000)] [0, 0] ml_RL_149 wt_L_low (c_L_low l4 3000) mi_L_low rfl rfl rfl (Nat.le_of_ble_eq_true rfl) (Nat.le_of_ble_eq_true rfl) (Nat.le_of_ble_eq_true rfl) (Nat.le_of_ble_eq_true rfl) (Nat.le_of_ble_eq_true rfl) dL_act_652 (fun z138 v138 hz138 => ?_)
            refine g_iload F 5 rfl rfl dL_act_655 ?_
            refine g_iconst F 0 rfl dL_act_657 ?_
            refine g_ishr F rfl rfl dL_act_658 ?_
            refine g_iload_n F rfl 3 rfl rfl dL_act_659 ?_
            refine g_if_eq_f F rfl (by decide) (tgt := 668) rfl dL_act_660 ?_
            refine g_bipush F rfl (by decide) dL_act_663 ?_
            refine g_goto F (tgt := 670) rfl dL_act_665 ?_
            refine g_callS F (by decide) [(0, (shr32 l4 4)), (0, 60)] [0, 0] ml_RL_149 wt_L_low (c_L_low (shr32 l4 4) 60) mi_L_low rfl rfl rfl (Nat.le_of_ble_eq_true rfl) (Nat.le_of_ble_eq_true rfl) (Nat.le_of_ble_eq_true rfl) (Nat.le_of_ble_eq_true rfl) (Nat.le_of_ble_eq_true rfl) dL_act_670 (fun z139 v139 hz139 => ?_)
            refine g_bipush F rfl (by decide) dL_act_673 ?_
            refine g_iload F 5 rfl rfl dL_act_675 ?_
            refine g_iconst F 0 rfl dL_act_677 ?_
            refine g_ishr F rfl rfl dL_act_678 ?_
            refine g_iload_n F rfl 3 rfl rfl dL_act_679 ?_
            refine g_if_eq_f F rfl (by decide) (tgt := 689) rfl dL_act_680 ?_
            refine g_sipush F rfl (by decide) dL_act_683 ?_
            refine g_goto F (tgt := 691) rfl dL_act_686 ?_
            refine g_callS F (by decide) [(0, (shr32 l4 5)), (0, 1100)] [0, 0] ml_RL_149 wt_L_low (c_L_low (shr32 l4 5) 1100) mi_L_low rfl rfl rfl (Nat.le_of_ble_eq_true rfl) (Nat.le_of_ble_eq_true rfl) (Nat.le_of_ble_eq_true rfl) (Nat.le_of_ble_eq_true rfl) (Nat.le_of_ble_eq_true rfl) dL_act_691 (fun z140 v140 hz140 => ?_)
            refine g_imul F rfl rfl dL_act_694 ?_
            refine g_iadd F rfl rfl dL_act_695 ?_
            refine g_callSX F (by decide) [(17, 0), (0, 14), (0, l8), (0, l5), (0, z138), (0, (w32 (z139 + (w32 (100 * z140)))))] [17, 0, 0, 0, 0, 0] ml_RL_155 wt_L_does (c_L_does_14 l8 l5 z138 (w32 (z139 + (w32 (100 * z140))))) mw_L_does rfl rfl rfl (Nat.le_of_ble_eq_true rfl) (Nat.le_of_ble_eq_true rfl) (Nat.le_of_ble_eq_true rfl) (Nat.le_of_ble_eq_true rfl) (Nat.le_of_ble_eq_true rfl) dL_act_696 (fun z141 v141 hz141 => ?_)
            refine g_goto F (tgt := 778) rfl dL_act_699 ?_
            exact g_ireturn F rfl rfl rfl rfl (Nat.le_of_ble_eq_true rfl) (Nat.le_of_ble_eq_true rfl) dL_act_778
        · refine g_aload_n F rfl 1 rfl dL_act_617 ?_
          refine g_bipush F rfl (by decide) dL_act_618 ?_
          refine g_iload F 9 rfl rfl dL_act_620 ?_
          refine g_iload F 0 rfl rfl dL_act_622 ?_
          refine g_iload F 6 rfl rfl dL_act_624 ?_
          refine g_iload F 10 rfl rfl dL_act_626 ?_
          refine g_callSX F (by decide) [(17, 0), (0, 13), (0, l8), (0, (w32 (0 + z128))), (0, l5), (0, l9)] [17, 0, 0, 0, 0, 0] ml_RL_155 wt_L_does (c_L_does_13 l8 (w32 (0 + z128)) l5 l9) mw_L_does rfl rfl rfl (Nat.le_of_ble_eq_true rfl) (Nat.le_of_ble_eq_true rfl) (Nat.le_of_ble_eq_true rfl) (Nat.le_of_ble_eq_true rfl) (Nat.le_of_ble_eq_true rfl) dL_act_628 (fun z142 v142 hz142 => ?_)
          refine g_goto F (tgt := 778) rfl dL_act_631 ?_
          exact g_ireturn F rfl rfl rfl rfl (Nat.le_of_ble_eq_true rfl) (Nat.le_of_ble_eq_true rfl) dL_act_778
      · refine g_iload_n F rfl 2 rfl rfl dL_act_589 ?_
        refine g_if_eq_f F rfl (by decide) (tgt := 598) rfl dL_act_590 ?_
        refine g_bipush F rfl (by decide) dL_act_593 ?_
        refine g_goto F (tgt := 605) rfl dL_act_595 ?_
        refine g_callS F (by decide) [(0, (shr32 l4 5)), (0, 70)] [0, 0] ml_RL_149 wt_L_low (c_L_low (shr32 l4 5) 70) mi_L_low rfl rfl rfl (Nat.le_of_ble_eq_true rfl) (Nat.le_of_ble_eq_true rfl) (Nat.le_of_ble_eq_true rfl) (Nat.le_of_ble_eq_true rfl) (Nat.le_of_ble_eq_true rfl) dL_act_605 (fun z143 v143 hz143 => ?_)
        refine g_iadd F rfl rfl dL_act_608 ?_
        refine g_istore F rfl (Nat.le_of_ble_eq_true rfl) (ls' := [(10, (0, (w32 (0 + z143)))), (0, (17, 0)), (1, (0, l1)), (2, (2, 1)), (3, (0, l3)), (4, (0, l4)), (5, (0, l5)), (6, (0, l6)), (7, (0, l7)), (8, (0, l8)), (9, (0, l9))]) rfl dL_act_609 ?_
        refine g_iload_n F rfl 4 rfl rfl dL_act_611 ?_
        refine g_bipush F rfl (by decide) dL_act_612 ?_
        refine g_icmp_ge F rfl rfl (tgt := 634) rfl dL_act_614 (fun n144 => ?_) (fun n144 => ?_)
        · refine g_iload_n F rfl 4 rfl rfl dL_act_634 ?_
          refine g_bipush F rfl (by decide) dL_act_635 ?_
          refine g_icmp_ge F rfl rfl (tgt := 702) rfl dL_act_637 (fun n145 => ?_) (fun n145 => ?_)
          · refine g_iload_n F rfl 4 rfl rfl dL_act_702 ?_
            refine g_bipush F rfl (by decide) dL_act_703 ?_
            refine g_icmp_ge F rfl rfl (tgt := 722) rfl dL_act_705 (fun n146 => ?_) (fun n146 => ?_)
            · refine g_iload_n F rfl 4 rfl rfl dL_act_722 ?_
              refine g_bipush F rfl (by decide) dL_act_723 ?_
              refine g_icmp_ge F rfl rfl (tgt := 744) rfl dL_act_725 (fun n147 => ?_) (fun n147 => ?_)
              · refine g_iload_n F rfl 4 rfl rfl dL_act_744 ?_
                refine g_bipush F rfl (by decide) dL_act_745 ?_
                refine g_icmp_ge F rfl rfl (tgt := 766) rfl dL_act_747 (fun n148 => ?_) (fun n148 => ?_)
                · refine g_aload_n F rfl 1 rfl dL_act_766 ?_
                  refine g_bipush F rfl (by decide) dL_act_767 ?_
                  refine g_iload F 9 rfl rfl dL_act_769 ?_
                  refine g_iload F 6 rfl rfl dL_act_771 ?_
                  refine g_iconst F 2 rfl dL_act_773 ?_
                  refine g_iconst F 2 rfl dL_act_774 ?_
                  refine g_callSX F (by decide) [(17, 0), (0, 18), (0, l8), (0, l5), (2, 0), (2, 0)] [17, 0, 0, 0, 0, 0] ml_RL_155 wt_L_does (c_L_does_18 l8 l5 0 0) mw_L_does rfl rfl rfl (Nat.le_of_ble_eq_true rfl) (Nat.le_of_ble_eq_true rfl) (Nat.le_of_ble_eq_true rfl) (Nat.le_of_ble_eq_true rfl) (Nat.le_of_ble_eq_true rfl) dL_act_775 (fun z149 v149 hz149 => ?_)
                  exact g_ireturn F rfl rfl rfl rfl (Nat.le_of_ble_eq_true rfl) (Nat.le_of_ble_eq_true rfl) dL_act_778
                · refine g_aload_n F rfl 1 rfl dL_act_750 ?_
                  refine g_bipush F rfl (by decide) dL_act_751 ?_
                  refine g_iload F 9 rfl rfl dL_act_753 ?_
                  refine g_iload F 6 rfl rfl dL_act_755 ?_
                  refine g_iload F 7 rfl rfl dL_act_757 ?_
                  refine g_iconst F 2 rfl dL_act_759 ?_
                  refine g_callSX F (by decide) [(17, 0), (0, 17), (0, l8), (0, l5), (0, l6), (2, 0)] [17, 0, 0, 0, 0, 0] ml_RL_155 wt_L_does (c_L_does_17 l8 l5 l6 0) mw_L_does rfl rfl rfl (Nat.le_of_ble_eq_true rfl) (Nat.le_of_ble_eq_true rfl) (Nat.le_of_ble_eq_true rfl) (Nat.le_of_ble_eq_true rfl) (Nat.le_of_ble_eq_true rfl) dL_act_760 (fun z150 v150 hz150 => ?_)
                  refine g_goto F (tgt := 778) rfl dL_act_763 ?_
                  exact g_ireturn F rfl rfl rfl rfl (Nat.le_of_ble_eq_true rfl) (Nat.le_of_ble_eq_true rfl) dL_act_778
              · refine g_aload_n F rfl 1 rfl dL_act_728 ?_
                refine g_bipush F rfl (by decide) dL_act_729 ?_
                refine g_iload F 9 rfl rfl dL_act_731 ?_
                refine g_iload F 6 rfl rfl dL_act_733 ?_
                refine g_iload F 10 rfl rfl dL_act_735 ?_
                refine g_iconst F 2 rfl dL_act_737 ?_
                refine g_callSX F (by decide) [(17, 0), (0, 16), (0, l8), (0, l5), (0, l9), (2, 0)] [17, 0, 0, 0, 0, 0] ml_RL_155 wt_L_does (c_L_does_16 l8 l5 l9 0) mw_L_does rfl rfl rfl (Nat.le_of_ble_eq_true rfl) (Nat.le_of_ble_eq_true rfl) (Nat.le_of_ble_eq_true rfl) (Nat.le_of_ble_eq_true rfl) (Nat.le_of_ble_eq_true rfl) dL_act_738 (fun z151 v151 hz151 => ?_)
                refine g_goto F (tgt := 778) rfl dL_act_741 ?_
                exact g_ireturn F rfl rfl rfl rfl (Nat.le_of_ble_eq_true rfl) (Nat.le_of_ble_eq_true rfl) dL_act_778
            · refine g_aload_n F rfl 1 rfl dL_act_708 ?_
              refine g_bipush F rfl (by decide) dL_act_709 ?_
              refine g_iload F 9 rfl rfl dL_act_711 ?_
              refine g_iconst F 2 rfl dL_act_713 ?_
              refine g_iconst F 2 rfl dL_act_714 ?_
              refine g_iconst F 2 rfl dL_act_715 ?_
              refine g_callSX F (by decide) [(17, 0), (0, 15), (0, l8), (2, 0), (2, 0), (2, 0)] [17, 0, 0, 0, 0, 0] ml_RL_155 wt_L_does (c_L_does_15 l8 0 0 0) mw_L_does rfl rfl rfl (Nat.le_of_ble_eq_true rfl) (Nat.le_of_ble_eq_true rfl) (Nat.le_of_ble_eq_true rfl) (Nat.le_of_ble_eq_true rfl) (Nat.le_of_ble_eq_true rfl) dL_act_716 (fun z152 v152 hz152 => ?_)
              refine g_goto F (tgt := 778) rfl dL_act_719 ?_
              exact g_ireturn F rfl rfl rfl rfl (Nat.le_of_ble_eq_true rfl) (Nat.le_of_ble_eq_true rfl) dL_act_778
          · refine g_aload_n F rfl 1 rfl dL_act_640 ?_
            refine g_bipush F rfl (by decide) dL_act_641 ?_
            refine g_iload F 9 rfl rfl dL_act_643 ?_
            refine g_iload F 6 rfl rfl dL_act_645 ?_
            refine g_iload F 5 rfl rfl dL_act_647 ?_
            refine g_sipush F rfl (by decide) dL_act_649 ?_
            refine g_callS F (by decide) [(0, l4), (0, 3000)] [0, 0] ml_RL_149 wt_L_low (c_L_low l4 3000) mi_L_low rfl rfl rfl (Nat.le_of_ble_eq_true rfl) (Nat.le_of_ble_eq_true rfl) (Nat.le_of_ble_eq_true rfl) (Nat.le_of_ble_eq_true rfl) (Nat.le_of_ble_eq_true rfl) dL_act_652 (fun z153 v153 hz153 => ?_)
            refine g_iload F 5 rfl rfl dL_act_655 ?_
            refine g_iconst F 0 rfl dL_act_657 ?_
            refine g_ishr F rfl rfl dL_act_658 ?_
            refine g_iload_n F rfl 3 rfl rfl dL_act_659 ?_
            refine g_if_eq_f F rfl (by decide) (tgt := 668) rfl dL_act_660 ?_
            refine g_bipush F rfl (by decide) dL_act_663 ?_
            refine g_goto F (tgt := 670) rfl dL_act_665 ?_
            refine g_callS F (by decide) [(0, (shr32 l4 4)), (0, 60)] [0, 0] ml_RL_149 wt_L_low (c_L_low (shr32 l4 4) 60) mi_L_low rfl rfl rfl (Nat.le_of_ble_eq_true rfl) (Nat.le_of_ble_eq_true rfl) (Nat.le_of_ble_eq_true rfl) (Nat.le_of_ble_eq_true rfl) (Nat.le_of_ble_eq_true rfl) dL_act_670 (fun z154 v154 hz154 => ?_)
            refine g_bipush F rfl (by decide) dL_act_673 ?_
            refine g_iload F 5 rfl rfl dL_act_675 ?_
            refine g_iconst F 0 rfl dL_act_677 ?_
            refine g_ishr F rfl rfl dL_act_678 ?_
            refine g_iload_n F rfl 3 rfl rfl dL_act_679 ?_
            refine g_if_eq_f F rfl (by decide) (tgt := 689) rfl dL_act_680 ?_
            refine g_sipush F rfl (by decide) dL_act_683 ?_
            refine g_goto F (tgt := 691) rfl dL_act_686 ?_
            refine g_callS F (by decide) [(0, (shr32 l4 5)), (0, 1100)] [0, 0] ml_RL_149 wt_L_low (c_L_low (shr32 l4 5) 1100) mi_L_low rfl rfl rfl (Nat.le_of_ble_eq_true rfl) (Nat.le_of_ble_eq_true rfl) (Nat.le_of_ble_eq_true rfl) (Nat.le_of_ble_eq_true rfl) (Nat.le_of_ble_eq_true rfl) dL_act_691 (fun z155 v155 hz155 => ?_)
            refine g_imul F rfl rfl dL_act_694 ?_
            refine g_iadd F rfl rfl dL_act_695 ?_
            refine g_callSX F (by decide) [(17, 0), (0, 14), (0, l8), (0, l5), (0, z153), (0, (w32 (z154 + (w32 (100 * z155)))))] [17, 0, 0, 0, 0, 0] ml_RL_155 wt_L_does (c_L_does_14 l8 l5 z153 (w32 (z154 + (w32 (100 * z155))))) mw_L_does rfl rfl rfl (Nat.le_of_ble_eq_true rfl) (Nat.le_of_ble_eq_true rfl) (Nat.le_of_ble_eq_true rfl) (Nat.le_of_ble_eq_true rfl) (Nat.le_of_ble_eq_true rfl) dL_act_696 (fun z156 v156 hz156 => ?_)
            refine g_goto F (tgt := 778) rfl dL_act_699 ?_
            exact g_ireturn F rfl rfl rfl rfl (Nat.le_of_ble_eq_true rfl) (Nat.le_of_ble_eq_true rfl) dL_act_778
        · refine g_aload_n F rfl 1 rfl dL_act_617 ?_
          refine g_bipush F rfl (by decide) dL_act_618 ?_
          refine g_iload F 9 rfl rfl dL_act_620 ?_
          refine g_iload F 0 rfl rfl dL_act_622 ?_
          refine g_iload F 6 rfl rfl dL_act_624 ?_
          refine g_iload F 10 rfl rfl dL_act_626 ?_
          refine g_callSX F (by decide) [(17, 0), (0, 13), (0, l8), (0, (w32 (0 + z143))), (0, l5), (0, l9)] [17, 0, 0, 0, 0, 0] ml_RL_155 wt_L_does (c_L_does_13 l8 (w32 (0 + z143)) l5 l9) mw_L_does rfl rfl rfl (Nat.le_of_ble_eq_true rfl) (Nat.le_of_ble_eq_true rfl) (Nat.le_of_ble_eq_true rfl) (Nat.le_of_ble_eq_true rfl) (Nat.le_of_ble_eq_true rfl) dL_act_628 (fun z157 v157 hz157 => ?_)
          refine g_goto F (tgt := 778) rfl dL_act_631 ?_
          exact g_ireturn F rfl rfl rfl rfl (Nat.le_of_ble_eq_true rfl) (Nat.le_of_ble_eq_true rfl) dL_act_778
  · refine g_iload_n F rfl 3 rfl rfl dL_act_221 ?_
    refine g_iconst F 0 rfl dL_act_222 ?_
    refine g_icmp_ge F rfl rfl (tgt := 256) rfl dL_act_223 (fun n158 => ?_) (fun n158 => ?_)
    · refine g_iload_n F rfl 3 rfl rfl dL_act_256 ?_
      refine g_iconst F 0 rfl dL_act_257 ?_
      refine g_icmp_ge F rfl rfl (tgt := 291) rfl dL_act_258 (fun n159 => ?_) (fun n159 => ?_)
      · refine g_iload_n F rfl 3 rfl rfl dL_act_291 ?_
        refine g_bipush F rfl (by decide) dL_act_292 ?_
        refine g_icmp_ge F rfl rfl (tgt := 317) rfl dL_act_294 (fun n160 => ?_) (fun n160 => ?_)
        · refine g_iload_n F rfl 3 rfl rfl dL_act_317 ?_
          refine g_bipush F rfl (by decide) dL_act_318 ?_
          refine g_icmp_ne F rfl rfl (tgt := 380) rfl dL_act_320 (fun n161 => ?_) (fun n161 => ?_)
          · refine g_iload_n F rfl 3 rfl rfl dL_act_380 ?_
            refine g_bipush F rfl (by decide) dL_act_381 ?_
            refine g_icmp_ne F rfl rfl (tgt := 430) rfl dL_act_383 (fun n162 => ?_) (fun n162 => ?_)
            · refine g_iload_n F rfl 3 rfl rfl dL_act_430 ?_
              refine g_bipush F rfl (by decide) dL_act_431 ?_
              refine g_icmp_ne F rfl rfl (tgt := 456) rfl dL_act_433 (fun n163 => ?_) (fun n163 => ?_)
              · refine g_iload_n F rfl 3 rfl rfl dL_act_456 ?_
                refine g_bipush F rfl (by decide) dL_act_457 ?_
                refine g_icmp_ne F rfl rfl (tgt := 479) rfl dL_act_459 (fun n164 => ?_) (fun n164 => ?_)
                · refine g_iload_n F rfl 3 rfl rfl dL_act_479 ?_
                  refine g_bipush F rfl (by decide) dL_act_480 ?_
                  refine g_icmp_ge F rfl rfl (tgt := 513) rfl dL_act_482 (fun n165 => ?_) (fun n165 => ?_)
                  · refine g_iload_n F rfl 3 rfl rfl dL_act_513 ?_
                    refine g_bipush F rfl (by decide) dL_act_514 ?_
                    refine g_icmp_ne F rfl rfl (tgt := 533) rfl dL_act_516 (fun n166 => ?_) (fun n166 => ?_)
                    · refine g_iload F 4 rfl rfl dL_act_533 ?_
                      refine g_bipush F rfl (by decide) dL_act_535 ?_
                      refine g_ishr F rfl rfl dL_act_537 ?_
                      refine g_iconst F 0 rfl dL_act_538 ?_
                      refine g_iand F rfl rfl dL_act_539 ?_
                      refine g_if_ne F rfl (tgt := 557) rfl dL_act_540 (fun n167 => ?_) (fun n167 => ?_)
                      · refine g_ldc F rfl cn_RL_45 dL_act_557 ?_
                        exact g_ireturn F rfl rfl rfl rfl (Nat.le_of_ble_eq_true rfl) (Nat.le_of_ble_eq_true rfl) dL_act_559
                      · refine g_aload_n F rfl 0 rfl dL_act_543 ?_
                        refine g_bipush F rfl (by decide) dL_act_544 ?_
                        refine g_iload F 5 rfl rfl dL_act_546 ?_
                        refine g_iconst F 2 rfl dL_act_548 ?_
                        refine g_iconst F 2 rfl dL_act_549 ?_
                        refine g_iconst F 2 rfl dL_act_550 ?_
                        refine g_callSX F (by decide) [(17, 0), (0, 12), (0, l5), (2, 0), (2, 0), (2, 0)] [17, 0, 0, 0, 0, 0] ml_RL_155 wt_L_does (c_L_does_12 l5 0 0 0) mw_L_does rfl rfl rfl (Nat.le_of_ble_eq_true rfl) (Nat.le_of_ble_eq_true rfl) (Nat.le_of_ble_eq_true rfl) (Nat.le_of_ble_eq_true rfl) (Nat.le_of_ble_eq_true rfl) dL_act_551 (fun z168 v168 hz168 => ?_)
                        refine g_goto F (tgt := 559) rfl dL_act_554 ?_
                        exact g_ireturn F rfl rfl rfl rfl (Nat.le_of_ble_eq_true rfl) (Nat.le_of_ble_eq_true rfl) dL_act_559
                    · refine g_aload_n F rfl 0 rfl dL_act_519 ?_
                      refine g_bipush F rfl (by decide) dL_act_520 ?_
                      refine g_iload F 7 rfl rfl dL_act_522 ?_
                      refine g_iconst F 2 rfl dL_act_524 ?_
                      refine g_iconst F 2 rfl dL_act_525 ?_
                      refine g_iconst F 2 rfl dL_act_526 ?_
                      refine g_callSX F (by decide) [(17, 0), (0, 11), (0, l7), (2, 0), (2, 0), (2, 0)] [17, 0, 0, 0, 0, 0] ml_RL_155 wt_L_does (c_L_does_11 l7 0 0 0) mw_L_does rfl rfl rfl (Nat.le_of_ble_eq_true rfl) (Nat.le_of_ble_eq_true rfl) (Nat.le_of_ble_eq_true rfl) (Nat.le_of_ble_eq_true rfl) (Nat.le_of_ble_eq_true rfl) dL_act_527 (fun z169 v169 hz169 => ?_)
                      refine g_goto F (tgt := 559) rfl dL_act_530 ?_
                      exact g_ireturn F rfl rfl rfl rfl (Nat.le_of_ble_eq_true rfl) (Nat.le_of_ble_eq_true rfl) dL_act_559
                  · refine g_aload_n F rfl 0 rfl dL_act_485 ?_
                    refine g_bipush F rfl (by decide) dL_act_486 ?_
                    refine g_iload F 7 rfl rfl dL_act_488 ?_
                    refine g_iload F 4 rfl rfl dL_act_490 ?_
                    refine g_iload_n F rfl 2 rfl rfl dL_act_492 ?_
                    refine g_if_eq_f F rfl (by decide) (tgt := 501) rfl dL_act_493 ?_
                    refine g_bipush F rfl (by decide) dL_act_496 ?_
                    refine g_goto F (tgt := 502) rfl dL_act_498 ?_
                    refine g_callS F (by decide) [(0, l4), (0, 6)] [0, 0] ml_RL_149 wt_L_low (c_L_low l4 6) mi_L_low rfl rfl rfl (Nat.le_of_ble_eq_true rfl) (Nat.le_of_ble_eq_true rfl) (Nat.le_of_ble_eq_true rfl) (Nat.le_of_ble_eq_true rfl) (Nat.le_of_ble_eq_true rfl) dL_act_502 (fun z170 v170 hz170 => ?_)
                    refine g_iconst F 2 rfl dL_act_505 ?_
                    refine g_iconst F 2 rfl dL_act_506 ?_
                    refine g_callSX F (by decide) [(17, 0), (0, 10), (0, l7), (0, z170), (2, 0), (2, 0)] [17, 0, 0, 0, 0, 0] ml_RL_155 wt_L_does (c_L_does_10 l7 z170 0 0) mw_L_does rfl rfl rfl (Nat.le_of_ble_eq_true rfl) (Nat.le_of_ble_eq_true rfl) (Nat.le_of_ble_eq_true rfl) (Nat.le_of_ble_eq_true rfl) (Nat.le_of_ble_eq_true rfl) dL_act_507 (fun z171 v171 hz171 => ?_)
                    refine g_goto F (tgt := 559) rfl dL_act_510 ?_
                    exact g_ireturn F rfl rfl rfl rfl (Nat.le_of_ble_eq_true rfl) (Nat.le_of_ble_eq_true rfl) dL_act_559
                · refine g_aload_n F rfl 0 rfl dL_act_462 ?_
                  refine g_bipush F rfl (by decide) dL_act_463 ?_
                  refine g_iload F 7 rfl rfl dL_act_465 ?_
                  refine g_iload F 4 rfl rfl dL_act_467 ?_
                  refine g_iconst F 2 rfl dL_act_469 ?_
                  refine g_iand F rfl rfl dL_act_470 ?_
                  refine g_iconst F 2 rfl dL_act_471 ?_
                  refine g_iconst F 2 rfl dL_act_472 ?_
                  refine g_callSX F (by decide) [(17, 0), (0, 9), (0, l7), (0, (and32 l4 1)), (2, 0), (2, 0)] [17, 0, 0, 0, 0, 0] ml_RL_155 wt_L_does (c_L_does_9 l7 (and32 l4 1) 0 0) mw_L_does rfl rfl rfl (Nat.le_of_ble_eq_true rfl) (Nat.le_of_ble_eq_true rfl) (Nat.le_of_ble_eq_true rfl) (Nat.le_of_ble_eq_true rfl) (Nat.le_of_ble_eq_true rfl) dL_act_473 (fun z172 v172 hz172 => ?_)
                  refine g_goto F (tgt := 559) rfl dL_act_476 ?_
                  exact g_ireturn F rfl rfl rfl rfl (Nat.le_of_ble_eq_true rfl) (Nat.le_of_ble_eq_true rfl) dL_act_559
              · refine g_aload_n F rfl 0 rfl dL_act_436 ?_
                refine g_bipush F rfl (by decide) dL_act_437 ?_
                refine g_iload F 7 rfl rfl dL_act_439 ?_
                refine g_iload F 4 rfl rfl dL_act_441 ?_
                refine g_bipush F rfl (by decide) dL_act_443 ?_
                refine g_callS F (by decide) [(0, l4), (0, 30)] [0, 0] ml_RL_149 wt_L_low (c_L_low l4 30) mi_L_low rfl rfl rfl (Nat.le_of_ble_eq_true rfl) (Nat.le_of_ble_eq_true rfl) (Nat.le_of_ble_eq_true rfl) (Nat.le_of_ble_eq_true rfl) (Nat.le_of_ble_eq_true rfl) dL_act_445 (fun z173 v173 hz173 => ?_)
                refine g_iconst F 2 rfl dL_act_448 ?_
                refine g_iconst F 2 rfl dL_act_449 ?_
                refine g_callSX F (by decide) [(17, 0), (0, 8), (0, l7), (0, z173), (2, 0), (2, 0)] [17, 0, 0, 0, 0, 0] ml_RL_155 wt_L_does (c_L_does_8 l7 z173 0 0) mw_L_does rfl rfl rfl (Nat.le_of_ble_eq_true rfl) (Nat.le_of_ble_eq_true rfl) (Nat.le_of_ble_eq_true rfl) (Nat.le_of_ble_eq_true rfl) (Nat.le_of_ble_eq_true rfl) dL_act_450 (fun z174 v174 hz174 => ?_)
                refine g_goto F (tgt := 559) rfl dL_act_453 ?_
                exact g_ireturn F rfl rfl rfl rfl (Nat.le_of_ble_eq_true rfl) (Nat.le_of_ble_eq_true rfl) dL_act_559
            · refine g_aload_n F rfl 0 rfl dL_act_386 ?_
              refine g_bipush F rfl (by decide) dL_act_387 ?_
              refine g_iload F 4 rfl rfl dL_act_389 ?_
              refine g_iload_n F rfl 2 rfl rfl dL_act_391 ?_
              refine g_if_eq_f F rfl (by decide) (tgt := 400) rfl dL_act_392 ?_
              refine g_bipush F rfl (by decide) dL_act_395 ?_
              refine g_goto F (tgt := 401) rfl dL_act_397 ?_
              refine g_callS F (by decide) [(0, l4), (0, 6)] [0, 0] ml_RL_149 wt_L_low (c_L_low l4 6) mi_L_low rfl rfl rfl (Nat.le_of_ble_eq_true rfl) (Nat.le_of_ble_eq_true rfl) (Nat.le_of_ble_eq_true rfl) (Nat.le_of_ble_eq_true rfl) (Nat.le_of_ble_eq_true rfl) dL_act_401 (fun z175 v175 hz175 => ?_)
              refine g_iload F 4 rfl rfl dL_act_404 ?_
              refine g_iconst F 0 rfl dL_act_406 ?_
              refine g_ishr F rfl rfl dL_act_407 ?_
              refine g_iload_n F rfl 2 rfl rfl dL_act_408 ?_
              refine g_if_eq_f F rfl (by decide) (tgt := 417) rfl dL_act_409 ?_
              refine g_bipush F rfl (by decide) dL_act_412 ?_
              refine g_goto F (tgt := 419) rfl dL_act_414 ?_
              refine g_callS F (by decide) [(0, (shr32 l4 4)), (0, 30)] [0, 0] ml_RL_149 wt_L_low (c_L_low (shr32 l4 4) 30) mi_L_low rfl rfl rfl (Nat.le_of_ble_eq_true rfl) (Nat.le_of_ble_eq_true rfl) (Nat.le_of_ble_eq_true rfl) (Nat.le_of_ble_eq_true rfl) (Nat.le_of_ble_eq_true rfl) dL_act_419 (fun z176 v176 hz176 => ?_)
              refine g_iconst F 2 rfl dL_act_422 ?_
              refine g_iconst F 2 rfl dL_act_423 ?_
              refine g_callSX F (by decide) [(17, 0), (0, 7), (0, z175), (0, z176), (2, 0), (2, 0)] [17, 0, 0, 0, 0, 0] ml_RL_155 wt_L_does (c_L_does_7 z175 z176 0 0) mw_L_does rfl rfl rfl (Nat.le_of_ble_eq_true rfl) (Nat.le_of_ble_eq_true rfl) (Nat.le_of_ble_eq_true rfl) (Nat.le_of_ble_eq_true rfl) (Nat.le_of_ble_eq_true rfl) dL_act_424 (fun z177 v177 hz177 => ?_)
              refine g_goto F (tgt := 559) rfl dL_act_427 ?_
              exact g_ireturn F rfl rfl rfl rfl (Nat.le_of_ble_eq_true rfl) (Nat.le_of_ble_eq_true rfl) dL_act_559
          · refine g_aload_n F rfl 0 rfl dL_act_323 ?_
            refine g_bipush F rfl (by decide) dL_act_324 ?_
            refine g_iload F 7 rfl rfl dL_act_326 ?_
            refine g_sipush F rfl (by decide) dL_act_328 ?_
            refine g_iload F 4 rfl rfl dL_act_331 ?_
            refine g_bipush F rfl (by decide) dL_act_333 ?_
            refine g_callS F (by decide) [(0, l4), (0, 80)] [0, 0] ml_RL_149 wt_L_low (c_L_low l4 80) mi_L_low rfl rfl rfl (Nat.le_of_ble_eq_true rfl) (Nat.le_of_ble_eq_true rfl) (Nat.le_of_ble_eq_true rfl) (Nat.le_of_ble_eq_true rfl) (Nat.le_of_ble_eq_true rfl) dL_act_335 (fun z178 v178 hz178 => ?_)
            refine g_iadd F rfl rfl dL_act_338 ?_
            refine g_iload_n F rfl 2 rfl rfl dL_act_339 ?_
            refine g_if_eq_f F rfl (by decide) (tgt := 360) rfl dL_act_340 ?_
            refine g_sipush F rfl (by decide) dL_act_343 ?_
            refine g_iload F 4 rfl rfl dL_act_346 ?_
            refine g_iconst F 0 rfl dL_act_348 ?_
            refine g_ishr F rfl rfl dL_act_349 ?_
            refine g_sipush F rfl (by decide) dL_act_350 ?_
            refine g_callS F (by decide) [(0, (shr32 l4 2)), (0, 130)] [0, 0] ml_RL_149 wt_L_low (c_L_low (shr32 l4 2) 130) mi_L_low rfl rfl rfl (Nat.le_of_ble_eq_true rfl) (Nat.le_of_ble_eq_true rfl) (Nat.le_of_ble_eq_true rfl) (Nat.le_of_ble_eq_true rfl) (Nat.le_of_ble_eq_true rfl) dL_act_353 (fun z179 v179 hz179 => ?_)
            refine g_iadd F rfl rfl dL_act_356 ?_
            refine g_goto F (tgt := 373) rfl dL_act_357 ?_
            refine g_iconst F 2 rfl dL_act_373 ?_
            refine g_callSX F (by decide) [(17, 0), (0, 6), (0, l7), (0, (w32 (1900 + z178))), (0, (w32 (1890 + z179))), (2, 0)] [17, 0, 0, 0, 0, 0] ml_RL_155 wt_L_does (c_L_does_6 l7 (w32 (1900 + z178)) (w32 (1890 + z179)) 0) mw_L_does rfl rfl rfl (Nat.le_of_ble_eq_true rfl) (Nat.le_of_ble_eq_true rfl) (Nat.le_of_ble_eq_true rfl) (Nat.le_of_ble_eq_true rfl) (Nat.le_of_ble_eq_true rfl) dL_act_374 (fun z180 v180 hz180 => ?_)
            refine g_goto F (tgt := 559) rfl dL_act_377 ?_
            exact g_ireturn F rfl rfl rfl rfl (Nat.le_of_ble_eq_true rfl) (Nat.le_of_ble_eq_true rfl) dL_act_559
        · refine g_aload_n F rfl 0 rfl dL_act_297 ?_
          refine g_iconst F 0 rfl dL_act_298 ?_
          refine g_iload F 5 rfl rfl dL_act_299 ?_
          refine g_iload F 7 rfl rfl dL_act_301 ?_
          refine g_iload F 4 rfl rfl dL_act_303 ?_
          refine g_bipush F rfl (by decide) dL_act_305 ?_
          refine g_ishr F rfl rfl dL_act_307 ?_
          refine g_iconst F 2 rfl dL_act_308 ?_
          refine g_iand F rfl rfl dL_act_309 ?_
          refine g_iconst F 2 rfl dL_act_310 ?_
          refine g_callSX F (by decide) [(17, 0), (0, 5), (0, l5), (0, l7), (0, (and32 (shr32 l4 7) 1)), (2, 0)] [17, 0, 0, 0, 0, 0] ml_RL_155 wt_L_does (c_L_does_5 l5 l7 (and32 (shr32 l4 7) 1) 0) mw_L_does rfl rfl rfl (Nat.le_of_ble_eq_true rfl) (Nat.le_of_ble_eq_true rfl) (Nat.le_of_ble_eq_true rfl) (Nat.le_of_ble_eq_true rfl) (Nat.le_of_ble_eq_true rfl) dL_act_311 (fun z181 v181 hz181 => ?_)
          refine g_goto F (tgt := 559) rfl dL_act_314 ?_
          exact g_ireturn F rfl rfl rfl rfl (Nat.le_of_ble_eq_true rfl) (Nat.le_of_ble_eq_true rfl) dL_act_559
      · refine g_aload_n F rfl 0 rfl dL_act_261 ?_
        refine g_iconst F 0 rfl dL_act_262 ?_
        refine g_iload F 5 rfl rfl dL_act_263 ?_
        refine g_iload F 4 rfl rfl dL_act_265 ?_
        refine g_iconst F 0 rfl dL_act_267 ?_
        refine g_ishr F rfl rfl dL_act_268 ?_
        refine g_iload_n F rfl 2 rfl rfl dL_act_269 ?_
        refine g_if_eq_f F rfl (by decide) (tgt := 278) rfl dL_act_270 ?_
        refine g_bipush F rfl (by decide) dL_act_273 ?_
        refine g_goto F (tgt := 280) rfl dL_act_275 ?_
        refine g_callS F (by decide) [(0, (shr32 l4 5)), (0, 14)] [0, 0] ml_RL_149 wt_L_low (c_L_low (shr32 l4 5) 14) mi_L_low rfl rfl rfl (Nat.le_of_ble_eq_true rfl) (Nat.le_of_ble_eq_true rfl) (Nat.le_of_ble_eq_true rfl) (Nat.le_of_ble_eq_true rfl) (Nat.le_of_ble_eq_true rfl) dL_act_280 (fun z182 v182 hz182 => ?_)
        refine g_iconst F 2 rfl dL_act_283 ?_
        refine g_iconst F 2 rfl dL_act_284 ?_
        refine g_callSX F (by decide) [(17, 0), (0, 4), (0, l5), (0, z182), (2, 0), (2, 0)] [17, 0, 0, 0, 0, 0] ml_RL_155 wt_L_does (c_L_does_4 l5 z182 0 0) mw_L_does rfl rfl rfl (Nat.le_of_ble_eq_true rfl) (Nat.le_of_ble_eq_true rfl) (Nat.le_of_ble_eq_true rfl) (Nat.le_of_ble_eq_true rfl) (Nat.le_of_ble_eq_true rfl) dL_act_285 (fun z183 v183 hz183 => ?_)
        refine g_goto F (tgt := 559) rfl dL_act_288 ?_
        exact g_ireturn F rfl rfl rfl rfl (Nat.le_of_ble_eq_true rfl) (Nat.le_of_ble_eq_true rfl) dL_act_559
    · refine g_aload_n F rfl 0 rfl dL_act_226 ?_
      refine g_iconst F 0 rfl dL_act_227 ?_
      refine g_iload F 7 rfl rfl dL_act_228 ?_
      refine g_iload_n F rfl 2 rfl rfl dL_act_230 ?_
      refine g_if_eq_f F rfl (by decide) (tgt := 239) rfl dL_act_231 ?_
      refine g_iload F 9 rfl rfl dL_act_234 ?_
      refine g_goto F (tgt := 248) rfl dL_act_236 ?_
      refine g_iconst F 2 rfl dL_act_248 ?_
      refine g_iconst F 2 rfl dL_act_249 ?_
      refine g_callSX F (by decide) [(17, 0), (0, 2), (0, l7), (0, l9), (2, 0), (2, 0)] [17, 0, 0, 0, 0, 0] ml_RL_155 wt_L_does (c_L_does_2 l7 l9 0 0) mw_L_does rfl rfl rfl (Nat.le_of_ble_eq_true rfl) (Nat.le_of_ble_eq_true rfl) (Nat.le_of_ble_eq_true rfl) (Nat.le_of_ble_eq_true rfl) (Nat.le_of_ble_eq_true rfl) dL_act_250 (fun z184 v184 hz184 => ?_)
      refine g_goto F (tgt := 559) rfl dL_act_253 ?_
      exact g_ireturn F rfl rfl rfl rfl (Nat.le_of_ble_eq_true rfl) (Nat.le_of_ble_eq_true rfl) dL_act_559
def sp_L_act (a1 : Int) (v : V) : Res := (if ¬ (and32 (shr32 a1 18) 7) = 7 then (rB (sp_L_low a1 84 v) (fun z2 v2 => (rB (sp_L_low (shr32 a1 7) 6 v2) (fun z3 v3 => (rB (sp_L_low (shr32 (shr32 a1 7) 4) 6 v3) (fun z4 v4 => (rB (sp_L_low (shr32 (shr32 a1 7) 3) 4 v4) (fun z5 v5 => (rB (sp_L_low (shr32 (shr32 a1 7) 2) 14 v5) (fun z6 v6 => (if ¬ (and32 (shr32 (shr32 a1 7) 5) 3) = 0 then (if ¬ (and32 (shr32 (shr32 a1 7) 5) 3) = 1 then (rB (sp_L_low (shr32 (shr32 a1 7) 2) 20000 v6) (fun z9 v9 => (cp_L_act_215 a1 z2 (shr32 a1 7) z3 z4 z5 z6 z9 v9)))
   else (rB (sp_L_low (shr32 (shr32 a1 7) 2) 3 v6) (fun z96 v96 => (cp_L_act_215 a1 z2 (shr32 a1 7) z3 z4 z5 z6 z96 v96))))
   else (rB (sp_L_low (shr32 (shr32 a1 7) 2) 1000001 v6) (fun z97 v97 => (cp_L_act_215 a1 z2 (shr32 a1 7) z3 z4 z5 z6 z97 v97))))))))))))))
   else (rB (sp_L_low a1 84 v) (fun z98 v98 => (rB (sp_L_low (shr32 a1 7) 12 v98) (fun z99 v99 => (rB (sp_L_low (shr32 (shr32 a1 7) 4) 12 v99) (fun z100 v100 => (rB (sp_L_low (shr32 (shr32 a1 7) 3) 14 v100) (fun z101 v101 => (rB (sp_L_low (shr32 (shr32 a1 7) 2) 63 v101) (fun z102 v102 => (rB (sp_L_low (shr32 (shr32 a1 7) 2) 1100000 v102) (fun z103 v103 => (cp_L_act_215_1 a1 z98 (shr32 a1 7) (w32 (z99 - 1)) (w32 (z100 - 1)) (w32 (z101 - 1)) (w32 (z102 - 1)) (w32 (z103 - 40000)) v103))))))))))))))
set_option maxRecDepth 100000 in
set_option maxHeartbeats 4000000 in
theorem k_L_act (a1 : Int) (x : Cx) (v : V) (F : Fx x cL_act RL "act" ({ frames := 12, cells := 10, slots := 62, locals := 223 }) 11 (some 0) (some .int) 0) (ho : ∀ a ∈ [(17, 0), (0, a1)], okv v a) : Gs x (sp_L_act a1 v) v 0 0 0 (avArgs 0 [(17, 0), (0, a1)]) [] := by
  show Gs x _ v 0 0 0 [(0, (17, 0)), (1, (0, a1))] []
  unfold sp_L_act
  refine g_iload_n F rfl 1 rfl rfl dL_act_0 ?_
  refine g_bipush F rfl (by decide) dL_act_1 ?_
  refine g_ishr F rfl rfl dL_act_3 ?_
  refine g_bipush F rfl (by decide) dL_act_4 ?_
  refine g_iand F rfl rfl dL_act_6 ?_
  refine g_bipush F rfl (by decide) dL_act_7 ?_
  refine g_icmp_ne F rfl rfl (tgt := 16) rfl dL_act_9 (fun n1 => ?_) (fun n1 => ?_)
  · refine g_iconst F 2 rfl dL_act_16 ?_
    refine g_istore_n F rfl rfl (Nat.le_of_ble_eq_true rfl) (ls' := [(2, (2, 0)), (0, (17, 0)), (1, (0, a1))]) rfl dL_act_17 ?_
    refine g_iload_n F rfl 2 rfl rfl dL_act_18 ?_
    refine g_bipush F rfl (by decide) dL_act_19 ?_
    refine g_callS F (by decide) [(0, a1), (0, 84)] [0, 0] ml_RL_149 wt_L_low (c_L_low a1 84) mi_L_low rfl rfl rfl (Nat.le_of_ble_eq_true rfl) (Nat.le_of_ble_eq_true rfl) (Nat.le_of_ble_eq_true rfl) (Nat.le_of_ble_eq_true rfl) (Nat.le_of_ble_eq_true rfl) dL_act_21 (fun z2 v2 hz2 => ?_)
    refine g_istore_n F rfl rfl (Nat.le_of_ble_eq_true rfl) (ls' := [(3, (0, z2)), (2, (2, 0)), (0, (17, 0)), (1, (0, a1))]) rfl dL_act_24 ?_
    refine g_iload_n F rfl 3 rfl rfl dL_act_25 ?_
    refine g_bipush F rfl (by decide) dL_act_26 ?_
    refine g_ishr F rfl rfl dL_act_28 ?_
    refine g_istore F rfl (Nat.le_of_ble_eq_true rfl) (ls' := [(4, (0, (shr32 a1 7))), (3, (0, z2)), (2, (2, 0)), (0, (17, 0)), (1, (0, a1))]) rfl dL_act_29 ?_
    refine g_iload_n F rfl 2 rfl rfl dL_act_31 ?_
    refine g_if_eq_t F rfl (by decide) (tgt := 47) rfl dL_act_32 ?_
    refine g_iload F 0 rfl rfl dL_act_47 ?_
    refine g_bipush F rfl (by decide) dL_act_49 ?_
    refine g_callS F (by decide) [(0, (shr32 a1 7)), (0, 6)] [0, 0] ml_RL_149 wt_L_low (c_L_low (shr32 a1 7) 6) mi_L_low rfl rfl rfl (Nat.le_of_ble_eq_true rfl) (Nat.le_of_ble_eq_true rfl) (Nat.le_of_ble_eq_true rfl) (Nat.le_of_ble_eq_true rfl) (Nat.le_of_ble_eq_true rfl) dL_act_51 (fun z3 v3 hz3 => ?_)
    refine g_istore F rfl (Nat.le_of_ble_eq_true rfl) (ls' := [(5, (0, z3)), (4, (0, (shr32 a1 7))), (3, (0, z2)), (2, (2, 0)), (0, (17, 0)), (1, (0, a1))]) rfl dL_act_54 ?_
    refine g_iload_n F rfl 3 rfl rfl dL_act_56 ?_
    refine g_if_eq_t F rfl (by decide) (tgt := 74) rfl dL_act_57 ?_
    refine g_iload F 1 rfl rfl dL_act_74 ?_
    refine g_iconst F 0 rfl dL_act_76 ?_
    refine g_ishr F rfl rfl dL_act_77 ?_
    refine g_bipush F rfl (by decide) dL_act_78 ?_
    refine g_callS F (by decide) [(0, (shr32 (shr32 a1 7) 4)), (0, 6)] [0, 0] ml_RL_149 wt_L_low (c_L_low (shr32 (shr32 a1 7) 4) 6) mi_L_low rfl rfl rfl (Nat.le_of_ble_eq_true rfl) (Nat.le_of_ble_eq_true rfl) (Nat.le_of_ble_eq_true rfl) (Nat.le_of_ble_eq_true rfl) (Nat.le_of_ble_eq_true rfl) dL_act_80 (fun z4 v4 hz4 => ?_)
    refine g_istore F rfl (Nat.le_of_ble_eq_true rfl) (ls' := [(6, (0, z4)), (5, (0, z3)), (4, (0, (shr32 a1 7))), (3, (0, z2)), (2, (2, 0)), (0, (17, 0)), (1, (0, a1))]) rfl dL_act_83 ?_
    refine g_iload_n F rfl 4 rfl rfl dL_act_85 ?_
    refine g_if_eq_t F rfl (by decide) (tgt := 103) rfl dL_act_86 ?_
    refine g_iload F 2 rfl rfl dL_act_103 ?_
    refine g_iconst F 0 rfl dL_act_105 ?_
    refine g_ishr F rfl rfl dL_act_106 ?_
    refine g_iconst F 0 rfl dL_act_107 ?_
    refine g_callS F (by decide) [(0, (shr32 (shr32 a1 7) 3)), (0, 4)] [0, 0] ml_RL_149 wt_L_low (c_L_low (shr32 (shr32 a1 7) 3) 4) mi_L_low rfl rfl rfl (Nat.le_of_ble_eq_true rfl) (Nat.le_of_ble_eq_true rfl) (Nat.le_of_ble_eq_true rfl) (Nat.le_of_ble_eq_true rfl) (Nat.le_of_ble_eq_true rfl) dL_act_108 (fun z5 v5 hz5 => ?_)
    refine g_istore F rfl (Nat.le_of_ble_eq_true rfl) (ls' := [(7, (0, z5)), (6, (0, z4)), (5, (0, z3)), (4, (0, (shr32 a1 7))), (3, (0, z2)), (2, (2, 0)), (0, (17, 0)), (1, (0, a1))]) rfl dL_act_111 ?_
    refine g_iload_n F rfl 5 rfl rfl dL_act_113 ?_
    refine g_if_eq_t F rfl (by decide) (tgt := 131) rfl dL_act_114 ?_
    refine g_iload F 3 rfl rfl dL_act_131 ?_
    refine g_iconst F 0 rfl dL_act_133 ?_
    refine g_ishr F rfl rfl dL_act_134 ?_
    refine g_bipush F rfl (by decide) dL_act_135 ?_
    refine g_callS F (by decide) [(0, (shr32 (shr32 a1 7) 2)), (0, 14)] [0, 0] ml_RL_149 wt_L_low (c_L_low (shr32 (shr32 a1 7) 2) 14) mi_L_low rfl rfl rfl (Nat.le_of_ble_eq_true rfl) (Nat.le_of_ble_eq_true rfl) (Nat.le_of_ble_eq_true rfl) (Nat.le_of_ble_eq_true rfl) (Nat.le_of_ble_eq_true rfl) dL_act_137 (fun z6 v6 hz6 => ?_)
    refine g_istore F rfl (Nat.le_of_ble_eq_true rfl) (ls' := [(8, (0, z6)), (7, (0, z5)), (6, (0, z4)), (5, (0, z3)), (4, (0, (shr32 a1 7))), (3, (0, z2)), (2, (2, 0)), (0, (17, 0)), (1, (0, a1))]) rfl dL_act_140 ?_
    refine g_iload_n F rfl 6 rfl rfl dL_act_142 ?_
    refine g_if_eq_t F rfl (by decide) (tgt := 161) rfl dL_act_143 ?_
    refine g_iload F 4 rfl rfl dL_act_161 ?_
    refine g_iconst F 0 rfl dL_act_163 ?_
    refine g_ishr F rfl rfl dL_act_164 ?_
    refine g_iconst F 0 rfl dL_act_165 ?_
    refine g_iand F rfl rfl dL_act_166 ?_
    refine g_if_ne F rfl (tgt := 182) rfl dL_act_167 (fun n7 => ?_) (fun n7 => ?_)
    · refine g_iload F 4 rfl rfl dL_act_182 ?_
      refine g_iconst F 0 rfl dL_act_184 ?_
      refine g_ishr F rfl rfl dL_act_185 ?_
      refine g_iconst F 0 rfl dL_act_186 ?_
      refine g_iand F rfl rfl dL_act_187 ?_
      refine g_iconst F 2 rfl dL_act_188 ?_
      refine g_icmp_ne F rfl rfl (tgt := 203) rfl dL_act_189 (fun n8 => ?_) (fun n8 => ?_)
      · refine g_iload F 4 rfl rfl dL_act_203 ?_
        refine g_iconst F 0 rfl dL_act_205 ?_
        refine g_ishr F rfl rfl dL_act_206 ?_
        refine g_sipush F rfl (by decide) dL_act_207 ?_
        refine g_callS F (by decide) [(0, (shr32 (shr32 a1 7) 2)), (0, 20000)] [0, 0] ml_RL_149 wt_L_low (c_L_low (shr32 (shr32 a1 7) 2) 20000) mi_L_low rfl rfl rfl (Nat.le_of_ble_eq_true rfl) (Nat.le_of_ble_eq_true rfl) (Nat.le_of_ble_eq_true rfl) (Nat.le_of_ble_eq_true rfl) (Nat.le_of_ble_eq_true rfl) dL_act_210 (fun z9 v9 hz9 => ?_)
        refine g_istore F rfl (Nat.le_of_ble_eq_true rfl) (ls' := [(9, (0, z9)), (8, (0, z6)), (7, (0, z5)), (6, (0, z4)), (5, (0, z3)), (4, (0, (shr32 a1 7))), (3, (0, z2)), (2, (2, 0)), (0, (17, 0)), (1, (0, a1))]) rfl dL_act_213 ?_
        refine g_loc [(8, 17), (9, 0), (7, 2), (6, 0), (5, 0), (4, 0), (3, 0), (2, 0), (1, 0), (0, 0)] rfl ?_
        exact kc_L_act_215 F v9
      · refine g_iload F 4 rfl rfl dL_act_192 ?_
        refine g_iconst F 0 rfl dL_act_194 ?_
        refine g_ishr F rfl rfl dL_act_195 ?_
        refine g_iconst F 0 rfl dL_act_196 ?_
        refine g_callS F (by decide) [(0, (shr32 (shr32 a1 7) 2)), (0, 3)] [0, 0] ml_RL_149 wt_L_low (c_L_low (shr32 (shr32 a1 7) 2) 3) mi_L_low rfl rfl rfl (Nat.le_of_ble_eq_true rfl) (Nat.le_of_ble_eq_true rfl) (Nat.le_of_ble_eq_true rfl) (Nat.le_of_ble_eq_true rfl) (Nat.le_of_ble_eq_true rfl) dL_act_197 (fun z96 v96 hz96 => ?_)
        refine g_goto F (tgt := 213) rfl dL_act_200 ?_
        refine g_istore F rfl (Nat.le_of_ble_eq_true rfl) (ls' := [(9, (0, z96)), (8, (0, z6)), (7, (0, z5)), (6, (0, z4)), (5, (0, z3)), (4, (0, (shr32 a1 7))), (3, (0, z2)), (2, (2, 0)), (0, (17, 0)), (1, (0, a1))]) rfl dL_act_213 ?_
        refine g_loc [(8, 17), (9, 0), (7, 2), (6, 0), (5, 0), (4, 0), (3, 0), (2, 0), (1, 0), (0, 0)] rfl ?_
        exact kc_L_act_215 F v96
    · refine g_iload F 4 rfl rfl dL_act_170 ?_
      refine g_iconst F 0 rfl dL_act_172 ?_
      refine g_ishr F rfl rfl dL_act_173 ?_
      refine g_ldc F rfl cn_RL_154 dL_act_174 ?_
      refine g_callS F (by decide) [(0, (shr32 (shr32 a1 7) 2)), (0, 1000001)] [0, 0] ml_RL_149 wt_L_low (c_L_low (shr32 (shr32 a1 7) 2) 1000001) mi_L_low rfl rfl rfl (Nat.le_of_ble_eq_true rfl) (Nat.le_of_ble_eq_true rfl) (Nat.le_of_ble_eq_true rfl) (Nat.le_of_ble_eq_true rfl) (Nat.le_of_ble_eq_true rfl) dL_act_176 (fun z97 v97 hz97 => ?_)
      refine g_goto F (tgt := 213) rfl dL_act_179 ?_
      refine g_istore F rfl (Nat.le_of_ble_eq_true rfl) (ls' := [(9, (0, z97)), (8, (0, z6)), (7, (0, z5)), (6, (0, z4)), (5, (0, z3)), (4, (0, (shr32 a1 7))), (3, (0, z2)), (2, (2, 0)), (0, (17, 0)), (1, (0, a1))]) rfl dL_act_213 ?_
      refine g_loc [(8, 17), (9, 0), (7, 2), (6, 0), (5, 0), (4, 0), (3, 0), (2, 0), (1, 0), (0, 0)] rfl ?_
      exact kc_L_act_215 F v97
  · refine g_iconst F 2 rfl dL_act_12 ?_
    refine g_goto F (tgt := 17) rfl dL_act_13 ?_
    refine g_istore_n F rfl rfl (Nat.le_of_ble_eq_true rfl) (ls' := [(2, (2, 1)), (0, (17, 0)), (1, (0, a1))]) rfl dL_act_17 ?_
    refine g_iload_n F rfl 2 rfl rfl dL_act_18 ?_
    refine g_bipush F rfl (by decide) dL_act_19 ?_
    refine g_callS F (by decide) [(0, a1), (0, 84)] [0, 0] ml_RL_149 wt_L_low (c_L_low a1 84) mi_L_low rfl rfl rfl (Nat.le_of_ble_eq_true rfl) (Nat.le_of_ble_eq_true rfl) (Nat.le_of_ble_eq_true rfl) (Nat.le_of_ble_eq_true rfl) (Nat.le_of_ble_eq_true rfl) dL_act_21 (fun z98 v98 hz98 => ?_)
    refine g_istore_n F rfl rfl (Nat.le_of_ble_eq_true rfl) (ls' := [(3, (0, z98)), (2, (2, 1)), (0, (17, 0)), (1, (0, a1))]) rfl dL_act_24 ?_
    refine g_iload_n F rfl 3 rfl rfl dL_act_25 ?_
    refine g_bipush F rfl (by decide) dL_act_26 ?_
    refine g_ishr F rfl rfl dL_act_28 ?_
    refine g_istore F rfl (Nat.le_of_ble_eq_true rfl) (ls' := [(4, (0, (shr32 a1 7))), (3, (0, z98)), (2, (2, 1)), (0, (17, 0)), (1, (0, a1))]) rfl dL_act_29 ?_
    refine g_iload_n F rfl 2 rfl rfl dL_act_31 ?_
    refine g_if_eq_f F rfl (by decide) (tgt := 47) rfl dL_act_32 ?_
    refine g_iload F 0 rfl rfl dL_act_35 ?_
    refine g_bipush F rfl (by decide) dL_act_37 ?_
    refine g_callS F (by decide) [(0, (shr32 a1 7)), (0, 12)] [0, 0] ml_RL_149 wt_L_low (c_L_low (shr32 a1 7) 12) mi_L_low rfl rfl rfl (Nat.le_of_ble_eq_true rfl) (Nat.le_of_ble_eq_true rfl) (Nat.le_of_ble_eq_true rfl) (Nat.le_of_ble_eq_true rfl) (Nat.le_of_ble_eq_true rfl) dL_act_39 (fun z99 v99 hz99 => ?_)
    refine g_iconst F 2 rfl dL_act_42 ?_
    refine g_isub F rfl rfl dL_act_43 ?_
    refine g_goto F (tgt := 54) rfl dL_act_44 ?_
    refine g_istore F rfl (Nat.le_of_ble_eq_true rfl) (ls' := [(5, (0, (w32 (z99 - 1)))), (4, (0, (shr32 a1 7))), (3, (0, z98)), (2, (2, 1)), (0, (17, 0)), (1, (0, a1))]) rfl dL_act_54 ?_
    refine g_iload_n F rfl 3 rfl rfl dL_act_56 ?_
    refine g_if_eq_f F rfl (by decide) (tgt := 74) rfl dL_act_57 ?_
    refine g_iload F 1 rfl rfl dL_act_60 ?_
    refine g_iconst F 0 rfl dL_act_62 ?_
    refine g_ishr F rfl rfl dL_act_63 ?_
    refine g_bipush F rfl (by decide) dL_act_64 ?_
    refine g_callS F (by decide) [(0, (shr32 (shr32 a1 7) 4)), (0, 12)] [0, 0] ml_RL_149 wt_L_low (c_L_low (shr32 (shr32 a1 7) 4) 12) mi_L_low rfl rfl rfl (Nat.le_of_ble_eq_true rfl) (Nat.le_of_ble_eq_true rfl) (Nat.le_of_ble_eq_true rfl) (Nat.le_of_ble_eq_true rfl) (Nat.le_of_ble_eq_true rfl) dL_act_66 (fun z100 v100 hz100 => ?_)
    refine g_iconst F 2 rfl dL_act_69 ?_
    refine g_isub F rfl rfl dL_act_70 ?_
    refine g_goto F (tgt := 83) rfl dL_act_71 ?_
    refine g_istore F rfl (Nat.le_of_ble_eq_true rfl) (ls' := [(6, (0, (w32 (z100 - 1)))), (5, (0, (w32 (z99 - 1)))), (4, (0, (shr32 a1 7))), (3, (0, z98)), (2, (2, 1)), (0, (17, 0)), (1, (0, a1))]) rfl dL_act_83 ?_
    refine g_iload_n F rfl 4 rfl rfl dL_act_85 ?_
    refine g_if_eq_f F rfl (by decide) (tgt := 103) rfl dL_act_86 ?_
    refine g_iload F 2 rfl rfl dL_act_89 ?_
    refine g_iconst F 0 rfl dL_act_91 ?_
    refine g_ishr F rfl rfl dL_act_92 ?_
    refine g_bipush F rfl (by decide) dL_act_93 ?_
    refine g_callS F (by decide) [(0, (shr32 (shr32 a1 7) 3)), (0, 14)] [0, 0] ml_RL_149 wt_L_low (c_L_low (shr32 (shr32 a1 7) 3) 14) mi_L_low rfl rfl rfl (Nat.le_of_ble_eq_true rfl) (Nat.le_of_ble_eq_true rfl) (Nat.le_of_ble_eq_true rfl) (Nat.le_of_ble_eq_true rfl) (Nat.le_of_ble_eq_true rfl) dL_act_95 (fun z101 v101 hz101 => ?_)
    refine g_iconst F 2 rfl dL_act_98 ?_
    refine g_isub F rfl rfl dL_act_99 ?_
    refine g_goto F (tgt := 111) rfl dL_act_100 ?_
    refine g_istore F rfl (Nat.le_of_ble_eq_true rfl) (ls' := [(7, (0, (w32 (z101 - 1)))), (6, (0, (w32 (z100 - 1)))), (5, (0, (w32 (z99 - 1)))), (4, (0, (shr32 a1 7))), (3, (0, z98)), (2, (2, 1)), (0, (17, 0)), (1, (0, a1))]) rfl dL_act_111 ?_
    refine g_iload_n F rfl 5 rfl rfl dL_act_113 ?_
    refine g_if_eq_f F rfl (by decide) (tgt := 131) rfl dL_act_114 ?_
    refine g_iload F 3 rfl rfl dL_act_117 ?_
    refine g_iconst F 0 rfl dL_act_119 ?_
    refine g_ishr F rfl rfl dL_act_120 ?_
    refine g_bipush F rfl (by decide) dL_act_121 ?_
    refine g_callS F (by decide) [(0, (shr32 (shr32 a1 7) 2)), (0, 63)] [0, 0] ml_RL_149 wt_L_low (c_L_low (shr32 (shr32 a1 7) 2) 63) mi_L_low rfl rfl rfl (Nat.le_of_ble_eq_true rfl) (Nat.le_of_ble_eq_true rfl) (Nat.le_of_ble_eq_true rfl) (Nat.le_of_ble_eq_true rfl) (Nat.le_of_ble_eq_true rfl) dL_act_123 (fun z102 v102 hz102 => ?_)
    refine g_iconst F 2 rfl dL_act_126 ?_
    refine g_isub F rfl rfl dL_act_127 ?_
    refine g_goto F (tgt := 140) rfl dL_act_128 ?_
    refine g_istore F rfl (Nat.le_of_ble_eq_true rfl) (ls' := [(8, (0, (w32 (z102 - 1)))), (7, (0, (w32 (z101 - 1)))), (6, (0, (w32 (z100 - 1)))), (5, (0, (w32 (z99 - 1)))), (4, (0, (shr32 a1 7))), (3, (0, z98)), (2, (2, 1)), (0, (17, 0)), (1, (0, a1))]) rfl dL_act_140 ?_
    refine g_iload_n F rfl 6 rfl rfl dL_act_142 ?_
    refine g_if_eq_f F rfl (by decide) (tgt := 161) rfl dL_act_143 ?_
    refine g_iload F 4 rfl rfl dL_act_146 ?_
    refine g_iconst F 0 rfl dL_act_148 ?_
    refine g_ishr F rfl rfl dL_act_149 ?_
    refine g_ldc F rfl cn_RL_152 dL_act_150 ?_
    refine g_callS F (by decide) [(0, (shr32 (shr32 a1 7) 2)), (0, 1100000)] [0, 0] ml_RL_149 wt_L_low (c_L_low (shr32 (shr32 a1 7) 2) 1100000) mi_L_low rfl rfl rfl (Nat.le_of_ble_eq_true rfl) (Nat.le_of_ble_eq_true rfl) (Nat.le_of_ble_eq_true rfl) (Nat.le_of_ble_eq_true rfl) (Nat.le_of_ble_eq_true rfl) dL_act_152 (fun z103 v103 hz103 => ?_)
    refine g_ldc F rfl cn_RL_153 dL_act_155 ?_
    refine g_isub F rfl rfl dL_act_157 ?_
    refine g_goto F (tgt := 213) rfl dL_act_158 ?_
    refine g_istore F rfl (Nat.le_of_ble_eq_true rfl) (ls' := [(9, (0, (w32 (z103 - 40000)))), (8, (0, (w32 (z102 - 1)))), (7, (0, (w32 (z101 - 1)))), (6, (0, (w32 (z100 - 1)))), (5, (0, (w32 (z99 - 1)))), (4, (0, (shr32 a1 7))), (3, (0, z98)), (2, (2, 1)), (0, (17, 0)), (1, (0, a1))]) rfl dL_act_213 ?_
    refine g_loc [(8, 17), (9, 0), (7, 2), (6, 0), (5, 0), (4, 0), (3, 0), (2, 0), (1, 0), (0, 0)] rfl ?_
    exact kc_L_act_215_1 F v103
theorem c_L_act (a1 : Int) : ∀ l, Ct l yL_act cL_act 11 (some .int) ({ frames := 12, cells := 10, slots := 62, locals := 223 }) (some 0) [(17, 0), (0, a1)] (sp_L_act a1) := g_method (by decide +kernel) (Nat.le_of_ble_eq_true rfl) (fun x v F ho => k_L_act a1 x v F ho)
def sp_L_early_0 (a2 a3 a4 : Int) (v : V) : Res := (rB (sp_X7_party 0 a2 a3 v) (fun z1 v1 => (rOk z1 v1)))
set_option maxRecDepth 100000 in
set_option maxHeartbeats 4000000 in
theorem k_L_early_0 (a2 a3 a4 : Int) (x : Cx) (v : V) (F : Fx x cL_early RL "early" ({ frames := 8, cells := 4, slots := 24, locals := 127 }) 5 (some 0) (some .int) 0) (ho : ∀ a ∈ [(17, 0), (0, 0), (0, a2), (0, a3), (0, a4)], okv v a) : Gs x (sp_L_early_0 a2 a3 a4 v) v 0 0 0 (avArgs 0 [(17, 0), (0, 0), (0, a2), (0, a3), (0, a4)]) [] := by
  show Gs x _ v 0 0 0 [(0, (17, 0)), (1, (0, 0)), (2, (0, a2)), (3, (0, a3)), (4, (0, a4))] []
  unfold sp_L_early_0
  refine g_iload_n F rfl 1 rfl rfl dL_early_0 ?_
  refine g_if_ne_f F rfl (by decide) (tgt := 13) rfl dL_early_1 ?_
  refine g_aload_n F rfl 0 rfl dL_early_4 ?_
  refine g_iload_n F rfl 2 rfl rfl dL_early_5 ?_
  refine g_iload_n F rfl 3 rfl rfl dL_early_6 ?_
  refine g_callV F (by decide) (K := 7) (b := 0) [(0, a2), (0, a3)] [0, 0] ml_RL_50 wi_X7_party ws_X7_party (c_X7_party 0 a2 a3 (by decide)) mi_X7_party (by decide) ⟨_, rfl, rfl⟩ (by decide) rfl rfl rfl (Nat.le_of_ble_eq_true rfl) (Nat.le_of_ble_eq_true rfl) (Nat.le_of_ble_eq_true rfl) (Nat.le_of_ble_eq_true rfl) (Nat.le_of_ble_eq_true rfl) dL_early_7 (fun z1 v1 hz1 => ?_)
  refine g_goto F (tgt := 201) rfl dL_early_10 ?_
  exact g_ireturn F rfl rfl rfl rfl (Nat.le_of_ble_eq_true rfl) (Nat.le_of_ble_eq_true rfl) dL_early_201
theorem c_L_early_0 (a2 a3 a4 : Int) : ∀ l, Ct l yL_early cL_early 5 (some .int) ({ frames := 8, cells := 4, slots := 24, locals := 127 }) (some 0) [(17, 0), (0, 0), (0, a2), (0, a3), (0, a4)] (sp_L_early_0 a2 a3 a4) := g_method (by decide +kernel) (Nat.le_of_ble_eq_true rfl) (fun x v F ho => k_L_early_0 a2 a3 a4 x v F ho)

theorem dX7_index_0 : decode cX7_index 0 = .ok (.lconst 0, 1) := by decide +kernel
theorem dX7_index_1 : decode cX7_index 1 = .ok (.lstore_n 1, 1) := by decide +kernel
theorem dX7_index_2 : decode cX7_index 2 = .ok (.iconst 0, 1) := by decide +kernel
theorem dX7_index_3 : decode cX7_index 3 = .ok (.istore_n 3, 1) := by decide +kernel
theorem dX7_index_4 : decode cX7_index 4 = .ok (.iconst 0, 1) := by decide +kernel
theorem dX7_index_5 : decode cX7_index 5 = .ok (.istore 4, 2) := by decide +kernel
theorem dX7_index_7 : decode cX7_index 7 = .ok (.iload 4, 2) := by decide +kernel
theorem dX7_index_9 : decode cX7_index 9 = .ok (.aload_n 0, 1) := by decide +kernel
theorem dX7_index_10 : decode cX7_index 10 = .ok (.getfield 66, 3) := by decide +kernel
theorem dX7_index_13 : decode cX7_index 13 = .ok (.if_icmp .ge 72, 3) := by decide +kernel
theorem dX7_index_16 : decode cX7_index 16 = .ok (.aload_n 0, 1) := by decide +kernel
theorem dX7_index_17 : decode cX7_index 17 = .ok (.getfield 23, 3) := by decide +kernel
theorem dX7_index_20 : decode cX7_index 20 = .ok (.iload 4, 2) := by decide +kernel
theorem dX7_index_22 : decode cX7_index 22 = .ok (.aaload, 1) := by decide +kernel
theorem dX7_index_23 : decode cX7_index 23 = .ok (.getfield 195, 3) := by decide +kernel
theorem dX7_index_26 : decode cX7_index 26 = .ok (.astore 5, 2) := by decide +kernel
theorem dX7_index_28 : decode cX7_index 28 = .ok (.aload_n 0, 1) := by decide +kernel
theorem dX7_index_29 : decode cX7_index 29 = .ok (.getfield 23, 3) := by decide +kernel
theorem dX7_index_32 : decode cX7_index 32 = .ok (.iload 4, 2) := by decide +kernel
theorem dX7_index_34 : decode cX7_index 34 = .ok (.aaload, 1) := by decide +kernel
theorem dX7_index_35 : decode cX7_index 35 = .ok (.invokevirtual 326, 3) := by decide +kernel
theorem dX7_index_38 : decode cX7_index 38 = .ok (.astore 6, 2) := by decide +kernel
theorem dX7_index_40 : decode cX7_index 40 = .ok (.aload 5, 2) := by decide +kernel
theorem dX7_index_42 : decode cX7_index 42 = .ok (.ifnull 37, 3) := by decide +kernel
theorem dX7_index_45 : decode cX7_index 45 = .ok (.aload 6, 2) := by decide +kernel
theorem dX7_index_47 : decode cX7_index 47 = .ok (.ifnull 32, 3) := by decide +kernel
theorem dX7_index_50 : decode cX7_index 50 = .ok (.aload 5, 2) := by decide +kernel
theorem dX7_index_52 : decode cX7_index 52 = .ok (.getfield 274, 3) := by decide +kernel
theorem dX7_index_55 : decode cX7_index 55 = .ok (.ifCond .le 24, 3) := by decide +kernel
theorem dX7_index_58 : decode cX7_index 58 = .ok (.aload 6, 2) := by decide +kernel
theorem dX7_index_60 : decode cX7_index 60 = .ok (.getfield 274, 3) := by decide +kernel
theorem dX7_index_63 : decode cX7_index 63 = .ok (.ifCond .le 16, 3) := by decide +kernel
theorem dX7_index_66 : decode cX7_index 66 = .ok (.lload_n 1, 1) := by decide +kernel
theorem dX7_index_67 : decode cX7_index 67 = .ok (.aload 5, 2) := by decide +kernel
theorem dX7_index_69 : decode cX7_index 69 = .ok (.aload 6, 2) := by decide +kernel
theorem dX7_index_71 : decode cX7_index 71 = .ok (.invokevirtual 330, 3) := by decide +kernel
theorem dX7_index_74 : decode cX7_index 74 = .ok (.ladd, 1) := by decide +kernel
theorem dX7_index_75 : decode cX7_index 75 = .ok (.lstore_n 1, 1) := by decide +kernel
theorem dX7_index_76 : decode cX7_index 76 = .ok (.iinc 3 1, 3) := by decide +kernel
theorem dX7_index_79 : decode cX7_index 79 = .ok (.iinc 4 1, 3) := by decide +kernel
theorem dX7_index_82 : decode cX7_index 82 = .ok (.goto (-75), 3) := by decide +kernel
theorem dX7_index_85 : decode cX7_index 85 = .ok (.iload_n 3, 1) := by decide +kernel
theorem dX7_index_86 : decode cX7_index 86 = .ok (.ifCond .le 10, 3) := by decide +kernel
theorem dX7_index_89 : decode cX7_index 89 = .ok (.lload_n 1, 1) := by decide +kernel
theorem dX7_index_90 : decode cX7_index 90 = .ok (.iload_n 3, 1) := by decide +kernel
theorem dX7_index_91 : decode cX7_index 91 = .ok (.i2l, 1) := by decide +kernel
theorem dX7_index_92 : decode cX7_index 92 = .ok (.ldiv, 1) := by decide +kernel
theorem dX7_index_93 : decode cX7_index 93 = .ok (.goto 6, 3) := by decide +kernel
theorem dX7_index_96 : decode cX7_index 96 = .ok (.ldc2_w 334, 3) := by decide +kernel
theorem dX7_index_99 : decode cX7_index 99 = .ok (.lreturn, 1) := by decide +kernel
theorem dX7_partyAt_0 : decode cX7_partyAt 0 = .ok (.iload_n 1, 1) := by decide +kernel
theorem dX7_partyAt_1 : decode cX7_partyAt 1 = .ok (.ifCond .lt 11, 3) := by decide +kernel
theorem dX7_partyAt_4 : decode cX7_partyAt 4 = .ok (.iload_n 1, 1) := by decide +kernel
theorem dX7_partyAt_5 : decode cX7_partyAt 5 = .ok (.aload_n 0, 1) := by decide +kernel
theorem dX7_partyAt_6 : decode cX7_partyAt 6 = .ok (.getfield 46, 3) := by decide +kernel
theorem dX7_partyAt_9 : decode cX7_partyAt 9 = .ok (.if_icmp .lt 14, 3) := by decide +kernel
theorem dX7_partyAt_12 : decode cX7_partyAt 12 = .ok (.new 336, 3) := by decide +kernel
theorem dX7_partyAt_15 : decode cX7_partyAt 15 = .ok (.dup, 1) := by decide +kernel
theorem dX7_partyAt_16 : decode cX7_partyAt 16 = .ok (.ldc_w 338, 3) := by decide +kernel
theorem dX7_partyAt_19 : decode cX7_partyAt 19 = .ok (.invokespecial 340, 3) := by decide +kernel
theorem dX7_partyAt_22 : decode cX7_partyAt 22 = .ok (.athrow, 1) := by decide +kernel
theorem dX7_partyAt_23 : decode cX7_partyAt 23 = .ok (.aload_n 0, 1) := by decide +kernel
theorem dX7_partyAt_24 : decode cX7_partyAt 24 = .ok (.getfield 11, 3) := by decide +kernel
theorem dX7_partyAt_27 : decode cX7_partyAt 27 = .ok (.iload_n 1, 1) := by decide +kernel
theorem dX7_partyAt_28 : decode cX7_partyAt 28 = .ok (.aaload, 1) := by decide +kernel
theorem dX7_partyAt_29 : decode cX7_partyAt 29 = .ok (.areturn, 1) := by decide +kernel
theorem dX7_workAt_0 : decode cX7_workAt 0 = .ok (.iload_n 1, 1) := by decide +kernel
theorem dX7_workAt_1 : decode cX7_workAt 1 = .ok (.ifCond .lt 11, 3) := by decide +kernel
theorem dX7_workAt_4 : decode cX7_workAt 4 = .ok (.iload_n 1, 1) := by decide +kernel
theorem dX7_workAt_5 : decode cX7_workAt 5 = .ok (.aload_n 0, 1) := by decide +kernel
theorem dX7_workAt_6 : decode cX7_workAt 6 = .ok (.getfield 63, 3) := by decide +kernel
theorem dX7_workAt_9 : decode cX7_workAt 9 = .ok (.if_icmp .lt 14, 3) := by decide +kernel
theorem dX7_workAt_12 : decode cX7_workAt 12 = .ok (.new 336, 3) := by decide +kernel
theorem dX7_workAt_15 : decode cX7_workAt 15 = .ok (.dup, 1) := by decide +kernel
theorem dX7_workAt_16 : decode cX7_workAt 16 = .ok (.ldc_w 341, 3) := by decide +kernel
theorem dX7_workAt_19 : decode cX7_workAt 19 = .ok (.invokespecial 340, 3) := by decide +kernel
theorem dX7_workAt_22 : decode cX7_workAt 22 = .ok (.athrow, 1) := by decide +kernel
theorem dX7_workAt_23 : decode cX7_workAt 23 = .ok (.aload_n 0, 1) := by decide +kernel
theorem dX7_workAt_24 : decode cX7_workAt 24 = .ok (.getfield 17, 3) := by decide +kernel
theorem dX7_workAt_27 : decode cX7_workAt 27 = .ok (.iload_n 1, 1) := by decide +kernel
theorem dX7_workAt_28 : decode cX7_workAt 28 = .ok (.aaload, 1) := by decide +kernel
theorem dX7_workAt_29 : decode cX7_workAt 29 = .ok (.areturn, 1) := by decide +kernel
theorem dX7_lotAt_0 : decode cX7_lotAt 0 = .ok (.iload_n 1, 1) := by decide +kernel
theorem dX7_lotAt_1 : decode cX7_lotAt 1 = .ok (.ifCond .lt 11, 3) := by decide +kernel
theorem dX7_lotAt_4 : decode cX7_lotAt 4 = .ok (.iload_n 1, 1) := by decide +kernel
theorem dX7_lotAt_5 : decode cX7_lotAt 5 = .ok (.aload_n 0, 1) := by decide +kernel
theorem dX7_lotAt_6 : decode cX7_lotAt 6 = .ok (.getfield 66, 3) := by decide +kernel
theorem dX7_lotAt_9 : decode cX7_lotAt 9 = .ok (.if_icmp .lt 14, 3) := by decide +kernel
theorem dX7_lotAt_12 : decode cX7_lotAt 12 = .ok (.new 336, 3) := by decide +kernel
theorem dX7_lotAt_15 : decode cX7_lotAt 15 = .ok (.dup, 1) := by decide +kernel
theorem dX7_lotAt_16 : decode cX7_lotAt 16 = .ok (.ldc_w 343, 3) := by decide +kernel
theorem dX7_lotAt_19 : decode cX7_lotAt 19 = .ok (.invokespecial 340, 3) := by decide +kernel
theorem dX7_lotAt_22 : decode cX7_lotAt 22 = .ok (.athrow, 1) := by decide +kernel
theorem dX7_lotAt_23 : decode cX7_lotAt 23 = .ok (.aload_n 0, 1) := by decide +kernel
theorem dX7_lotAt_24 : decode cX7_lotAt 24 = .ok (.getfield 23, 3) := by decide +kernel
theorem dX7_lotAt_27 : decode cX7_lotAt 27 = .ok (.iload_n 1, 1) := by decide +kernel
theorem dX7_lotAt_28 : decode cX7_lotAt 28 = .ok (.aaload, 1) := by decide +kernel
theorem dX7_lotAt_29 : decode cX7_lotAt 29 = .ok (.areturn, 1) := by decide +kernel
theorem dX7_loanAt_0 : decode cX7_loanAt 0 = .ok (.iload_n 1, 1) := by decide +kernel
theorem dX7_loanAt_1 : decode cX7_loanAt 1 = .ok (.ifCond .lt 11, 3) := by decide +kernel
theorem dX7_loanAt_4 : decode cX7_loanAt 4 = .ok (.iload_n 1, 1) := by decide +kernel
theorem dX7_loanAt_5 : decode cX7_loanAt 5 = .ok (.aload_n 0, 1) := by decide +kernel
theorem dX7_loanAt_6 : decode cX7_loanAt 6 = .ok (.getfield 228, 3) := by decide +kernel
theorem dX7_loanAt_9 : decode cX7_loanAt 9 = .ok (.if_icmp .lt 14, 3) := by decide +kernel
theorem dX7_loanAt_12 : decode cX7_loanAt 12 = .ok (.new 336, 3) := by decide +kernel
theorem dX7_loanAt_15 : decode cX7_loanAt 15 = .ok (.dup, 1) := by decide +kernel
theorem dX7_loanAt_16 : decode cX7_loanAt 16 = .ok (.ldc_w 345, 3) := by decide +kernel
theorem dX7_loanAt_19 : decode cX7_loanAt 19 = .ok (.invokespecial 340, 3) := by decide +kernel
theorem dX7_loanAt_22 : decode cX7_loanAt 22 = .ok (.athrow, 1) := by decide +kernel
theorem dX7_loanAt_23 : decode cX7_loanAt 23 = .ok (.aload_n 0, 1) := by decide +kernel
theorem dX7_loanAt_24 : decode cX7_loanAt 24 = .ok (.getfield 29, 3) := by decide +kernel
theorem dX7_loanAt_27 : decode cX7_loanAt 27 = .ok (.iload_n 1, 1) := by decide +kernel
theorem dX7_loanAt_28 : decode cX7_loanAt 28 = .ok (.aaload, 1) := by decide +kernel
theorem dX7_loanAt_29 : decode cX7_loanAt 29 = .ok (.areturn, 1) := by decide +kernel
theorem dX7_requireLand_0 : decode cX7_requireLand 0 = .ok (.iload_n 0, 1) := by decide +kernel
theorem dX7_requireLand_1 : decode cX7_requireLand 1 = .ok (.ifCond .lt 8, 3) := by decide +kernel
theorem dX7_requireLand_4 : decode cX7_requireLand 4 = .ok (.iload_n 0, 1) := by decide +kernel
theorem dX7_requireLand_5 : decode cX7_requireLand 5 = .ok (.iconst 4, 1) := by decide +kernel
theorem dX7_requireLand_6 : decode cX7_requireLand 6 = .ok (.if_icmp .lt 14, 3) := by decide +kernel
theorem dX7_requireLand_9 : decode cX7_requireLand 9 = .ok (.new 336, 3) := by decide +kernel
theorem dX7_requireLand_12 : decode cX7_requireLand 12 = .ok (.dup, 1) := by decide +kernel
theorem dX7_requireLand_13 : decode cX7_requireLand 13 = .ok (.ldc_w 347, 3) := by decide +kernel
theorem dX7_requireLand_16 : decode cX7_requireLand 16 = .ok (.invokespecial 340, 3) := by decide +kernel
theorem dX7_requireLand_19 : decode cX7_requireLand 19 = .ok (.athrow, 1) := by decide +kernel
theorem dX7_requireLand_20 : decode cX7_requireLand 20 = .ok (.return_, 1) := by decide +kernel
theorem dX7_requireRange_0 : decode cX7_requireRange 0 = .ok (.iload_n 0, 1) := by decide +kernel
theorem dX7_requireRange_1 : decode cX7_requireRange 1 = .ok (.iload_n 1, 1) := by decide +kernel
theorem dX7_requireRange_2 : decode cX7_requireRange 2 = .ok (.if_icmp .lt 8, 3) := by decide +kernel
theorem dX7_requireRange_5 : decode cX7_requireRange 5 = .ok (.iload_n 0, 1) := by decide +kernel
theorem dX7_requireRange_6 : decode cX7_requireRange 6 = .ok (.iload_n 2, 1) := by decide +kernel
theorem dX7_requireRange_7 : decode cX7_requireRange 7 = .ok (.if_icmp .le 14, 3) := by decide +kernel
theorem dX7_requireRange_10 : decode cX7_requireRange 10 = .ok (.new 349, 3) := by decide +kernel
theorem dX7_requireRange_13 : decode cX7_requireRange 13 = .ok (.dup, 1) := by decide +kernel
theorem dX7_requireRange_14 : decode cX7_requireRange 14 = .ok (.ldc_w 351, 3) := by decide +kernel
theorem dX7_requireRange_17 : decode cX7_requireRange 17 = .ok (.invokespecial 353, 3) := by decide +kernel
theorem dX7_requireRange_20 : decode cX7_requireRange 20 = .ok (.athrow, 1) := by decide +kernel
theorem dX7_requireRange_21 : decode cX7_requireRange 21 = .ok (.return_, 1) := by decide +kernel
theorem dX7_requireYears_0 : decode cX7_requireYears 0 = .ok (.iload_n 0, 1) := by decide +kernel
theorem dX7_requireYears_1 : decode cX7_requireYears 1 = .ok (.sipush 1900, 3) := by decide +kernel
theorem dX7_requireYears_4 : decode cX7_requireYears 4 = .ok (.sipush 2000, 3) := by decide +kernel
theorem dX7_requireYears_7 : decode cX7_requireYears 7 = .ok (.invokestatic 42, 3) := by decide +kernel
theorem dX7_requireYears_10 : decode cX7_requireYears 10 = .ok (.iload_n 1, 1) := by decide +kernel
theorem dX7_requireYears_11 : decode cX7_requireYears 11 = .ok (.iload_n 0, 1) := by decide +kernel
theorem dX7_requireYears_12 : decode cX7_requireYears 12 = .ok (.sipush 2000, 3) := by decide +kernel
theorem dX7_requireYears_15 : decode cX7_requireYears 15 = .ok (.invokestatic 42, 3) := by decide +kernel
theorem dX7_requireYears_18 : decode cX7_requireYears 18 = .ok (.return_, 1) := by decide +kernel
theorem dX7_requireOther_0 : decode cX7_requireOther 0 = .ok (.aload_n 0, 1) := by decide +kernel
theorem dX7_requireOther_1 : decode cX7_requireOther 1 = .ok (.aload_n 1, 1) := by decide +kernel
theorem dX7_requireOther_2 : decode cX7_requireOther 2 = .ok (.if_acmp .ne 14, 3) := by decide +kernel
theorem dX7_requireOther_5 : decode cX7_requireOther 5 = .ok (.new 349, 3) := by decide +kernel
theorem dX7_requireOther_8 : decode cX7_requireOther 8 = .ok (.dup, 1) := by decide +kernel
theorem dX7_requireOther_9 : decode cX7_requireOther 9 = .ok (.ldc_w 354, 3) := by decide +kernel
theorem dX7_requireOther_12 : decode cX7_requireOther 12 = .ok (.invokespecial 353, 3) := by decide +kernel
theorem dX7_requireOther_15 : decode cX7_requireOther 15 = .ok (.athrow, 1) := by decide +kernel
theorem dX7_requireOther_16 : decode cX7_requireOther 16 = .ok (.return_, 1) := by decide +kernel
theorem dX7_requireOffer_0 : decode cX7_requireOffer 0 = .ok (.iload_n 1, 1) := by decide +kernel
theorem dX7_requireOffer_1 : decode cX7_requireOffer 1 = .ok (.iconst 1, 1) := by decide +kernel
theorem dX7_requireOffer_2 : decode cX7_requireOffer 2 = .ok (.bipush 60, 2) := by decide +kernel
theorem dX7_requireOffer_4 : decode cX7_requireOffer 4 = .ok (.invokestatic 42, 3) := by decide +kernel
theorem dX7_requireOffer_7 : decode cX7_requireOffer 7 = .ok (.iload_n 3, 1) := by decide +kernel
theorem dX7_requireOffer_8 : decode cX7_requireOffer 8 = .ok (.iconst 0, 1) := by decide +kernel
theorem dX7_requireOffer_9 : decode cX7_requireOffer 9 = .ok (.ldc 41, 2) := by decide +kernel
theorem dX7_requireOffer_11 : decode cX7_requireOffer 11 = .ok (.invokestatic 42, 3) := by decide +kernel
theorem dX7_requireOffer_14 : decode cX7_requireOffer 14 = .ok (.aload_n 2, 1) := by decide +kernel
theorem dX7_requireOffer_15 : decode cX7_requireOffer 15 = .ok (.aload_n 0, 1) := by decide +kernel
theorem dX7_requireOffer_16 : decode cX7_requireOffer 16 = .ok (.getfield 153, 3) := by decide +kernel
theorem dX7_requireOffer_19 : decode cX7_requireOffer 19 = .ok (.invokestatic 161, 3) := by decide +kernel
theorem dX7_requireOffer_22 : decode cX7_requireOffer 22 = .ok (.return_, 1) := by decide +kernel
theorem dX7_requireState_0 : decode cX7_requireState 0 = .ok (.iload_n 0, 1) := by decide +kernel
theorem dX7_requireState_1 : decode cX7_requireState 1 = .ok (.ifCond .ne 14, 3) := by decide +kernel
theorem dX7_requireState_4 : decode cX7_requireState 4 = .ok (.new 173, 3) := by decide +kernel
theorem dX7_requireState_7 : decode cX7_requireState 7 = .ok (.dup, 1) := by decide +kernel
theorem dX7_requireState_8 : decode cX7_requireState 8 = .ok (.ldc_w 356, 3) := by decide +kernel
theorem dX7_requireState_11 : decode cX7_requireState 11 = .ok (.invokespecial 177, 3) := by decide +kernel
theorem dX7_requireState_14 : decode cX7_requireState 14 = .ok (.athrow, 1) := by decide +kernel
theorem dX7_requireState_15 : decode cX7_requireState 15 = .ok (.return_, 1) := by decide +kernel
theorem dX7_barOfSale_0 : decode cX7_barOfSale 0 = .ok (.aload_n 1, 1) := by decide +kernel
theorem dX7_barOfSale_1 : decode cX7_barOfSale 1 = .ok (.getfield 153, 3) := by decide +kernel
theorem dX7_barOfSale_4 : decode cX7_barOfSale 4 = .ok (.getfield 130, 3) := by decide +kernel
theorem dX7_barOfSale_7 : decode cX7_barOfSale 7 = .ok (.ifCond .ne 10, 3) := by decide +kernel
theorem dX7_barOfSale_10 : decode cX7_barOfSale 10 = .ok (.aload_n 3, 1) := by decide +kernel
theorem dX7_barOfSale_11 : decode cX7_barOfSale 11 = .ok (.getfield 130, 3) := by decide +kernel
theorem dX7_barOfSale_14 : decode cX7_barOfSale 14 = .ok (.ifCond .eq 5, 3) := by decide +kernel
theorem dX7_barOfSale_17 : decode cX7_barOfSale 17 = .ok (.iconst 1, 1) := by decide +kernel
theorem dX7_barOfSale_18 : decode cX7_barOfSale 18 = .ok (.ireturn, 1) := by decide +kernel
theorem dX7_barOfSale_19 : decode cX7_barOfSale 19 = .ok (.aload_n 1, 1) := by decide +kernel
theorem dX7_barOfSale_20 : decode cX7_barOfSale 20 = .ok (.getfield 165, 3) := by decide +kernel
theorem dX7_barOfSale_23 : decode cX7_barOfSale 23 = .ok (.iload_n 2, 1) := by decide +kernel
theorem dX7_barOfSale_24 : decode cX7_barOfSale 24 = .ok (.if_icmp .ge 5, 3) := by decide +kernel
theorem dX7_barOfSale_27 : decode cX7_barOfSale 27 = .ok (.iconst 2, 1) := by decide +kernel
theorem dX7_barOfSale_28 : decode cX7_barOfSale 28 = .ok (.ireturn, 1) := by decide +kernel
theorem dX7_barOfSale_29 : decode cX7_barOfSale 29 = .ok (.aload_n 1, 1) := by decide +kernel
theorem dX7_barOfSale_30 : decode cX7_barOfSale 30 = .ok (.getfield 137, 3) := by decide +kernel
theorem dX7_barOfSale_33 : decode cX7_barOfSale 33 = .ok (.ifnull 5, 3) := by decide +kernel
theorem dX7_barOfSale_36 : decode cX7_barOfSale 36 = .ok (.iconst 3, 1) := by decide +kernel
theorem dX7_barOfSale_37 : decode cX7_barOfSale 37 = .ok (.ireturn, 1) := by decide +kernel
theorem dX7_barOfSale_38 : decode cX7_barOfSale 38 = .ok (.aload_n 0, 1) := by decide +kernel
theorem dX7_barOfSale_39 : decode cX7_barOfSale 39 = .ok (.aload_n 1, 1) := by decide +kernel
theorem dX7_barOfSale_40 : decode cX7_barOfSale 40 = .ok (.aload_n 3, 1) := by decide +kernel
theorem dX7_barOfSale_41 : decode cX7_barOfSale 41 = .ok (.iload 4, 2) := by decide +kernel
theorem dX7_barOfSale_43 : decode cX7_barOfSale 43 = .ok (.invokevirtual 358, 3) := by decide +kernel
theorem dX7_barOfSale_46 : decode cX7_barOfSale 46 = .ok (.ireturn, 1) := by decide +kernel
theorem dX7_barOfDeal_0 : decode cX7_barOfDeal 0 = .ok (.aload_n 2, 1) := by decide +kernel
theorem dX7_barOfDeal_1 : decode cX7_barOfDeal 1 = .ok (.getfield 130, 3) := by decide +kernel
theorem dX7_barOfDeal_4 : decode cX7_barOfDeal 4 = .ok (.ifCond .ne 20, 3) := by decide +kernel
theorem dX7_barOfDeal_7 : decode cX7_barOfDeal 7 = .ok (.aload_n 1, 1) := by decide +kernel
theorem dX7_barOfDeal_8 : decode cX7_barOfDeal 8 = .ok (.getfield 153, 3) := by decide +kernel
theorem dX7_barOfDeal_11 : decode cX7_barOfDeal 11 = .ok (.getfield 130, 3) := by decide +kernel
theorem dX7_barOfDeal_14 : decode cX7_barOfDeal 14 = .ok (.ifCond .ne 10, 3) := by decide +kernel
theorem dX7_barOfDeal_17 : decode cX7_barOfDeal 17 = .ok (.aload_n 3, 1) := by decide +kernel
theorem dX7_barOfDeal_18 : decode cX7_barOfDeal 18 = .ok (.getfield 130, 3) := by decide +kernel
theorem dX7_barOfDeal_21 : decode cX7_barOfDeal 21 = .ok (.ifCond .eq 5, 3) := by decide +kernel
theorem dX7_barOfDeal_24 : decode cX7_barOfDeal 24 = .ok (.iconst 1, 1) := by decide +kernel
theorem dX7_barOfDeal_25 : decode cX7_barOfDeal 25 = .ok (.ireturn, 1) := by decide +kernel
theorem dX7_barOfDeal_26 : decode cX7_barOfDeal 26 = .ok (.aload_n 0, 1) := by decide +kernel
theorem dX7_barOfDeal_27 : decode cX7_barOfDeal 27 = .ok (.aload_n 1, 1) := by decide +kernel
theorem dX7_barOfDeal_28 : decode cX7_barOfDeal 28 = .ok (.aload_n 3, 1) := by decide +kernel
theorem dX7_barOfDeal_29 : decode cX7_barOfDeal 29 = .ok (.iload 4, 2) := by decide +kernel
theorem dX7_barOfDeal_31 : decode cX7_barOfDeal 31 = .ok (.invokevirtual 358, 3) := by decide +kernel
theorem dX7_barOfDeal_34 : decode cX7_barOfDeal 34 = .ok (.ireturn, 1) := by decide +kernel
theorem dX7_barOfAnySale_0 : decode cX7_barOfAnySale 0 = .ok (.aload_n 1, 1) := by decide +kernel
theorem dX7_barOfAnySale_1 : decode cX7_barOfAnySale 1 = .ok (.getfield 267, 3) := by decide +kernel
theorem dX7_barOfAnySale_4 : decode cX7_barOfAnySale 4 = .ok (.astore 4, 2) := by decide +kernel
theorem dX7_barOfAnySale_6 : decode cX7_barOfAnySale 6 = .ok (.aload 4, 2) := by decide +kernel
theorem dX7_barOfAnySale_8 : decode cX7_barOfAnySale 8 = .ok (.aload_n 0, 1) := by decide +kernel
theorem dX7_barOfAnySale_9 : decode cX7_barOfAnySale 9 = .ok (.getfield 87, 3) := by decide +kernel
theorem dX7_barOfAnySale_12 : decode cX7_barOfAnySale 12 = .ok (.invokevirtual 113, 3) := by decide +kernel
theorem dX7_barOfAnySale_15 : decode cX7_barOfAnySale 15 = .ok (.ifCond .le 17, 3) := by decide +kernel
theorem dX7_barOfAnySale_18 : decode cX7_barOfAnySale 18 = .ok (.aload_n 2, 1) := by decide +kernel
theorem dX7_barOfAnySale_19 : decode cX7_barOfAnySale 19 = .ok (.getfield 362, 3) := by decide +kernel
theorem dX7_barOfAnySale_22 : decode cX7_barOfAnySale 22 = .ok (.aload 4, 2) := by decide +kernel
theorem dX7_barOfAnySale_24 : decode cX7_barOfAnySale 24 = .ok (.getfield 120, 3) := by decide +kernel
theorem dX7_barOfAnySale_27 : decode cX7_barOfAnySale 27 = .ok (.if_icmp .eq 5, 3) := by decide +kernel
theorem dX7_barOfAnySale_30 : decode cX7_barOfAnySale 30 = .ok (.iconst 4, 1) := by decide +kernel
theorem dX7_barOfAnySale_31 : decode cX7_barOfAnySale 31 = .ok (.ireturn, 1) := by decide +kernel
theorem dX7_barOfAnySale_32 : decode cX7_barOfAnySale 32 = .ok (.aload_n 2, 1) := by decide +kernel
theorem dX7_barOfAnySale_33 : decode cX7_barOfAnySale 33 = .ok (.getfield 222, 3) := by decide +kernel
theorem dX7_barOfAnySale_36 : decode cX7_barOfAnySale 36 = .ok (.iload_n 3, 1) := by decide +kernel
theorem dX7_barOfAnySale_37 : decode cX7_barOfAnySale 37 = .ok (.if_icmp .ge 5, 3) := by decide +kernel
theorem dX7_barOfAnySale_40 : decode cX7_barOfAnySale 40 = .ok (.iconst 5, 1) := by decide +kernel
theorem dX7_barOfAnySale_41 : decode cX7_barOfAnySale 41 = .ok (.ireturn, 1) := by decide +kernel
theorem dX7_barOfAnySale_42 : decode cX7_barOfAnySale 42 = .ok (.aload_n 1, 1) := by decide +kernel
theorem dX7_barOfAnySale_43 : decode cX7_barOfAnySale 43 = .ok (.invokevirtual 363, 3) := by decide +kernel
theorem dX7_barOfAnySale_46 : decode cX7_barOfAnySale 46 = .ok (.ifCond .eq 18, 3) := by decide +kernel
theorem dX7_barOfAnySale_49 : decode cX7_barOfAnySale 49 = .ok (.aload_n 2, 1) := by decide +kernel
theorem dX7_barOfAnySale_50 : decode cX7_barOfAnySale 50 = .ok (.aload 4, 2) := by decide +kernel
theorem dX7_barOfAnySale_52 : decode cX7_barOfAnySale 52 = .ok (.getfield 271, 3) := by decide +kernel
theorem dX7_barOfAnySale_55 : decode cX7_barOfAnySale 55 = .ok (.invokevirtual 367, 3) := by decide +kernel
theorem dX7_barOfAnySale_58 : decode cX7_barOfAnySale 58 = .ok (.ifCond .eq 6, 3) := by decide +kernel
theorem dX7_barOfAnySale_61 : decode cX7_barOfAnySale 61 = .ok (.bipush 6, 2) := by decide +kernel
theorem dX7_barOfAnySale_63 : decode cX7_barOfAnySale 63 = .ok (.ireturn, 1) := by decide +kernel
theorem dX7_barOfAnySale_64 : decode cX7_barOfAnySale 64 = .ok (.aload_n 0, 1) := by decide +kernel
theorem dX7_barOfAnySale_65 : decode cX7_barOfAnySale 65 = .ok (.getfield 66, 3) := by decide +kernel
theorem dX7_barOfAnySale_68 : decode cX7_barOfAnySale 68 = .ok (.bipush 60, 2) := by decide +kernel
theorem dX7_barOfAnySale_70 : decode cX7_barOfAnySale 70 = .ok (.if_icmp .ge 7, 3) := by decide +kernel
theorem dX7_barOfAnySale_73 : decode cX7_barOfAnySale 73 = .ok (.iconst 0, 1) := by decide +kernel
theorem dX7_barOfAnySale_74 : decode cX7_barOfAnySale 74 = .ok (.goto 5, 3) := by decide +kernel
theorem dX7_barOfAnySale_77 : decode cX7_barOfAnySale 77 = .ok (.bipush 7, 2) := by decide +kernel
theorem dX7_barOfAnySale_79 : decode cX7_barOfAnySale 79 = .ok (.ireturn, 1) := by decide +kernel
theorem dX7_carryOut_0 : decode cX7_carryOut 0 = .ok (.aload_n 0, 1) := by decide +kernel
theorem dX7_carryOut_1 : decode cX7_carryOut 1 = .ok (.aload_n 1, 1) := by decide +kernel
theorem dX7_carryOut_2 : decode cX7_carryOut 2 = .ok (.iload 4, 2) := by decide +kernel
theorem dX7_carryOut_4 : decode cX7_carryOut 4 = .ok (.invokevirtual 370, 3) := by decide +kernel
theorem dX7_carryOut_7 : decode cX7_carryOut 7 = .ok (.istore 7, 2) := by decide +kernel
theorem dX7_carryOut_9 : decode cX7_carryOut 9 = .ok (.aload_n 3, 1) := by decide +kernel
theorem dX7_carryOut_10 : decode cX7_carryOut 10 = .ok (.aload_n 1, 1) := by decide +kernel
theorem dX7_carryOut_11 : decode cX7_carryOut 11 = .ok (.getfield 267, 3) := by decide +kernel
theorem dX7_carryOut_14 : decode cX7_carryOut 14 = .ok (.getfield 271, 3) := by decide +kernel
theorem dX7_carryOut_17 : decode cX7_carryOut 17 = .ok (.iload 7, 2) := by decide +kernel
theorem dX7_carryOut_19 : decode cX7_carryOut 19 = .ok (.invokestatic 234, 3) := by decide +kernel
theorem dX7_carryOut_22 : decode cX7_carryOut 22 = .ok (.aload_n 3, 1) := by decide +kernel
theorem dX7_carryOut_23 : decode cX7_carryOut 23 = .ok (.aload 5, 2) := by decide +kernel
theorem dX7_carryOut_25 : decode cX7_carryOut 25 = .ok (.iload 6, 2) := by decide +kernel
theorem dX7_carryOut_27 : decode cX7_carryOut 27 = .ok (.invokestatic 234, 3) := by decide +kernel
theorem dX7_carryOut_30 : decode cX7_carryOut 30 = .ok (.aload_n 3, 1) := by decide +kernel
theorem dX7_carryOut_31 : decode cX7_carryOut 31 = .ok (.aload_n 1, 1) := by decide +kernel
theorem dX7_carryOut_32 : decode cX7_carryOut 32 = .ok (.getfield 153, 3) := by decide +kernel
theorem dX7_carryOut_35 : decode cX7_carryOut 35 = .ok (.iload 4, 2) := by decide +kernel
theorem dX7_carryOut_37 : decode cX7_carryOut 37 = .ok (.iload 7, 2) := by decide +kernel
theorem dX7_carryOut_39 : decode cX7_carryOut 39 = .ok (.isub, 1) := by decide +kernel
theorem dX7_carryOut_40 : decode cX7_carryOut 40 = .ok (.iload 6, 2) := by decide +kernel
theorem dX7_carryOut_42 : decode cX7_carryOut 42 = .ok (.isub, 1) := by decide +kernel
theorem dX7_carryOut_43 : decode cX7_carryOut 43 = .ok (.invokestatic 234, 3) := by decide +kernel
theorem dX7_carryOut_46 : decode cX7_carryOut 46 = .ok (.aload_n 1, 1) := by decide +kernel
theorem dX7_carryOut_47 : decode cX7_carryOut 47 = .ok (.aload_n 0, 1) := by decide +kernel
theorem dX7_carryOut_48 : decode cX7_carryOut 48 = .ok (.getfield 87, 3) := by decide +kernel
theorem dX7_carryOut_51 : decode cX7_carryOut 51 = .ok (.invokevirtual 374, 3) := by decide +kernel
theorem dX7_carryOut_54 : decode cX7_carryOut 54 = .ok (.ifCond .eq 17, 3) := by decide +kernel
theorem dX7_carryOut_57 : decode cX7_carryOut 57 = .ok (.aload_n 1, 1) := by decide +kernel
theorem dX7_carryOut_58 : decode cX7_carryOut 58 = .ok (.getfield 153, 3) := by decide +kernel
theorem dX7_carryOut_61 : decode cX7_carryOut 61 = .ok (.aload_n 1, 1) := by decide +kernel
theorem dX7_carryOut_62 : decode cX7_carryOut 62 = .ok (.getfield 267, 3) := by decide +kernel
theorem dX7_carryOut_65 : decode cX7_carryOut 65 = .ok (.getfield 271, 3) := by decide +kernel
theorem dX7_carryOut_68 : decode cX7_carryOut 68 = .ok (.invokevirtual 378, 3) := by decide +kernel
theorem dX7_carryOut_71 : decode cX7_carryOut 71 = .ok (.new 202, 3) := by decide +kernel
theorem dX7_carryOut_74 : decode cX7_carryOut 74 = .ok (.dup, 1) := by decide +kernel
theorem dX7_carryOut_75 : decode cX7_carryOut 75 = .ok (.aload_n 0, 1) := by decide +kernel
theorem dX7_carryOut_76 : decode cX7_carryOut 76 = .ok (.getfield 87, 3) := by decide +kernel
theorem dX7_carryOut_79 : decode cX7_carryOut 79 = .ok (.iload 4, 2) := by decide +kernel
theorem dX7_carryOut_81 : decode cX7_carryOut 81 = .ok (.iload_n 2, 1) := by decide +kernel
theorem dX7_carryOut_82 : decode cX7_carryOut 82 = .ok (.aload_n 1, 1) := by decide +kernel
theorem dX7_carryOut_83 : decode cX7_carryOut 83 = .ok (.invokevirtual 363, 3) := by decide +kernel
theorem dX7_carryOut_86 : decode cX7_carryOut 86 = .ok (.invokespecial 381, 3) := by decide +kernel
theorem dX7_carryOut_89 : decode cX7_carryOut 89 = .ok (.astore 8, 2) := by decide +kernel
theorem dX7_carryOut_91 : decode cX7_carryOut 91 = .ok (.aload 8, 2) := by decide +kernel
theorem dX7_carryOut_93 : decode cX7_carryOut 93 = .ok (.aload_n 3, 1) := by decide +kernel
theorem dX7_carryOut_94 : decode cX7_carryOut 94 = .ok (.invokevirtual 207, 3) := by decide +kernel
theorem dX7_carryOut_97 : decode cX7_carryOut 97 = .ok (.aload 8, 2) := by decide +kernel
theorem dX7_carryOut_99 : decode cX7_carryOut 99 = .ok (.aload 5, 2) := by decide +kernel
theorem dX7_carryOut_101 : decode cX7_carryOut 101 = .ok (.invokevirtual 207, 3) := by decide +kernel
theorem dX7_carryOut_104 : decode cX7_carryOut 104 = .ok (.aload_n 1, 1) := by decide +kernel
theorem dX7_carryOut_105 : decode cX7_carryOut 105 = .ok (.dup, 1) := by decide +kernel
theorem dX7_carryOut_106 : decode cX7_carryOut 106 = .ok (.getfield 165, 3) := by decide +kernel
theorem dX7_carryOut_109 : decode cX7_carryOut 109 = .ok (.iload_n 2, 1) := by decide +kernel
theorem dX7_carryOut_110 : decode cX7_carryOut 110 = .ok (.isub, 1) := by decide +kernel
theorem dX7_carryOut_111 : decode cX7_carryOut 111 = .ok (.putfield 165, 3) := by decide +kernel
theorem dX7_carryOut_114 : decode cX7_carryOut 114 = .ok (.aload_n 0, 1) := by decide +kernel
theorem dX7_carryOut_115 : decode cX7_carryOut 115 = .ok (.new 21, 3) := by decide +kernel
theorem dX7_carryOut_118 : decode cX7_carryOut 118 = .ok (.dup, 1) := by decide +kernel
theorem dX7_carryOut_119 : decode cX7_carryOut 119 = .ok (.aload_n 0, 1) := by decide +kernel
theorem dX7_carryOut_120 : decode cX7_carryOut 120 = .ok (.getfield 66, 3) := by decide +kernel
theorem dX7_carryOut_123 : decode cX7_carryOut 123 = .ok (.aload_n 1, 1) := by decide +kernel
theorem dX7_carryOut_124 : decode cX7_carryOut 124 = .ok (.getfield 267, 3) := by decide +kernel
theorem dX7_carryOut_127 : decode cX7_carryOut 127 = .ok (.aload_n 3, 1) := by decide +kernel
theorem dX7_carryOut_128 : decode cX7_carryOut 128 = .ok (.iload_n 2, 1) := by decide +kernel
theorem dX7_carryOut_129 : decode cX7_carryOut 129 = .ok (.aload_n 1, 1) := by decide +kernel
theorem dX7_carryOut_130 : decode cX7_carryOut 130 = .ok (.getfield 218, 3) := by decide +kernel
theorem dX7_carryOut_133 : decode cX7_carryOut 133 = .ok (.aload_n 1, 1) := by decide +kernel
theorem dX7_carryOut_134 : decode cX7_carryOut 134 = .ok (.aload 8, 2) := by decide +kernel
theorem dX7_carryOut_136 : decode cX7_carryOut 136 = .ok (.invokespecial 72, 3) := by decide +kernel
theorem dX7_carryOut_139 : decode cX7_carryOut 139 = .ok (.invokevirtual 75, 3) := by decide +kernel
theorem dX7_carryOut_142 : decode cX7_carryOut 142 = .ok (.ireturn, 1) := by decide +kernel
theorem dX7_shareOfArtist_0 : decode cX7_shareOfArtist 0 = .ok (.aload_n 1, 1) := by decide +kernel
theorem dX7_shareOfArtist_1 : decode cX7_shareOfArtist 1 = .ok (.invokevirtual 363, 3) := by decide +kernel
theorem dX7_shareOfArtist_4 : decode cX7_shareOfArtist 4 = .ok (.ifCond .eq 7, 3) := by decide +kernel
theorem dX7_shareOfArtist_7 : decode cX7_shareOfArtist 7 = .ok (.iconst 0, 1) := by decide +kernel
theorem dX7_shareOfArtist_8 : decode cX7_shareOfArtist 8 = .ok (.goto 19, 3) := by decide +kernel
theorem dX7_shareOfArtist_11 : decode cX7_shareOfArtist 11 = .ok (.iload_n 2, 1) := by decide +kernel
theorem dX7_shareOfArtist_12 : decode cX7_shareOfArtist 12 = .ok (.aload_n 0, 1) := by decide +kernel
theorem dX7_shareOfArtist_13 : decode cX7_shareOfArtist 13 = .ok (.aload_n 1, 1) := by decide +kernel
theorem dX7_shareOfArtist_14 : decode cX7_shareOfArtist 14 = .ok (.getfield 153, 3) := by decide +kernel
theorem dX7_shareOfArtist_17 : decode cX7_shareOfArtist 17 = .ok (.getfield 362, 3) := by decide +kernel
theorem dX7_shareOfArtist_20 : decode cX7_shareOfArtist 20 = .ok (.invokevirtual 384, 3) := by decide +kernel
theorem dX7_shareOfArtist_23 : decode cX7_shareOfArtist 23 = .ok (.imul, 1) := by decide +kernel
theorem dX7_shareOfArtist_24 : decode cX7_shareOfArtist 24 = .ok (.bipush 100, 2) := by decide +kernel
theorem dX7_shareOfArtist_26 : decode cX7_shareOfArtist 26 = .ok (.idiv, 1) := by decide +kernel
theorem dX7_shareOfArtist_27 : decode cX7_shareOfArtist 27 = .ok (.ireturn, 1) := by decide +kernel
theorem dX7_rightOf_0 : decode cX7_rightOf 0 = .ok (.iload_n 1, 1) := by decide +kernel
theorem dX7_rightOf_1 : decode cX7_rightOf 1 = .ok (.ifCond .lt 17, 3) := by decide +kernel
theorem dX7_rightOf_4 : decode cX7_rightOf 4 = .ok (.iload_n 1, 1) := by decide +kernel
theorem dX7_rightOf_5 : decode cX7_rightOf 5 = .ok (.iconst 4, 1) := by decide +kernel
theorem dX7_rightOf_6 : decode cX7_rightOf 6 = .ok (.if_icmp .ge 12, 3) := by decide +kernel
theorem dX7_rightOf_9 : decode cX7_rightOf 9 = .ok (.aload_n 0, 1) := by decide +kernel
theorem dX7_rightOf_10 : decode cX7_rightOf 10 = .ok (.getfield 33, 3) := by decide +kernel
theorem dX7_rightOf_13 : decode cX7_rightOf 13 = .ok (.iload_n 1, 1) := by decide +kernel
theorem dX7_rightOf_14 : decode cX7_rightOf 14 = .ok (.iaload, 1) := by decide +kernel
theorem dX7_rightOf_15 : decode cX7_rightOf 15 = .ok (.goto 4, 3) := by decide +kernel
theorem dX7_rightOf_18 : decode cX7_rightOf 18 = .ok (.iconst 0, 1) := by decide +kernel
theorem dX7_rightOf_19 : decode cX7_rightOf 19 = .ok (.ireturn, 1) := by decide +kernel
theorem dX7_keepLot_0 : decode cX7_keepLot 0 = .ok (.aload_n 0, 1) := by decide +kernel
theorem dX7_keepLot_1 : decode cX7_keepLot 1 = .ok (.getfield 66, 3) := by decide +kernel
theorem dX7_keepLot_4 : decode cX7_keepLot 4 = .ok (.bipush 60, 2) := by decide +kernel
theorem dX7_keepLot_6 : decode cX7_keepLot 6 = .ok (.if_icmp .ge 23, 3) := by decide +kernel
theorem dX7_keepLot_9 : decode cX7_keepLot 9 = .ok (.aload_n 0, 1) := by decide +kernel
theorem dX7_keepLot_10 : decode cX7_keepLot 10 = .ok (.getfield 23, 3) := by decide +kernel
theorem dX7_keepLot_13 : decode cX7_keepLot 13 = .ok (.aload_n 0, 1) := by decide +kernel
theorem dX7_keepLot_14 : decode cX7_keepLot 14 = .ok (.getfield 66, 3) := by decide +kernel
theorem dX7_keepLot_17 : decode cX7_keepLot 17 = .ok (.aload_n 1, 1) := by decide +kernel
theorem dX7_keepLot_18 : decode cX7_keepLot 18 = .ok (.aastore, 1) := by decide +kernel
theorem dX7_keepLot_19 : decode cX7_keepLot 19 = .ok (.aload_n 0, 1) := by decide +kernel
theorem dX7_keepLot_20 : decode cX7_keepLot 20 = .ok (.dup, 1) := by decide +kernel
theorem dX7_keepLot_21 : decode cX7_keepLot 21 = .ok (.getfield 66, 3) := by decide +kernel
theorem dX7_keepLot_24 : decode cX7_keepLot 24 = .ok (.iconst 1, 1) := by decide +kernel
theorem dX7_keepLot_25 : decode cX7_keepLot 25 = .ok (.iadd, 1) := by decide +kernel
theorem dX7_keepLot_26 : decode cX7_keepLot 26 = .ok (.putfield 66, 3) := by decide +kernel
theorem dX7_keepLot_29 : decode cX7_keepLot 29 = .ok (.aload_n 1, 1) := by decide +kernel
theorem dX7_keepLot_30 : decode cX7_keepLot 30 = .ok (.getfield 312, 3) := by decide +kernel
theorem dX7_keepLot_33 : decode cX7_keepLot 33 = .ok (.ireturn, 1) := by decide +kernel
theorem dX7_pay_0 : decode cX7_pay 0 = .ok (.aload_n 0, 1) := by decide +kernel
theorem dX7_pay_1 : decode cX7_pay 1 = .ok (.dup, 1) := by decide +kernel
theorem dX7_pay_2 : decode cX7_pay 2 = .ok (.getfield 222, 3) := by decide +kernel
theorem dX7_pay_5 : decode cX7_pay 5 = .ok (.iload_n 2, 1) := by decide +kernel
theorem dX7_pay_6 : decode cX7_pay 6 = .ok (.isub, 1) := by decide +kernel
theorem dX7_pay_7 : decode cX7_pay 7 = .ok (.putfield 222, 3) := by decide +kernel
theorem dX7_pay_10 : decode cX7_pay 10 = .ok (.aload_n 1, 1) := by decide +kernel
theorem dX7_pay_11 : decode cX7_pay 11 = .ok (.dup, 1) := by decide +kernel
theorem dX7_pay_12 : decode cX7_pay 12 = .ok (.getfield 222, 3) := by decide +kernel
theorem dX7_pay_15 : decode cX7_pay 15 = .ok (.iload_n 2, 1) := by decide +kernel
theorem dX7_pay_16 : decode cX7_pay 16 = .ok (.iadd, 1) := by decide +kernel
theorem dX7_pay_17 : decode cX7_pay 17 = .ok (.putfield 222, 3) := by decide +kernel
theorem dX7_pay_20 : decode cX7_pay 20 = .ok (.return_, 1) := by decide +kernel
theorem dX7_cameSinceListing_0 : decode cX7_cameSinceListing 0 = .ok (.aload_n 0, 1) := by decide +kernel
theorem dX7_cameSinceListing_1 : decode cX7_cameSinceListing 1 = .ok (.getfield 267, 3) := by decide +kernel
theorem dX7_cameSinceListing_4 : decode cX7_cameSinceListing 4 = .ok (.getfield 127, 3) := by decide +kernel
theorem dX7_cameSinceListing_7 : decode cX7_cameSinceListing 7 = .ok (.istore_n 1, 1) := by decide +kernel
theorem dX7_cameSinceListing_8 : decode cX7_cameSinceListing 8 = .ok (.iload_n 1, 1) := by decide +kernel
theorem dX7_cameSinceListing_9 : decode cX7_cameSinceListing 9 = .ok (.iconst (-1), 1) := by decide +kernel
theorem dX7_cameSinceListing_10 : decode cX7_cameSinceListing 10 = .ok (.if_icmp .eq 25, 3) := by decide +kernel
theorem dX7_cameSinceListing_13 : decode cX7_cameSinceListing 13 = .ok (.aload_n 0, 1) := by decide +kernel
theorem dX7_cameSinceListing_14 : decode cX7_cameSinceListing 14 = .ok (.getfield 195, 3) := by decide +kernel
theorem dX7_cameSinceListing_17 : decode cX7_cameSinceListing 17 = .ok (.ifnull 18, 3) := by decide +kernel
theorem dX7_cameSinceListing_20 : decode cX7_cameSinceListing 20 = .ok (.aload_n 0, 1) := by decide +kernel
theorem dX7_cameSinceListing_21 : decode cX7_cameSinceListing 21 = .ok (.getfield 195, 3) := by decide +kernel
theorem dX7_cameSinceListing_24 : decode cX7_cameSinceListing 24 = .ok (.getfield 313, 3) := by decide +kernel
theorem dX7_cameSinceListing_27 : decode cX7_cameSinceListing 27 = .ok (.iload_n 1, 1) := by decide +kernel
theorem dX7_cameSinceListing_28 : decode cX7_cameSinceListing 28 = .ok (.if_icmp .lt 7, 3) := by decide +kernel
theorem dX7_cameSinceListing_31 : decode cX7_cameSinceListing 31 = .ok (.iconst 1, 1) := by decide +kernel
theorem dX7_cameSinceListing_32 : decode cX7_cameSinceListing 32 = .ok (.goto 4, 3) := by decide +kernel
theorem dX7_cameSinceListing_35 : decode cX7_cameSinceListing 35 = .ok (.iconst 0, 1) := by decide +kernel
theorem dX7_cameSinceListing_36 : decode cX7_cameSinceListing 36 = .ok (.ireturn, 1) := by decide +kernel
theorem dX7_isSeizable_0 : decode cX7_isSeizable 0 = .ok (.aload_n 1, 1) := by decide +kernel
theorem dX7_isSeizable_1 : decode cX7_isSeizable 1 = .ok (.getfield 246, 3) := by decide +kernel
theorem dX7_isSeizable_4 : decode cX7_isSeizable 4 = .ok (.ifCond .eq 5, 3) := by decide +kernel
theorem dX7_isSeizable_7 : decode cX7_isSeizable 7 = .ok (.iconst 0, 1) := by decide +kernel
theorem dX7_isSeizable_8 : decode cX7_isSeizable 8 = .ok (.ireturn, 1) := by decide +kernel
theorem dX7_isSeizable_9 : decode cX7_isSeizable 9 = .ok (.aload_n 0, 1) := by decide +kernel
theorem dX7_isSeizable_10 : decode cX7_isSeizable 10 = .ok (.getfield 87, 3) := by decide +kernel
theorem dX7_isSeizable_13 : decode cX7_isSeizable 13 = .ok (.aload_n 1, 1) := by decide +kernel
theorem dX7_isSeizable_14 : decode cX7_isSeizable 14 = .ok (.getfield 320, 3) := by decide +kernel
theorem dX7_isSeizable_17 : decode cX7_isSeizable 17 = .ok (.if_icmp .gt 30, 3) := by decide +kernel
theorem dX7_isSeizable_20 : decode cX7_isSeizable 20 = .ok (.ldc2_w 387, 3) := by decide +kernel
theorem dX7_isSeizable_23 : decode cX7_isSeizable 23 = .ok (.aload_n 1, 1) := by decide +kernel
theorem dX7_isSeizable_24 : decode cX7_isSeizable 24 = .ok (.aload_n 0, 1) := by decide +kernel
theorem dX7_isSeizable_25 : decode cX7_isSeizable 25 = .ok (.getfield 87, 3) := by decide +kernel
theorem dX7_isSeizable_28 : decode cX7_isSeizable 28 = .ok (.invokevirtual 243, 3) := by decide +kernel
theorem dX7_isSeizable_31 : decode cX7_isSeizable 31 = .ok (.i2l, 1) := by decide +kernel
theorem dX7_isSeizable_32 : decode cX7_isSeizable 32 = .ok (.lmul, 1) := by decide +kernel
theorem dX7_isSeizable_33 : decode cX7_isSeizable 33 = .ok (.ldc2_w 389, 3) := by decide +kernel
theorem dX7_isSeizable_36 : decode cX7_isSeizable 36 = .ok (.aload_n 0, 1) := by decide +kernel
theorem dX7_isSeizable_37 : decode cX7_isSeizable 37 = .ok (.aload_n 1, 1) := by decide +kernel
theorem dX7_isSeizable_38 : decode cX7_isSeizable 38 = .ok (.invokevirtual 391, 3) := by decide +kernel
theorem dX7_isSeizable_41 : decode cX7_isSeizable 41 = .ok (.i2l, 1) := by decide +kernel
theorem dX7_isSeizable_42 : decode cX7_isSeizable 42 = .ok (.lmul, 1) := by decide +kernel
theorem dX7_isSeizable_43 : decode cX7_isSeizable 43 = .ok (.lcmp, 1) := by decide +kernel
theorem dX7_isSeizable_44 : decode cX7_isSeizable 44 = .ok (.ifCond .le 7, 3) := by decide +kernel
theorem dX7_isSeizable_47 : decode cX7_isSeizable 47 = .ok (.iconst 1, 1) := by decide +kernel
theorem dX7_isSeizable_48 : decode cX7_isSeizable 48 = .ok (.goto 4, 3) := by decide +kernel
theorem dX7_isSeizable_51 : decode cX7_isSeizable 51 = .ok (.iconst 0, 1) := by decide +kernel
theorem dX7_isSeizable_52 : decode cX7_isSeizable 52 = .ok (.ireturn, 1) := by decide +kernel
theorem dX7_worthUnder_0 : decode cX7_worthUnder 0 = .ok (.iconst 0, 1) := by decide +kernel
theorem dX7_worthUnder_1 : decode cX7_worthUnder 1 = .ok (.istore_n 2, 1) := by decide +kernel
theorem dX7_worthUnder_2 : decode cX7_worthUnder 2 = .ok (.iconst 0, 1) := by decide +kernel
theorem dX7_worthUnder_3 : decode cX7_worthUnder 3 = .ok (.istore_n 3, 1) := by decide +kernel
theorem dX7_worthUnder_4 : decode cX7_worthUnder 4 = .ok (.iload_n 3, 1) := by decide +kernel
theorem dX7_worthUnder_5 : decode cX7_worthUnder 5 = .ok (.aload_n 0, 1) := by decide +kernel
theorem dX7_worthUnder_6 : decode cX7_worthUnder 6 = .ok (.getfield 66, 3) := by decide +kernel
theorem dX7_worthUnder_9 : decode cX7_worthUnder 9 = .ok (.if_icmp .ge 38, 3) := by decide +kernel
theorem dX7_worthUnder_12 : decode cX7_worthUnder 12 = .ok (.aload_n 0, 1) := by decide +kernel
theorem dX7_worthUnder_13 : decode cX7_worthUnder 13 = .ok (.getfield 23, 3) := by decide +kernel
theorem dX7_worthUnder_16 : decode cX7_worthUnder 16 = .ok (.iload_n 3, 1) := by decide +kernel
theorem dX7_worthUnder_17 : decode cX7_worthUnder 17 = .ok (.aaload, 1) := by decide +kernel
theorem dX7_worthUnder_18 : decode cX7_worthUnder 18 = .ok (.getfield 218, 3) := by decide +kernel
theorem dX7_worthUnder_21 : decode cX7_worthUnder 21 = .ok (.aload_n 1, 1) := by decide +kernel
theorem dX7_worthUnder_22 : decode cX7_worthUnder 22 = .ok (.if_acmp .ne 19, 3) := by decide +kernel
theorem dX7_worthUnder_25 : decode cX7_worthUnder 25 = .ok (.iload_n 2, 1) := by decide +kernel
theorem dX7_worthUnder_26 : decode cX7_worthUnder 26 = .ok (.aload_n 0, 1) := by decide +kernel
theorem dX7_worthUnder_27 : decode cX7_worthUnder 27 = .ok (.getfield 23, 3) := by decide +kernel
theorem dX7_worthUnder_30 : decode cX7_worthUnder 30 = .ok (.iload_n 3, 1) := by decide +kernel
theorem dX7_worthUnder_31 : decode cX7_worthUnder 31 = .ok (.aaload, 1) := by decide +kernel
theorem dX7_worthUnder_32 : decode cX7_worthUnder 32 = .ok (.aload_n 0, 1) := by decide +kernel
theorem dX7_worthUnder_33 : decode cX7_worthUnder 33 = .ok (.getfield 87, 3) := by decide +kernel
theorem dX7_worthUnder_36 : decode cX7_worthUnder 36 = .ok (.invokevirtual 225, 3) := by decide +kernel
theorem dX7_worthUnder_39 : decode cX7_worthUnder 39 = .ok (.iadd, 1) := by decide +kernel
theorem dX7_worthUnder_40 : decode cX7_worthUnder 40 = .ok (.istore_n 2, 1) := by decide +kernel
theorem dX7_worthUnder_41 : decode cX7_worthUnder 41 = .ok (.iinc 3 1, 3) := by decide +kernel
theorem dX7_worthUnder_44 : decode cX7_worthUnder 44 = .ok (.goto (-40), 3) := by decide +kernel
theorem dX7_worthUnder_47 : decode cX7_worthUnder 47 = .ok (.iload_n 2, 1) := by decide +kernel
theorem dX7_worthUnder_48 : decode cX7_worthUnder 48 = .ok (.ireturn, 1) := by decide +kernel
theorem dX7_release_0 : decode cX7_release 0 = .ok (.aload_n 1, 1) := by decide +kernel
theorem dX7_release_1 : decode cX7_release 1 = .ok (.iconst 1, 1) := by decide +kernel
theorem dX7_release_2 : decode cX7_release 2 = .ok (.putfield 246, 3) := by decide +kernel
theorem dX7_release_5 : decode cX7_release 5 = .ok (.iconst 0, 1) := by decide +kernel
theorem dX7_release_6 : decode cX7_release 6 = .ok (.istore_n 2, 1) := by decide +kernel
theorem dX7_release_7 : decode cX7_release 7 = .ok (.iconst 0, 1) := by decide +kernel
theorem dX7_release_8 : decode cX7_release 8 = .ok (.istore_n 3, 1) := by decide +kernel
theorem dX7_release_9 : decode cX7_release 9 = .ok (.iload_n 3, 1) := by decide +kernel
theorem dX7_release_10 : decode cX7_release 10 = .ok (.aload_n 0, 1) := by decide +kernel
theorem dX7_release_11 : decode cX7_release 11 = .ok (.getfield 66, 3) := by decide +kernel
theorem dX7_release_14 : decode cX7_release 14 = .ok (.if_icmp .ge 35, 3) := by decide +kernel
theorem dX7_release_17 : decode cX7_release 17 = .ok (.aload_n 0, 1) := by decide +kernel
theorem dX7_release_18 : decode cX7_release 18 = .ok (.getfield 23, 3) := by decide +kernel
theorem dX7_release_21 : decode cX7_release 21 = .ok (.iload_n 3, 1) := by decide +kernel
theorem dX7_release_22 : decode cX7_release 22 = .ok (.aaload, 1) := by decide +kernel
theorem dX7_release_23 : decode cX7_release 23 = .ok (.getfield 218, 3) := by decide +kernel
theorem dX7_release_26 : decode cX7_release 26 = .ok (.aload_n 1, 1) := by decide +kernel
theorem dX7_release_27 : decode cX7_release 27 = .ok (.if_acmp .ne 16, 3) := by decide +kernel
theorem dX7_release_30 : decode cX7_release 30 = .ok (.aload_n 0, 1) := by decide +kernel
theorem dX7_release_31 : decode cX7_release 31 = .ok (.getfield 23, 3) := by decide +kernel
theorem dX7_release_34 : decode cX7_release 34 = .ok (.iload_n 3, 1) := by decide +kernel
theorem dX7_release_35 : decode cX7_release 35 = .ok (.aaload, 1) := by decide +kernel
theorem dX7_release_36 : decode cX7_release 36 = .ok (.aconst_null, 1) := by decide +kernel
theorem dX7_release_37 : decode cX7_release 37 = .ok (.putfield 218, 3) := by decide +kernel
theorem dX7_release_40 : decode cX7_release 40 = .ok (.iinc 2 1, 3) := by decide +kernel
theorem dX7_release_43 : decode cX7_release 43 = .ok (.iinc 3 1, 3) := by decide +kernel
theorem dX7_release_46 : decode cX7_release 46 = .ok (.goto (-37), 3) := by decide +kernel
theorem dX7_release_49 : decode cX7_release 49 = .ok (.iload_n 2, 1) := by decide +kernel
theorem dX7_release_50 : decode cX7_release 50 = .ok (.ireturn, 1) := by decide +kernel
theorem dX7_owedBy_0 : decode cX7_owedBy 0 = .ok (.iconst 0, 1) := by decide +kernel
theorem dX7_owedBy_1 : decode cX7_owedBy 1 = .ok (.istore_n 2, 1) := by decide +kernel
theorem dX7_owedBy_2 : decode cX7_owedBy 2 = .ok (.iconst 0, 1) := by decide +kernel
theorem dX7_owedBy_3 : decode cX7_owedBy 3 = .ok (.istore_n 3, 1) := by decide +kernel
theorem dX7_owedBy_4 : decode cX7_owedBy 4 = .ok (.iload_n 3, 1) := by decide +kernel
theorem dX7_owedBy_5 : decode cX7_owedBy 5 = .ok (.aload_n 0, 1) := by decide +kernel
theorem dX7_owedBy_6 : decode cX7_owedBy 6 = .ok (.getfield 228, 3) := by decide +kernel
theorem dX7_owedBy_9 : decode cX7_owedBy 9 = .ok (.if_icmp .ge 38, 3) := by decide +kernel
theorem dX7_owedBy_12 : decode cX7_owedBy 12 = .ok (.aload_n 0, 1) := by decide +kernel
theorem dX7_owedBy_13 : decode cX7_owedBy 13 = .ok (.getfield 29, 3) := by decide +kernel
theorem dX7_owedBy_16 : decode cX7_owedBy 16 = .ok (.iload_n 3, 1) := by decide +kernel
theorem dX7_owedBy_17 : decode cX7_owedBy 17 = .ok (.aaload, 1) := by decide +kernel
theorem dX7_owedBy_18 : decode cX7_owedBy 18 = .ok (.getfield 249, 3) := by decide +kernel
theorem dX7_owedBy_21 : decode cX7_owedBy 21 = .ok (.aload_n 1, 1) := by decide +kernel
theorem dX7_owedBy_22 : decode cX7_owedBy 22 = .ok (.if_acmp .ne 19, 3) := by decide +kernel
theorem dX7_owedBy_25 : decode cX7_owedBy 25 = .ok (.iload_n 2, 1) := by decide +kernel
theorem dX7_owedBy_26 : decode cX7_owedBy 26 = .ok (.aload_n 0, 1) := by decide +kernel
theorem dX7_owedBy_27 : decode cX7_owedBy 27 = .ok (.getfield 29, 3) := by decide +kernel
theorem dX7_owedBy_30 : decode cX7_owedBy 30 = .ok (.iload_n 3, 1) := by decide +kernel
theorem dX7_owedBy_31 : decode cX7_owedBy 31 = .ok (.aaload, 1) := by decide +kernel
theorem dX7_owedBy_32 : decode cX7_owedBy 32 = .ok (.aload_n 0, 1) := by decide +kernel
theorem dX7_owedBy_33 : decode cX7_owedBy 33 = .ok (.getfield 87, 3) := by decide +kernel
theorem dX7_owedBy_36 : decode cX7_owedBy 36 = .ok (.invokevirtual 243, 3) := by decide +kernel
theorem dX7_owedBy_39 : decode cX7_owedBy 39 = .ok (.iadd, 1) := by decide +kernel
theorem dX7_owedBy_40 : decode cX7_owedBy 40 = .ok (.istore_n 2, 1) := by decide +kernel
theorem dX7_owedBy_41 : decode cX7_owedBy 41 = .ok (.iinc 3 1, 3) := by decide +kernel
theorem dX7_owedBy_44 : decode cX7_owedBy 44 = .ok (.goto (-40), 3) := by decide +kernel
theorem dX7_owedBy_47 : decode cX7_owedBy 47 = .ok (.iload_n 2, 1) := by decide +kernel
theorem dX7_owedBy_48 : decode cX7_owedBy 48 = .ok (.ireturn, 1) := by decide +kernel
theorem dX7_owedTo_0 : decode cX7_owedTo 0 = .ok (.iconst 0, 1) := by decide +kernel
theorem dX7_owedTo_1 : decode cX7_owedTo 1 = .ok (.istore_n 2, 1) := by decide +kernel
theorem dX7_owedTo_2 : decode cX7_owedTo 2 = .ok (.iconst 0, 1) := by decide +kernel
theorem dX7_owedTo_3 : decode cX7_owedTo 3 = .ok (.istore_n 3, 1) := by decide +kernel
theorem dX7_owedTo_4 : decode cX7_owedTo 4 = .ok (.iload_n 3, 1) := by decide +kernel
theorem dX7_owedTo_5 : decode cX7_owedTo 5 = .ok (.aload_n 0, 1) := by decide +kernel
theorem dX7_owedTo_6 : decode cX7_owedTo 6 = .ok (.getfield 228, 3) := by decide +kernel
theorem dX7_owedTo_9 : decode cX7_owedTo 9 = .ok (.if_icmp .ge 38, 3) := by decide +kernel
theorem dX7_owedTo_12 : decode cX7_owedTo 12 = .ok (.aload_n 0, 1) := by decide +kernel
theorem dX7_owedTo_13 : decode cX7_owedTo 13 = .ok (.getfield 29, 3) := by decide +kernel
theorem dX7_owedTo_16 : decode cX7_owedTo 16 = .ok (.iload_n 3, 1) := by decide +kernel
theorem dX7_owedTo_17 : decode cX7_owedTo 17 = .ok (.aaload, 1) := by decide +kernel
theorem dX7_owedTo_18 : decode cX7_owedTo 18 = .ok (.getfield 252, 3) := by decide +kernel
theorem dX7_owedTo_21 : decode cX7_owedTo 21 = .ok (.aload_n 1, 1) := by decide +kernel
theorem dX7_owedTo_22 : decode cX7_owedTo 22 = .ok (.if_acmp .ne 19, 3) := by decide +kernel
theorem dX7_owedTo_25 : decode cX7_owedTo 25 = .ok (.iload_n 2, 1) := by decide +kernel
theorem dX7_owedTo_26 : decode cX7_owedTo 26 = .ok (.aload_n 0, 1) := by decide +kernel
theorem dX7_owedTo_27 : decode cX7_owedTo 27 = .ok (.getfield 29, 3) := by decide +kernel
theorem dX7_owedTo_30 : decode cX7_owedTo 30 = .ok (.iload_n 3, 1) := by decide +kernel
theorem dX7_owedTo_31 : decode cX7_owedTo 31 = .ok (.aaload, 1) := by decide +kernel
theorem dX7_owedTo_32 : decode cX7_owedTo 32 = .ok (.aload_n 0, 1) := by decide +kernel
theorem dX7_owedTo_33 : decode cX7_owedTo 33 = .ok (.getfield 87, 3) := by decide +kernel
theorem dX7_owedTo_36 : decode cX7_owedTo 36 = .ok (.invokevirtual 243, 3) := by decide +kernel
theorem dX7_owedTo_39 : decode cX7_owedTo 39 = .ok (.iadd, 1) := by decide +kernel
theorem dX7_owedTo_40 : decode cX7_owedTo 40 = .ok (.istore_n 2, 1) := by decide +kernel
theorem dX7_owedTo_41 : decode cX7_owedTo 41 = .ok (.iinc 3 1, 3) := by decide +kernel
theorem dX7_owedTo_44 : decode cX7_owedTo 44 = .ok (.goto (-40), 3) := by decide +kernel
theorem dX7_owedTo_47 : decode cX7_owedTo 47 = .ok (.iload_n 2, 1) := by decide +kernel
theorem dX7_owedTo_48 : decode cX7_owedTo 48 = .ok (.ireturn, 1) := by decide +kernel
theorem dX7_partsHeldBy_0 : decode cX7_partsHeldBy 0 = .ok (.iconst 0, 1) := by decide +kernel
theorem dX7_partsHeldBy_1 : decode cX7_partsHeldBy 1 = .ok (.istore_n 2, 1) := by decide +kernel
theorem dX7_partsHeldBy_2 : decode cX7_partsHeldBy 2 = .ok (.iconst 0, 1) := by decide +kernel
theorem dX7_partsHeldBy_3 : decode cX7_partsHeldBy 3 = .ok (.istore_n 3, 1) := by decide +kernel
theorem dX7_partsHeldBy_4 : decode cX7_partsHeldBy 4 = .ok (.iload_n 3, 1) := by decide +kernel
theorem dX7_partsHeldBy_5 : decode cX7_partsHeldBy 5 = .ok (.aload_n 0, 1) := by decide +kernel
theorem dX7_partsHeldBy_6 : decode cX7_partsHeldBy 6 = .ok (.getfield 66, 3) := by decide +kernel
theorem dX7_partsHeldBy_9 : decode cX7_partsHeldBy 9 = .ok (.if_icmp .ge 34, 3) := by decide +kernel
theorem dX7_partsHeldBy_12 : decode cX7_partsHeldBy 12 = .ok (.aload_n 0, 1) := by decide +kernel
theorem dX7_partsHeldBy_13 : decode cX7_partsHeldBy 13 = .ok (.getfield 23, 3) := by decide +kernel
theorem dX7_partsHeldBy_16 : decode cX7_partsHeldBy 16 = .ok (.iload_n 3, 1) := by decide +kernel
theorem dX7_partsHeldBy_17 : decode cX7_partsHeldBy 17 = .ok (.aaload, 1) := by decide +kernel
theorem dX7_partsHeldBy_18 : decode cX7_partsHeldBy 18 = .ok (.getfield 153, 3) := by decide +kernel
theorem dX7_partsHeldBy_21 : decode cX7_partsHeldBy 21 = .ok (.aload_n 1, 1) := by decide +kernel
theorem dX7_partsHeldBy_22 : decode cX7_partsHeldBy 22 = .ok (.if_acmp .ne 15, 3) := by decide +kernel
theorem dX7_partsHeldBy_25 : decode cX7_partsHeldBy 25 = .ok (.iload_n 2, 1) := by decide +kernel
theorem dX7_partsHeldBy_26 : decode cX7_partsHeldBy 26 = .ok (.aload_n 0, 1) := by decide +kernel
theorem dX7_partsHeldBy_27 : decode cX7_partsHeldBy 27 = .ok (.getfield 23, 3) := by decide +kernel
theorem dX7_partsHeldBy_30 : decode cX7_partsHeldBy 30 = .ok (.iload_n 3, 1) := by decide +kernel
theorem dX7_partsHeldBy_31 : decode cX7_partsHeldBy 31 = .ok (.aaload, 1) := by decide +kernel
theorem dX7_partsHeldBy_32 : decode cX7_partsHeldBy 32 = .ok (.getfield 165, 3) := by decide +kernel
theorem dX7_partsHeldBy_35 : decode cX7_partsHeldBy 35 = .ok (.iadd, 1) := by decide +kernel
theorem dX7_partsHeldBy_36 : decode cX7_partsHeldBy 36 = .ok (.istore_n 2, 1) := by decide +kernel
theorem dX7_partsHeldBy_37 : decode cX7_partsHeldBy 37 = .ok (.iinc 3 1, 3) := by decide +kernel
theorem dX7_partsHeldBy_40 : decode cX7_partsHeldBy 40 = .ok (.goto (-36), 3) := by decide +kernel
theorem dX7_partsHeldBy_43 : decode cX7_partsHeldBy 43 = .ok (.iload_n 2, 1) := by decide +kernel
theorem dX7_partsHeldBy_44 : decode cX7_partsHeldBy 44 = .ok (.ireturn, 1) := by decide +kernel
theorem dX7_worthHeldBy_0 : decode cX7_worthHeldBy 0 = .ok (.iconst 0, 1) := by decide +kernel
theorem dX7_worthHeldBy_1 : decode cX7_worthHeldBy 1 = .ok (.istore_n 2, 1) := by decide +kernel
theorem dX7_worthHeldBy_2 : decode cX7_worthHeldBy 2 = .ok (.iconst 0, 1) := by decide +kernel
theorem dX7_worthHeldBy_3 : decode cX7_worthHeldBy 3 = .ok (.istore_n 3, 1) := by decide +kernel
theorem dX7_worthHeldBy_4 : decode cX7_worthHeldBy 4 = .ok (.iload_n 3, 1) := by decide +kernel
theorem dX7_worthHeldBy_5 : decode cX7_worthHeldBy 5 = .ok (.aload_n 0, 1) := by decide +kernel
theorem dX7_worthHeldBy_6 : decode cX7_worthHeldBy 6 = .ok (.getfield 66, 3) := by decide +kernel
theorem dX7_worthHeldBy_9 : decode cX7_worthHeldBy 9 = .ok (.if_icmp .ge 38, 3) := by decide +kernel
theorem dX7_worthHeldBy_12 : decode cX7_worthHeldBy 12 = .ok (.aload_n 0, 1) := by decide +kernel
theorem dX7_worthHeldBy_13 : decode cX7_worthHeldBy 13 = .ok (.getfield 23, 3) := by decide +kernel
theorem dX7_worthHeldBy_16 : decode cX7_worthHeldBy 16 = .ok (.iload_n 3, 1) := by decide +kernel
theorem dX7_worthHeldBy_17 : decode cX7_worthHeldBy 17 = .ok (.aaload, 1) := by decide +kernel
theorem dX7_worthHeldBy_18 : decode cX7_worthHeldBy 18 = .ok (.getfield 153, 3) := by decide +kernel
theorem dX7_worthHeldBy_21 : decode cX7_worthHeldBy 21 = .ok (.aload_n 1, 1) := by decide +kernel
theorem dX7_worthHeldBy_22 : decode cX7_worthHeldBy 22 = .ok (.if_acmp .ne 19, 3) := by decide +kernel
theorem dX7_worthHeldBy_25 : decode cX7_worthHeldBy 25 = .ok (.iload_n 2, 1) := by decide +kernel
theorem dX7_worthHeldBy_26 : decode cX7_worthHeldBy 26 = .ok (.aload_n 0, 1) := by decide +kernel
theorem dX7_worthHeldBy_27 : decode cX7_worthHeldBy 27 = .ok (.getfield 23, 3) := by decide +kernel
theorem dX7_worthHeldBy_30 : decode cX7_worthHeldBy 30 = .ok (.iload_n 3, 1) := by decide +kernel
theorem dX7_worthHeldBy_31 : decode cX7_worthHeldBy 31 = .ok (.aaload, 1) := by decide +kernel
theorem dX7_worthHeldBy_32 : decode cX7_worthHeldBy 32 = .ok (.aload_n 0, 1) := by decide +kernel
theorem dX7_worthHeldBy_33 : decode cX7_worthHeldBy 33 = .ok (.getfield 87, 3) := by decide +kernel
theorem dX7_worthHeldBy_36 : decode cX7_worthHeldBy 36 = .ok (.invokevirtual 225, 3) := by decide +kernel
theorem dX7_worthHeldBy_39 : decode cX7_worthHeldBy 39 = .ok (.iadd, 1) := by decide +kernel
theorem dX7_worthHeldBy_40 : decode cX7_worthHeldBy 40 = .ok (.istore_n 2, 1) := by decide +kernel
theorem dX7_worthHeldBy_41 : decode cX7_worthHeldBy 41 = .ok (.iinc 3 1, 3) := by decide +kernel
theorem dX7_worthHeldBy_44 : decode cX7_worthHeldBy 44 = .ok (.goto (-40), 3) := by decide +kernel
theorem dX7_worthHeldBy_47 : decode cX7_worthHeldBy 47 = .ok (.iload_n 2, 1) := by decide +kernel
theorem dX7_worthHeldBy_48 : decode cX7_worthHeldBy 48 = .ok (.ireturn, 1) := by decide +kernel
theorem dX7_lotsWithParts_0 : decode cX7_lotsWithParts 0 = .ok (.iconst 0, 1) := by decide +kernel
theorem dX7_lotsWithParts_1 : decode cX7_lotsWithParts 1 = .ok (.istore_n 2, 1) := by decide +kernel
theorem dX7_lotsWithParts_2 : decode cX7_lotsWithParts 2 = .ok (.iconst 0, 1) := by decide +kernel
theorem dX7_lotsWithParts_3 : decode cX7_lotsWithParts 3 = .ok (.istore_n 3, 1) := by decide +kernel
theorem dX7_lotsWithParts_4 : decode cX7_lotsWithParts 4 = .ok (.iload_n 3, 1) := by decide +kernel
theorem dX7_lotsWithParts_5 : decode cX7_lotsWithParts 5 = .ok (.aload_n 0, 1) := by decide +kernel
theorem dX7_lotsWithParts_6 : decode cX7_lotsWithParts 6 = .ok (.getfield 66, 3) := by decide +kernel
theorem dX7_lotsWithParts_9 : decode cX7_lotsWithParts 9 = .ok (.if_icmp .ge 37, 3) := by decide +kernel
theorem dX7_lotsWithParts_12 : decode cX7_lotsWithParts 12 = .ok (.aload_n 0, 1) := by decide +kernel
theorem dX7_lotsWithParts_13 : decode cX7_lotsWithParts 13 = .ok (.getfield 23, 3) := by decide +kernel
theorem dX7_lotsWithParts_16 : decode cX7_lotsWithParts 16 = .ok (.iload_n 3, 1) := by decide +kernel
theorem dX7_lotsWithParts_17 : decode cX7_lotsWithParts 17 = .ok (.aaload, 1) := by decide +kernel
theorem dX7_lotsWithParts_18 : decode cX7_lotsWithParts 18 = .ok (.getfield 267, 3) := by decide +kernel
theorem dX7_lotsWithParts_21 : decode cX7_lotsWithParts 21 = .ok (.aload_n 1, 1) := by decide +kernel
theorem dX7_lotsWithParts_22 : decode cX7_lotsWithParts 22 = .ok (.if_acmp .ne 18, 3) := by decide +kernel
theorem dX7_lotsWithParts_25 : decode cX7_lotsWithParts 25 = .ok (.aload_n 0, 1) := by decide +kernel
theorem dX7_lotsWithParts_26 : decode cX7_lotsWithParts 26 = .ok (.getfield 23, 3) := by decide +kernel
theorem dX7_lotsWithParts_29 : decode cX7_lotsWithParts 29 = .ok (.iload_n 3, 1) := by decide +kernel
theorem dX7_lotsWithParts_30 : decode cX7_lotsWithParts 30 = .ok (.aaload, 1) := by decide +kernel
theorem dX7_lotsWithParts_31 : decode cX7_lotsWithParts 31 = .ok (.getfield 165, 3) := by decide +kernel
theorem dX7_lotsWithParts_34 : decode cX7_lotsWithParts 34 = .ok (.ifCond .le 6, 3) := by decide +kernel
theorem dX7_lotsWithParts_37 : decode cX7_lotsWithParts 37 = .ok (.iinc 2 1, 3) := by decide +kernel
theorem dX7_lotsWithParts_40 : decode cX7_lotsWithParts 40 = .ok (.iinc 3 1, 3) := by decide +kernel
theorem dX7_lotsWithParts_43 : decode cX7_lotsWithParts 43 = .ok (.goto (-39), 3) := by decide +kernel
theorem dX7_lotsWithParts_46 : decode cX7_lotsWithParts 46 = .ok (.iload_n 2, 1) := by decide +kernel
theorem dX7_lotsWithParts_47 : decode cX7_lotsWithParts 47 = .ok (.ireturn, 1) := by decide +kernel
theorem dX7_flag_0 : decode cX7_flag 0 = .ok (.iload_n 0, 1) := by decide +kernel
theorem dX7_flag_1 : decode cX7_flag 1 = .ok (.ifCond .eq 7, 3) := by decide +kernel
theorem dX7_flag_4 : decode cX7_flag 4 = .ok (.iconst 1, 1) := by decide +kernel
theorem dX7_flag_5 : decode cX7_flag 5 = .ok (.goto 4, 3) := by decide +kernel
theorem dX7_flag_8 : decode cX7_flag 8 = .ok (.iconst 0, 1) := by decide +kernel
theorem dX7_flag_9 : decode cX7_flag 9 = .ok (.ireturn, 1) := by decide +kernel
theorem dX7_numberOf_0 : decode cX7_numberOf 0 = .ok (.aload_n 0, 1) := by decide +kernel
theorem dX7_numberOf_1 : decode cX7_numberOf 1 = .ok (.ifnonnull 7, 3) := by decide +kernel
theorem dX7_numberOf_4 : decode cX7_numberOf 4 = .ok (.iconst (-1), 1) := by decide +kernel
theorem dX7_numberOf_5 : decode cX7_numberOf 5 = .ok (.goto 7, 3) := by decide +kernel
theorem dX7_numberOf_8 : decode cX7_numberOf 8 = .ok (.aload_n 0, 1) := by decide +kernel
theorem dX7_numberOf_9 : decode cX7_numberOf 9 = .ok (.getfield 56, 3) := by decide +kernel
theorem dX7_numberOf_12 : decode cX7_numberOf 12 = .ok (.ireturn, 1) := by decide +kernel
theorem dJ6_bitCount_0f7a4_0 : decode cJ6_bitCount_0f7a4 0 = .ok (.iload_n 0, 1) := by decide +kernel
theorem dJ6_bitCount_0f7a4_1 : decode cJ6_bitCount_0f7a4 1 = .ok (.iload_n 0, 1) := by decide +kernel
theorem dJ6_bitCount_0f7a4_2 : decode cJ6_bitCount_0f7a4 2 = .ok (.iconst 1, 1) := by decide +kernel
theorem dJ6_bitCount_0f7a4_3 : decode cJ6_bitCount_0f7a4 3 = .ok (.iushr, 1) := by decide +kernel
theorem dJ6_bitCount_0f7a4_4 : decode cJ6_bitCount_0f7a4 4 = .ok (.ldc_w 265, 3) := by decide +kernel
theorem dJ6_bitCount_0f7a4_7 : decode cJ6_bitCount_0f7a4 7 = .ok (.iand, 1) := by decide +kernel
theorem dJ6_bitCount_0f7a4_8 : decode cJ6_bitCount_0f7a4 8 = .ok (.isub, 1) := by decide +kernel
theorem dJ6_bitCount_0f7a4_9 : decode cJ6_bitCount_0f7a4 9 = .ok (.istore_n 0, 1) := by decide +kernel
theorem dJ6_bitCount_0f7a4_10 : decode cJ6_bitCount_0f7a4 10 = .ok (.iload_n 0, 1) := by decide +kernel
theorem dJ6_bitCount_0f7a4_11 : decode cJ6_bitCount_0f7a4 11 = .ok (.ldc_w 266, 3) := by decide +kernel
theorem dJ6_bitCount_0f7a4_14 : decode cJ6_bitCount_0f7a4 14 = .ok (.iand, 1) := by decide +kernel
theorem dJ6_bitCount_0f7a4_15 : decode cJ6_bitCount_0f7a4 15 = .ok (.iload_n 0, 1) := by decide +kernel
theorem dJ6_bitCount_0f7a4_16 : decode cJ6_bitCount_0f7a4 16 = .ok (.iconst 2, 1) := by decide +kernel
theorem dJ6_bitCount_0f7a4_17 : decode cJ6_bitCount_0f7a4 17 = .ok (.iushr, 1) := by decide +kernel
theorem dJ6_bitCount_0f7a4_18 : decode cJ6_bitCount_0f7a4 18 = .ok (.ldc_w 266, 3) := by decide +kernel
theorem dJ6_bitCount_0f7a4_21 : decode cJ6_bitCount_0f7a4 21 = .ok (.iand, 1) := by decide +kernel
theorem dJ6_bitCount_0f7a4_22 : decode cJ6_bitCount_0f7a4 22 = .ok (.iadd, 1) := by decide +kernel
theorem dJ6_bitCount_0f7a4_23 : decode cJ6_bitCount_0f7a4 23 = .ok (.istore_n 0, 1) := by decide +kernel
theorem dJ6_bitCount_0f7a4_24 : decode cJ6_bitCount_0f7a4 24 = .ok (.iload_n 0, 1) := by decide +kernel
theorem dJ6_bitCount_0f7a4_25 : decode cJ6_bitCount_0f7a4 25 = .ok (.iload_n 0, 1) := by decide +kernel
theorem dJ6_bitCount_0f7a4_26 : decode cJ6_bitCount_0f7a4 26 = .ok (.iconst 4, 1) := by decide +kernel
theorem dJ6_bitCount_0f7a4_27 : decode cJ6_bitCount_0f7a4 27 = .ok (.iushr, 1) := by decide +kernel
theorem dJ6_bitCount_0f7a4_28 : decode cJ6_bitCount_0f7a4 28 = .ok (.iadd, 1) := by decide +kernel
theorem dJ6_bitCount_0f7a4_29 : decode cJ6_bitCount_0f7a4 29 = .ok (.ldc_w 267, 3) := by decide +kernel
theorem dJ6_bitCount_0f7a4_32 : decode cJ6_bitCount_0f7a4 32 = .ok (.iand, 1) := by decide +kernel
theorem dJ6_bitCount_0f7a4_33 : decode cJ6_bitCount_0f7a4 33 = .ok (.istore_n 0, 1) := by decide +kernel
theorem dJ6_bitCount_0f7a4_34 : decode cJ6_bitCount_0f7a4 34 = .ok (.iload_n 0, 1) := by decide +kernel
theorem dJ6_bitCount_0f7a4_35 : decode cJ6_bitCount_0f7a4 35 = .ok (.iload_n 0, 1) := by decide +kernel
theorem dJ6_bitCount_0f7a4_36 : decode cJ6_bitCount_0f7a4 36 = .ok (.bipush 8, 2) := by decide +kernel
theorem dJ6_bitCount_0f7a4_38 : decode cJ6_bitCount_0f7a4 38 = .ok (.iushr, 1) := by decide +kernel
theorem dJ6_bitCount_0f7a4_39 : decode cJ6_bitCount_0f7a4 39 = .ok (.iadd, 1) := by decide +kernel
theorem dJ6_bitCount_0f7a4_40 : decode cJ6_bitCount_0f7a4 40 = .ok (.istore_n 0, 1) := by decide +kernel
theorem dJ6_bitCount_0f7a4_41 : decode cJ6_bitCount_0f7a4 41 = .ok (.iload_n 0, 1) := by decide +kernel
theorem dJ6_bitCount_0f7a4_42 : decode cJ6_bitCount_0f7a4 42 = .ok (.iload_n 0, 1) := by decide +kernel
theorem dJ6_bitCount_0f7a4_43 : decode cJ6_bitCount_0f7a4 43 = .ok (.bipush 16, 2) := by decide +kernel
theorem dJ6_bitCount_0f7a4_45 : decode cJ6_bitCount_0f7a4 45 = .ok (.iushr, 1) := by decide +kernel
theorem dJ6_bitCount_0f7a4_46 : decode cJ6_bitCount_0f7a4 46 = .ok (.iadd, 1) := by decide +kernel
theorem dJ6_bitCount_0f7a4_47 : decode cJ6_bitCount_0f7a4 47 = .ok (.istore_n 0, 1) := by decide +kernel
theorem dJ6_bitCount_0f7a4_48 : decode cJ6_bitCount_0f7a4 48 = .ok (.iload_n 0, 1) := by decide +kernel
theorem dJ6_bitCount_0f7a4_49 : decode cJ6_bitCount_0f7a4 49 = .ok (.bipush 63, 2) := by decide +kernel
theorem dJ6_bitCount_0f7a4_51 : decode cJ6_bitCount_0f7a4 51 = .ok (.iand, 1) := by decide +kernel
theorem dJ6_bitCount_0f7a4_52 : decode cJ6_bitCount_0f7a4 52 = .ok (.ireturn, 1) := by decide +kernel
theorem dJ9_max_7cf53_0 : decode cJ9_max_7cf53 0 = .ok (.iload_n 0, 1) := by decide +kernel
theorem dJ9_max_7cf53_1 : decode cJ9_max_7cf53 1 = .ok (.iload_n 1, 1) := by decide +kernel
theorem dJ9_max_7cf53_2 : decode cJ9_max_7cf53 2 = .ok (.if_icmp .lt 7, 3) := by decide +kernel
theorem dJ9_max_7cf53_5 : decode cJ9_max_7cf53 5 = .ok (.iload_n 0, 1) := by decide +kernel
theorem dJ9_max_7cf53_6 : decode cJ9_max_7cf53 6 = .ok (.goto 4, 3) := by decide +kernel
theorem dJ9_max_7cf53_9 : decode cJ9_max_7cf53 9 = .ok (.iload_n 1, 1) := by decide +kernel
theorem dJ9_max_7cf53_10 : decode cJ9_max_7cf53 10 = .ok (.ireturn, 1) := by decide +kernel
theorem dL_cell_0 : decode cL_cell 0 = .ok (.iload_n 1, 1) := by decide +kernel
theorem dL_cell_1 : decode cL_cell 1 = .ok (.aload_n 0, 1) := by decide +kernel
theorem dL_cell_2 : decode cL_cell 2 = .ok (.arraylength, 1) := by decide +kernel
theorem dL_cell_3 : decode cL_cell 3 = .ok (.if_icmp .ge 9, 3) := by decide +kernel
theorem dL_cell_6 : decode cL_cell 6 = .ok (.aload_n 0, 1) := by decide +kernel
theorem dL_cell_7 : decode cL_cell 7 = .ok (.iload_n 1, 1) := by decide +kernel
theorem dL_cell_8 : decode cL_cell 8 = .ok (.iaload, 1) := by decide +kernel
theorem dL_cell_9 : decode cL_cell 9 = .ok (.goto 18, 3) := by decide +kernel
theorem dL_cell_12 : decode cL_cell 12 = .ok (.sipush 7919, 3) := by decide +kernel
theorem dL_cell_15 : decode cL_cell 15 = .ok (.iload_n 1, 1) := by decide +kernel
theorem dL_cell_16 : decode cL_cell 16 = .ok (.sipush 1987, 3) := by decide +kernel
theorem dL_cell_19 : decode cL_cell 19 = .ok (.iadd, 1) := by decide +kernel
theorem dL_cell_20 : decode cL_cell 20 = .ok (.imul, 1) := by decide +kernel
theorem dL_cell_21 : decode cL_cell 21 = .ok (.iload_n 1, 1) := by decide +kernel
theorem dL_cell_22 : decode cL_cell 22 = .ok (.sipush 4517, 3) := by decide +kernel
theorem dL_cell_25 : decode cL_cell 25 = .ok (.iadd, 1) := by decide +kernel
theorem dL_cell_26 : decode cL_cell 26 = .ok (.imul, 1) := by decide +kernel
theorem dL_cell_27 : decode cL_cell 27 = .ok (.ireturn, 1) := by decide +kernel
theorem dL_low_0 : decode cL_low 0 = .ok (.iload_n 0, 1) := by decide +kernel
theorem dL_low_1 : decode cL_low 1 = .ok (.ldc 7, 2) := by decide +kernel
theorem dL_low_3 : decode cL_low 3 = .ok (.iand, 1) := by decide +kernel
theorem dL_low_4 : decode cL_low 4 = .ok (.iload_n 1, 1) := by decide +kernel
theorem dL_low_5 : decode cL_low 5 = .ok (.irem, 1) := by decide +kernel
theorem dL_low_6 : decode cL_low 6 = .ok (.ireturn, 1) := by decide +kernel

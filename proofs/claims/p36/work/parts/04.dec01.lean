theorem dX7_sell_0 : decode cX7_sell 0 = .ok (.aload_n 0, 1) := by decide +kernel
theorem dX7_sell_1 : decode cX7_sell 1 = .ok (.iload_n 1, 1) := by decide +kernel
theorem dX7_sell_2 : decode cX7_sell 2 = .ok (.invokevirtual 141, 3) := by decide +kernel
theorem dX7_sell_5 : decode cX7_sell 5 = .ok (.astore 5, 2) := by decide +kernel
theorem dX7_sell_7 : decode cX7_sell 7 = .ok (.aload_n 0, 1) := by decide +kernel
theorem dX7_sell_8 : decode cX7_sell 8 = .ok (.iload_n 3, 1) := by decide +kernel
theorem dX7_sell_9 : decode cX7_sell 9 = .ok (.invokevirtual 59, 3) := by decide +kernel
theorem dX7_sell_12 : decode cX7_sell 12 = .ok (.astore 6, 2) := by decide +kernel
theorem dX7_sell_14 : decode cX7_sell 14 = .ok (.aload 5, 2) := by decide +kernel
theorem dX7_sell_16 : decode cX7_sell 16 = .ok (.iload_n 2, 1) := by decide +kernel
theorem dX7_sell_17 : decode cX7_sell 17 = .ok (.aload 6, 2) := by decide +kernel
theorem dX7_sell_19 : decode cX7_sell 19 = .ok (.iload 4, 2) := by decide +kernel
theorem dX7_sell_21 : decode cX7_sell 21 = .ok (.invokestatic 145, 3) := by decide +kernel
theorem dX7_sell_24 : decode cX7_sell 24 = .ok (.aload_n 0, 1) := by decide +kernel
theorem dX7_sell_25 : decode cX7_sell 25 = .ok (.aload 5, 2) := by decide +kernel
theorem dX7_sell_27 : decode cX7_sell 27 = .ok (.iload_n 2, 1) := by decide +kernel
theorem dX7_sell_28 : decode cX7_sell 28 = .ok (.aload 6, 2) := by decide +kernel
theorem dX7_sell_30 : decode cX7_sell 30 = .ok (.iload 4, 2) := by decide +kernel
theorem dX7_sell_32 : decode cX7_sell 32 = .ok (.invokevirtual 149, 3) := by decide +kernel
theorem dX7_sell_35 : decode cX7_sell 35 = .ok (.ifCond .ne 7, 3) := by decide +kernel
theorem dX7_sell_38 : decode cX7_sell 38 = .ok (.iconst 1, 1) := by decide +kernel
theorem dX7_sell_39 : decode cX7_sell 39 = .ok (.goto 4, 3) := by decide +kernel
theorem dX7_sell_42 : decode cX7_sell 42 = .ok (.iconst 0, 1) := by decide +kernel
theorem dX7_sell_43 : decode cX7_sell 43 = .ok (.invokestatic 50, 3) := by decide +kernel
theorem dX7_sell_46 : decode cX7_sell 46 = .ok (.aload_n 0, 1) := by decide +kernel
theorem dX7_sell_47 : decode cX7_sell 47 = .ok (.aload 5, 2) := by decide +kernel
theorem dX7_sell_49 : decode cX7_sell 49 = .ok (.iload_n 2, 1) := by decide +kernel
theorem dX7_sell_50 : decode cX7_sell 50 = .ok (.aload 6, 2) := by decide +kernel
theorem dX7_sell_52 : decode cX7_sell 52 = .ok (.iload 4, 2) := by decide +kernel
theorem dX7_sell_54 : decode cX7_sell 54 = .ok (.aload 5, 2) := by decide +kernel
theorem dX7_sell_56 : decode cX7_sell 56 = .ok (.getfield 153, 3) := by decide +kernel
theorem dX7_sell_59 : decode cX7_sell 59 = .ok (.iconst 0, 1) := by decide +kernel
theorem dX7_sell_60 : decode cX7_sell 60 = .ok (.invokevirtual 157, 3) := by decide +kernel
theorem dX7_sell_63 : decode cX7_sell 63 = .ok (.ireturn, 1) := by decide +kernel
theorem dX7_consign_0 : decode cX7_consign 0 = .ok (.aload_n 0, 1) := by decide +kernel
theorem dX7_consign_1 : decode cX7_consign 1 = .ok (.iload_n 1, 1) := by decide +kernel
theorem dX7_consign_2 : decode cX7_consign 2 = .ok (.invokevirtual 141, 3) := by decide +kernel
theorem dX7_consign_5 : decode cX7_consign 5 = .ok (.astore 6, 2) := by decide +kernel
theorem dX7_consign_7 : decode cX7_consign 7 = .ok (.aload_n 0, 1) := by decide +kernel
theorem dX7_consign_8 : decode cX7_consign 8 = .ok (.iload_n 2, 1) := by decide +kernel
theorem dX7_consign_9 : decode cX7_consign 9 = .ok (.invokevirtual 59, 3) := by decide +kernel
theorem dX7_consign_12 : decode cX7_consign 12 = .ok (.astore 7, 2) := by decide +kernel
theorem dX7_consign_14 : decode cX7_consign 14 = .ok (.iload_n 3, 1) := by decide +kernel
theorem dX7_consign_15 : decode cX7_consign 15 = .ok (.iconst 0, 1) := by decide +kernel
theorem dX7_consign_16 : decode cX7_consign 16 = .ok (.ldc 41, 2) := by decide +kernel
theorem dX7_consign_18 : decode cX7_consign 18 = .ok (.invokestatic 42, 3) := by decide +kernel
theorem dX7_consign_21 : decode cX7_consign 21 = .ok (.iload 4, 2) := by decide +kernel
theorem dX7_consign_23 : decode cX7_consign 23 = .ok (.iconst 0, 1) := by decide +kernel
theorem dX7_consign_24 : decode cX7_consign 24 = .ok (.bipush 50, 2) := by decide +kernel
theorem dX7_consign_26 : decode cX7_consign 26 = .ok (.invokestatic 42, 3) := by decide +kernel
theorem dX7_consign_29 : decode cX7_consign 29 = .ok (.iload 5, 2) := by decide +kernel
theorem dX7_consign_31 : decode cX7_consign 31 = .ok (.iconst 0, 1) := by decide +kernel
theorem dX7_consign_32 : decode cX7_consign 32 = .ok (.sipush 1000, 3) := by decide +kernel
theorem dX7_consign_35 : decode cX7_consign 35 = .ok (.invokestatic 42, 3) := by decide +kernel
theorem dX7_consign_38 : decode cX7_consign 38 = .ok (.aload 7, 2) := by decide +kernel
theorem dX7_consign_40 : decode cX7_consign 40 = .ok (.aload 6, 2) := by decide +kernel
theorem dX7_consign_42 : decode cX7_consign 42 = .ok (.getfield 153, 3) := by decide +kernel
theorem dX7_consign_45 : decode cX7_consign 45 = .ok (.invokestatic 161, 3) := by decide +kernel
theorem dX7_consign_48 : decode cX7_consign 48 = .ok (.aload 6, 2) := by decide +kernel
theorem dX7_consign_50 : decode cX7_consign 50 = .ok (.getfield 165, 3) := by decide +kernel
theorem dX7_consign_53 : decode cX7_consign 53 = .ok (.ifCond .le 15, 3) := by decide +kernel
theorem dX7_consign_56 : decode cX7_consign 56 = .ok (.aload 6, 2) := by decide +kernel
theorem dX7_consign_58 : decode cX7_consign 58 = .ok (.getfield 137, 3) := by decide +kernel
theorem dX7_consign_61 : decode cX7_consign 61 = .ok (.ifnonnull 7, 3) := by decide +kernel
theorem dX7_consign_64 : decode cX7_consign 64 = .ok (.iconst 1, 1) := by decide +kernel
theorem dX7_consign_65 : decode cX7_consign 65 = .ok (.goto 4, 3) := by decide +kernel
theorem dX7_consign_68 : decode cX7_consign 68 = .ok (.iconst 0, 1) := by decide +kernel
theorem dX7_consign_69 : decode cX7_consign 69 = .ok (.invokestatic 50, 3) := by decide +kernel
theorem dX7_consign_72 : decode cX7_consign 72 = .ok (.aload 6, 2) := by decide +kernel
theorem dX7_consign_74 : decode cX7_consign 74 = .ok (.getfield 153, 3) := by decide +kernel
theorem dX7_consign_77 : decode cX7_consign 77 = .ok (.getfield 130, 3) := by decide +kernel
theorem dX7_consign_80 : decode cX7_consign 80 = .ok (.ifCond .ne 15, 3) := by decide +kernel
theorem dX7_consign_83 : decode cX7_consign 83 = .ok (.aload 7, 2) := by decide +kernel
theorem dX7_consign_85 : decode cX7_consign 85 = .ok (.getfield 130, 3) := by decide +kernel
theorem dX7_consign_88 : decode cX7_consign 88 = .ok (.ifCond .ne 7, 3) := by decide +kernel
theorem dX7_consign_91 : decode cX7_consign 91 = .ok (.iconst 1, 1) := by decide +kernel
theorem dX7_consign_92 : decode cX7_consign 92 = .ok (.goto 4, 3) := by decide +kernel
theorem dX7_consign_95 : decode cX7_consign 95 = .ok (.iconst 0, 1) := by decide +kernel
theorem dX7_consign_96 : decode cX7_consign 96 = .ok (.invokestatic 50, 3) := by decide +kernel
theorem dX7_consign_99 : decode cX7_consign 99 = .ok (.aload 6, 2) := by decide +kernel
theorem dX7_consign_101 : decode cX7_consign 101 = .ok (.new 168, 3) := by decide +kernel
theorem dX7_consign_104 : decode cX7_consign 104 = .ok (.dup, 1) := by decide +kernel
theorem dX7_consign_105 : decode cX7_consign 105 = .ok (.aload 7, 2) := by decide +kernel
theorem dX7_consign_107 : decode cX7_consign 107 = .ok (.iload_n 3, 1) := by decide +kernel
theorem dX7_consign_108 : decode cX7_consign 108 = .ok (.iload 4, 2) := by decide +kernel
theorem dX7_consign_110 : decode cX7_consign 110 = .ok (.aload_n 0, 1) := by decide +kernel
theorem dX7_consign_111 : decode cX7_consign 111 = .ok (.getfield 87, 3) := by decide +kernel
theorem dX7_consign_114 : decode cX7_consign 114 = .ok (.iload 5, 2) := by decide +kernel
theorem dX7_consign_116 : decode cX7_consign 116 = .ok (.iadd, 1) := by decide +kernel
theorem dX7_consign_117 : decode cX7_consign 117 = .ok (.invokespecial 170, 3) := by decide +kernel
theorem dX7_consign_120 : decode cX7_consign 120 = .ok (.putfield 137, 3) := by decide +kernel
theorem dX7_consign_123 : decode cX7_consign 123 = .ok (.return_, 1) := by decide +kernel
theorem dX7_back_0 : decode cX7_back 0 = .ok (.aload_n 0, 1) := by decide +kernel
theorem dX7_back_1 : decode cX7_back 1 = .ok (.iload_n 1, 1) := by decide +kernel
theorem dX7_back_2 : decode cX7_back 2 = .ok (.invokevirtual 141, 3) := by decide +kernel
theorem dX7_back_5 : decode cX7_back 5 = .ok (.astore_n 2, 1) := by decide +kernel
theorem dX7_back_6 : decode cX7_back 6 = .ok (.aload_n 2, 1) := by decide +kernel
theorem dX7_back_7 : decode cX7_back 7 = .ok (.getfield 137, 3) := by decide +kernel
theorem dX7_back_10 : decode cX7_back 10 = .ok (.astore_n 3, 1) := by decide +kernel
theorem dX7_back_11 : decode cX7_back 11 = .ok (.aload_n 3, 1) := by decide +kernel
theorem dX7_back_12 : decode cX7_back 12 = .ok (.ifnonnull 13, 3) := by decide +kernel
theorem dX7_back_15 : decode cX7_back 15 = .ok (.new 173, 3) := by decide +kernel
theorem dX7_back_18 : decode cX7_back 18 = .ok (.dup, 1) := by decide +kernel
theorem dX7_back_19 : decode cX7_back 19 = .ok (.ldc 175, 2) := by decide +kernel
theorem dX7_back_21 : decode cX7_back 21 = .ok (.invokespecial 177, 3) := by decide +kernel
theorem dX7_back_24 : decode cX7_back 24 = .ok (.athrow, 1) := by decide +kernel
theorem dX7_back_25 : decode cX7_back 25 = .ok (.aload_n 0, 1) := by decide +kernel
theorem dX7_back_26 : decode cX7_back 26 = .ok (.getfield 87, 3) := by decide +kernel
theorem dX7_back_29 : decode cX7_back 29 = .ok (.aload_n 3, 1) := by decide +kernel
theorem dX7_back_30 : decode cX7_back 30 = .ok (.getfield 180, 3) := by decide +kernel
theorem dX7_back_33 : decode cX7_back 33 = .ok (.if_icmp .le 7, 3) := by decide +kernel
theorem dX7_back_36 : decode cX7_back 36 = .ok (.iconst 1, 1) := by decide +kernel
theorem dX7_back_37 : decode cX7_back 37 = .ok (.goto 4, 3) := by decide +kernel
theorem dX7_back_40 : decode cX7_back 40 = .ok (.iconst 0, 1) := by decide +kernel
theorem dX7_back_41 : decode cX7_back 41 = .ok (.invokestatic 50, 3) := by decide +kernel
theorem dX7_back_44 : decode cX7_back 44 = .ok (.aload_n 2, 1) := by decide +kernel
theorem dX7_back_45 : decode cX7_back 45 = .ok (.aconst_null, 1) := by decide +kernel
theorem dX7_back_46 : decode cX7_back 46 = .ok (.putfield 137, 3) := by decide +kernel
theorem dX7_back_49 : decode cX7_back 49 = .ok (.aload_n 3, 1) := by decide +kernel
theorem dX7_back_50 : decode cX7_back 50 = .ok (.getfield 183, 3) := by decide +kernel
theorem dX7_back_53 : decode cX7_back 53 = .ok (.getfield 56, 3) := by decide +kernel
theorem dX7_back_56 : decode cX7_back 56 = .ok (.ireturn, 1) := by decide +kernel
theorem dX7_deal_0 : decode cX7_deal 0 = .ok (.aload_n 0, 1) := by decide +kernel
theorem dX7_deal_1 : decode cX7_deal 1 = .ok (.iload_n 1, 1) := by decide +kernel
theorem dX7_deal_2 : decode cX7_deal 2 = .ok (.invokevirtual 141, 3) := by decide +kernel
theorem dX7_deal_5 : decode cX7_deal 5 = .ok (.astore 4, 2) := by decide +kernel
theorem dX7_deal_7 : decode cX7_deal 7 = .ok (.aload_n 0, 1) := by decide +kernel
theorem dX7_deal_8 : decode cX7_deal 8 = .ok (.iload_n 2, 1) := by decide +kernel
theorem dX7_deal_9 : decode cX7_deal 9 = .ok (.invokevirtual 59, 3) := by decide +kernel
theorem dX7_deal_12 : decode cX7_deal 12 = .ok (.astore 5, 2) := by decide +kernel
theorem dX7_deal_14 : decode cX7_deal 14 = .ok (.iload_n 3, 1) := by decide +kernel
theorem dX7_deal_15 : decode cX7_deal 15 = .ok (.iconst 0, 1) := by decide +kernel
theorem dX7_deal_16 : decode cX7_deal 16 = .ok (.ldc 41, 2) := by decide +kernel
theorem dX7_deal_18 : decode cX7_deal 18 = .ok (.invokestatic 42, 3) := by decide +kernel
theorem dX7_deal_21 : decode cX7_deal 21 = .ok (.aload 5, 2) := by decide +kernel
theorem dX7_deal_23 : decode cX7_deal 23 = .ok (.aload 4, 2) := by decide +kernel
theorem dX7_deal_25 : decode cX7_deal 25 = .ok (.getfield 153, 3) := by decide +kernel
theorem dX7_deal_28 : decode cX7_deal 28 = .ok (.invokestatic 161, 3) := by decide +kernel
theorem dX7_deal_31 : decode cX7_deal 31 = .ok (.aload 4, 2) := by decide +kernel
theorem dX7_deal_33 : decode cX7_deal 33 = .ok (.getfield 137, 3) := by decide +kernel
theorem dX7_deal_36 : decode cX7_deal 36 = .ok (.astore 6, 2) := by decide +kernel
theorem dX7_deal_38 : decode cX7_deal 38 = .ok (.aload 6, 2) := by decide +kernel
theorem dX7_deal_40 : decode cX7_deal 40 = .ok (.ifnonnull 13, 3) := by decide +kernel
theorem dX7_deal_43 : decode cX7_deal 43 = .ok (.new 173, 3) := by decide +kernel
theorem dX7_deal_46 : decode cX7_deal 46 = .ok (.dup, 1) := by decide +kernel
theorem dX7_deal_47 : decode cX7_deal 47 = .ok (.ldc 175, 2) := by decide +kernel
theorem dX7_deal_49 : decode cX7_deal 49 = .ok (.invokespecial 177, 3) := by decide +kernel
theorem dX7_deal_52 : decode cX7_deal 52 = .ok (.athrow, 1) := by decide +kernel
theorem dX7_deal_53 : decode cX7_deal 53 = .ok (.iload_n 3, 1) := by decide +kernel
theorem dX7_deal_54 : decode cX7_deal 54 = .ok (.aload 6, 2) := by decide +kernel
theorem dX7_deal_56 : decode cX7_deal 56 = .ok (.getfield 185, 3) := by decide +kernel
theorem dX7_deal_59 : decode cX7_deal 59 = .ok (.if_icmp .lt 19, 3) := by decide +kernel
theorem dX7_deal_62 : decode cX7_deal 62 = .ok (.aload_n 0, 1) := by decide +kernel
theorem dX7_deal_63 : decode cX7_deal 63 = .ok (.getfield 87, 3) := by decide +kernel
theorem dX7_deal_66 : decode cX7_deal 66 = .ok (.aload 6, 2) := by decide +kernel
theorem dX7_deal_68 : decode cX7_deal 68 = .ok (.getfield 180, 3) := by decide +kernel
theorem dX7_deal_71 : decode cX7_deal 71 = .ok (.if_icmp .gt 7, 3) := by decide +kernel
theorem dX7_deal_74 : decode cX7_deal 74 = .ok (.iconst 1, 1) := by decide +kernel
theorem dX7_deal_75 : decode cX7_deal 75 = .ok (.goto 4, 3) := by decide +kernel
theorem dX7_deal_78 : decode cX7_deal 78 = .ok (.iconst 0, 1) := by decide +kernel
theorem dX7_deal_79 : decode cX7_deal 79 = .ok (.invokestatic 50, 3) := by decide +kernel
theorem dX7_deal_82 : decode cX7_deal 82 = .ok (.aload_n 0, 1) := by decide +kernel
theorem dX7_deal_83 : decode cX7_deal 83 = .ok (.aload 4, 2) := by decide +kernel
theorem dX7_deal_85 : decode cX7_deal 85 = .ok (.aload 6, 2) := by decide +kernel
theorem dX7_deal_87 : decode cX7_deal 87 = .ok (.getfield 183, 3) := by decide +kernel
theorem dX7_deal_90 : decode cX7_deal 90 = .ok (.aload 5, 2) := by decide +kernel
theorem dX7_deal_92 : decode cX7_deal 92 = .ok (.iload_n 3, 1) := by decide +kernel
theorem dX7_deal_93 : decode cX7_deal 93 = .ok (.invokevirtual 188, 3) := by decide +kernel
theorem dX7_deal_96 : decode cX7_deal 96 = .ok (.ifCond .ne 7, 3) := by decide +kernel
theorem dX7_deal_99 : decode cX7_deal 99 = .ok (.iconst 1, 1) := by decide +kernel
theorem dX7_deal_100 : decode cX7_deal 100 = .ok (.goto 4, 3) := by decide +kernel
theorem dX7_deal_103 : decode cX7_deal 103 = .ok (.iconst 0, 1) := by decide +kernel
theorem dX7_deal_104 : decode cX7_deal 104 = .ok (.invokestatic 50, 3) := by decide +kernel
theorem dX7_deal_107 : decode cX7_deal 107 = .ok (.aload 4, 2) := by decide +kernel
theorem dX7_deal_109 : decode cX7_deal 109 = .ok (.aconst_null, 1) := by decide +kernel
theorem dX7_deal_110 : decode cX7_deal 110 = .ok (.putfield 137, 3) := by decide +kernel
theorem dX7_deal_113 : decode cX7_deal 113 = .ok (.iload_n 3, 1) := by decide +kernel
theorem dX7_deal_114 : decode cX7_deal 114 = .ok (.aload 6, 2) := by decide +kernel
theorem dX7_deal_116 : decode cX7_deal 116 = .ok (.getfield 192, 3) := by decide +kernel
theorem dX7_deal_119 : decode cX7_deal 119 = .ok (.imul, 1) := by decide +kernel
theorem dX7_deal_120 : decode cX7_deal 120 = .ok (.bipush 100, 2) := by decide +kernel
theorem dX7_deal_122 : decode cX7_deal 122 = .ok (.idiv, 1) := by decide +kernel
theorem dX7_deal_123 : decode cX7_deal 123 = .ok (.istore 7, 2) := by decide +kernel
theorem dX7_deal_125 : decode cX7_deal 125 = .ok (.aload_n 0, 1) := by decide +kernel
theorem dX7_deal_126 : decode cX7_deal 126 = .ok (.aload 4, 2) := by decide +kernel
theorem dX7_deal_128 : decode cX7_deal 128 = .ok (.aload 4, 2) := by decide +kernel
theorem dX7_deal_130 : decode cX7_deal 130 = .ok (.getfield 165, 3) := by decide +kernel
theorem dX7_deal_133 : decode cX7_deal 133 = .ok (.aload 5, 2) := by decide +kernel
theorem dX7_deal_135 : decode cX7_deal 135 = .ok (.iload_n 3, 1) := by decide +kernel
theorem dX7_deal_136 : decode cX7_deal 136 = .ok (.aload 6, 2) := by decide +kernel
theorem dX7_deal_138 : decode cX7_deal 138 = .ok (.getfield 183, 3) := by decide +kernel
theorem dX7_deal_141 : decode cX7_deal 141 = .ok (.iload 7, 2) := by decide +kernel
theorem dX7_deal_143 : decode cX7_deal 143 = .ok (.invokevirtual 157, 3) := by decide +kernel
theorem dX7_deal_146 : decode cX7_deal 146 = .ok (.ireturn, 1) := by decide +kernel
theorem dX7_tell_0 : decode cX7_tell 0 = .ok (.aload_n 0, 1) := by decide +kernel
theorem dX7_tell_1 : decode cX7_tell 1 = .ok (.iload_n 1, 1) := by decide +kernel
theorem dX7_tell_2 : decode cX7_tell 2 = .ok (.invokevirtual 141, 3) := by decide +kernel
theorem dX7_tell_5 : decode cX7_tell 5 = .ok (.getfield 195, 3) := by decide +kernel
theorem dX7_tell_8 : decode cX7_tell 8 = .ok (.astore 4, 2) := by decide +kernel
theorem dX7_tell_10 : decode cX7_tell 10 = .ok (.aload_n 0, 1) := by decide +kernel
theorem dX7_tell_11 : decode cX7_tell 11 = .ok (.iload_n 2, 1) := by decide +kernel
theorem dX7_tell_12 : decode cX7_tell 12 = .ok (.invokevirtual 59, 3) := by decide +kernel
theorem dX7_tell_15 : decode cX7_tell 15 = .ok (.astore 5, 2) := by decide +kernel
theorem dX7_tell_17 : decode cX7_tell 17 = .ok (.aload_n 0, 1) := by decide +kernel
theorem dX7_tell_18 : decode cX7_tell 18 = .ok (.iload_n 3, 1) := by decide +kernel
theorem dX7_tell_19 : decode cX7_tell 19 = .ok (.invokevirtual 59, 3) := by decide +kernel
theorem dX7_tell_22 : decode cX7_tell 22 = .ok (.astore 6, 2) := by decide +kernel
theorem dX7_tell_24 : decode cX7_tell 24 = .ok (.aload 4, 2) := by decide +kernel
theorem dX7_tell_26 : decode cX7_tell 26 = .ok (.ifnonnull 13, 3) := by decide +kernel
theorem dX7_tell_29 : decode cX7_tell 29 = .ok (.new 173, 3) := by decide +kernel
theorem dX7_tell_32 : decode cX7_tell 32 = .ok (.dup, 1) := by decide +kernel
theorem dX7_tell_33 : decode cX7_tell 33 = .ok (.ldc 199, 2) := by decide +kernel
theorem dX7_tell_35 : decode cX7_tell 35 = .ok (.invokespecial 177, 3) := by decide +kernel
theorem dX7_tell_38 : decode cX7_tell 38 = .ok (.athrow, 1) := by decide +kernel
theorem dX7_tell_39 : decode cX7_tell 39 = .ok (.aload 4, 2) := by decide +kernel
theorem dX7_tell_41 : decode cX7_tell 41 = .ok (.aload 5, 2) := by decide +kernel
theorem dX7_tell_43 : decode cX7_tell 43 = .ok (.invokevirtual 201, 3) := by decide +kernel
theorem dX7_tell_46 : decode cX7_tell 46 = .ok (.invokestatic 50, 3) := by decide +kernel
theorem dX7_tell_49 : decode cX7_tell 49 = .ok (.aload 4, 2) := by decide +kernel
theorem dX7_tell_51 : decode cX7_tell 51 = .ok (.aload 6, 2) := by decide +kernel
theorem dX7_tell_53 : decode cX7_tell 53 = .ok (.invokevirtual 201, 3) := by decide +kernel
theorem dX7_tell_56 : decode cX7_tell 56 = .ok (.istore 7, 2) := by decide +kernel
theorem dX7_tell_58 : decode cX7_tell 58 = .ok (.aload 4, 2) := by decide +kernel
theorem dX7_tell_60 : decode cX7_tell 60 = .ok (.aload 6, 2) := by decide +kernel
theorem dX7_tell_62 : decode cX7_tell 62 = .ok (.invokevirtual 207, 3) := by decide +kernel
theorem dX7_tell_65 : decode cX7_tell 65 = .ok (.iload 7, 2) := by decide +kernel
theorem dX7_tell_67 : decode cX7_tell 67 = .ok (.ireturn, 1) := by decide +kernel
theorem dX7_restore_0 : decode cX7_restore 0 = .ok (.aload_n 0, 1) := by decide +kernel
theorem dX7_restore_1 : decode cX7_restore 1 = .ok (.iload_n 1, 1) := by decide +kernel
theorem dX7_restore_2 : decode cX7_restore 2 = .ok (.invokevirtual 141, 3) := by decide +kernel
theorem dX7_restore_5 : decode cX7_restore 5 = .ok (.astore_n 3, 1) := by decide +kernel
theorem dX7_restore_6 : decode cX7_restore 6 = .ok (.aload_n 0, 1) := by decide +kernel
theorem dX7_restore_7 : decode cX7_restore 7 = .ok (.iload_n 2, 1) := by decide +kernel
theorem dX7_restore_8 : decode cX7_restore 8 = .ok (.invokevirtual 59, 3) := by decide +kernel
theorem dX7_restore_11 : decode cX7_restore 11 = .ok (.astore 4, 2) := by decide +kernel
theorem dX7_restore_13 : decode cX7_restore 13 = .ok (.aload_n 3, 1) := by decide +kernel
theorem dX7_restore_14 : decode cX7_restore 14 = .ok (.getfield 165, 3) := by decide +kernel
theorem dX7_restore_17 : decode cX7_restore 17 = .ok (.ifCond .le 22, 3) := by decide +kernel
theorem dX7_restore_20 : decode cX7_restore 20 = .ok (.aload 4, 2) := by decide +kernel
theorem dX7_restore_22 : decode cX7_restore 22 = .ok (.getfield 130, 3) := by decide +kernel
theorem dX7_restore_25 : decode cX7_restore 25 = .ok (.ifCond .ne 14, 3) := by decide +kernel
theorem dX7_restore_28 : decode cX7_restore 28 = .ok (.aload_n 3, 1) := by decide +kernel
theorem dX7_restore_29 : decode cX7_restore 29 = .ok (.invokestatic 211, 3) := by decide +kernel
theorem dX7_restore_32 : decode cX7_restore 32 = .ok (.ifCond .eq 7, 3) := by decide +kernel
theorem dX7_restore_35 : decode cX7_restore 35 = .ok (.iconst 1, 1) := by decide +kernel
theorem dX7_restore_36 : decode cX7_restore 36 = .ok (.goto 4, 3) := by decide +kernel
theorem dX7_restore_39 : decode cX7_restore 39 = .ok (.iconst 0, 1) := by decide +kernel
theorem dX7_restore_40 : decode cX7_restore 40 = .ok (.invokestatic 50, 3) := by decide +kernel
theorem dX7_restore_43 : decode cX7_restore 43 = .ok (.aload_n 3, 1) := by decide +kernel
theorem dX7_restore_44 : decode cX7_restore 44 = .ok (.getfield 153, 3) := by decide +kernel
theorem dX7_restore_47 : decode cX7_restore 47 = .ok (.astore 5, 2) := by decide +kernel
theorem dX7_restore_49 : decode cX7_restore 49 = .ok (.aload_n 3, 1) := by decide +kernel
theorem dX7_restore_50 : decode cX7_restore 50 = .ok (.aload 4, 2) := by decide +kernel
theorem dX7_restore_52 : decode cX7_restore 52 = .ok (.invokevirtual 215, 3) := by decide +kernel
theorem dX7_restore_55 : decode cX7_restore 55 = .ok (.aload 5, 2) := by decide +kernel
theorem dX7_restore_57 : decode cX7_restore 57 = .ok (.getfield 56, 3) := by decide +kernel
theorem dX7_restore_60 : decode cX7_restore 60 = .ok (.ireturn, 1) := by decide +kernel
theorem dX7_lend_0 : decode cX7_lend 0 = .ok (.aload_n 0, 1) := by decide +kernel
theorem dX7_lend_1 : decode cX7_lend 1 = .ok (.iload_n 1, 1) := by decide +kernel
theorem dX7_lend_2 : decode cX7_lend 2 = .ok (.invokevirtual 141, 3) := by decide +kernel
theorem dX7_lend_5 : decode cX7_lend 5 = .ok (.astore 6, 2) := by decide +kernel
theorem dX7_lend_7 : decode cX7_lend 7 = .ok (.aload_n 0, 1) := by decide +kernel
theorem dX7_lend_8 : decode cX7_lend 8 = .ok (.iload_n 2, 1) := by decide +kernel
theorem dX7_lend_9 : decode cX7_lend 9 = .ok (.invokevirtual 59, 3) := by decide +kernel
theorem dX7_lend_12 : decode cX7_lend 12 = .ok (.astore 7, 2) := by decide +kernel
theorem dX7_lend_14 : decode cX7_lend 14 = .ok (.aload 6, 2) := by decide +kernel
theorem dX7_lend_16 : decode cX7_lend 16 = .ok (.getfield 153, 3) := by decide +kernel
theorem dX7_lend_19 : decode cX7_lend 19 = .ok (.astore 8, 2) := by decide +kernel
theorem dX7_lend_21 : decode cX7_lend 21 = .ok (.iload_n 3, 1) := by decide +kernel
theorem dX7_lend_22 : decode cX7_lend 22 = .ok (.iconst 1, 1) := by decide +kernel
theorem dX7_lend_23 : decode cX7_lend 23 = .ok (.ldc 41, 2) := by decide +kernel
theorem dX7_lend_25 : decode cX7_lend 25 = .ok (.invokestatic 42, 3) := by decide +kernel
theorem dX7_lend_28 : decode cX7_lend 28 = .ok (.iload 4, 2) := by decide +kernel
theorem dX7_lend_30 : decode cX7_lend 30 = .ok (.iconst 0, 1) := by decide +kernel
theorem dX7_lend_31 : decode cX7_lend 31 = .ok (.bipush 100, 2) := by decide +kernel
theorem dX7_lend_33 : decode cX7_lend 33 = .ok (.invokestatic 42, 3) := by decide +kernel
theorem dX7_lend_36 : decode cX7_lend 36 = .ok (.iload 5, 2) := by decide +kernel
theorem dX7_lend_38 : decode cX7_lend 38 = .ok (.iconst 1, 1) := by decide +kernel
theorem dX7_lend_39 : decode cX7_lend 39 = .ok (.sipush 1000, 3) := by decide +kernel
theorem dX7_lend_42 : decode cX7_lend 42 = .ok (.invokestatic 42, 3) := by decide +kernel
theorem dX7_lend_45 : decode cX7_lend 45 = .ok (.aload 7, 2) := by decide +kernel
theorem dX7_lend_47 : decode cX7_lend 47 = .ok (.aload 8, 2) := by decide +kernel
theorem dX7_lend_49 : decode cX7_lend 49 = .ok (.invokestatic 161, 3) := by decide +kernel
theorem dX7_lend_52 : decode cX7_lend 52 = .ok (.aload 6, 2) := by decide +kernel
theorem dX7_lend_54 : decode cX7_lend 54 = .ok (.getfield 218, 3) := by decide +kernel
theorem dX7_lend_57 : decode cX7_lend 57 = .ok (.ifnonnull 15, 3) := by decide +kernel
theorem dX7_lend_60 : decode cX7_lend 60 = .ok (.aload 6, 2) := by decide +kernel
theorem dX7_lend_62 : decode cX7_lend 62 = .ok (.getfield 137, 3) := by decide +kernel
theorem dX7_lend_65 : decode cX7_lend 65 = .ok (.ifnonnull 7, 3) := by decide +kernel
theorem dX7_lend_68 : decode cX7_lend 68 = .ok (.iconst 1, 1) := by decide +kernel
theorem dX7_lend_69 : decode cX7_lend 69 = .ok (.goto 4, 3) := by decide +kernel
theorem dX7_lend_72 : decode cX7_lend 72 = .ok (.iconst 0, 1) := by decide +kernel
theorem dX7_lend_73 : decode cX7_lend 73 = .ok (.invokestatic 50, 3) := by decide +kernel
theorem dX7_lend_76 : decode cX7_lend 76 = .ok (.aload 8, 2) := by decide +kernel
theorem dX7_lend_78 : decode cX7_lend 78 = .ok (.getfield 130, 3) := by decide +kernel
theorem dX7_lend_81 : decode cX7_lend 81 = .ok (.ifCond .ne 24, 3) := by decide +kernel
theorem dX7_lend_84 : decode cX7_lend 84 = .ok (.aload 7, 2) := by decide +kernel
theorem dX7_lend_86 : decode cX7_lend 86 = .ok (.getfield 130, 3) := by decide +kernel
theorem dX7_lend_89 : decode cX7_lend 89 = .ok (.ifCond .ne 16, 3) := by decide +kernel
theorem dX7_lend_92 : decode cX7_lend 92 = .ok (.aload 7, 2) := by decide +kernel
theorem dX7_lend_94 : decode cX7_lend 94 = .ok (.getfield 222, 3) := by decide +kernel
theorem dX7_lend_97 : decode cX7_lend 97 = .ok (.iload_n 3, 1) := by decide +kernel
theorem dX7_lend_98 : decode cX7_lend 98 = .ok (.if_icmp .lt 7, 3) := by decide +kernel
theorem dX7_lend_101 : decode cX7_lend 101 = .ok (.iconst 1, 1) := by decide +kernel
theorem dX7_lend_102 : decode cX7_lend 102 = .ok (.goto 4, 3) := by decide +kernel
theorem dX7_lend_105 : decode cX7_lend 105 = .ok (.iconst 0, 1) := by decide +kernel
theorem dX7_lend_106 : decode cX7_lend 106 = .ok (.invokestatic 50, 3) := by decide +kernel
theorem dX7_lend_109 : decode cX7_lend 109 = .ok (.iconst 2, 1) := by decide +kernel
theorem dX7_lend_110 : decode cX7_lend 110 = .ok (.iload_n 3, 1) := by decide +kernel
theorem dX7_lend_111 : decode cX7_lend 111 = .ok (.imul, 1) := by decide +kernel
theorem dX7_lend_112 : decode cX7_lend 112 = .ok (.aload 6, 2) := by decide +kernel
theorem dX7_lend_114 : decode cX7_lend 114 = .ok (.aload_n 0, 1) := by decide +kernel
theorem dX7_lend_115 : decode cX7_lend 115 = .ok (.getfield 87, 3) := by decide +kernel
theorem dX7_lend_118 : decode cX7_lend 118 = .ok (.invokevirtual 225, 3) := by decide +kernel
theorem dX7_lend_121 : decode cX7_lend 121 = .ok (.if_icmp .gt 16, 3) := by decide +kernel
theorem dX7_lend_124 : decode cX7_lend 124 = .ok (.aload_n 0, 1) := by decide +kernel
theorem dX7_lend_125 : decode cX7_lend 125 = .ok (.getfield 228, 3) := by decide +kernel
theorem dX7_lend_128 : decode cX7_lend 128 = .ok (.bipush 20, 2) := by decide +kernel
theorem dX7_lend_130 : decode cX7_lend 130 = .ok (.if_icmp .ge 7, 3) := by decide +kernel
theorem dX7_lend_133 : decode cX7_lend 133 = .ok (.iconst 1, 1) := by decide +kernel
theorem dX7_lend_134 : decode cX7_lend 134 = .ok (.goto 4, 3) := by decide +kernel
theorem dX7_lend_137 : decode cX7_lend 137 = .ok (.iconst 0, 1) := by decide +kernel
theorem dX7_lend_138 : decode cX7_lend 138 = .ok (.invokestatic 50, 3) := by decide +kernel
theorem dX7_lend_141 : decode cX7_lend 141 = .ok (.new 27, 3) := by decide +kernel
theorem dX7_lend_144 : decode cX7_lend 144 = .ok (.dup, 1) := by decide +kernel
theorem dX7_lend_145 : decode cX7_lend 145 = .ok (.aload_n 0, 1) := by decide +kernel
theorem dX7_lend_146 : decode cX7_lend 146 = .ok (.getfield 228, 3) := by decide +kernel
theorem dX7_lend_149 : decode cX7_lend 149 = .ok (.aload 8, 2) := by decide +kernel
theorem dX7_lend_151 : decode cX7_lend 151 = .ok (.aload 7, 2) := by decide +kernel
theorem dX7_lend_153 : decode cX7_lend 153 = .ok (.iload_n 3, 1) := by decide +kernel
theorem dX7_lend_154 : decode cX7_lend 154 = .ok (.iload 4, 2) := by decide +kernel
theorem dX7_lend_156 : decode cX7_lend 156 = .ok (.aload_n 0, 1) := by decide +kernel
theorem dX7_lend_157 : decode cX7_lend 157 = .ok (.getfield 87, 3) := by decide +kernel
theorem dX7_lend_160 : decode cX7_lend 160 = .ok (.aload_n 0, 1) := by decide +kernel
theorem dX7_lend_161 : decode cX7_lend 161 = .ok (.getfield 87, 3) := by decide +kernel
theorem dX7_lend_164 : decode cX7_lend 164 = .ok (.iload 5, 2) := by decide +kernel
theorem dX7_lend_166 : decode cX7_lend 166 = .ok (.iadd, 1) := by decide +kernel
theorem dX7_lend_167 : decode cX7_lend 167 = .ok (.invokespecial 231, 3) := by decide +kernel
theorem dX7_lend_170 : decode cX7_lend 170 = .ok (.astore 9, 2) := by decide +kernel
theorem dX7_lend_172 : decode cX7_lend 172 = .ok (.aload_n 0, 1) := by decide +kernel
theorem dX7_lend_173 : decode cX7_lend 173 = .ok (.getfield 29, 3) := by decide +kernel
theorem dX7_lend_176 : decode cX7_lend 176 = .ok (.aload_n 0, 1) := by decide +kernel
theorem dX7_lend_177 : decode cX7_lend 177 = .ok (.getfield 228, 3) := by decide +kernel
theorem dX7_lend_180 : decode cX7_lend 180 = .ok (.aload 9, 2) := by decide +kernel
theorem dX7_lend_182 : decode cX7_lend 182 = .ok (.aastore, 1) := by decide +kernel
theorem dX7_lend_183 : decode cX7_lend 183 = .ok (.aload_n 0, 1) := by decide +kernel
theorem dX7_lend_184 : decode cX7_lend 184 = .ok (.dup, 1) := by decide +kernel
theorem dX7_lend_185 : decode cX7_lend 185 = .ok (.getfield 228, 3) := by decide +kernel
theorem dX7_lend_188 : decode cX7_lend 188 = .ok (.iconst 1, 1) := by decide +kernel
theorem dX7_lend_189 : decode cX7_lend 189 = .ok (.iadd, 1) := by decide +kernel
theorem dX7_lend_190 : decode cX7_lend 190 = .ok (.putfield 228, 3) := by decide +kernel
theorem dX7_lend_193 : decode cX7_lend 193 = .ok (.aload 6, 2) := by decide +kernel
theorem dX7_lend_195 : decode cX7_lend 195 = .ok (.aload 9, 2) := by decide +kernel
theorem dX7_lend_197 : decode cX7_lend 197 = .ok (.putfield 218, 3) := by decide +kernel
theorem dX7_lend_200 : decode cX7_lend 200 = .ok (.aload 7, 2) := by decide +kernel
theorem dX7_lend_202 : decode cX7_lend 202 = .ok (.aload 8, 2) := by decide +kernel
theorem dX7_lend_204 : decode cX7_lend 204 = .ok (.iload_n 3, 1) := by decide +kernel
theorem dX7_lend_205 : decode cX7_lend 205 = .ok (.invokestatic 234, 3) := by decide +kernel
theorem dX7_lend_208 : decode cX7_lend 208 = .ok (.aload 9, 2) := by decide +kernel
theorem dX7_lend_210 : decode cX7_lend 210 = .ok (.getfield 238, 3) := by decide +kernel
theorem dX7_lend_213 : decode cX7_lend 213 = .ok (.ireturn, 1) := by decide +kernel
theorem dX7_repay_0 : decode cX7_repay 0 = .ok (.aload_n 0, 1) := by decide +kernel
theorem dX7_repay_1 : decode cX7_repay 1 = .ok (.iload_n 1, 1) := by decide +kernel
theorem dX7_repay_2 : decode cX7_repay 2 = .ok (.invokevirtual 239, 3) := by decide +kernel
theorem dX7_repay_5 : decode cX7_repay 5 = .ok (.astore_n 2, 1) := by decide +kernel
theorem dX7_repay_6 : decode cX7_repay 6 = .ok (.aload_n 2, 1) := by decide +kernel
theorem dX7_repay_7 : decode cX7_repay 7 = .ok (.aload_n 0, 1) := by decide +kernel
theorem dX7_repay_8 : decode cX7_repay 8 = .ok (.getfield 87, 3) := by decide +kernel
theorem dX7_repay_11 : decode cX7_repay 11 = .ok (.invokevirtual 243, 3) := by decide +kernel
theorem dX7_repay_14 : decode cX7_repay 14 = .ok (.istore_n 3, 1) := by decide +kernel
theorem dX7_repay_15 : decode cX7_repay 15 = .ok (.aload_n 2, 1) := by decide +kernel
theorem dX7_repay_16 : decode cX7_repay 16 = .ok (.getfield 246, 3) := by decide +kernel
theorem dX7_repay_19 : decode cX7_repay 19 = .ok (.ifCond .ne 28, 3) := by decide +kernel
theorem dX7_repay_22 : decode cX7_repay 22 = .ok (.aload_n 2, 1) := by decide +kernel
theorem dX7_repay_23 : decode cX7_repay 23 = .ok (.getfield 249, 3) := by decide +kernel
theorem dX7_repay_26 : decode cX7_repay 26 = .ok (.getfield 130, 3) := by decide +kernel
theorem dX7_repay_29 : decode cX7_repay 29 = .ok (.ifCond .ne 18, 3) := by decide +kernel
theorem dX7_repay_32 : decode cX7_repay 32 = .ok (.aload_n 2, 1) := by decide +kernel
theorem dX7_repay_33 : decode cX7_repay 33 = .ok (.getfield 249, 3) := by decide +kernel
theorem dX7_repay_36 : decode cX7_repay 36 = .ok (.getfield 222, 3) := by decide +kernel
theorem dX7_repay_39 : decode cX7_repay 39 = .ok (.iload_n 3, 1) := by decide +kernel
theorem dX7_repay_40 : decode cX7_repay 40 = .ok (.if_icmp .lt 7, 3) := by decide +kernel
theorem dX7_repay_43 : decode cX7_repay 43 = .ok (.iconst 1, 1) := by decide +kernel
theorem dX7_repay_44 : decode cX7_repay 44 = .ok (.goto 4, 3) := by decide +kernel
theorem dX7_repay_47 : decode cX7_repay 47 = .ok (.iconst 0, 1) := by decide +kernel
theorem dX7_repay_48 : decode cX7_repay 48 = .ok (.invokestatic 50, 3) := by decide +kernel
theorem dX7_repay_51 : decode cX7_repay 51 = .ok (.aload_n 2, 1) := by decide +kernel
theorem dX7_repay_52 : decode cX7_repay 52 = .ok (.getfield 249, 3) := by decide +kernel
theorem dX7_repay_55 : decode cX7_repay 55 = .ok (.aload_n 2, 1) := by decide +kernel
theorem dX7_repay_56 : decode cX7_repay 56 = .ok (.getfield 252, 3) := by decide +kernel
theorem dX7_repay_59 : decode cX7_repay 59 = .ok (.iload_n 3, 1) := by decide +kernel
theorem dX7_repay_60 : decode cX7_repay 60 = .ok (.invokestatic 234, 3) := by decide +kernel
theorem dX7_repay_63 : decode cX7_repay 63 = .ok (.aload_n 0, 1) := by decide +kernel
theorem dX7_repay_64 : decode cX7_repay 64 = .ok (.aload_n 2, 1) := by decide +kernel
theorem dX7_repay_65 : decode cX7_repay 65 = .ok (.invokevirtual 255, 3) := by decide +kernel
theorem dX7_repay_68 : decode cX7_repay 68 = .ok (.pop, 1) := by decide +kernel
theorem dX7_repay_69 : decode cX7_repay 69 = .ok (.iload_n 3, 1) := by decide +kernel
theorem dX7_repay_70 : decode cX7_repay 70 = .ok (.ireturn, 1) := by decide +kernel
theorem dX7_seize_0 : decode cX7_seize 0 = .ok (.aload_n 0, 1) := by decide +kernel
theorem dX7_seize_1 : decode cX7_seize 1 = .ok (.iload_n 1, 1) := by decide +kernel
theorem dX7_seize_2 : decode cX7_seize 2 = .ok (.invokevirtual 239, 3) := by decide +kernel
theorem dX7_seize_5 : decode cX7_seize 5 = .ok (.astore_n 2, 1) := by decide +kernel
theorem dX7_seize_6 : decode cX7_seize 6 = .ok (.aload_n 2, 1) := by decide +kernel
theorem dX7_seize_7 : decode cX7_seize 7 = .ok (.getfield 252, 3) := by decide +kernel
theorem dX7_seize_10 : decode cX7_seize 10 = .ok (.getfield 130, 3) := by decide +kernel
theorem dX7_seize_13 : decode cX7_seize 13 = .ok (.ifCond .ne 15, 3) := by decide +kernel
theorem dX7_seize_16 : decode cX7_seize 16 = .ok (.aload_n 0, 1) := by decide +kernel
theorem dX7_seize_17 : decode cX7_seize 17 = .ok (.aload_n 2, 1) := by decide +kernel
theorem dX7_seize_18 : decode cX7_seize 18 = .ok (.invokevirtual 259, 3) := by decide +kernel
theorem dX7_seize_21 : decode cX7_seize 21 = .ok (.ifCond .eq 7, 3) := by decide +kernel
theorem dX7_seize_24 : decode cX7_seize 24 = .ok (.iconst 1, 1) := by decide +kernel
theorem dX7_seize_25 : decode cX7_seize 25 = .ok (.goto 4, 3) := by decide +kernel
theorem dX7_seize_28 : decode cX7_seize 28 = .ok (.iconst 0, 1) := by decide +kernel
theorem dX7_seize_29 : decode cX7_seize 29 = .ok (.invokestatic 50, 3) := by decide +kernel
theorem dX7_seize_32 : decode cX7_seize 32 = .ok (.iconst 0, 1) := by decide +kernel
theorem dX7_seize_33 : decode cX7_seize 33 = .ok (.istore_n 3, 1) := by decide +kernel
theorem dX7_seize_34 : decode cX7_seize 34 = .ok (.iload_n 3, 1) := by decide +kernel
theorem dX7_seize_35 : decode cX7_seize 35 = .ok (.aload_n 0, 1) := by decide +kernel
theorem dX7_seize_36 : decode cX7_seize 36 = .ok (.getfield 66, 3) := by decide +kernel
theorem dX7_seize_39 : decode cX7_seize 39 = .ok (.if_icmp .ge 35, 3) := by decide +kernel
theorem dX7_seize_42 : decode cX7_seize 42 = .ok (.aload_n 0, 1) := by decide +kernel
theorem dX7_seize_43 : decode cX7_seize 43 = .ok (.getfield 23, 3) := by decide +kernel
theorem dX7_seize_46 : decode cX7_seize 46 = .ok (.iload_n 3, 1) := by decide +kernel
theorem dX7_seize_47 : decode cX7_seize 47 = .ok (.aaload, 1) := by decide +kernel
theorem dX7_seize_48 : decode cX7_seize 48 = .ok (.getfield 218, 3) := by decide +kernel
theorem dX7_seize_51 : decode cX7_seize 51 = .ok (.aload_n 2, 1) := by decide +kernel
theorem dX7_seize_52 : decode cX7_seize 52 = .ok (.if_acmp .ne 16, 3) := by decide +kernel
theorem dX7_seize_55 : decode cX7_seize 55 = .ok (.aload_n 0, 1) := by decide +kernel
theorem dX7_seize_56 : decode cX7_seize 56 = .ok (.getfield 23, 3) := by decide +kernel
theorem dX7_seize_59 : decode cX7_seize 59 = .ok (.iload_n 3, 1) := by decide +kernel
theorem dX7_seize_60 : decode cX7_seize 60 = .ok (.aaload, 1) := by decide +kernel
theorem dX7_seize_61 : decode cX7_seize 61 = .ok (.aload_n 2, 1) := by decide +kernel
theorem dX7_seize_62 : decode cX7_seize 62 = .ok (.getfield 252, 3) := by decide +kernel
theorem dX7_seize_65 : decode cX7_seize 65 = .ok (.invokevirtual 215, 3) := by decide +kernel
theorem dX7_seize_68 : decode cX7_seize 68 = .ok (.iinc 3 1, 3) := by decide +kernel
theorem dX7_seize_71 : decode cX7_seize 71 = .ok (.goto (-37), 3) := by decide +kernel
theorem dX7_seize_74 : decode cX7_seize 74 = .ok (.aload_n 0, 1) := by decide +kernel
theorem dX7_seize_75 : decode cX7_seize 75 = .ok (.aload_n 2, 1) := by decide +kernel
theorem dX7_seize_76 : decode cX7_seize 76 = .ok (.invokevirtual 255, 3) := by decide +kernel
theorem dX7_seize_79 : decode cX7_seize 79 = .ok (.ireturn, 1) := by decide +kernel
theorem dX7_assign_0 : decode cX7_assign 0 = .ok (.aload_n 0, 1) := by decide +kernel
theorem dX7_assign_1 : decode cX7_assign 1 = .ok (.iload_n 1, 1) := by decide +kernel
theorem dX7_assign_2 : decode cX7_assign 2 = .ok (.invokevirtual 239, 3) := by decide +kernel
theorem dX7_assign_5 : decode cX7_assign 5 = .ok (.astore 4, 2) := by decide +kernel
theorem dX7_assign_7 : decode cX7_assign 7 = .ok (.aload_n 0, 1) := by decide +kernel
theorem dX7_assign_8 : decode cX7_assign 8 = .ok (.iload_n 2, 1) := by decide +kernel
theorem dX7_assign_9 : decode cX7_assign 9 = .ok (.invokevirtual 59, 3) := by decide +kernel
theorem dX7_assign_12 : decode cX7_assign 12 = .ok (.astore 5, 2) := by decide +kernel
theorem dX7_assign_14 : decode cX7_assign 14 = .ok (.aload 4, 2) := by decide +kernel
theorem dX7_assign_16 : decode cX7_assign 16 = .ok (.getfield 252, 3) := by decide +kernel
theorem dX7_assign_19 : decode cX7_assign 19 = .ok (.astore 6, 2) := by decide +kernel
theorem dX7_assign_21 : decode cX7_assign 21 = .ok (.iload_n 3, 1) := by decide +kernel
theorem dX7_assign_22 : decode cX7_assign 22 = .ok (.iconst 0, 1) := by decide +kernel
theorem dX7_assign_23 : decode cX7_assign 23 = .ok (.ldc 41, 2) := by decide +kernel
theorem dX7_assign_25 : decode cX7_assign 25 = .ok (.invokestatic 42, 3) := by decide +kernel
theorem dX7_assign_28 : decode cX7_assign 28 = .ok (.aload 5, 2) := by decide +kernel
theorem dX7_assign_30 : decode cX7_assign 30 = .ok (.aload 6, 2) := by decide +kernel
theorem dX7_assign_32 : decode cX7_assign 32 = .ok (.invokestatic 161, 3) := by decide +kernel
theorem dX7_assign_35 : decode cX7_assign 35 = .ok (.aload 5, 2) := by decide +kernel
theorem dX7_assign_37 : decode cX7_assign 37 = .ok (.aload 4, 2) := by decide +kernel
theorem dX7_assign_39 : decode cX7_assign 39 = .ok (.getfield 249, 3) := by decide +kernel
theorem dX7_assign_42 : decode cX7_assign 42 = .ok (.invokestatic 161, 3) := by decide +kernel
theorem dX7_assign_45 : decode cX7_assign 45 = .ok (.aload 4, 2) := by decide +kernel
theorem dX7_assign_47 : decode cX7_assign 47 = .ok (.getfield 246, 3) := by decide +kernel
theorem dX7_assign_50 : decode cX7_assign 50 = .ok (.ifCond .ne 32, 3) := by decide +kernel
theorem dX7_assign_53 : decode cX7_assign 53 = .ok (.aload 6, 2) := by decide +kernel
theorem dX7_assign_55 : decode cX7_assign 55 = .ok (.getfield 130, 3) := by decide +kernel
theorem dX7_assign_58 : decode cX7_assign 58 = .ok (.ifCond .ne 24, 3) := by decide +kernel
theorem dX7_assign_61 : decode cX7_assign 61 = .ok (.aload 5, 2) := by decide +kernel
theorem dX7_assign_63 : decode cX7_assign 63 = .ok (.getfield 130, 3) := by decide +kernel
theorem dX7_assign_66 : decode cX7_assign 66 = .ok (.ifCond .ne 16, 3) := by decide +kernel
theorem dX7_assign_69 : decode cX7_assign 69 = .ok (.aload 5, 2) := by decide +kernel
theorem dX7_assign_71 : decode cX7_assign 71 = .ok (.getfield 222, 3) := by decide +kernel
theorem dX7_assign_74 : decode cX7_assign 74 = .ok (.iload_n 3, 1) := by decide +kernel
theorem dX7_assign_75 : decode cX7_assign 75 = .ok (.if_icmp .lt 7, 3) := by decide +kernel
theorem dX7_assign_78 : decode cX7_assign 78 = .ok (.iconst 1, 1) := by decide +kernel
theorem dX7_assign_79 : decode cX7_assign 79 = .ok (.goto 4, 3) := by decide +kernel
theorem dX7_assign_82 : decode cX7_assign 82 = .ok (.iconst 0, 1) := by decide +kernel
theorem dX7_assign_83 : decode cX7_assign 83 = .ok (.invokestatic 50, 3) := by decide +kernel
theorem dX7_assign_86 : decode cX7_assign 86 = .ok (.aload 5, 2) := by decide +kernel
theorem dX7_assign_88 : decode cX7_assign 88 = .ok (.aload 6, 2) := by decide +kernel
theorem dX7_assign_90 : decode cX7_assign 90 = .ok (.iload_n 3, 1) := by decide +kernel
theorem dX7_assign_91 : decode cX7_assign 91 = .ok (.invokestatic 234, 3) := by decide +kernel
theorem dX7_assign_94 : decode cX7_assign 94 = .ok (.aload 4, 2) := by decide +kernel
theorem dX7_assign_96 : decode cX7_assign 96 = .ok (.aload 5, 2) := by decide +kernel
theorem dX7_assign_98 : decode cX7_assign 98 = .ok (.putfield 252, 3) := by decide +kernel
theorem dX7_assign_101 : decode cX7_assign 101 = .ok (.aload 6, 2) := by decide +kernel
theorem dX7_assign_103 : decode cX7_assign 103 = .ok (.getfield 56, 3) := by decide +kernel
theorem dX7_assign_106 : decode cX7_assign 106 = .ok (.ireturn, 1) := by decide +kernel
theorem dX7_bars_0 : decode cX7_bars 0 = .ok (.aload_n 0, 1) := by decide +kernel
theorem dX7_bars_1 : decode cX7_bars 1 = .ok (.iload_n 1, 1) := by decide +kernel
theorem dX7_bars_2 : decode cX7_bars 2 = .ok (.invokevirtual 141, 3) := by decide +kernel
theorem dX7_bars_5 : decode cX7_bars 5 = .ok (.astore 5, 2) := by decide +kernel
theorem dX7_bars_7 : decode cX7_bars 7 = .ok (.aload_n 0, 1) := by decide +kernel
theorem dX7_bars_8 : decode cX7_bars 8 = .ok (.iload_n 3, 1) := by decide +kernel
theorem dX7_bars_9 : decode cX7_bars 9 = .ok (.invokevirtual 59, 3) := by decide +kernel
theorem dX7_bars_12 : decode cX7_bars 12 = .ok (.astore 6, 2) := by decide +kernel
theorem dX7_bars_14 : decode cX7_bars 14 = .ok (.aload 5, 2) := by decide +kernel
theorem dX7_bars_16 : decode cX7_bars 16 = .ok (.iload_n 2, 1) := by decide +kernel
theorem dX7_bars_17 : decode cX7_bars 17 = .ok (.aload 6, 2) := by decide +kernel
theorem dX7_bars_19 : decode cX7_bars 19 = .ok (.iload 4, 2) := by decide +kernel
theorem dX7_bars_21 : decode cX7_bars 21 = .ok (.invokestatic 145, 3) := by decide +kernel
theorem dX7_bars_24 : decode cX7_bars 24 = .ok (.aload_n 0, 1) := by decide +kernel
theorem dX7_bars_25 : decode cX7_bars 25 = .ok (.aload 5, 2) := by decide +kernel
theorem dX7_bars_27 : decode cX7_bars 27 = .ok (.iload_n 2, 1) := by decide +kernel
theorem dX7_bars_28 : decode cX7_bars 28 = .ok (.aload 6, 2) := by decide +kernel
theorem dX7_bars_30 : decode cX7_bars 30 = .ok (.iload 4, 2) := by decide +kernel
theorem dX7_bars_32 : decode cX7_bars 32 = .ok (.invokevirtual 149, 3) := by decide +kernel
theorem dX7_bars_35 : decode cX7_bars 35 = .ok (.ireturn, 1) := by decide +kernel
theorem dX7_barredBy_0 : decode cX7_barredBy 0 = .ok (.aload_n 0, 1) := by decide +kernel
theorem dX7_barredBy_1 : decode cX7_barredBy 1 = .ok (.iload_n 1, 1) := by decide +kernel
theorem dX7_barredBy_2 : decode cX7_barredBy 2 = .ok (.invokevirtual 141, 3) := by decide +kernel
theorem dX7_barredBy_5 : decode cX7_barredBy 5 = .ok (.astore 5, 2) := by decide +kernel
theorem dX7_barredBy_7 : decode cX7_barredBy 7 = .ok (.aload_n 0, 1) := by decide +kernel
theorem dX7_barredBy_8 : decode cX7_barredBy 8 = .ok (.iload_n 3, 1) := by decide +kernel
theorem dX7_barredBy_9 : decode cX7_barredBy 9 = .ok (.invokevirtual 59, 3) := by decide +kernel
theorem dX7_barredBy_12 : decode cX7_barredBy 12 = .ok (.astore 6, 2) := by decide +kernel
theorem dX7_barredBy_14 : decode cX7_barredBy 14 = .ok (.aload 5, 2) := by decide +kernel
theorem dX7_barredBy_16 : decode cX7_barredBy 16 = .ok (.iload_n 2, 1) := by decide +kernel
theorem dX7_barredBy_17 : decode cX7_barredBy 17 = .ok (.aload 6, 2) := by decide +kernel
theorem dX7_barredBy_19 : decode cX7_barredBy 19 = .ok (.iload 4, 2) := by decide +kernel
theorem dX7_barredBy_21 : decode cX7_barredBy 21 = .ok (.invokestatic 145, 3) := by decide +kernel
theorem dX7_barredBy_24 : decode cX7_barredBy 24 = .ok (.aload_n 0, 1) := by decide +kernel
theorem dX7_barredBy_25 : decode cX7_barredBy 25 = .ok (.aload 5, 2) := by decide +kernel
theorem dX7_barredBy_27 : decode cX7_barredBy 27 = .ok (.iload_n 2, 1) := by decide +kernel
theorem dX7_barredBy_28 : decode cX7_barredBy 28 = .ok (.aload 6, 2) := by decide +kernel
theorem dX7_barredBy_30 : decode cX7_barredBy 30 = .ok (.iload 4, 2) := by decide +kernel
theorem dX7_barredBy_32 : decode cX7_barredBy 32 = .ok (.invokevirtual 149, 3) := by decide +kernel
theorem dX7_barredBy_35 : decode cX7_barredBy 35 = .ok (.tableswitch 123 1 7 #[41, 69, 77, 86, 99, 108, 120], 41) := by decide +kernel
theorem dX7_barredBy_76 : decode cX7_barredBy 76 = .ok (.aload 5, 2) := by decide +kernel
theorem dX7_barredBy_78 : decode cX7_barredBy 78 = .ok (.getfield 153, 3) := by decide +kernel
theorem dX7_barredBy_81 : decode cX7_barredBy 81 = .ok (.getfield 130, 3) := by decide +kernel
theorem dX7_barredBy_84 : decode cX7_barredBy 84 = .ok (.ifCond .eq 14, 3) := by decide +kernel
theorem dX7_barredBy_87 : decode cX7_barredBy 87 = .ok (.aload 5, 2) := by decide +kernel
theorem dX7_barredBy_89 : decode cX7_barredBy 89 = .ok (.getfield 153, 3) := by decide +kernel
theorem dX7_barredBy_92 : decode cX7_barredBy 92 = .ok (.getfield 56, 3) := by decide +kernel
theorem dX7_barredBy_95 : decode cX7_barredBy 95 = .ok (.goto 8, 3) := by decide +kernel
theorem dX7_barredBy_98 : decode cX7_barredBy 98 = .ok (.aload 6, 2) := by decide +kernel
theorem dX7_barredBy_100 : decode cX7_barredBy 100 = .ok (.getfield 56, 3) := by decide +kernel
theorem dX7_barredBy_103 : decode cX7_barredBy 103 = .ok (.ireturn, 1) := by decide +kernel
theorem dX7_barredBy_104 : decode cX7_barredBy 104 = .ok (.iload_n 2, 1) := by decide +kernel
theorem dX7_barredBy_105 : decode cX7_barredBy 105 = .ok (.aload 5, 2) := by decide +kernel
theorem dX7_barredBy_107 : decode cX7_barredBy 107 = .ok (.getfield 165, 3) := by decide +kernel
theorem dX7_barredBy_110 : decode cX7_barredBy 110 = .ok (.isub, 1) := by decide +kernel
theorem dX7_barredBy_111 : decode cX7_barredBy 111 = .ok (.ireturn, 1) := by decide +kernel
theorem dX7_barredBy_112 : decode cX7_barredBy 112 = .ok (.aload 5, 2) := by decide +kernel
theorem dX7_barredBy_114 : decode cX7_barredBy 114 = .ok (.invokevirtual 133, 3) := by decide +kernel
theorem dX7_barredBy_117 : decode cX7_barredBy 117 = .ok (.invokestatic 263, 3) := by decide +kernel
theorem dX7_barredBy_120 : decode cX7_barredBy 120 = .ok (.ireturn, 1) := by decide +kernel
theorem dX7_barredBy_121 : decode cX7_barredBy 121 = .ok (.aload 5, 2) := by decide +kernel
theorem dX7_barredBy_123 : decode cX7_barredBy 123 = .ok (.getfield 267, 3) := by decide +kernel
theorem dX7_barredBy_126 : decode cX7_barredBy 126 = .ok (.aload_n 0, 1) := by decide +kernel
theorem dX7_barredBy_127 : decode cX7_barredBy 127 = .ok (.getfield 87, 3) := by decide +kernel
theorem dX7_barredBy_130 : decode cX7_barredBy 130 = .ok (.invokevirtual 113, 3) := by decide +kernel
theorem dX7_barredBy_133 : decode cX7_barredBy 133 = .ok (.ireturn, 1) := by decide +kernel
theorem dX7_barredBy_134 : decode cX7_barredBy 134 = .ok (.iload 4, 2) := by decide +kernel
theorem dX7_barredBy_136 : decode cX7_barredBy 136 = .ok (.aload 6, 2) := by decide +kernel
theorem dX7_barredBy_138 : decode cX7_barredBy 138 = .ok (.getfield 222, 3) := by decide +kernel
theorem dX7_barredBy_141 : decode cX7_barredBy 141 = .ok (.isub, 1) := by decide +kernel
theorem dX7_barredBy_142 : decode cX7_barredBy 142 = .ok (.ireturn, 1) := by decide +kernel
theorem dX7_barredBy_143 : decode cX7_barredBy 143 = .ok (.aload 5, 2) := by decide +kernel
theorem dX7_barredBy_145 : decode cX7_barredBy 145 = .ok (.getfield 267, 3) := by decide +kernel
theorem dX7_barredBy_148 : decode cX7_barredBy 148 = .ok (.getfield 271, 3) := by decide +kernel
theorem dX7_barredBy_151 : decode cX7_barredBy 151 = .ok (.getfield 56, 3) := by decide +kernel
theorem dX7_barredBy_154 : decode cX7_barredBy 154 = .ok (.ireturn, 1) := by decide +kernel
theorem dX7_barredBy_155 : decode cX7_barredBy 155 = .ok (.bipush 60, 2) := by decide +kernel
theorem dX7_barredBy_157 : decode cX7_barredBy 157 = .ok (.ireturn, 1) := by decide +kernel
theorem dX7_barredBy_158 : decode cX7_barredBy 158 = .ok (.iconst (-1), 1) := by decide +kernel
theorem dX7_barredBy_159 : decode cX7_barredBy 159 = .ok (.ireturn, 1) := by decide +kernel
theorem dX7_price_0 : decode cX7_price 0 = .ok (.aload_n 0, 1) := by decide +kernel
theorem dX7_price_1 : decode cX7_price 1 = .ok (.iload_n 1, 1) := by decide +kernel
theorem dX7_price_2 : decode cX7_price 2 = .ok (.invokevirtual 141, 3) := by decide +kernel
theorem dX7_price_5 : decode cX7_price 5 = .ok (.getfield 195, 3) := by decide +kernel
theorem dX7_price_8 : decode cX7_price 8 = .ok (.astore_n 3, 1) := by decide +kernel
theorem dX7_price_9 : decode cX7_price 9 = .ok (.aload_n 0, 1) := by decide +kernel
theorem dX7_price_10 : decode cX7_price 10 = .ok (.iload_n 2, 1) := by decide +kernel
theorem dX7_price_11 : decode cX7_price 11 = .ok (.invokevirtual 59, 3) := by decide +kernel
theorem dX7_price_14 : decode cX7_price 14 = .ok (.astore 4, 2) := by decide +kernel
theorem dX7_price_16 : decode cX7_price 16 = .ok (.aload_n 3, 1) := by decide +kernel
theorem dX7_price_17 : decode cX7_price 17 = .ok (.ifnull 19, 3) := by decide +kernel
theorem dX7_price_20 : decode cX7_price 20 = .ok (.aload_n 3, 1) := by decide +kernel
theorem dX7_price_21 : decode cX7_price 21 = .ok (.aload 4, 2) := by decide +kernel
theorem dX7_price_23 : decode cX7_price 23 = .ok (.invokevirtual 201, 3) := by decide +kernel
theorem dX7_price_26 : decode cX7_price 26 = .ok (.ifCond .eq 10, 3) := by decide +kernel
theorem dX7_price_29 : decode cX7_price 29 = .ok (.aload_n 3, 1) := by decide +kernel
theorem dX7_price_30 : decode cX7_price 30 = .ok (.getfield 274, 3) := by decide +kernel
theorem dX7_price_33 : decode cX7_price 33 = .ok (.goto 4, 3) := by decide +kernel
theorem dX7_price_36 : decode cX7_price 36 = .ok (.iconst (-1), 1) := by decide +kernel
theorem dX7_price_37 : decode cX7_price 37 = .ok (.ireturn, 1) := by decide +kernel
theorem dX7_ofParty_0 : decode cX7_ofParty 0 = .ok (.aload_n 0, 1) := by decide +kernel
theorem dX7_ofParty_1 : decode cX7_ofParty 1 = .ok (.iload_n 1, 1) := by decide +kernel
theorem dX7_ofParty_2 : decode cX7_ofParty 2 = .ok (.invokevirtual 59, 3) := by decide +kernel
theorem dX7_ofParty_5 : decode cX7_ofParty 5 = .ok (.astore_n 3, 1) := by decide +kernel
theorem dX7_ofParty_6 : decode cX7_ofParty 6 = .ok (.iload_n 2, 1) := by decide +kernel
theorem dX7_ofParty_7 : decode cX7_ofParty 7 = .ok (.iconst 0, 1) := by decide +kernel
theorem dX7_ofParty_8 : decode cX7_ofParty 8 = .ok (.bipush 6, 2) := by decide +kernel
theorem dX7_ofParty_10 : decode cX7_ofParty 10 = .ok (.invokestatic 42, 3) := by decide +kernel
theorem dX7_ofParty_13 : decode cX7_ofParty 13 = .ok (.iload_n 2, 1) := by decide +kernel
theorem dX7_ofParty_14 : decode cX7_ofParty 14 = .ok (.tableswitch 75 0 5 #[38, 43, 49, 55, 61, 67], 38) := by decide +kernel
theorem dX7_ofParty_52 : decode cX7_ofParty 52 = .ok (.aload_n 3, 1) := by decide +kernel
theorem dX7_ofParty_53 : decode cX7_ofParty 53 = .ok (.getfield 222, 3) := by decide +kernel
theorem dX7_ofParty_56 : decode cX7_ofParty 56 = .ok (.ireturn, 1) := by decide +kernel
theorem dX7_ofParty_57 : decode cX7_ofParty 57 = .ok (.aload_n 0, 1) := by decide +kernel
theorem dX7_ofParty_58 : decode cX7_ofParty 58 = .ok (.aload_n 3, 1) := by decide +kernel
theorem dX7_ofParty_59 : decode cX7_ofParty 59 = .ok (.invokevirtual 277, 3) := by decide +kernel
theorem dX7_ofParty_62 : decode cX7_ofParty 62 = .ok (.ireturn, 1) := by decide +kernel
theorem dX7_ofParty_63 : decode cX7_ofParty 63 = .ok (.aload_n 0, 1) := by decide +kernel
theorem dX7_ofParty_64 : decode cX7_ofParty 64 = .ok (.aload_n 3, 1) := by decide +kernel
theorem dX7_ofParty_65 : decode cX7_ofParty 65 = .ok (.invokevirtual 280, 3) := by decide +kernel
theorem dX7_ofParty_68 : decode cX7_ofParty 68 = .ok (.ireturn, 1) := by decide +kernel
theorem dX7_ofParty_69 : decode cX7_ofParty 69 = .ok (.aload_n 0, 1) := by decide +kernel
theorem dX7_ofParty_70 : decode cX7_ofParty 70 = .ok (.aload_n 3, 1) := by decide +kernel
theorem dX7_ofParty_71 : decode cX7_ofParty 71 = .ok (.invokevirtual 283, 3) := by decide +kernel
theorem dX7_ofParty_74 : decode cX7_ofParty 74 = .ok (.ireturn, 1) := by decide +kernel
theorem dX7_ofParty_75 : decode cX7_ofParty 75 = .ok (.aload_n 0, 1) := by decide +kernel
theorem dX7_ofParty_76 : decode cX7_ofParty 76 = .ok (.aload_n 3, 1) := by decide +kernel
theorem dX7_ofParty_77 : decode cX7_ofParty 77 = .ok (.invokevirtual 286, 3) := by decide +kernel
theorem dX7_ofParty_80 : decode cX7_ofParty 80 = .ok (.ireturn, 1) := by decide +kernel
theorem dX7_ofParty_81 : decode cX7_ofParty 81 = .ok (.aload_n 3, 1) := by decide +kernel
theorem dX7_ofParty_82 : decode cX7_ofParty 82 = .ok (.getfield 130, 3) := by decide +kernel
theorem dX7_ofParty_85 : decode cX7_ofParty 85 = .ok (.invokestatic 289, 3) := by decide +kernel
theorem dX7_ofParty_88 : decode cX7_ofParty 88 = .ok (.ireturn, 1) := by decide +kernel
theorem dX7_ofParty_89 : decode cX7_ofParty 89 = .ok (.aload_n 3, 1) := by decide +kernel
theorem dX7_ofParty_90 : decode cX7_ofParty 90 = .ok (.getfield 293, 3) := by decide +kernel
theorem dX7_ofParty_93 : decode cX7_ofParty 93 = .ok (.invokestatic 296, 3) := by decide +kernel
theorem dX7_ofParty_96 : decode cX7_ofParty 96 = .ok (.ireturn, 1) := by decide +kernel
theorem dX7_ofWork_0 : decode cX7_ofWork 0 = .ok (.aload_n 0, 1) := by decide +kernel
theorem dX7_ofWork_1 : decode cX7_ofWork 1 = .ok (.iload_n 1, 1) := by decide +kernel
theorem dX7_ofWork_2 : decode cX7_ofWork 2 = .ok (.invokevirtual 80, 3) := by decide +kernel
theorem dX7_ofWork_5 : decode cX7_ofWork 5 = .ok (.astore_n 3, 1) := by decide +kernel
theorem dX7_ofWork_6 : decode cX7_ofWork 6 = .ok (.iload_n 2, 1) := by decide +kernel
theorem dX7_ofWork_7 : decode cX7_ofWork 7 = .ok (.iconst 0, 1) := by decide +kernel
theorem dX7_ofWork_8 : decode cX7_ofWork 8 = .ok (.iconst 5, 1) := by decide +kernel
theorem dX7_ofWork_9 : decode cX7_ofWork 9 = .ok (.invokestatic 42, 3) := by decide +kernel
theorem dX7_ofWork_12 : decode cX7_ofWork 12 = .ok (.iload_n 2, 1) := by decide +kernel
theorem dX7_ofWork_13 : decode cX7_ofWork 13 = .ok (.tableswitch 71 0 4 #[35, 44, 49, 57, 66], 35) := by decide +kernel
theorem dX7_ofWork_48 : decode cX7_ofWork 48 = .ok (.aload_n 3, 1) := by decide +kernel
theorem dX7_ofWork_49 : decode cX7_ofWork 49 = .ok (.aload_n 0, 1) := by decide +kernel
theorem dX7_ofWork_50 : decode cX7_ofWork 50 = .ok (.getfield 87, 3) := by decide +kernel
theorem dX7_ofWork_53 : decode cX7_ofWork 53 = .ok (.invokevirtual 301, 3) := by decide +kernel
theorem dX7_ofWork_56 : decode cX7_ofWork 56 = .ok (.ireturn, 1) := by decide +kernel
theorem dX7_ofWork_57 : decode cX7_ofWork 57 = .ok (.aload_n 3, 1) := by decide +kernel
theorem dX7_ofWork_58 : decode cX7_ofWork 58 = .ok (.getfield 120, 3) := by decide +kernel
theorem dX7_ofWork_61 : decode cX7_ofWork 61 = .ok (.ireturn, 1) := by decide +kernel
theorem dX7_ofWork_62 : decode cX7_ofWork 62 = .ok (.aload_n 3, 1) := by decide +kernel
theorem dX7_ofWork_63 : decode cX7_ofWork 63 = .ok (.getfield 123, 3) := by decide +kernel
theorem dX7_ofWork_66 : decode cX7_ofWork 66 = .ok (.invokestatic 289, 3) := by decide +kernel
theorem dX7_ofWork_69 : decode cX7_ofWork 69 = .ok (.ireturn, 1) := by decide +kernel
theorem dX7_ofWork_70 : decode cX7_ofWork 70 = .ok (.aload_n 3, 1) := by decide +kernel
theorem dX7_ofWork_71 : decode cX7_ofWork 71 = .ok (.aload_n 0, 1) := by decide +kernel
theorem dX7_ofWork_72 : decode cX7_ofWork 72 = .ok (.getfield 87, 3) := by decide +kernel
theorem dX7_ofWork_75 : decode cX7_ofWork 75 = .ok (.invokevirtual 113, 3) := by decide +kernel
theorem dX7_ofWork_78 : decode cX7_ofWork 78 = .ok (.ireturn, 1) := by decide +kernel
theorem dX7_ofWork_79 : decode cX7_ofWork 79 = .ok (.aload_n 3, 1) := by decide +kernel
theorem dX7_ofWork_80 : decode cX7_ofWork 80 = .ok (.getfield 127, 3) := by decide +kernel
theorem dX7_ofWork_83 : decode cX7_ofWork 83 = .ok (.ireturn, 1) := by decide +kernel
theorem dX7_ofWork_84 : decode cX7_ofWork 84 = .ok (.aload_n 0, 1) := by decide +kernel
theorem dX7_ofWork_85 : decode cX7_ofWork 85 = .ok (.aload_n 3, 1) := by decide +kernel
theorem dX7_ofWork_86 : decode cX7_ofWork 86 = .ok (.invokevirtual 304, 3) := by decide +kernel
theorem dX7_ofWork_89 : decode cX7_ofWork 89 = .ok (.ireturn, 1) := by decide +kernel
theorem dX7_ofLot_0 : decode cX7_ofLot 0 = .ok (.aload_n 0, 1) := by decide +kernel
theorem dX7_ofLot_1 : decode cX7_ofLot 1 = .ok (.iload_n 1, 1) := by decide +kernel
theorem dX7_ofLot_2 : decode cX7_ofLot 2 = .ok (.invokevirtual 141, 3) := by decide +kernel
theorem dX7_ofLot_5 : decode cX7_ofLot 5 = .ok (.astore_n 3, 1) := by decide +kernel
theorem dX7_ofLot_6 : decode cX7_ofLot 6 = .ok (.iload_n 2, 1) := by decide +kernel
theorem dX7_ofLot_7 : decode cX7_ofLot 7 = .ok (.iconst 0, 1) := by decide +kernel
theorem dX7_ofLot_8 : decode cX7_ofLot 8 = .ok (.bipush 8, 2) := by decide +kernel
theorem dX7_ofLot_10 : decode cX7_ofLot 10 = .ok (.invokestatic 42, 3) := by decide +kernel
theorem dX7_ofLot_13 : decode cX7_ofLot 13 = .ok (.iload_n 2, 1) := by decide +kernel
theorem dX7_ofLot_14 : decode cX7_ofLot 14 = .ok (.tableswitch 141 0 7 #[46, 54, 62, 67, 86, 94, 113, 132], 46) := by decide +kernel
theorem dX7_ofLot_60 : decode cX7_ofLot 60 = .ok (.aload_n 3, 1) := by decide +kernel
theorem dX7_ofLot_61 : decode cX7_ofLot 61 = .ok (.getfield 267, 3) := by decide +kernel
theorem dX7_ofLot_64 : decode cX7_ofLot 64 = .ok (.getfield 79, 3) := by decide +kernel
theorem dX7_ofLot_67 : decode cX7_ofLot 67 = .ok (.ireturn, 1) := by decide +kernel
theorem dX7_ofLot_68 : decode cX7_ofLot 68 = .ok (.aload_n 3, 1) := by decide +kernel
theorem dX7_ofLot_69 : decode cX7_ofLot 69 = .ok (.getfield 153, 3) := by decide +kernel
theorem dX7_ofLot_72 : decode cX7_ofLot 72 = .ok (.getfield 56, 3) := by decide +kernel
theorem dX7_ofLot_75 : decode cX7_ofLot 75 = .ok (.ireturn, 1) := by decide +kernel
theorem dX7_ofLot_76 : decode cX7_ofLot 76 = .ok (.aload_n 3, 1) := by decide +kernel
theorem dX7_ofLot_77 : decode cX7_ofLot 77 = .ok (.getfield 165, 3) := by decide +kernel
theorem dX7_ofLot_80 : decode cX7_ofLot 80 = .ok (.ireturn, 1) := by decide +kernel
theorem dX7_ofLot_81 : decode cX7_ofLot 81 = .ok (.aload_n 3, 1) := by decide +kernel
theorem dX7_ofLot_82 : decode cX7_ofLot 82 = .ok (.getfield 218, 3) := by decide +kernel
theorem dX7_ofLot_85 : decode cX7_ofLot 85 = .ok (.ifnonnull 7, 3) := by decide +kernel
theorem dX7_ofLot_88 : decode cX7_ofLot 88 = .ok (.iconst (-1), 1) := by decide +kernel
theorem dX7_ofLot_89 : decode cX7_ofLot 89 = .ok (.goto 10, 3) := by decide +kernel
theorem dX7_ofLot_92 : decode cX7_ofLot 92 = .ok (.aload_n 3, 1) := by decide +kernel
theorem dX7_ofLot_93 : decode cX7_ofLot 93 = .ok (.getfield 218, 3) := by decide +kernel
theorem dX7_ofLot_96 : decode cX7_ofLot 96 = .ok (.getfield 238, 3) := by decide +kernel
theorem dX7_ofLot_99 : decode cX7_ofLot 99 = .ok (.ireturn, 1) := by decide +kernel
theorem dX7_ofLot_100 : decode cX7_ofLot 100 = .ok (.aload_n 3, 1) := by decide +kernel
theorem dX7_ofLot_101 : decode cX7_ofLot 101 = .ok (.invokevirtual 133, 3) := by decide +kernel
theorem dX7_ofLot_104 : decode cX7_ofLot 104 = .ok (.invokestatic 263, 3) := by decide +kernel
theorem dX7_ofLot_107 : decode cX7_ofLot 107 = .ok (.ireturn, 1) := by decide +kernel
theorem dX7_ofLot_108 : decode cX7_ofLot 108 = .ok (.aload_n 3, 1) := by decide +kernel
theorem dX7_ofLot_109 : decode cX7_ofLot 109 = .ok (.getfield 308, 3) := by decide +kernel
theorem dX7_ofLot_112 : decode cX7_ofLot 112 = .ok (.ifnonnull 7, 3) := by decide +kernel
theorem dX7_ofLot_115 : decode cX7_ofLot 115 = .ok (.iconst (-1), 1) := by decide +kernel
theorem dX7_ofLot_116 : decode cX7_ofLot 116 = .ok (.goto 10, 3) := by decide +kernel
theorem dX7_ofLot_119 : decode cX7_ofLot 119 = .ok (.aload_n 3, 1) := by decide +kernel
theorem dX7_ofLot_120 : decode cX7_ofLot 120 = .ok (.getfield 308, 3) := by decide +kernel
theorem dX7_ofLot_123 : decode cX7_ofLot 123 = .ok (.getfield 312, 3) := by decide +kernel
theorem dX7_ofLot_126 : decode cX7_ofLot 126 = .ok (.ireturn, 1) := by decide +kernel
theorem dX7_ofLot_127 : decode cX7_ofLot 127 = .ok (.aload_n 3, 1) := by decide +kernel
theorem dX7_ofLot_128 : decode cX7_ofLot 128 = .ok (.getfield 195, 3) := by decide +kernel
theorem dX7_ofLot_131 : decode cX7_ofLot 131 = .ok (.ifnonnull 7, 3) := by decide +kernel
theorem dX7_ofLot_134 : decode cX7_ofLot 134 = .ok (.iconst (-1), 1) := by decide +kernel
theorem dX7_ofLot_135 : decode cX7_ofLot 135 = .ok (.goto 10, 3) := by decide +kernel
theorem dX7_ofLot_138 : decode cX7_ofLot 138 = .ok (.aload_n 3, 1) := by decide +kernel
theorem dX7_ofLot_139 : decode cX7_ofLot 139 = .ok (.getfield 195, 3) := by decide +kernel
theorem dX7_ofLot_142 : decode cX7_ofLot 142 = .ok (.getfield 313, 3) := by decide +kernel
theorem dX7_ofLot_145 : decode cX7_ofLot 145 = .ok (.ireturn, 1) := by decide +kernel
theorem dX7_ofLot_146 : decode cX7_ofLot 146 = .ok (.aload_n 3, 1) := by decide +kernel
theorem dX7_ofLot_147 : decode cX7_ofLot 147 = .ok (.aload_n 0, 1) := by decide +kernel
theorem dX7_ofLot_148 : decode cX7_ofLot 148 = .ok (.getfield 87, 3) := by decide +kernel
theorem dX7_ofLot_151 : decode cX7_ofLot 151 = .ok (.invokevirtual 225, 3) := by decide +kernel
theorem dX7_ofLot_154 : decode cX7_ofLot 154 = .ok (.ireturn, 1) := by decide +kernel
theorem dX7_ofLot_155 : decode cX7_ofLot 155 = .ok (.aload_n 3, 1) := by decide +kernel
theorem dX7_ofLot_156 : decode cX7_ofLot 156 = .ok (.invokevirtual 316, 3) := by decide +kernel
theorem dX7_ofLot_159 : decode cX7_ofLot 159 = .ok (.ireturn, 1) := by decide +kernel
theorem dX7_ofLoan_0 : decode cX7_ofLoan 0 = .ok (.aload_n 0, 1) := by decide +kernel
theorem dX7_ofLoan_1 : decode cX7_ofLoan 1 = .ok (.iload_n 1, 1) := by decide +kernel
theorem dX7_ofLoan_2 : decode cX7_ofLoan 2 = .ok (.invokevirtual 239, 3) := by decide +kernel
theorem dX7_ofLoan_5 : decode cX7_ofLoan 5 = .ok (.astore_n 3, 1) := by decide +kernel
theorem dX7_ofLoan_6 : decode cX7_ofLoan 6 = .ok (.iload_n 2, 1) := by decide +kernel
theorem dX7_ofLoan_7 : decode cX7_ofLoan 7 = .ok (.iconst 0, 1) := by decide +kernel
theorem dX7_ofLoan_8 : decode cX7_ofLoan 8 = .ok (.iconst 5, 1) := by decide +kernel
theorem dX7_ofLoan_9 : decode cX7_ofLoan 9 = .ok (.invokestatic 42, 3) := by decide +kernel
theorem dX7_ofLoan_12 : decode cX7_ofLoan 12 = .ok (.iload_n 2, 1) := by decide +kernel
theorem dX7_ofLoan_13 : decode cX7_ofLoan 13 = .ok (.tableswitch 74 0 4 #[35, 43, 51, 60, 65], 35) := by decide +kernel
theorem dX7_ofLoan_48 : decode cX7_ofLoan 48 = .ok (.aload_n 3, 1) := by decide +kernel
theorem dX7_ofLoan_49 : decode cX7_ofLoan 49 = .ok (.getfield 249, 3) := by decide +kernel
theorem dX7_ofLoan_52 : decode cX7_ofLoan 52 = .ok (.getfield 56, 3) := by decide +kernel
theorem dX7_ofLoan_55 : decode cX7_ofLoan 55 = .ok (.ireturn, 1) := by decide +kernel
theorem dX7_ofLoan_56 : decode cX7_ofLoan 56 = .ok (.aload_n 3, 1) := by decide +kernel
theorem dX7_ofLoan_57 : decode cX7_ofLoan 57 = .ok (.getfield 252, 3) := by decide +kernel
theorem dX7_ofLoan_60 : decode cX7_ofLoan 60 = .ok (.getfield 56, 3) := by decide +kernel
theorem dX7_ofLoan_63 : decode cX7_ofLoan 63 = .ok (.ireturn, 1) := by decide +kernel
theorem dX7_ofLoan_64 : decode cX7_ofLoan 64 = .ok (.aload_n 3, 1) := by decide +kernel
theorem dX7_ofLoan_65 : decode cX7_ofLoan 65 = .ok (.aload_n 0, 1) := by decide +kernel
theorem dX7_ofLoan_66 : decode cX7_ofLoan 66 = .ok (.getfield 87, 3) := by decide +kernel
theorem dX7_ofLoan_69 : decode cX7_ofLoan 69 = .ok (.invokevirtual 243, 3) := by decide +kernel
theorem dX7_ofLoan_72 : decode cX7_ofLoan 72 = .ok (.ireturn, 1) := by decide +kernel
theorem dX7_ofLoan_73 : decode cX7_ofLoan 73 = .ok (.aload_n 3, 1) := by decide +kernel
theorem dX7_ofLoan_74 : decode cX7_ofLoan 74 = .ok (.getfield 320, 3) := by decide +kernel
theorem dX7_ofLoan_77 : decode cX7_ofLoan 77 = .ok (.ireturn, 1) := by decide +kernel
theorem dX7_ofLoan_78 : decode cX7_ofLoan 78 = .ok (.aload_n 0, 1) := by decide +kernel
theorem dX7_ofLoan_79 : decode cX7_ofLoan 79 = .ok (.aload_n 3, 1) := by decide +kernel
theorem dX7_ofLoan_80 : decode cX7_ofLoan 80 = .ok (.invokevirtual 259, 3) := by decide +kernel
theorem dX7_ofLoan_83 : decode cX7_ofLoan 83 = .ok (.invokestatic 289, 3) := by decide +kernel
theorem dX7_ofLoan_86 : decode cX7_ofLoan 86 = .ok (.ireturn, 1) := by decide +kernel
theorem dX7_ofLoan_87 : decode cX7_ofLoan 87 = .ok (.aload_n 3, 1) := by decide +kernel
theorem dX7_ofLoan_88 : decode cX7_ofLoan 88 = .ok (.getfield 246, 3) := by decide +kernel
theorem dX7_ofLoan_91 : decode cX7_ofLoan 91 = .ok (.invokestatic 289, 3) := by decide +kernel
theorem dX7_ofLoan_94 : decode cX7_ofLoan 94 = .ok (.ireturn, 1) := by decide +kernel
theorem dX7_doubt_0 : decode cX7_doubt 0 = .ok (.aload_n 0, 1) := by decide +kernel
theorem dX7_doubt_1 : decode cX7_doubt 1 = .ok (.iload_n 1, 1) := by decide +kernel
theorem dX7_doubt_2 : decode cX7_doubt 2 = .ok (.invokevirtual 80, 3) := by decide +kernel
theorem dX7_doubt_5 : decode cX7_doubt 5 = .ok (.astore_n 3, 1) := by decide +kernel
theorem dX7_doubt_6 : decode cX7_doubt 6 = .ok (.iload_n 2, 1) := by decide +kernel
theorem dX7_doubt_7 : decode cX7_doubt 7 = .ok (.iconst 0, 1) := by decide +kernel
theorem dX7_doubt_8 : decode cX7_doubt 8 = .ok (.aload_n 0, 1) := by decide +kernel
theorem dX7_doubt_9 : decode cX7_doubt 9 = .ok (.getfield 87, 3) := by decide +kernel
theorem dX7_doubt_12 : decode cX7_doubt 12 = .ok (.invokestatic 42, 3) := by decide +kernel
theorem dX7_doubt_15 : decode cX7_doubt 15 = .ok (.aload_n 3, 1) := by decide +kernel
theorem dX7_doubt_16 : decode cX7_doubt 16 = .ok (.iload_n 2, 1) := by decide +kernel
theorem dX7_doubt_17 : decode cX7_doubt 17 = .ok (.invokevirtual 323, 3) := by decide +kernel
theorem dX7_doubt_20 : decode cX7_doubt 20 = .ok (.ireturn, 1) := by decide +kernel
theorem dX7_gaps_0 : decode cX7_gaps 0 = .ok (.aload_n 0, 1) := by decide +kernel
theorem dX7_gaps_1 : decode cX7_gaps 1 = .ok (.iload_n 1, 1) := by decide +kernel
theorem dX7_gaps_2 : decode cX7_gaps 2 = .ok (.invokevirtual 80, 3) := by decide +kernel
theorem dX7_gaps_5 : decode cX7_gaps 5 = .ok (.astore 4, 2) := by decide +kernel
theorem dX7_gaps_7 : decode cX7_gaps 7 = .ok (.iload_n 2, 1) := by decide +kernel
theorem dX7_gaps_8 : decode cX7_gaps 8 = .ok (.iload_n 3, 1) := by decide +kernel
theorem dX7_gaps_9 : decode cX7_gaps 9 = .ok (.invokestatic 105, 3) := by decide +kernel
theorem dX7_gaps_12 : decode cX7_gaps 12 = .ok (.iconst 0, 1) := by decide +kernel
theorem dX7_gaps_13 : decode cX7_gaps 13 = .ok (.istore 5, 2) := by decide +kernel
theorem dX7_gaps_15 : decode cX7_gaps 15 = .ok (.iload_n 2, 1) := by decide +kernel
theorem dX7_gaps_16 : decode cX7_gaps 16 = .ok (.istore 6, 2) := by decide +kernel
theorem dX7_gaps_18 : decode cX7_gaps 18 = .ok (.iload 6, 2) := by decide +kernel
theorem dX7_gaps_20 : decode cX7_gaps 20 = .ok (.iload_n 3, 1) := by decide +kernel
theorem dX7_gaps_21 : decode cX7_gaps 21 = .ok (.if_icmp .gt 27, 3) := by decide +kernel
theorem dX7_gaps_24 : decode cX7_gaps 24 = .ok (.aload 4, 2) := by decide +kernel
theorem dX7_gaps_26 : decode cX7_gaps 26 = .ok (.getfield 109, 3) := by decide +kernel
theorem dX7_gaps_29 : decode cX7_gaps 29 = .ok (.iload 6, 2) := by decide +kernel
theorem dX7_gaps_31 : decode cX7_gaps 31 = .ok (.sipush 1900, 3) := by decide +kernel
theorem dX7_gaps_34 : decode cX7_gaps 34 = .ok (.isub, 1) := by decide +kernel
theorem dX7_gaps_35 : decode cX7_gaps 35 = .ok (.baload, 1) := by decide +kernel
theorem dX7_gaps_36 : decode cX7_gaps 36 = .ok (.ifCond .ne 6, 3) := by decide +kernel
theorem dX7_gaps_39 : decode cX7_gaps 39 = .ok (.iinc 5 1, 3) := by decide +kernel
theorem dX7_gaps_42 : decode cX7_gaps 42 = .ok (.iinc 6 1, 3) := by decide +kernel
theorem dX7_gaps_45 : decode cX7_gaps 45 = .ok (.goto (-27), 3) := by decide +kernel
theorem dX7_gaps_48 : decode cX7_gaps 48 = .ok (.iload 5, 2) := by decide +kernel
theorem dX7_gaps_50 : decode cX7_gaps 50 = .ok (.ireturn, 1) := by decide +kernel

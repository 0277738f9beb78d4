theorem dX8_fail_0 : decode cX8_fail 0 = .ok (.aload_n 0, 1) := by decide +kernel
theorem dX8_fail_1 : decode cX8_fail 1 = .ok (.iload_n 1, 1) := by decide +kernel
theorem dX8_fail_2 : decode cX8_fail 2 = .ok (.invokevirtual 154, 3) := by decide +kernel
theorem dX8_fail_5 : decode cX8_fail 5 = .ok (.istore_n 2, 1) := by decide +kernel
theorem dX8_fail_6 : decode cX8_fail 6 = .ok (.aload_n 0, 1) := by decide +kernel
theorem dX8_fail_7 : decode cX8_fail 7 = .ok (.iload_n 2, 1) := by decide +kernel
theorem dX8_fail_8 : decode cX8_fail 8 = .ok (.ifCond .ne 7, 3) := by decide +kernel
theorem dX8_fail_11 : decode cX8_fail 11 = .ok (.iconst 1, 1) := by decide +kernel
theorem dX8_fail_12 : decode cX8_fail 12 = .ok (.goto 17, 3) := by decide +kernel
theorem dX8_fail_15 : decode cX8_fail 15 = .ok (.aload_n 0, 1) := by decide +kernel
theorem dX8_fail_16 : decode cX8_fail 16 = .ok (.getfield 17, 3) := by decide +kernel
theorem dX8_fail_19 : decode cX8_fail 19 = .ok (.iload_n 1, 1) := by decide +kernel
theorem dX8_fail_20 : decode cX8_fail 20 = .ok (.baload, 1) := by decide +kernel
theorem dX8_fail_21 : decode cX8_fail 21 = .ok (.ifCond .eq 7, 3) := by decide +kernel
theorem dX8_fail_24 : decode cX8_fail 24 = .ok (.iconst 2, 1) := by decide +kernel
theorem dX8_fail_25 : decode cX8_fail 25 = .ok (.goto 4, 3) := by decide +kernel
theorem dX8_fail_28 : decode cX8_fail 28 = .ok (.iconst 0, 1) := by decide +kernel
theorem dX8_fail_29 : decode cX8_fail 29 = .ok (.invokevirtual 151, 3) := by decide +kernel
theorem dX8_fail_32 : decode cX8_fail 32 = .ok (.ifCond .ne 5, 3) := by decide +kernel
theorem dX8_fail_35 : decode cX8_fail 35 = .ok (.iconst 0, 1) := by decide +kernel
theorem dX8_fail_36 : decode cX8_fail 36 = .ok (.ireturn, 1) := by decide +kernel
theorem dX8_fail_37 : decode cX8_fail 37 = .ok (.aload_n 0, 1) := by decide +kernel
theorem dX8_fail_38 : decode cX8_fail 38 = .ok (.getfield 17, 3) := by decide +kernel
theorem dX8_fail_41 : decode cX8_fail 41 = .ok (.iload_n 1, 1) := by decide +kernel
theorem dX8_fail_42 : decode cX8_fail 42 = .ok (.iconst 1, 1) := by decide +kernel
theorem dX8_fail_43 : decode cX8_fail 43 = .ok (.bastore, 1) := by decide +kernel
theorem dX8_fail_44 : decode cX8_fail 44 = .ok (.iconst 0, 1) := by decide +kernel
theorem dX8_fail_45 : decode cX8_fail 45 = .ok (.istore_n 3, 1) := by decide +kernel
theorem dX8_fail_46 : decode cX8_fail 46 = .ok (.iconst 0, 1) := by decide +kernel
theorem dX8_fail_47 : decode cX8_fail 47 = .ok (.istore 4, 2) := by decide +kernel
theorem dX8_fail_49 : decode cX8_fail 49 = .ok (.iload 4, 2) := by decide +kernel
theorem dX8_fail_51 : decode cX8_fail 51 = .ok (.aload_n 0, 1) := by decide +kernel
theorem dX8_fail_52 : decode cX8_fail 52 = .ok (.getfield 140, 3) := by decide +kernel
theorem dX8_fail_55 : decode cX8_fail 55 = .ok (.if_icmp .ge 57, 3) := by decide +kernel
theorem dX8_fail_58 : decode cX8_fail 58 = .ok (.iload_n 3, 1) := by decide +kernel
theorem dX8_fail_59 : decode cX8_fail 59 = .ok (.aload_n 0, 1) := by decide +kernel
theorem dX8_fail_60 : decode cX8_fail 60 = .ok (.getfield 75, 3) := by decide +kernel
theorem dX8_fail_63 : decode cX8_fail 63 = .ok (.iload 4, 2) := by decide +kernel
theorem dX8_fail_65 : decode cX8_fail 65 = .ok (.iaload, 1) := by decide +kernel
theorem dX8_fail_66 : decode cX8_fail 66 = .ok (.iload_n 1, 1) := by decide +kernel
theorem dX8_fail_67 : decode cX8_fail 67 = .ok (.if_icmp .ne 7, 3) := by decide +kernel
theorem dX8_fail_70 : decode cX8_fail 70 = .ok (.iconst 1, 1) := by decide +kernel
theorem dX8_fail_71 : decode cX8_fail 71 = .ok (.goto 4, 3) := by decide +kernel
theorem dX8_fail_74 : decode cX8_fail 74 = .ok (.iconst 0, 1) := by decide +kernel
theorem dX8_fail_75 : decode cX8_fail 75 = .ok (.iadd, 1) := by decide +kernel
theorem dX8_fail_76 : decode cX8_fail 76 = .ok (.istore_n 3, 1) := by decide +kernel
theorem dX8_fail_77 : decode cX8_fail 77 = .ok (.aload_n 0, 1) := by decide +kernel
theorem dX8_fail_78 : decode cX8_fail 78 = .ok (.getfield 75, 3) := by decide +kernel
theorem dX8_fail_81 : decode cX8_fail 81 = .ok (.iload 4, 2) := by decide +kernel
theorem dX8_fail_83 : decode cX8_fail 83 = .ok (.aload_n 0, 1) := by decide +kernel
theorem dX8_fail_84 : decode cX8_fail 84 = .ok (.getfield 75, 3) := by decide +kernel
theorem dX8_fail_87 : decode cX8_fail 87 = .ok (.iload 4, 2) := by decide +kernel
theorem dX8_fail_89 : decode cX8_fail 89 = .ok (.iaload, 1) := by decide +kernel
theorem dX8_fail_90 : decode cX8_fail 90 = .ok (.iload_n 1, 1) := by decide +kernel
theorem dX8_fail_91 : decode cX8_fail 91 = .ok (.if_icmp .ne 7, 3) := by decide +kernel
theorem dX8_fail_94 : decode cX8_fail 94 = .ok (.iconst (-1), 1) := by decide +kernel
theorem dX8_fail_95 : decode cX8_fail 95 = .ok (.goto 10, 3) := by decide +kernel
theorem dX8_fail_98 : decode cX8_fail 98 = .ok (.aload_n 0, 1) := by decide +kernel
theorem dX8_fail_99 : decode cX8_fail 99 = .ok (.getfield 75, 3) := by decide +kernel
theorem dX8_fail_102 : decode cX8_fail 102 = .ok (.iload 4, 2) := by decide +kernel
theorem dX8_fail_104 : decode cX8_fail 104 = .ok (.iaload, 1) := by decide +kernel
theorem dX8_fail_105 : decode cX8_fail 105 = .ok (.iastore, 1) := by decide +kernel
theorem dX8_fail_106 : decode cX8_fail 106 = .ok (.iinc 4 1, 3) := by decide +kernel
theorem dX8_fail_109 : decode cX8_fail 109 = .ok (.goto (-60), 3) := by decide +kernel
theorem dX8_fail_112 : decode cX8_fail 112 = .ok (.iload_n 3, 1) := by decide +kernel
theorem dX8_fail_113 : decode cX8_fail 113 = .ok (.ireturn, 1) := by decide +kernel
theorem dX8_doubtOn_0 : decode cX8_doubtOn 0 = .ok (.iconst 0, 1) := by decide +kernel
theorem dX8_doubtOn_1 : decode cX8_doubtOn 1 = .ok (.istore_n 3, 1) := by decide +kernel
theorem dX8_doubtOn_2 : decode cX8_doubtOn 2 = .ok (.iconst 0, 1) := by decide +kernel
theorem dX8_doubtOn_3 : decode cX8_doubtOn 3 = .ok (.istore 4, 2) := by decide +kernel
theorem dX8_doubtOn_5 : decode cX8_doubtOn 5 = .ok (.iload 4, 2) := by decide +kernel
theorem dX8_doubtOn_7 : decode cX8_doubtOn 7 = .ok (.aload_n 0, 1) := by decide +kernel
theorem dX8_doubtOn_8 : decode cX8_doubtOn 8 = .ok (.getfield 130, 3) := by decide +kernel
theorem dX8_doubtOn_11 : decode cX8_doubtOn 11 = .ok (.if_icmp .ge 114, 3) := by decide +kernel
theorem dX8_doubtOn_14 : decode cX8_doubtOn 14 = .ok (.iconst (-1), 1) := by decide +kernel
theorem dX8_doubtOn_15 : decode cX8_doubtOn 15 = .ok (.istore 5, 2) := by decide +kernel
theorem dX8_doubtOn_17 : decode cX8_doubtOn 17 = .ok (.iconst 0, 1) := by decide +kernel
theorem dX8_doubtOn_18 : decode cX8_doubtOn 18 = .ok (.istore 6, 2) := by decide +kernel
theorem dX8_doubtOn_20 : decode cX8_doubtOn 20 = .ok (.iload 6, 2) := by decide +kernel
theorem dX8_doubtOn_22 : decode cX8_doubtOn 22 = .ok (.aload_n 0, 1) := by decide +kernel
theorem dX8_doubtOn_23 : decode cX8_doubtOn 23 = .ok (.getfield 51, 3) := by decide +kernel
theorem dX8_doubtOn_26 : decode cX8_doubtOn 26 = .ok (.iload_n 1, 1) := by decide +kernel
theorem dX8_doubtOn_27 : decode cX8_doubtOn 27 = .ok (.iaload, 1) := by decide +kernel
theorem dX8_doubtOn_28 : decode cX8_doubtOn 28 = .ok (.if_icmp .ge 50, 3) := by decide +kernel
theorem dX8_doubtOn_31 : decode cX8_doubtOn 31 = .ok (.bipush 50, 2) := by decide +kernel
theorem dX8_doubtOn_33 : decode cX8_doubtOn 33 = .ok (.iload_n 1, 1) := by decide +kernel
theorem dX8_doubtOn_34 : decode cX8_doubtOn 34 = .ok (.imul, 1) := by decide +kernel
theorem dX8_doubtOn_35 : decode cX8_doubtOn 35 = .ok (.iload 6, 2) := by decide +kernel
theorem dX8_doubtOn_37 : decode cX8_doubtOn 37 = .ok (.iadd, 1) := by decide +kernel
theorem dX8_doubtOn_38 : decode cX8_doubtOn 38 = .ok (.istore 7, 2) := by decide +kernel
theorem dX8_doubtOn_40 : decode cX8_doubtOn 40 = .ok (.aload_n 0, 1) := by decide +kernel
theorem dX8_doubtOn_41 : decode cX8_doubtOn 41 = .ok (.getfield 54, 3) := by decide +kernel
theorem dX8_doubtOn_44 : decode cX8_doubtOn 44 = .ok (.iload 7, 2) := by decide +kernel
theorem dX8_doubtOn_46 : decode cX8_doubtOn 46 = .ok (.iaload, 1) := by decide +kernel
theorem dX8_doubtOn_47 : decode cX8_doubtOn 47 = .ok (.iload 4, 2) := by decide +kernel
theorem dX8_doubtOn_49 : decode cX8_doubtOn 49 = .ok (.if_icmp .ne 19, 3) := by decide +kernel
theorem dX8_doubtOn_52 : decode cX8_doubtOn 52 = .ok (.aload_n 0, 1) := by decide +kernel
theorem dX8_doubtOn_53 : decode cX8_doubtOn 53 = .ok (.getfield 57, 3) := by decide +kernel
theorem dX8_doubtOn_56 : decode cX8_doubtOn 56 = .ok (.iload 7, 2) := by decide +kernel
theorem dX8_doubtOn_58 : decode cX8_doubtOn 58 = .ok (.iaload, 1) := by decide +kernel
theorem dX8_doubtOn_59 : decode cX8_doubtOn 59 = .ok (.iload_n 2, 1) := by decide +kernel
theorem dX8_doubtOn_60 : decode cX8_doubtOn 60 = .ok (.if_icmp .gt 8, 3) := by decide +kernel
theorem dX8_doubtOn_63 : decode cX8_doubtOn 63 = .ok (.iload 7, 2) := by decide +kernel
theorem dX8_doubtOn_65 : decode cX8_doubtOn 65 = .ok (.goto 5, 3) := by decide +kernel
theorem dX8_doubtOn_68 : decode cX8_doubtOn 68 = .ok (.iload 5, 2) := by decide +kernel
theorem dX8_doubtOn_70 : decode cX8_doubtOn 70 = .ok (.istore 5, 2) := by decide +kernel
theorem dX8_doubtOn_72 : decode cX8_doubtOn 72 = .ok (.iinc 6 1, 3) := by decide +kernel
theorem dX8_doubtOn_75 : decode cX8_doubtOn 75 = .ok (.goto (-55), 3) := by decide +kernel
theorem dX8_doubtOn_78 : decode cX8_doubtOn 78 = .ok (.iload_n 3, 1) := by decide +kernel
theorem dX8_doubtOn_79 : decode cX8_doubtOn 79 = .ok (.iload 5, 2) := by decide +kernel
theorem dX8_doubtOn_81 : decode cX8_doubtOn 81 = .ok (.iconst (-1), 1) := by decide +kernel
theorem dX8_doubtOn_82 : decode cX8_doubtOn 82 = .ok (.if_icmp .ne 7, 3) := by decide +kernel
theorem dX8_doubtOn_85 : decode cX8_doubtOn 85 = .ok (.iconst 0, 1) := by decide +kernel
theorem dX8_doubtOn_86 : decode cX8_doubtOn 86 = .ok (.goto 31, 3) := by decide +kernel
theorem dX8_doubtOn_89 : decode cX8_doubtOn 89 = .ok (.aload_n 0, 1) := by decide +kernel
theorem dX8_doubtOn_90 : decode cX8_doubtOn 90 = .ok (.getfield 60, 3) := by decide +kernel
theorem dX8_doubtOn_93 : decode cX8_doubtOn 93 = .ok (.iload 5, 2) := by decide +kernel
theorem dX8_doubtOn_95 : decode cX8_doubtOn 95 = .ok (.baload, 1) := by decide +kernel
theorem dX8_doubtOn_96 : decode cX8_doubtOn 96 = .ok (.ifCond .eq 14, 3) := by decide +kernel
theorem dX8_doubtOn_99 : decode cX8_doubtOn 99 = .ok (.aload_n 0, 1) := by decide +kernel
theorem dX8_doubtOn_100 : decode cX8_doubtOn 100 = .ok (.getfield 21, 3) := by decide +kernel
theorem dX8_doubtOn_103 : decode cX8_doubtOn 103 = .ok (.iload 4, 2) := by decide +kernel
theorem dX8_doubtOn_105 : decode cX8_doubtOn 105 = .ok (.iaload, 1) := by decide +kernel
theorem dX8_doubtOn_106 : decode cX8_doubtOn 106 = .ok (.ineg, 1) := by decide +kernel
theorem dX8_doubtOn_107 : decode cX8_doubtOn 107 = .ok (.goto 10, 3) := by decide +kernel
theorem dX8_doubtOn_110 : decode cX8_doubtOn 110 = .ok (.aload_n 0, 1) := by decide +kernel
theorem dX8_doubtOn_111 : decode cX8_doubtOn 111 = .ok (.getfield 21, 3) := by decide +kernel
theorem dX8_doubtOn_114 : decode cX8_doubtOn 114 = .ok (.iload 4, 2) := by decide +kernel
theorem dX8_doubtOn_116 : decode cX8_doubtOn 116 = .ok (.iaload, 1) := by decide +kernel
theorem dX8_doubtOn_117 : decode cX8_doubtOn 117 = .ok (.iadd, 1) := by decide +kernel
theorem dX8_doubtOn_118 : decode cX8_doubtOn 118 = .ok (.istore_n 3, 1) := by decide +kernel
theorem dX8_doubtOn_119 : decode cX8_doubtOn 119 = .ok (.iinc 4 1, 3) := by decide +kernel
theorem dX8_doubtOn_122 : decode cX8_doubtOn 122 = .ok (.goto (-117), 3) := by decide +kernel
theorem dX8_doubtOn_125 : decode cX8_doubtOn 125 = .ok (.iload_n 3, 1) := by decide +kernel
theorem dX8_doubtOn_126 : decode cX8_doubtOn 126 = .ok (.ireturn, 1) := by decide +kernel
theorem dX8_valueOf_0 : decode cX8_valueOf 0 = .ok (.aload_n 0, 1) := by decide +kernel
theorem dX8_valueOf_1 : decode cX8_valueOf 1 = .ok (.iload_n 1, 1) := by decide +kernel
theorem dX8_valueOf_2 : decode cX8_valueOf 2 = .ok (.aload_n 0, 1) := by decide +kernel
theorem dX8_valueOf_3 : decode cX8_valueOf 3 = .ok (.getfield 164, 3) := by decide +kernel
theorem dX8_valueOf_6 : decode cX8_valueOf 6 = .ok (.invokevirtual 171, 3) := by decide +kernel
theorem dX8_valueOf_9 : decode cX8_valueOf 9 = .ok (.ifCond .le 15, 3) := by decide +kernel
theorem dX8_valueOf_12 : decode cX8_valueOf 12 = .ok (.aload_n 0, 1) := by decide +kernel
theorem dX8_valueOf_13 : decode cX8_valueOf 13 = .ok (.getfield 33, 3) := by decide +kernel
theorem dX8_valueOf_16 : decode cX8_valueOf 16 = .ok (.iload_n 1, 1) := by decide +kernel
theorem dX8_valueOf_17 : decode cX8_valueOf 17 = .ok (.iaload, 1) := by decide +kernel
theorem dX8_valueOf_18 : decode cX8_valueOf 18 = .ok (.bipush 10, 2) := by decide +kernel
theorem dX8_valueOf_20 : decode cX8_valueOf 20 = .ok (.idiv, 1) := by decide +kernel
theorem dX8_valueOf_21 : decode cX8_valueOf 21 = .ok (.goto 9, 3) := by decide +kernel
theorem dX8_valueOf_24 : decode cX8_valueOf 24 = .ok (.aload_n 0, 1) := by decide +kernel
theorem dX8_valueOf_25 : decode cX8_valueOf 25 = .ok (.getfield 33, 3) := by decide +kernel
theorem dX8_valueOf_28 : decode cX8_valueOf 28 = .ok (.iload_n 1, 1) := by decide +kernel
theorem dX8_valueOf_29 : decode cX8_valueOf 29 = .ok (.iaload, 1) := by decide +kernel
theorem dX8_valueOf_30 : decode cX8_valueOf 30 = .ok (.ireturn, 1) := by decide +kernel
theorem dX8_worth_0 : decode cX8_worth 0 = .ok (.aload_n 0, 1) := by decide +kernel
theorem dX8_worth_1 : decode cX8_worth 1 = .ok (.aload_n 0, 1) := by decide +kernel
theorem dX8_worth_2 : decode cX8_worth 2 = .ok (.getfield 63, 3) := by decide +kernel
theorem dX8_worth_5 : decode cX8_worth 5 = .ok (.iload_n 1, 1) := by decide +kernel
theorem dX8_worth_6 : decode cX8_worth 6 = .ok (.iaload, 1) := by decide +kernel
theorem dX8_worth_7 : decode cX8_worth 7 = .ok (.invokevirtual 175, 3) := by decide +kernel
theorem dX8_worth_10 : decode cX8_worth 10 = .ok (.aload_n 0, 1) := by decide +kernel
theorem dX8_worth_11 : decode cX8_worth 11 = .ok (.getfield 69, 3) := by decide +kernel
theorem dX8_worth_14 : decode cX8_worth 14 = .ok (.iload_n 1, 1) := by decide +kernel
theorem dX8_worth_15 : decode cX8_worth 15 = .ok (.iaload, 1) := by decide +kernel
theorem dX8_worth_16 : decode cX8_worth 16 = .ok (.imul, 1) := by decide +kernel
theorem dX8_worth_17 : decode cX8_worth 17 = .ok (.bipush 60, 2) := by decide +kernel
theorem dX8_worth_19 : decode cX8_worth 19 = .ok (.idiv, 1) := by decide +kernel
theorem dX8_worth_20 : decode cX8_worth 20 = .ok (.ireturn, 1) := by decide +kernel
theorem dX8_isBarred_0 : decode cX8_isBarred 0 = .ok (.aload_n 0, 1) := by decide +kernel
theorem dX8_isBarred_1 : decode cX8_isBarred 1 = .ok (.iload_n 1, 1) := by decide +kernel
theorem dX8_isBarred_2 : decode cX8_isBarred 2 = .ok (.putfield 178, 3) := by decide +kernel
theorem dX8_isBarred_5 : decode cX8_isBarred 5 = .ok (.aload_n 0, 1) := by decide +kernel
theorem dX8_isBarred_6 : decode cX8_isBarred 6 = .ok (.iload_n 2, 1) := by decide +kernel
theorem dX8_isBarred_7 : decode cX8_isBarred 7 = .ok (.putfield 181, 3) := by decide +kernel
theorem dX8_isBarred_10 : decode cX8_isBarred 10 = .ok (.iconst 1, 1) := by decide +kernel
theorem dX8_isBarred_11 : decode cX8_isBarred 11 = .ok (.ireturn, 1) := by decide +kernel
theorem dX8_isBarredBehind_0 : decode cX8_isBarredBehind 0 = .ok (.aload_n 0, 1) := by decide +kernel
theorem dX8_isBarredBehind_1 : decode cX8_isBarredBehind 1 = .ok (.getfield 63, 3) := by decide +kernel
theorem dX8_isBarredBehind_4 : decode cX8_isBarredBehind 4 = .ok (.iload_n 1, 1) := by decide +kernel
theorem dX8_isBarredBehind_5 : decode cX8_isBarredBehind 5 = .ok (.iaload, 1) := by decide +kernel
theorem dX8_isBarredBehind_6 : decode cX8_isBarredBehind 6 = .ok (.istore 4, 2) := by decide +kernel
theorem dX8_isBarredBehind_8 : decode cX8_isBarredBehind 8 = .ok (.aload_n 0, 1) := by decide +kernel
theorem dX8_isBarredBehind_9 : decode cX8_isBarredBehind 9 = .ok (.getfield 30, 3) := by decide +kernel
theorem dX8_isBarredBehind_12 : decode cX8_isBarredBehind 12 = .ok (.iload 4, 2) := by decide +kernel
theorem dX8_isBarredBehind_14 : decode cX8_isBarredBehind 14 = .ok (.iaload, 1) := by decide +kernel
theorem dX8_isBarredBehind_15 : decode cX8_isBarredBehind 15 = .ok (.istore 5, 2) := by decide +kernel
theorem dX8_isBarredBehind_17 : decode cX8_isBarredBehind 17 = .ok (.aload_n 0, 1) := by decide +kernel
theorem dX8_isBarredBehind_18 : decode cX8_isBarredBehind 18 = .ok (.iload 4, 2) := by decide +kernel
theorem dX8_isBarredBehind_20 : decode cX8_isBarredBehind 20 = .ok (.invokevirtual 167, 3) := by decide +kernel
theorem dX8_isBarredBehind_23 : decode cX8_isBarredBehind 23 = .ok (.ifCond .le 31, 3) := by decide +kernel
theorem dX8_isBarredBehind_26 : decode cX8_isBarredBehind 26 = .ok (.aload_n 0, 1) := by decide +kernel
theorem dX8_isBarredBehind_27 : decode cX8_isBarredBehind 27 = .ok (.getfield 13, 3) := by decide +kernel
theorem dX8_isBarredBehind_30 : decode cX8_isBarredBehind 30 = .ok (.iload_n 2, 1) := by decide +kernel
theorem dX8_isBarredBehind_31 : decode cX8_isBarredBehind 31 = .ok (.iaload, 1) := by decide +kernel
theorem dX8_isBarredBehind_32 : decode cX8_isBarredBehind 32 = .ok (.aload_n 0, 1) := by decide +kernel
theorem dX8_isBarredBehind_33 : decode cX8_isBarredBehind 33 = .ok (.getfield 36, 3) := by decide +kernel
theorem dX8_isBarredBehind_36 : decode cX8_isBarredBehind 36 = .ok (.iload 4, 2) := by decide +kernel
theorem dX8_isBarredBehind_38 : decode cX8_isBarredBehind 38 = .ok (.iaload, 1) := by decide +kernel
theorem dX8_isBarredBehind_39 : decode cX8_isBarredBehind 39 = .ok (.if_icmp .eq 15, 3) := by decide +kernel
theorem dX8_isBarredBehind_42 : decode cX8_isBarredBehind 42 = .ok (.aload_n 0, 1) := by decide +kernel
theorem dX8_isBarredBehind_43 : decode cX8_isBarredBehind 43 = .ok (.iconst 4, 1) := by decide +kernel
theorem dX8_isBarredBehind_44 : decode cX8_isBarredBehind 44 = .ok (.aload_n 0, 1) := by decide +kernel
theorem dX8_isBarredBehind_45 : decode cX8_isBarredBehind 45 = .ok (.iload 4, 2) := by decide +kernel
theorem dX8_isBarredBehind_47 : decode cX8_isBarredBehind 47 = .ok (.invokevirtual 167, 3) := by decide +kernel
theorem dX8_isBarredBehind_50 : decode cX8_isBarredBehind 50 = .ok (.invokevirtual 184, 3) := by decide +kernel
theorem dX8_isBarredBehind_53 : decode cX8_isBarredBehind 53 = .ok (.ireturn, 1) := by decide +kernel
theorem dX8_isBarredBehind_54 : decode cX8_isBarredBehind 54 = .ok (.aload_n 0, 1) := by decide +kernel
theorem dX8_isBarredBehind_55 : decode cX8_isBarredBehind 55 = .ok (.getfield 7, 3) := by decide +kernel
theorem dX8_isBarredBehind_58 : decode cX8_isBarredBehind 58 = .ok (.iload_n 2, 1) := by decide +kernel
theorem dX8_isBarredBehind_59 : decode cX8_isBarredBehind 59 = .ok (.laload, 1) := by decide +kernel
theorem dX8_isBarredBehind_60 : decode cX8_isBarredBehind 60 = .ok (.iload_n 3, 1) := by decide +kernel
theorem dX8_isBarredBehind_61 : decode cX8_isBarredBehind 61 = .ok (.i2l, 1) := by decide +kernel
theorem dX8_isBarredBehind_62 : decode cX8_isBarredBehind 62 = .ok (.lcmp, 1) := by decide +kernel
theorem dX8_isBarredBehind_63 : decode cX8_isBarredBehind 63 = .ok (.ifCond .ge 19, 3) := by decide +kernel
theorem dX8_isBarredBehind_66 : decode cX8_isBarredBehind 66 = .ok (.aload_n 0, 1) := by decide +kernel
theorem dX8_isBarredBehind_67 : decode cX8_isBarredBehind 67 = .ok (.iconst 5, 1) := by decide +kernel
theorem dX8_isBarredBehind_68 : decode cX8_isBarredBehind 68 = .ok (.iload_n 3, 1) := by decide +kernel
theorem dX8_isBarredBehind_69 : decode cX8_isBarredBehind 69 = .ok (.i2l, 1) := by decide +kernel
theorem dX8_isBarredBehind_70 : decode cX8_isBarredBehind 70 = .ok (.aload_n 0, 1) := by decide +kernel
theorem dX8_isBarredBehind_71 : decode cX8_isBarredBehind 71 = .ok (.getfield 7, 3) := by decide +kernel
theorem dX8_isBarredBehind_74 : decode cX8_isBarredBehind 74 = .ok (.iload_n 2, 1) := by decide +kernel
theorem dX8_isBarredBehind_75 : decode cX8_isBarredBehind 75 = .ok (.laload, 1) := by decide +kernel
theorem dX8_isBarredBehind_76 : decode cX8_isBarredBehind 76 = .ok (.lsub, 1) := by decide +kernel
theorem dX8_isBarredBehind_77 : decode cX8_isBarredBehind 77 = .ok (.l2i, 1) := by decide +kernel
theorem dX8_isBarredBehind_78 : decode cX8_isBarredBehind 78 = .ok (.invokevirtual 184, 3) := by decide +kernel
theorem dX8_isBarredBehind_81 : decode cX8_isBarredBehind 81 = .ok (.ireturn, 1) := by decide +kernel
theorem dX8_isBarredBehind_82 : decode cX8_isBarredBehind 82 = .ok (.aload_n 0, 1) := by decide +kernel
theorem dX8_isBarredBehind_83 : decode cX8_isBarredBehind 83 = .ok (.getfield 66, 3) := by decide +kernel
theorem dX8_isBarredBehind_86 : decode cX8_isBarredBehind 86 = .ok (.iload_n 1, 1) := by decide +kernel
theorem dX8_isBarredBehind_87 : decode cX8_isBarredBehind 87 = .ok (.iaload, 1) := by decide +kernel
theorem dX8_isBarredBehind_88 : decode cX8_isBarredBehind 88 = .ok (.iload 5, 2) := by decide +kernel
theorem dX8_isBarredBehind_90 : decode cX8_isBarredBehind 90 = .ok (.if_icmp .ne 27, 3) := by decide +kernel
theorem dX8_isBarredBehind_93 : decode cX8_isBarredBehind 93 = .ok (.aload_n 0, 1) := by decide +kernel
theorem dX8_isBarredBehind_94 : decode cX8_isBarredBehind 94 = .ok (.getfield 24, 3) := by decide +kernel
theorem dX8_isBarredBehind_97 : decode cX8_isBarredBehind 97 = .ok (.bipush 10, 2) := by decide +kernel
theorem dX8_isBarredBehind_99 : decode cX8_isBarredBehind 99 = .ok (.iload 5, 2) := by decide +kernel
theorem dX8_isBarredBehind_101 : decode cX8_isBarredBehind 101 = .ok (.imul, 1) := by decide +kernel
theorem dX8_isBarredBehind_102 : decode cX8_isBarredBehind 102 = .ok (.iload_n 2, 1) := by decide +kernel
theorem dX8_isBarredBehind_103 : decode cX8_isBarredBehind 103 = .ok (.iadd, 1) := by decide +kernel
theorem dX8_isBarredBehind_104 : decode cX8_isBarredBehind 104 = .ok (.baload, 1) := by decide +kernel
theorem dX8_isBarredBehind_105 : decode cX8_isBarredBehind 105 = .ok (.ifCond .eq 12, 3) := by decide +kernel
theorem dX8_isBarredBehind_108 : decode cX8_isBarredBehind 108 = .ok (.aload_n 0, 1) := by decide +kernel
theorem dX8_isBarredBehind_109 : decode cX8_isBarredBehind 109 = .ok (.bipush 6, 2) := by decide +kernel
theorem dX8_isBarredBehind_111 : decode cX8_isBarredBehind 111 = .ok (.iload 5, 2) := by decide +kernel
theorem dX8_isBarredBehind_113 : decode cX8_isBarredBehind 113 = .ok (.invokevirtual 184, 3) := by decide +kernel
theorem dX8_isBarredBehind_116 : decode cX8_isBarredBehind 116 = .ok (.ireturn, 1) := by decide +kernel
theorem dX8_isBarredBehind_117 : decode cX8_isBarredBehind 117 = .ok (.aload_n 0, 1) := by decide +kernel
theorem dX8_isBarredBehind_118 : decode cX8_isBarredBehind 118 = .ok (.getfield 140, 3) := by decide +kernel
theorem dX8_isBarredBehind_121 : decode cX8_isBarredBehind 121 = .ok (.bipush 60, 2) := by decide +kernel
theorem dX8_isBarredBehind_123 : decode cX8_isBarredBehind 123 = .ok (.if_icmp .ne 18, 3) := by decide +kernel
theorem dX8_isBarredBehind_126 : decode cX8_isBarredBehind 126 = .ok (.aload_n 0, 1) := by decide +kernel
theorem dX8_isBarredBehind_127 : decode cX8_isBarredBehind 127 = .ok (.bipush 7, 2) := by decide +kernel
theorem dX8_isBarredBehind_129 : decode cX8_isBarredBehind 129 = .ok (.bipush 60, 2) := by decide +kernel
theorem dX8_isBarredBehind_131 : decode cX8_isBarredBehind 131 = .ok (.invokevirtual 184, 3) := by decide +kernel
theorem dX8_isBarredBehind_134 : decode cX8_isBarredBehind 134 = .ok (.ifCond .eq 7, 3) := by decide +kernel
theorem dX8_isBarredBehind_137 : decode cX8_isBarredBehind 137 = .ok (.iconst 1, 1) := by decide +kernel
theorem dX8_isBarredBehind_138 : decode cX8_isBarredBehind 138 = .ok (.goto 4, 3) := by decide +kernel
theorem dX8_isBarredBehind_141 : decode cX8_isBarredBehind 141 = .ok (.iconst 0, 1) := by decide +kernel
theorem dX8_isBarredBehind_142 : decode cX8_isBarredBehind 142 = .ok (.ireturn, 1) := by decide +kernel
theorem dX8_isSaleBarred_0 : decode cX8_isSaleBarred 0 = .ok (.aload_n 0, 1) := by decide +kernel
theorem dX8_isSaleBarred_1 : decode cX8_isSaleBarred 1 = .ok (.iconst 0, 1) := by decide +kernel
theorem dX8_isSaleBarred_2 : decode cX8_isSaleBarred 2 = .ok (.putfield 178, 3) := by decide +kernel
theorem dX8_isSaleBarred_5 : decode cX8_isSaleBarred 5 = .ok (.aload_n 0, 1) := by decide +kernel
theorem dX8_isSaleBarred_6 : decode cX8_isSaleBarred 6 = .ok (.iconst (-1), 1) := by decide +kernel
theorem dX8_isSaleBarred_7 : decode cX8_isSaleBarred 7 = .ok (.putfield 181, 3) := by decide +kernel
theorem dX8_isSaleBarred_10 : decode cX8_isSaleBarred 10 = .ok (.aload_n 0, 1) := by decide +kernel
theorem dX8_isSaleBarred_11 : decode cX8_isSaleBarred 11 = .ok (.getfield 17, 3) := by decide +kernel
theorem dX8_isSaleBarred_14 : decode cX8_isSaleBarred 14 = .ok (.aload_n 0, 1) := by decide +kernel
theorem dX8_isSaleBarred_15 : decode cX8_isSaleBarred 15 = .ok (.getfield 66, 3) := by decide +kernel
theorem dX8_isSaleBarred_18 : decode cX8_isSaleBarred 18 = .ok (.iload_n 1, 1) := by decide +kernel
theorem dX8_isSaleBarred_19 : decode cX8_isSaleBarred 19 = .ok (.iaload, 1) := by decide +kernel
theorem dX8_isSaleBarred_20 : decode cX8_isSaleBarred 20 = .ok (.baload, 1) := by decide +kernel
theorem dX8_isSaleBarred_21 : decode cX8_isSaleBarred 21 = .ok (.ifCond .ne 12, 3) := by decide +kernel
theorem dX8_isSaleBarred_24 : decode cX8_isSaleBarred 24 = .ok (.aload_n 0, 1) := by decide +kernel
theorem dX8_isSaleBarred_25 : decode cX8_isSaleBarred 25 = .ok (.getfield 17, 3) := by decide +kernel
theorem dX8_isSaleBarred_28 : decode cX8_isSaleBarred 28 = .ok (.iload_n 3, 1) := by decide +kernel
theorem dX8_isSaleBarred_29 : decode cX8_isSaleBarred 29 = .ok (.baload, 1) := by decide +kernel
theorem dX8_isSaleBarred_30 : decode cX8_isSaleBarred 30 = .ok (.ifCond .eq 33, 3) := by decide +kernel
theorem dX8_isSaleBarred_33 : decode cX8_isSaleBarred 33 = .ok (.aload_n 0, 1) := by decide +kernel
theorem dX8_isSaleBarred_34 : decode cX8_isSaleBarred 34 = .ok (.iconst 1, 1) := by decide +kernel
theorem dX8_isSaleBarred_35 : decode cX8_isSaleBarred 35 = .ok (.aload_n 0, 1) := by decide +kernel
theorem dX8_isSaleBarred_36 : decode cX8_isSaleBarred 36 = .ok (.getfield 17, 3) := by decide +kernel
theorem dX8_isSaleBarred_39 : decode cX8_isSaleBarred 39 = .ok (.aload_n 0, 1) := by decide +kernel
theorem dX8_isSaleBarred_40 : decode cX8_isSaleBarred 40 = .ok (.getfield 66, 3) := by decide +kernel
theorem dX8_isSaleBarred_43 : decode cX8_isSaleBarred 43 = .ok (.iload_n 1, 1) := by decide +kernel
theorem dX8_isSaleBarred_44 : decode cX8_isSaleBarred 44 = .ok (.iaload, 1) := by decide +kernel
theorem dX8_isSaleBarred_45 : decode cX8_isSaleBarred 45 = .ok (.baload, 1) := by decide +kernel
theorem dX8_isSaleBarred_46 : decode cX8_isSaleBarred 46 = .ok (.ifCond .eq 12, 3) := by decide +kernel
theorem dX8_isSaleBarred_49 : decode cX8_isSaleBarred 49 = .ok (.aload_n 0, 1) := by decide +kernel
theorem dX8_isSaleBarred_50 : decode cX8_isSaleBarred 50 = .ok (.getfield 66, 3) := by decide +kernel
theorem dX8_isSaleBarred_53 : decode cX8_isSaleBarred 53 = .ok (.iload_n 1, 1) := by decide +kernel
theorem dX8_isSaleBarred_54 : decode cX8_isSaleBarred 54 = .ok (.iaload, 1) := by decide +kernel
theorem dX8_isSaleBarred_55 : decode cX8_isSaleBarred 55 = .ok (.goto 4, 3) := by decide +kernel
theorem dX8_isSaleBarred_58 : decode cX8_isSaleBarred 58 = .ok (.iload_n 3, 1) := by decide +kernel
theorem dX8_isSaleBarred_59 : decode cX8_isSaleBarred 59 = .ok (.invokevirtual 184, 3) := by decide +kernel
theorem dX8_isSaleBarred_62 : decode cX8_isSaleBarred 62 = .ok (.ireturn, 1) := by decide +kernel
theorem dX8_isSaleBarred_63 : decode cX8_isSaleBarred 63 = .ok (.aload_n 0, 1) := by decide +kernel
theorem dX8_isSaleBarred_64 : decode cX8_isSaleBarred 64 = .ok (.getfield 69, 3) := by decide +kernel
theorem dX8_isSaleBarred_67 : decode cX8_isSaleBarred 67 = .ok (.iload_n 1, 1) := by decide +kernel
theorem dX8_isSaleBarred_68 : decode cX8_isSaleBarred 68 = .ok (.iaload, 1) := by decide +kernel
theorem dX8_isSaleBarred_69 : decode cX8_isSaleBarred 69 = .ok (.iload_n 2, 1) := by decide +kernel
theorem dX8_isSaleBarred_70 : decode cX8_isSaleBarred 70 = .ok (.if_icmp .ge 17, 3) := by decide +kernel
theorem dX8_isSaleBarred_73 : decode cX8_isSaleBarred 73 = .ok (.aload_n 0, 1) := by decide +kernel
theorem dX8_isSaleBarred_74 : decode cX8_isSaleBarred 74 = .ok (.iconst 2, 1) := by decide +kernel
theorem dX8_isSaleBarred_75 : decode cX8_isSaleBarred 75 = .ok (.iload_n 2, 1) := by decide +kernel
theorem dX8_isSaleBarred_76 : decode cX8_isSaleBarred 76 = .ok (.aload_n 0, 1) := by decide +kernel
theorem dX8_isSaleBarred_77 : decode cX8_isSaleBarred 77 = .ok (.getfield 69, 3) := by decide +kernel
theorem dX8_isSaleBarred_80 : decode cX8_isSaleBarred 80 = .ok (.iload_n 1, 1) := by decide +kernel
theorem dX8_isSaleBarred_81 : decode cX8_isSaleBarred 81 = .ok (.iaload, 1) := by decide +kernel
theorem dX8_isSaleBarred_82 : decode cX8_isSaleBarred 82 = .ok (.isub, 1) := by decide +kernel
theorem dX8_isSaleBarred_83 : decode cX8_isSaleBarred 83 = .ok (.invokevirtual 184, 3) := by decide +kernel
theorem dX8_isSaleBarred_86 : decode cX8_isSaleBarred 86 = .ok (.ireturn, 1) := by decide +kernel
theorem dX8_isSaleBarred_87 : decode cX8_isSaleBarred 87 = .ok (.aload_n 0, 1) := by decide +kernel
theorem dX8_isSaleBarred_88 : decode cX8_isSaleBarred 88 = .ok (.getfield 75, 3) := by decide +kernel
theorem dX8_isSaleBarred_91 : decode cX8_isSaleBarred 91 = .ok (.iload_n 1, 1) := by decide +kernel
theorem dX8_isSaleBarred_92 : decode cX8_isSaleBarred 92 = .ok (.iaload, 1) := by decide +kernel
theorem dX8_isSaleBarred_93 : decode cX8_isSaleBarred 93 = .ok (.iconst (-1), 1) := by decide +kernel
theorem dX8_isSaleBarred_94 : decode cX8_isSaleBarred 94 = .ok (.if_icmp .eq 17, 3) := by decide +kernel
theorem dX8_isSaleBarred_97 : decode cX8_isSaleBarred 97 = .ok (.aload_n 0, 1) := by decide +kernel
theorem dX8_isSaleBarred_98 : decode cX8_isSaleBarred 98 = .ok (.iconst 3, 1) := by decide +kernel
theorem dX8_isSaleBarred_99 : decode cX8_isSaleBarred 99 = .ok (.aload_n 0, 1) := by decide +kernel
theorem dX8_isSaleBarred_100 : decode cX8_isSaleBarred 100 = .ok (.getfield 75, 3) := by decide +kernel
theorem dX8_isSaleBarred_103 : decode cX8_isSaleBarred 103 = .ok (.iload_n 1, 1) := by decide +kernel
theorem dX8_isSaleBarred_104 : decode cX8_isSaleBarred 104 = .ok (.iaload, 1) := by decide +kernel
theorem dX8_isSaleBarred_105 : decode cX8_isSaleBarred 105 = .ok (.invokevirtual 184, 3) := by decide +kernel
theorem dX8_isSaleBarred_108 : decode cX8_isSaleBarred 108 = .ok (.goto 11, 3) := by decide +kernel
theorem dX8_isSaleBarred_111 : decode cX8_isSaleBarred 111 = .ok (.aload_n 0, 1) := by decide +kernel
theorem dX8_isSaleBarred_112 : decode cX8_isSaleBarred 112 = .ok (.iload_n 1, 1) := by decide +kernel
theorem dX8_isSaleBarred_113 : decode cX8_isSaleBarred 113 = .ok (.iload_n 3, 1) := by decide +kernel
theorem dX8_isSaleBarred_114 : decode cX8_isSaleBarred 114 = .ok (.iload 4, 2) := by decide +kernel
theorem dX8_isSaleBarred_116 : decode cX8_isSaleBarred 116 = .ok (.invokevirtual 188, 3) := by decide +kernel
theorem dX8_isSaleBarred_119 : decode cX8_isSaleBarred 119 = .ok (.ireturn, 1) := by decide +kernel
theorem dX8_goes_0 : decode cX8_goes 0 = .ok (.aload_n 0, 1) := by decide +kernel
theorem dX8_goes_1 : decode cX8_goes 1 = .ok (.getfield 66, 3) := by decide +kernel
theorem dX8_goes_4 : decode cX8_goes 4 = .ok (.iload_n 1, 1) := by decide +kernel
theorem dX8_goes_5 : decode cX8_goes 5 = .ok (.iaload, 1) := by decide +kernel
theorem dX8_goes_6 : decode cX8_goes 6 = .ok (.istore 6, 2) := by decide +kernel
theorem dX8_goes_8 : decode cX8_goes 8 = .ok (.aload_n 0, 1) := by decide +kernel
theorem dX8_goes_9 : decode cX8_goes 9 = .ok (.getfield 30, 3) := by decide +kernel
theorem dX8_goes_12 : decode cX8_goes 12 = .ok (.aload_n 0, 1) := by decide +kernel
theorem dX8_goes_13 : decode cX8_goes 13 = .ok (.getfield 63, 3) := by decide +kernel
theorem dX8_goes_16 : decode cX8_goes 16 = .ok (.iload_n 1, 1) := by decide +kernel
theorem dX8_goes_17 : decode cX8_goes 17 = .ok (.iaload, 1) := by decide +kernel
theorem dX8_goes_18 : decode cX8_goes 18 = .ok (.iaload, 1) := by decide +kernel
theorem dX8_goes_19 : decode cX8_goes 19 = .ok (.istore 7, 2) := by decide +kernel
theorem dX8_goes_21 : decode cX8_goes 21 = .ok (.aload_n 0, 1) := by decide +kernel
theorem dX8_goes_22 : decode cX8_goes 22 = .ok (.getfield 75, 3) := by decide +kernel
theorem dX8_goes_25 : decode cX8_goes 25 = .ok (.iload_n 1, 1) := by decide +kernel
theorem dX8_goes_26 : decode cX8_goes 26 = .ok (.iaload, 1) := by decide +kernel
theorem dX8_goes_27 : decode cX8_goes 27 = .ok (.istore 8, 2) := by decide +kernel
theorem dX8_goes_29 : decode cX8_goes 29 = .ok (.iload 6, 2) := by decide +kernel
theorem dX8_goes_31 : decode cX8_goes 31 = .ok (.iload 7, 2) := by decide +kernel
theorem dX8_goes_33 : decode cX8_goes 33 = .ok (.if_icmp .ne 7, 3) := by decide +kernel
theorem dX8_goes_36 : decode cX8_goes 36 = .ok (.iconst 0, 1) := by decide +kernel
theorem dX8_goes_37 : decode cX8_goes 37 = .ok (.goto 21, 3) := by decide +kernel
theorem dX8_goes_40 : decode cX8_goes 40 = .ok (.iload 4, 2) := by decide +kernel
theorem dX8_goes_42 : decode cX8_goes 42 = .ok (.aload_n 0, 1) := by decide +kernel
theorem dX8_goes_43 : decode cX8_goes 43 = .ok (.getfield 27, 3) := by decide +kernel
theorem dX8_goes_46 : decode cX8_goes 46 = .ok (.aload_n 0, 1) := by decide +kernel
theorem dX8_goes_47 : decode cX8_goes 47 = .ok (.getfield 13, 3) := by decide +kernel
theorem dX8_goes_50 : decode cX8_goes 50 = .ok (.iload 6, 2) := by decide +kernel
theorem dX8_goes_52 : decode cX8_goes 52 = .ok (.iaload, 1) := by decide +kernel
theorem dX8_goes_53 : decode cX8_goes 53 = .ok (.iaload, 1) := by decide +kernel
theorem dX8_goes_54 : decode cX8_goes 54 = .ok (.imul, 1) := by decide +kernel
theorem dX8_goes_55 : decode cX8_goes 55 = .ok (.bipush 100, 2) := by decide +kernel
theorem dX8_goes_57 : decode cX8_goes 57 = .ok (.idiv, 1) := by decide +kernel
theorem dX8_goes_58 : decode cX8_goes 58 = .ok (.istore 9, 2) := by decide +kernel
theorem dX8_goes_60 : decode cX8_goes 60 = .ok (.aload_n 0, 1) := by decide +kernel
theorem dX8_goes_61 : decode cX8_goes 61 = .ok (.getfield 7, 3) := by decide +kernel
theorem dX8_goes_64 : decode cX8_goes 64 = .ok (.iload_n 3, 1) := by decide +kernel
theorem dX8_goes_65 : decode cX8_goes 65 = .ok (.dup2, 1) := by decide +kernel
theorem dX8_goes_66 : decode cX8_goes 66 = .ok (.laload, 1) := by decide +kernel
theorem dX8_goes_67 : decode cX8_goes 67 = .ok (.iload 4, 2) := by decide +kernel
theorem dX8_goes_69 : decode cX8_goes 69 = .ok (.i2l, 1) := by decide +kernel
theorem dX8_goes_70 : decode cX8_goes 70 = .ok (.lsub, 1) := by decide +kernel
theorem dX8_goes_71 : decode cX8_goes 71 = .ok (.lastore, 1) := by decide +kernel
theorem dX8_goes_72 : decode cX8_goes 72 = .ok (.aload_n 0, 1) := by decide +kernel
theorem dX8_goes_73 : decode cX8_goes 73 = .ok (.getfield 7, 3) := by decide +kernel
theorem dX8_goes_76 : decode cX8_goes 76 = .ok (.iload 7, 2) := by decide +kernel
theorem dX8_goes_78 : decode cX8_goes 78 = .ok (.dup2, 1) := by decide +kernel
theorem dX8_goes_79 : decode cX8_goes 79 = .ok (.laload, 1) := by decide +kernel
theorem dX8_goes_80 : decode cX8_goes 80 = .ok (.iload 9, 2) := by decide +kernel
theorem dX8_goes_82 : decode cX8_goes 82 = .ok (.i2l, 1) := by decide +kernel
theorem dX8_goes_83 : decode cX8_goes 83 = .ok (.ladd, 1) := by decide +kernel
theorem dX8_goes_84 : decode cX8_goes 84 = .ok (.lastore, 1) := by decide +kernel
theorem dX8_goes_85 : decode cX8_goes 85 = .ok (.aload_n 0, 1) := by decide +kernel
theorem dX8_goes_86 : decode cX8_goes 86 = .ok (.getfield 7, 3) := by decide +kernel
theorem dX8_goes_89 : decode cX8_goes 89 = .ok (.iload 6, 2) := by decide +kernel
theorem dX8_goes_91 : decode cX8_goes 91 = .ok (.dup2, 1) := by decide +kernel
theorem dX8_goes_92 : decode cX8_goes 92 = .ok (.laload, 1) := by decide +kernel
theorem dX8_goes_93 : decode cX8_goes 93 = .ok (.iload 4, 2) := by decide +kernel
theorem dX8_goes_95 : decode cX8_goes 95 = .ok (.iload 9, 2) := by decide +kernel
theorem dX8_goes_97 : decode cX8_goes 97 = .ok (.isub, 1) := by decide +kernel
theorem dX8_goes_98 : decode cX8_goes 98 = .ok (.iload 5, 2) := by decide +kernel
theorem dX8_goes_100 : decode cX8_goes 100 = .ok (.isub, 1) := by decide +kernel
theorem dX8_goes_101 : decode cX8_goes 101 = .ok (.i2l, 1) := by decide +kernel
theorem dX8_goes_102 : decode cX8_goes 102 = .ok (.ladd, 1) := by decide +kernel
theorem dX8_goes_103 : decode cX8_goes 103 = .ok (.lastore, 1) := by decide +kernel
theorem dX8_goes_104 : decode cX8_goes 104 = .ok (.iload 8, 2) := by decide +kernel
theorem dX8_goes_106 : decode cX8_goes 106 = .ok (.iconst (-1), 1) := by decide +kernel
theorem dX8_goes_107 : decode cX8_goes 107 = .ok (.if_icmp .eq 16, 3) := by decide +kernel
theorem dX8_goes_110 : decode cX8_goes 110 = .ok (.aload_n 0, 1) := by decide +kernel
theorem dX8_goes_111 : decode cX8_goes 111 = .ok (.getfield 7, 3) := by decide +kernel
theorem dX8_goes_114 : decode cX8_goes 114 = .ok (.iload 8, 2) := by decide +kernel
theorem dX8_goes_116 : decode cX8_goes 116 = .ok (.dup2, 1) := by decide +kernel
theorem dX8_goes_117 : decode cX8_goes 117 = .ok (.laload, 1) := by decide +kernel
theorem dX8_goes_118 : decode cX8_goes 118 = .ok (.iload 5, 2) := by decide +kernel
theorem dX8_goes_120 : decode cX8_goes 120 = .ok (.i2l, 1) := by decide +kernel
theorem dX8_goes_121 : decode cX8_goes 121 = .ok (.ladd, 1) := by decide +kernel
theorem dX8_goes_122 : decode cX8_goes 122 = .ok (.lastore, 1) := by decide +kernel
theorem dX8_goes_123 : decode cX8_goes 123 = .ok (.iload 6, 2) := by decide +kernel
theorem dX8_goes_125 : decode cX8_goes 125 = .ok (.iload 7, 2) := by decide +kernel
theorem dX8_goes_127 : decode cX8_goes 127 = .ok (.if_icmp .eq 52, 3) := by decide +kernel
theorem dX8_goes_130 : decode cX8_goes 130 = .ok (.aload_n 0, 1) := by decide +kernel
theorem dX8_goes_131 : decode cX8_goes 131 = .ok (.getfield 90, 3) := by decide +kernel
theorem dX8_goes_134 : decode cX8_goes 134 = .ok (.iload_n 1, 1) := by decide +kernel
theorem dX8_goes_135 : decode cX8_goes 135 = .ok (.iaload, 1) := by decide +kernel
theorem dX8_goes_136 : decode cX8_goes 136 = .ok (.iconst (-1), 1) := by decide +kernel
theorem dX8_goes_137 : decode cX8_goes 137 = .ok (.if_icmp .eq 42, 3) := by decide +kernel
theorem dX8_goes_140 : decode cX8_goes 140 = .ok (.aload_n 0, 1) := by decide +kernel
theorem dX8_goes_141 : decode cX8_goes 141 = .ok (.getfield 99, 3) := by decide +kernel
theorem dX8_goes_144 : decode cX8_goes 144 = .ok (.iload_n 1, 1) := by decide +kernel
theorem dX8_goes_145 : decode cX8_goes 145 = .ok (.baload, 1) := by decide +kernel
theorem dX8_goes_146 : decode cX8_goes 146 = .ok (.ifCond .eq 33, 3) := by decide +kernel
theorem dX8_goes_149 : decode cX8_goes 149 = .ok (.aload_n 0, 1) := by decide +kernel
theorem dX8_goes_150 : decode cX8_goes 150 = .ok (.getfield 164, 3) := by decide +kernel
theorem dX8_goes_153 : decode cX8_goes 153 = .ok (.aload_n 0, 1) := by decide +kernel
theorem dX8_goes_154 : decode cX8_goes 154 = .ok (.getfield 90, 3) := by decide +kernel
theorem dX8_goes_157 : decode cX8_goes 157 = .ok (.iload_n 1, 1) := by decide +kernel
theorem dX8_goes_158 : decode cX8_goes 158 = .ok (.iaload, 1) := by decide +kernel
theorem dX8_goes_159 : decode cX8_goes 159 = .ok (.isub, 1) := by decide +kernel
theorem dX8_goes_160 : decode cX8_goes 160 = .ok (.bipush 100, 2) := by decide +kernel
theorem dX8_goes_162 : decode cX8_goes 162 = .ok (.if_icmp .gt 17, 3) := by decide +kernel
theorem dX8_goes_165 : decode cX8_goes 165 = .ok (.aload_n 0, 1) := by decide +kernel
theorem dX8_goes_166 : decode cX8_goes 166 = .ok (.getfield 24, 3) := by decide +kernel
theorem dX8_goes_169 : decode cX8_goes 169 = .ok (.bipush 10, 2) := by decide +kernel
theorem dX8_goes_171 : decode cX8_goes 171 = .ok (.iload 7, 2) := by decide +kernel
theorem dX8_goes_173 : decode cX8_goes 173 = .ok (.imul, 1) := by decide +kernel
theorem dX8_goes_174 : decode cX8_goes 174 = .ok (.iload 6, 2) := by decide +kernel
theorem dX8_goes_176 : decode cX8_goes 176 = .ok (.iadd, 1) := by decide +kernel
theorem dX8_goes_177 : decode cX8_goes 177 = .ok (.iconst 1, 1) := by decide +kernel
theorem dX8_goes_178 : decode cX8_goes 178 = .ok (.bastore, 1) := by decide +kernel
theorem dX8_goes_179 : decode cX8_goes 179 = .ok (.aload_n 0, 1) := by decide +kernel
theorem dX8_goes_180 : decode cX8_goes 180 = .ok (.aload_n 0, 1) := by decide +kernel
theorem dX8_goes_181 : decode cX8_goes 181 = .ok (.getfield 63, 3) := by decide +kernel
theorem dX8_goes_184 : decode cX8_goes 184 = .ok (.iload_n 1, 1) := by decide +kernel
theorem dX8_goes_185 : decode cX8_goes 185 = .ok (.iaload, 1) := by decide +kernel
theorem dX8_goes_186 : decode cX8_goes 186 = .ok (.iload_n 3, 1) := by decide +kernel
theorem dX8_goes_187 : decode cX8_goes 187 = .ok (.iload_n 2, 1) := by decide +kernel
theorem dX8_goes_188 : decode cX8_goes 188 = .ok (.aload_n 0, 1) := by decide +kernel
theorem dX8_goes_189 : decode cX8_goes 189 = .ok (.getfield 72, 3) := by decide +kernel
theorem dX8_goes_192 : decode cX8_goes 192 = .ok (.iload_n 1, 1) := by decide +kernel
theorem dX8_goes_193 : decode cX8_goes 193 = .ok (.iaload, 1) := by decide +kernel
theorem dX8_goes_194 : decode cX8_goes 194 = .ok (.iload_n 1, 1) := by decide +kernel
theorem dX8_goes_195 : decode cX8_goes 195 = .ok (.invokevirtual 157, 3) := by decide +kernel
theorem dX8_goes_198 : decode cX8_goes 198 = .ok (.istore 10, 2) := by decide +kernel
theorem dX8_goes_200 : decode cX8_goes 200 = .ok (.aload_n 0, 1) := by decide +kernel
theorem dX8_goes_201 : decode cX8_goes 201 = .ok (.getfield 69, 3) := by decide +kernel
theorem dX8_goes_204 : decode cX8_goes 204 = .ok (.iload_n 1, 1) := by decide +kernel
theorem dX8_goes_205 : decode cX8_goes 205 = .ok (.dup2, 1) := by decide +kernel
theorem dX8_goes_206 : decode cX8_goes 206 = .ok (.iaload, 1) := by decide +kernel
theorem dX8_goes_207 : decode cX8_goes 207 = .ok (.iload_n 2, 1) := by decide +kernel
theorem dX8_goes_208 : decode cX8_goes 208 = .ok (.isub, 1) := by decide +kernel
theorem dX8_goes_209 : decode cX8_goes 209 = .ok (.iastore, 1) := by decide +kernel
theorem dX8_goes_210 : decode cX8_goes 210 = .ok (.aload_n 0, 1) := by decide +kernel
theorem dX8_goes_211 : decode cX8_goes 211 = .ok (.getfield 75, 3) := by decide +kernel
theorem dX8_goes_214 : decode cX8_goes 214 = .ok (.iload_n 1, 1) := by decide +kernel
theorem dX8_goes_215 : decode cX8_goes 215 = .ok (.iconst (-1), 1) := by decide +kernel
theorem dX8_goes_216 : decode cX8_goes 216 = .ok (.iastore, 1) := by decide +kernel
theorem dX8_goes_217 : decode cX8_goes 217 = .ok (.aload_n 0, 1) := by decide +kernel
theorem dX8_goes_218 : decode cX8_goes 218 = .ok (.getfield 90, 3) := by decide +kernel
theorem dX8_goes_221 : decode cX8_goes 221 = .ok (.iload 10, 2) := by decide +kernel
theorem dX8_goes_223 : decode cX8_goes 223 = .ok (.aload_n 0, 1) := by decide +kernel
theorem dX8_goes_224 : decode cX8_goes 224 = .ok (.getfield 164, 3) := by decide +kernel
theorem dX8_goes_227 : decode cX8_goes 227 = .ok (.iastore, 1) := by decide +kernel
theorem dX8_goes_228 : decode cX8_goes 228 = .ok (.aload_n 0, 1) := by decide +kernel
theorem dX8_goes_229 : decode cX8_goes 229 = .ok (.getfield 93, 3) := by decide +kernel
theorem dX8_goes_232 : decode cX8_goes 232 = .ok (.iload 10, 2) := by decide +kernel
theorem dX8_goes_234 : decode cX8_goes 234 = .ok (.iload 4, 2) := by decide +kernel
theorem dX8_goes_236 : decode cX8_goes 236 = .ok (.iastore, 1) := by decide +kernel
theorem dX8_goes_237 : decode cX8_goes 237 = .ok (.aload_n 0, 1) := by decide +kernel
theorem dX8_goes_238 : decode cX8_goes 238 = .ok (.getfield 96, 3) := by decide +kernel
theorem dX8_goes_241 : decode cX8_goes 241 = .ok (.iload 10, 2) := by decide +kernel
theorem dX8_goes_243 : decode cX8_goes 243 = .ok (.iload_n 2, 1) := by decide +kernel
theorem dX8_goes_244 : decode cX8_goes 244 = .ok (.iastore, 1) := by decide +kernel
theorem dX8_goes_245 : decode cX8_goes 245 = .ok (.aload_n 0, 1) := by decide +kernel
theorem dX8_goes_246 : decode cX8_goes 246 = .ok (.getfield 99, 3) := by decide +kernel
theorem dX8_goes_249 : decode cX8_goes 249 = .ok (.iload 10, 2) := by decide +kernel
theorem dX8_goes_251 : decode cX8_goes 251 = .ok (.iload 6, 2) := by decide +kernel
theorem dX8_goes_253 : decode cX8_goes 253 = .ok (.iload 7, 2) := by decide +kernel
theorem dX8_goes_255 : decode cX8_goes 255 = .ok (.if_icmp .ne 7, 3) := by decide +kernel
theorem dX8_goes_258 : decode cX8_goes 258 = .ok (.iconst 1, 1) := by decide +kernel
theorem dX8_goes_259 : decode cX8_goes 259 = .ok (.goto 4, 3) := by decide +kernel
theorem dX8_goes_262 : decode cX8_goes 262 = .ok (.iconst 0, 1) := by decide +kernel
theorem dX8_goes_263 : decode cX8_goes 263 = .ok (.bastore, 1) := by decide +kernel
theorem dX8_goes_264 : decode cX8_goes 264 = .ok (.aload_n 0, 1) := by decide +kernel
theorem dX8_goes_265 : decode cX8_goes 265 = .ok (.getfield 102, 3) := by decide +kernel
theorem dX8_goes_268 : decode cX8_goes 268 = .ok (.iload 10, 2) := by decide +kernel
theorem dX8_goes_270 : decode cX8_goes 270 = .ok (.iconst 1, 1) := by decide +kernel
theorem dX8_goes_271 : decode cX8_goes 271 = .ok (.iload_n 3, 1) := by decide +kernel
theorem dX8_goes_272 : decode cX8_goes 272 = .ok (.ishl, 1) := by decide +kernel
theorem dX8_goes_273 : decode cX8_goes 273 = .ok (.iconst 1, 1) := by decide +kernel
theorem dX8_goes_274 : decode cX8_goes 274 = .ok (.iload 8, 2) := by decide +kernel
theorem dX8_goes_276 : decode cX8_goes 276 = .ok (.iconst (-1), 1) := by decide +kernel
theorem dX8_goes_277 : decode cX8_goes 277 = .ok (.if_icmp .eq 8, 3) := by decide +kernel
theorem dX8_goes_280 : decode cX8_goes 280 = .ok (.iload 8, 2) := by decide +kernel
theorem dX8_goes_282 : decode cX8_goes 282 = .ok (.goto 5, 3) := by decide +kernel
theorem dX8_goes_285 : decode cX8_goes 285 = .ok (.iload 6, 2) := by decide +kernel
theorem dX8_goes_287 : decode cX8_goes 287 = .ok (.ishl, 1) := by decide +kernel
theorem dX8_goes_288 : decode cX8_goes 288 = .ok (.ior, 1) := by decide +kernel
theorem dX8_goes_289 : decode cX8_goes 289 = .ok (.iastore, 1) := by decide +kernel
theorem dX8_goes_290 : decode cX8_goes 290 = .ok (.iload 10, 2) := by decide +kernel
theorem dX8_goes_292 : decode cX8_goes 292 = .ok (.ireturn, 1) := by decide +kernel
theorem dX8_placeOf_0 : decode cX8_placeOf 0 = .ok (.aload_n 0, 1) := by decide +kernel
theorem dX8_placeOf_1 : decode cX8_placeOf 1 = .ok (.iload_n 1, 1) := by decide +kernel
theorem dX8_placeOf_2 : decode cX8_placeOf 2 = .ok (.invokevirtual 191, 3) := by decide +kernel
theorem dX8_placeOf_5 : decode cX8_placeOf 5 = .ok (.ifCond .eq 11, 3) := by decide +kernel
theorem dX8_placeOf_8 : decode cX8_placeOf 8 = .ok (.aload_n 0, 1) := by decide +kernel
theorem dX8_placeOf_9 : decode cX8_placeOf 9 = .ok (.iload_n 3, 1) := by decide +kernel
theorem dX8_placeOf_10 : decode cX8_placeOf 10 = .ok (.invokevirtual 154, 3) := by decide +kernel
theorem dX8_placeOf_13 : decode cX8_placeOf 13 = .ok (.ifCond .ne 5, 3) := by decide +kernel
theorem dX8_placeOf_16 : decode cX8_placeOf 16 = .ok (.iconst 1, 1) := by decide +kernel
theorem dX8_placeOf_17 : decode cX8_placeOf 17 = .ok (.ireturn, 1) := by decide +kernel
theorem dX8_placeOf_18 : decode cX8_placeOf 18 = .ok (.iload_n 2, 1) := by decide +kernel
theorem dX8_placeOf_19 : decode cX8_placeOf 19 = .ok (.iconst 1, 1) := by decide +kernel
theorem dX8_placeOf_20 : decode cX8_placeOf 20 = .ok (.bipush 60, 2) := by decide +kernel
theorem dX8_placeOf_22 : decode cX8_placeOf 22 = .ok (.invokestatic 133, 3) := by decide +kernel
theorem dX8_placeOf_25 : decode cX8_placeOf 25 = .ok (.ifCond .eq 28, 3) := by decide +kernel
theorem dX8_placeOf_28 : decode cX8_placeOf 28 = .ok (.iload 4, 2) := by decide +kernel
theorem dX8_placeOf_30 : decode cX8_placeOf 30 = .ok (.iconst 0, 1) := by decide +kernel
theorem dX8_placeOf_31 : decode cX8_placeOf 31 = .ok (.ldc 150, 2) := by decide +kernel
theorem dX8_placeOf_33 : decode cX8_placeOf 33 = .ok (.invokestatic 133, 3) := by decide +kernel
theorem dX8_placeOf_36 : decode cX8_placeOf 36 = .ok (.ifCond .eq 17, 3) := by decide +kernel
theorem dX8_placeOf_39 : decode cX8_placeOf 39 = .ok (.iload_n 3, 1) := by decide +kernel
theorem dX8_placeOf_40 : decode cX8_placeOf 40 = .ok (.aload_n 0, 1) := by decide +kernel
theorem dX8_placeOf_41 : decode cX8_placeOf 41 = .ok (.getfield 66, 3) := by decide +kernel
theorem dX8_placeOf_44 : decode cX8_placeOf 44 = .ok (.iload_n 1, 1) := by decide +kernel
theorem dX8_placeOf_45 : decode cX8_placeOf 45 = .ok (.iaload, 1) := by decide +kernel
theorem dX8_placeOf_46 : decode cX8_placeOf 46 = .ok (.if_icmp .eq 7, 3) := by decide +kernel
theorem dX8_placeOf_49 : decode cX8_placeOf 49 = .ok (.iconst 0, 1) := by decide +kernel
theorem dX8_placeOf_50 : decode cX8_placeOf 50 = .ok (.goto 4, 3) := by decide +kernel
theorem dX8_placeOf_53 : decode cX8_placeOf 53 = .ok (.iconst 2, 1) := by decide +kernel
theorem dX8_placeOf_54 : decode cX8_placeOf 54 = .ok (.ireturn, 1) := by decide +kernel
theorem dX8_sell_0 : decode cX8_sell 0 = .ok (.aload_n 0, 1) := by decide +kernel
theorem dX8_sell_1 : decode cX8_sell 1 = .ok (.iload_n 1, 1) := by decide +kernel
theorem dX8_sell_2 : decode cX8_sell 2 = .ok (.iload_n 2, 1) := by decide +kernel
theorem dX8_sell_3 : decode cX8_sell 3 = .ok (.iload_n 3, 1) := by decide +kernel
theorem dX8_sell_4 : decode cX8_sell 4 = .ok (.iload 4, 2) := by decide +kernel
theorem dX8_sell_6 : decode cX8_sell 6 = .ok (.invokevirtual 194, 3) := by decide +kernel
theorem dX8_sell_9 : decode cX8_sell 9 = .ok (.istore 5, 2) := by decide +kernel
theorem dX8_sell_11 : decode cX8_sell 11 = .ok (.aload_n 0, 1) := by decide +kernel
theorem dX8_sell_12 : decode cX8_sell 12 = .ok (.iload 5, 2) := by decide +kernel
theorem dX8_sell_14 : decode cX8_sell 14 = .ok (.ifCond .le 8, 3) := by decide +kernel
theorem dX8_sell_17 : decode cX8_sell 17 = .ok (.iload 5, 2) := by decide +kernel
theorem dX8_sell_19 : decode cX8_sell 19 = .ok (.goto 20, 3) := by decide +kernel
theorem dX8_sell_22 : decode cX8_sell 22 = .ok (.aload_n 0, 1) := by decide +kernel
theorem dX8_sell_23 : decode cX8_sell 23 = .ok (.iload_n 1, 1) := by decide +kernel
theorem dX8_sell_24 : decode cX8_sell 24 = .ok (.iload_n 2, 1) := by decide +kernel
theorem dX8_sell_25 : decode cX8_sell 25 = .ok (.iload_n 3, 1) := by decide +kernel
theorem dX8_sell_26 : decode cX8_sell 26 = .ok (.iload 4, 2) := by decide +kernel
theorem dX8_sell_28 : decode cX8_sell 28 = .ok (.invokevirtual 198, 3) := by decide +kernel
theorem dX8_sell_31 : decode cX8_sell 31 = .ok (.ifCond .eq 7, 3) := by decide +kernel
theorem dX8_sell_34 : decode cX8_sell 34 = .ok (.iconst 3, 1) := by decide +kernel
theorem dX8_sell_35 : decode cX8_sell 35 = .ok (.goto 4, 3) := by decide +kernel
theorem dX8_sell_38 : decode cX8_sell 38 = .ok (.iconst 0, 1) := by decide +kernel
theorem dX8_sell_39 : decode cX8_sell 39 = .ok (.invokevirtual 151, 3) := by decide +kernel
theorem dX8_sell_42 : decode cX8_sell 42 = .ok (.ifCond .ne 5, 3) := by decide +kernel
theorem dX8_sell_45 : decode cX8_sell 45 = .ok (.iconst 0, 1) := by decide +kernel
theorem dX8_sell_46 : decode cX8_sell 46 = .ok (.ireturn, 1) := by decide +kernel
theorem dX8_sell_47 : decode cX8_sell 47 = .ok (.aload_n 0, 1) := by decide +kernel
theorem dX8_sell_48 : decode cX8_sell 48 = .ok (.iload_n 1, 1) := by decide +kernel
theorem dX8_sell_49 : decode cX8_sell 49 = .ok (.iload_n 2, 1) := by decide +kernel
theorem dX8_sell_50 : decode cX8_sell 50 = .ok (.iload_n 3, 1) := by decide +kernel
theorem dX8_sell_51 : decode cX8_sell 51 = .ok (.iload 4, 2) := by decide +kernel
theorem dX8_sell_53 : decode cX8_sell 53 = .ok (.iconst 0, 1) := by decide +kernel
theorem dX8_sell_54 : decode cX8_sell 54 = .ok (.invokevirtual 202, 3) := by decide +kernel
theorem dX8_sell_57 : decode cX8_sell 57 = .ok (.ireturn, 1) := by decide +kernel
theorem dX8_bars_0 : decode cX8_bars 0 = .ok (.aload_n 0, 1) := by decide +kernel
theorem dX8_bars_1 : decode cX8_bars 1 = .ok (.aload_n 0, 1) := by decide +kernel
theorem dX8_bars_2 : decode cX8_bars 2 = .ok (.iload_n 1, 1) := by decide +kernel
theorem dX8_bars_3 : decode cX8_bars 3 = .ok (.iload_n 2, 1) := by decide +kernel
theorem dX8_bars_4 : decode cX8_bars 4 = .ok (.iload_n 3, 1) := by decide +kernel
theorem dX8_bars_5 : decode cX8_bars 5 = .ok (.iload 4, 2) := by decide +kernel
theorem dX8_bars_7 : decode cX8_bars 7 = .ok (.invokevirtual 194, 3) := by decide +kernel
theorem dX8_bars_10 : decode cX8_bars 10 = .ok (.invokevirtual 151, 3) := by decide +kernel
theorem dX8_bars_13 : decode cX8_bars 13 = .ok (.ifCond .ne 5, 3) := by decide +kernel
theorem dX8_bars_16 : decode cX8_bars 16 = .ok (.iconst 0, 1) := by decide +kernel
theorem dX8_bars_17 : decode cX8_bars 17 = .ok (.ireturn, 1) := by decide +kernel
theorem dX8_bars_18 : decode cX8_bars 18 = .ok (.aload_n 0, 1) := by decide +kernel
theorem dX8_bars_19 : decode cX8_bars 19 = .ok (.iload_n 1, 1) := by decide +kernel
theorem dX8_bars_20 : decode cX8_bars 20 = .ok (.iload_n 2, 1) := by decide +kernel
theorem dX8_bars_21 : decode cX8_bars 21 = .ok (.iload_n 3, 1) := by decide +kernel
theorem dX8_bars_22 : decode cX8_bars 22 = .ok (.iload 4, 2) := by decide +kernel
theorem dX8_bars_24 : decode cX8_bars 24 = .ok (.invokevirtual 198, 3) := by decide +kernel
theorem dX8_bars_27 : decode cX8_bars 27 = .ok (.pop, 1) := by decide +kernel
theorem dX8_bars_28 : decode cX8_bars 28 = .ok (.aload_n 0, 1) := by decide +kernel
theorem dX8_bars_29 : decode cX8_bars 29 = .ok (.getfield 178, 3) := by decide +kernel
theorem dX8_bars_32 : decode cX8_bars 32 = .ok (.ireturn, 1) := by decide +kernel
theorem dX8_barredBy_0 : decode cX8_barredBy 0 = .ok (.aload_n 0, 1) := by decide +kernel
theorem dX8_barredBy_1 : decode cX8_barredBy 1 = .ok (.aload_n 0, 1) := by decide +kernel
theorem dX8_barredBy_2 : decode cX8_barredBy 2 = .ok (.iload_n 1, 1) := by decide +kernel
theorem dX8_barredBy_3 : decode cX8_barredBy 3 = .ok (.iload_n 2, 1) := by decide +kernel
theorem dX8_barredBy_4 : decode cX8_barredBy 4 = .ok (.iload_n 3, 1) := by decide +kernel
theorem dX8_barredBy_5 : decode cX8_barredBy 5 = .ok (.iload 4, 2) := by decide +kernel
theorem dX8_barredBy_7 : decode cX8_barredBy 7 = .ok (.invokevirtual 194, 3) := by decide +kernel
theorem dX8_barredBy_10 : decode cX8_barredBy 10 = .ok (.invokevirtual 151, 3) := by decide +kernel
theorem dX8_barredBy_13 : decode cX8_barredBy 13 = .ok (.ifCond .ne 5, 3) := by decide +kernel
theorem dX8_barredBy_16 : decode cX8_barredBy 16 = .ok (.iconst 0, 1) := by decide +kernel
theorem dX8_barredBy_17 : decode cX8_barredBy 17 = .ok (.ireturn, 1) := by decide +kernel
theorem dX8_barredBy_18 : decode cX8_barredBy 18 = .ok (.aload_n 0, 1) := by decide +kernel
theorem dX8_barredBy_19 : decode cX8_barredBy 19 = .ok (.iload_n 1, 1) := by decide +kernel
theorem dX8_barredBy_20 : decode cX8_barredBy 20 = .ok (.iload_n 2, 1) := by decide +kernel
theorem dX8_barredBy_21 : decode cX8_barredBy 21 = .ok (.iload_n 3, 1) := by decide +kernel
theorem dX8_barredBy_22 : decode cX8_barredBy 22 = .ok (.iload 4, 2) := by decide +kernel
theorem dX8_barredBy_24 : decode cX8_barredBy 24 = .ok (.invokevirtual 198, 3) := by decide +kernel
theorem dX8_barredBy_27 : decode cX8_barredBy 27 = .ok (.pop, 1) := by decide +kernel
theorem dX8_barredBy_28 : decode cX8_barredBy 28 = .ok (.aload_n 0, 1) := by decide +kernel
theorem dX8_barredBy_29 : decode cX8_barredBy 29 = .ok (.getfield 181, 3) := by decide +kernel
theorem dX8_barredBy_32 : decode cX8_barredBy 32 = .ok (.ireturn, 1) := by decide +kernel
theorem dX8_consign_0 : decode cX8_consign 0 = .ok (.aload_n 0, 1) := by decide +kernel
theorem dX8_consign_1 : decode cX8_consign 1 = .ok (.iload_n 1, 1) := by decide +kernel
theorem dX8_consign_2 : decode cX8_consign 2 = .ok (.invokevirtual 191, 3) := by decide +kernel
theorem dX8_consign_5 : decode cX8_consign 5 = .ok (.ifCond .eq 15, 3) := by decide +kernel
theorem dX8_consign_8 : decode cX8_consign 8 = .ok (.aload_n 0, 1) := by decide +kernel
theorem dX8_consign_9 : decode cX8_consign 9 = .ok (.iload_n 2, 1) := by decide +kernel
theorem dX8_consign_10 : decode cX8_consign 10 = .ok (.invokevirtual 154, 3) := by decide +kernel
theorem dX8_consign_13 : decode cX8_consign 13 = .ok (.ifCond .eq 7, 3) := by decide +kernel
theorem dX8_consign_16 : decode cX8_consign 16 = .ok (.iconst 1, 1) := by decide +kernel
theorem dX8_consign_17 : decode cX8_consign 17 = .ok (.goto 4, 3) := by decide +kernel
theorem dX8_consign_20 : decode cX8_consign 20 = .ok (.iconst 0, 1) := by decide +kernel
theorem dX8_consign_21 : decode cX8_consign 21 = .ok (.istore 6, 2) := by decide +kernel
theorem dX8_consign_23 : decode cX8_consign 23 = .ok (.iload 6, 2) := by decide +kernel
theorem dX8_consign_25 : decode cX8_consign 25 = .ok (.ifCond .eq 50, 3) := by decide +kernel
theorem dX8_consign_28 : decode cX8_consign 28 = .ok (.iload_n 3, 1) := by decide +kernel
theorem dX8_consign_29 : decode cX8_consign 29 = .ok (.iconst 0, 1) := by decide +kernel
theorem dX8_consign_30 : decode cX8_consign 30 = .ok (.ldc 150, 2) := by decide +kernel
theorem dX8_consign_32 : decode cX8_consign 32 = .ok (.invokestatic 133, 3) := by decide +kernel
theorem dX8_consign_35 : decode cX8_consign 35 = .ok (.ifCond .eq 40, 3) := by decide +kernel
theorem dX8_consign_38 : decode cX8_consign 38 = .ok (.iload 4, 2) := by decide +kernel
theorem dX8_consign_40 : decode cX8_consign 40 = .ok (.iconst 0, 1) := by decide +kernel
theorem dX8_consign_41 : decode cX8_consign 41 = .ok (.bipush 50, 2) := by decide +kernel
theorem dX8_consign_43 : decode cX8_consign 43 = .ok (.invokestatic 133, 3) := by decide +kernel
theorem dX8_consign_46 : decode cX8_consign 46 = .ok (.ifCond .eq 29, 3) := by decide +kernel
theorem dX8_consign_49 : decode cX8_consign 49 = .ok (.iload 5, 2) := by decide +kernel
theorem dX8_consign_51 : decode cX8_consign 51 = .ok (.iconst 0, 1) := by decide +kernel
theorem dX8_consign_52 : decode cX8_consign 52 = .ok (.sipush 1000, 3) := by decide +kernel
theorem dX8_consign_55 : decode cX8_consign 55 = .ok (.invokestatic 133, 3) := by decide +kernel
theorem dX8_consign_58 : decode cX8_consign 58 = .ok (.ifCond .eq 17, 3) := by decide +kernel
theorem dX8_consign_61 : decode cX8_consign 61 = .ok (.iload_n 2, 1) := by decide +kernel
theorem dX8_consign_62 : decode cX8_consign 62 = .ok (.aload_n 0, 1) := by decide +kernel
theorem dX8_consign_63 : decode cX8_consign 63 = .ok (.getfield 66, 3) := by decide +kernel
theorem dX8_consign_66 : decode cX8_consign 66 = .ok (.iload_n 1, 1) := by decide +kernel
theorem dX8_consign_67 : decode cX8_consign 67 = .ok (.iaload, 1) := by decide +kernel
theorem dX8_consign_68 : decode cX8_consign 68 = .ok (.if_icmp .eq 7, 3) := by decide +kernel
theorem dX8_consign_71 : decode cX8_consign 71 = .ok (.iconst 1, 1) := by decide +kernel
theorem dX8_consign_72 : decode cX8_consign 72 = .ok (.goto 4, 3) := by decide +kernel
theorem dX8_consign_75 : decode cX8_consign 75 = .ok (.iconst 0, 1) := by decide +kernel
theorem dX8_consign_76 : decode cX8_consign 76 = .ok (.istore 7, 2) := by decide +kernel
theorem dX8_consign_78 : decode cX8_consign 78 = .ok (.iload 7, 2) := by decide +kernel
theorem dX8_consign_80 : decode cX8_consign 80 = .ok (.ifCond .eq 49, 3) := by decide +kernel
theorem dX8_consign_83 : decode cX8_consign 83 = .ok (.aload_n 0, 1) := by decide +kernel
theorem dX8_consign_84 : decode cX8_consign 84 = .ok (.getfield 69, 3) := by decide +kernel
theorem dX8_consign_87 : decode cX8_consign 87 = .ok (.iload_n 1, 1) := by decide +kernel
theorem dX8_consign_88 : decode cX8_consign 88 = .ok (.iaload, 1) := by decide +kernel
theorem dX8_consign_89 : decode cX8_consign 89 = .ok (.ifCond .le 40, 3) := by decide +kernel
theorem dX8_consign_92 : decode cX8_consign 92 = .ok (.aload_n 0, 1) := by decide +kernel
theorem dX8_consign_93 : decode cX8_consign 93 = .ok (.getfield 75, 3) := by decide +kernel
theorem dX8_consign_96 : decode cX8_consign 96 = .ok (.iload_n 1, 1) := by decide +kernel
theorem dX8_consign_97 : decode cX8_consign 97 = .ok (.iaload, 1) := by decide +kernel
theorem dX8_consign_98 : decode cX8_consign 98 = .ok (.iconst (-1), 1) := by decide +kernel
theorem dX8_consign_99 : decode cX8_consign 99 = .ok (.if_icmp .ne 30, 3) := by decide +kernel
theorem dX8_consign_102 : decode cX8_consign 102 = .ok (.aload_n 0, 1) := by decide +kernel
theorem dX8_consign_103 : decode cX8_consign 103 = .ok (.getfield 17, 3) := by decide +kernel
theorem dX8_consign_106 : decode cX8_consign 106 = .ok (.iload_n 2, 1) := by decide +kernel
theorem dX8_consign_107 : decode cX8_consign 107 = .ok (.baload, 1) := by decide +kernel
theorem dX8_consign_108 : decode cX8_consign 108 = .ok (.ifCond .ne 21, 3) := by decide +kernel
theorem dX8_consign_111 : decode cX8_consign 111 = .ok (.aload_n 0, 1) := by decide +kernel
theorem dX8_consign_112 : decode cX8_consign 112 = .ok (.getfield 17, 3) := by decide +kernel
theorem dX8_consign_115 : decode cX8_consign 115 = .ok (.aload_n 0, 1) := by decide +kernel
theorem dX8_consign_116 : decode cX8_consign 116 = .ok (.getfield 66, 3) := by decide +kernel
theorem dX8_consign_119 : decode cX8_consign 119 = .ok (.iload_n 1, 1) := by decide +kernel
theorem dX8_consign_120 : decode cX8_consign 120 = .ok (.iaload, 1) := by decide +kernel
theorem dX8_consign_121 : decode cX8_consign 121 = .ok (.baload, 1) := by decide +kernel
theorem dX8_consign_122 : decode cX8_consign 122 = .ok (.ifCond .ne 7, 3) := by decide +kernel
theorem dX8_consign_125 : decode cX8_consign 125 = .ok (.iconst 1, 1) := by decide +kernel
theorem dX8_consign_126 : decode cX8_consign 126 = .ok (.goto 4, 3) := by decide +kernel
theorem dX8_consign_129 : decode cX8_consign 129 = .ok (.iconst 0, 1) := by decide +kernel
theorem dX8_consign_130 : decode cX8_consign 130 = .ok (.istore 8, 2) := by decide +kernel
theorem dX8_consign_132 : decode cX8_consign 132 = .ok (.aload_n 0, 1) := by decide +kernel
theorem dX8_consign_133 : decode cX8_consign 133 = .ok (.iload 6, 2) := by decide +kernel
theorem dX8_consign_135 : decode cX8_consign 135 = .ok (.ifCond .ne 7, 3) := by decide +kernel
theorem dX8_consign_138 : decode cX8_consign 138 = .ok (.iconst 1, 1) := by decide +kernel
theorem dX8_consign_139 : decode cX8_consign 139 = .ok (.goto 22, 3) := by decide +kernel
theorem dX8_consign_142 : decode cX8_consign 142 = .ok (.iload 7, 2) := by decide +kernel
theorem dX8_consign_144 : decode cX8_consign 144 = .ok (.ifCond .ne 7, 3) := by decide +kernel
theorem dX8_consign_147 : decode cX8_consign 147 = .ok (.iconst 2, 1) := by decide +kernel
theorem dX8_consign_148 : decode cX8_consign 148 = .ok (.goto 13, 3) := by decide +kernel
theorem dX8_consign_151 : decode cX8_consign 151 = .ok (.iload 8, 2) := by decide +kernel
theorem dX8_consign_153 : decode cX8_consign 153 = .ok (.ifCond .eq 7, 3) := by decide +kernel
theorem dX8_consign_156 : decode cX8_consign 156 = .ok (.iconst 0, 1) := by decide +kernel
theorem dX8_consign_157 : decode cX8_consign 157 = .ok (.goto 4, 3) := by decide +kernel
theorem dX8_consign_160 : decode cX8_consign 160 = .ok (.iconst 3, 1) := by decide +kernel
theorem dX8_consign_161 : decode cX8_consign 161 = .ok (.invokevirtual 151, 3) := by decide +kernel
theorem dX8_consign_164 : decode cX8_consign 164 = .ok (.ifCond .eq 38, 3) := by decide +kernel
theorem dX8_consign_167 : decode cX8_consign 167 = .ok (.aload_n 0, 1) := by decide +kernel
theorem dX8_consign_168 : decode cX8_consign 168 = .ok (.getfield 75, 3) := by decide +kernel
theorem dX8_consign_171 : decode cX8_consign 171 = .ok (.iload_n 1, 1) := by decide +kernel
theorem dX8_consign_172 : decode cX8_consign 172 = .ok (.iload_n 2, 1) := by decide +kernel
theorem dX8_consign_173 : decode cX8_consign 173 = .ok (.iastore, 1) := by decide +kernel
theorem dX8_consign_174 : decode cX8_consign 174 = .ok (.aload_n 0, 1) := by decide +kernel
theorem dX8_consign_175 : decode cX8_consign 175 = .ok (.getfield 78, 3) := by decide +kernel
theorem dX8_consign_178 : decode cX8_consign 178 = .ok (.iload_n 1, 1) := by decide +kernel
theorem dX8_consign_179 : decode cX8_consign 179 = .ok (.iload_n 3, 1) := by decide +kernel
theorem dX8_consign_180 : decode cX8_consign 180 = .ok (.iastore, 1) := by decide +kernel
theorem dX8_consign_181 : decode cX8_consign 181 = .ok (.aload_n 0, 1) := by decide +kernel
theorem dX8_consign_182 : decode cX8_consign 182 = .ok (.getfield 81, 3) := by decide +kernel
theorem dX8_consign_185 : decode cX8_consign 185 = .ok (.iload_n 1, 1) := by decide +kernel
theorem dX8_consign_186 : decode cX8_consign 186 = .ok (.iload 4, 2) := by decide +kernel
theorem dX8_consign_188 : decode cX8_consign 188 = .ok (.iastore, 1) := by decide +kernel
theorem dX8_consign_189 : decode cX8_consign 189 = .ok (.aload_n 0, 1) := by decide +kernel
theorem dX8_consign_190 : decode cX8_consign 190 = .ok (.getfield 84, 3) := by decide +kernel
theorem dX8_consign_193 : decode cX8_consign 193 = .ok (.iload_n 1, 1) := by decide +kernel
theorem dX8_consign_194 : decode cX8_consign 194 = .ok (.aload_n 0, 1) := by decide +kernel
theorem dX8_consign_195 : decode cX8_consign 195 = .ok (.getfield 164, 3) := by decide +kernel
theorem dX8_consign_198 : decode cX8_consign 198 = .ok (.iload 5, 2) := by decide +kernel
theorem dX8_consign_200 : decode cX8_consign 200 = .ok (.iadd, 1) := by decide +kernel
theorem dX8_consign_201 : decode cX8_consign 201 = .ok (.iastore, 1) := by decide +kernel
theorem dX8_consign_202 : decode cX8_consign 202 = .ok (.return_, 1) := by decide +kernel
theorem dX8_back_0 : decode cX8_back 0 = .ok (.aload_n 0, 1) := by decide +kernel
theorem dX8_back_1 : decode cX8_back 1 = .ok (.iload_n 1, 1) := by decide +kernel
theorem dX8_back_2 : decode cX8_back 2 = .ok (.invokevirtual 191, 3) := by decide +kernel
theorem dX8_back_5 : decode cX8_back 5 = .ok (.istore_n 2, 1) := by decide +kernel
theorem dX8_back_6 : decode cX8_back 6 = .ok (.aload_n 0, 1) := by decide +kernel
theorem dX8_back_7 : decode cX8_back 7 = .ok (.iload_n 2, 1) := by decide +kernel
theorem dX8_back_8 : decode cX8_back 8 = .ok (.ifCond .ne 7, 3) := by decide +kernel
theorem dX8_back_11 : decode cX8_back 11 = .ok (.iconst 1, 1) := by decide +kernel
theorem dX8_back_12 : decode cX8_back 12 = .ok (.goto 31, 3) := by decide +kernel
theorem dX8_back_15 : decode cX8_back 15 = .ok (.aload_n 0, 1) := by decide +kernel
theorem dX8_back_16 : decode cX8_back 16 = .ok (.getfield 75, 3) := by decide +kernel
theorem dX8_back_19 : decode cX8_back 19 = .ok (.iload_n 1, 1) := by decide +kernel
theorem dX8_back_20 : decode cX8_back 20 = .ok (.iaload, 1) := by decide +kernel
theorem dX8_back_21 : decode cX8_back 21 = .ok (.iconst (-1), 1) := by decide +kernel
theorem dX8_back_22 : decode cX8_back 22 = .ok (.if_icmp .eq 16, 3) := by decide +kernel
theorem dX8_back_25 : decode cX8_back 25 = .ok (.aload_n 0, 1) := by decide +kernel
theorem dX8_back_26 : decode cX8_back 26 = .ok (.getfield 164, 3) := by decide +kernel
theorem dX8_back_29 : decode cX8_back 29 = .ok (.aload_n 0, 1) := by decide +kernel
theorem dX8_back_30 : decode cX8_back 30 = .ok (.getfield 84, 3) := by decide +kernel
theorem dX8_back_33 : decode cX8_back 33 = .ok (.iload_n 1, 1) := by decide +kernel
theorem dX8_back_34 : decode cX8_back 34 = .ok (.iaload, 1) := by decide +kernel
theorem dX8_back_35 : decode cX8_back 35 = .ok (.if_icmp .gt 7, 3) := by decide +kernel
theorem dX8_back_38 : decode cX8_back 38 = .ok (.iconst 2, 1) := by decide +kernel
theorem dX8_back_39 : decode cX8_back 39 = .ok (.goto 4, 3) := by decide +kernel
theorem dX8_back_42 : decode cX8_back 42 = .ok (.iconst 0, 1) := by decide +kernel
theorem dX8_back_43 : decode cX8_back 43 = .ok (.invokevirtual 151, 3) := by decide +kernel
theorem dX8_back_46 : decode cX8_back 46 = .ok (.ifCond .ne 5, 3) := by decide +kernel
theorem dX8_back_49 : decode cX8_back 49 = .ok (.iconst 0, 1) := by decide +kernel
theorem dX8_back_50 : decode cX8_back 50 = .ok (.ireturn, 1) := by decide +kernel
theorem dX8_back_51 : decode cX8_back 51 = .ok (.aload_n 0, 1) := by decide +kernel
theorem dX8_back_52 : decode cX8_back 52 = .ok (.getfield 75, 3) := by decide +kernel
theorem dX8_back_55 : decode cX8_back 55 = .ok (.iload_n 1, 1) := by decide +kernel
theorem dX8_back_56 : decode cX8_back 56 = .ok (.iaload, 1) := by decide +kernel
theorem dX8_back_57 : decode cX8_back 57 = .ok (.istore_n 3, 1) := by decide +kernel
theorem dX8_back_58 : decode cX8_back 58 = .ok (.aload_n 0, 1) := by decide +kernel
theorem dX8_back_59 : decode cX8_back 59 = .ok (.getfield 75, 3) := by decide +kernel
theorem dX8_back_62 : decode cX8_back 62 = .ok (.iload_n 1, 1) := by decide +kernel
theorem dX8_back_63 : decode cX8_back 63 = .ok (.iconst (-1), 1) := by decide +kernel
theorem dX8_back_64 : decode cX8_back 64 = .ok (.iastore, 1) := by decide +kernel
theorem dX8_back_65 : decode cX8_back 65 = .ok (.iload_n 3, 1) := by decide +kernel
theorem dX8_back_66 : decode cX8_back 66 = .ok (.ireturn, 1) := by decide +kernel

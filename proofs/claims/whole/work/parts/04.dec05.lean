theorem dX8_deal_0 : decode cX8_deal 0 = .ok (.aload_n 0, 1) := by decide +kernel
theorem dX8_deal_1 : decode cX8_deal 1 = .ok (.iload_n 1, 1) := by decide +kernel
theorem dX8_deal_2 : decode cX8_deal 2 = .ok (.invokevirtual 191, 3) := by decide +kernel
theorem dX8_deal_5 : decode cX8_deal 5 = .ok (.ifCond .eq 15, 3) := by decide +kernel
theorem dX8_deal_8 : decode cX8_deal 8 = .ok (.aload_n 0, 1) := by decide +kernel
theorem dX8_deal_9 : decode cX8_deal 9 = .ok (.iload_n 2, 1) := by decide +kernel
theorem dX8_deal_10 : decode cX8_deal 10 = .ok (.invokevirtual 154, 3) := by decide +kernel
theorem dX8_deal_13 : decode cX8_deal 13 = .ok (.ifCond .eq 7, 3) := by decide +kernel
theorem dX8_deal_16 : decode cX8_deal 16 = .ok (.iconst 1, 1) := by decide +kernel
theorem dX8_deal_17 : decode cX8_deal 17 = .ok (.goto 4, 3) := by decide +kernel
theorem dX8_deal_20 : decode cX8_deal 20 = .ok (.iconst 0, 1) := by decide +kernel
theorem dX8_deal_21 : decode cX8_deal 21 = .ok (.istore 4, 2) := by decide +kernel
theorem dX8_deal_23 : decode cX8_deal 23 = .ok (.iload 4, 2) := by decide +kernel
theorem dX8_deal_25 : decode cX8_deal 25 = .ok (.ifCond .eq 27, 3) := by decide +kernel
theorem dX8_deal_28 : decode cX8_deal 28 = .ok (.iload_n 3, 1) := by decide +kernel
theorem dX8_deal_29 : decode cX8_deal 29 = .ok (.iconst 0, 1) := by decide +kernel
theorem dX8_deal_30 : decode cX8_deal 30 = .ok (.ldc 150, 2) := by decide +kernel
theorem dX8_deal_32 : decode cX8_deal 32 = .ok (.invokestatic 133, 3) := by decide +kernel
theorem dX8_deal_35 : decode cX8_deal 35 = .ok (.ifCond .eq 17, 3) := by decide +kernel
theorem dX8_deal_38 : decode cX8_deal 38 = .ok (.iload_n 2, 1) := by decide +kernel
theorem dX8_deal_39 : decode cX8_deal 39 = .ok (.aload_n 0, 1) := by decide +kernel
theorem dX8_deal_40 : decode cX8_deal 40 = .ok (.getfield 66, 3) := by decide +kernel
theorem dX8_deal_43 : decode cX8_deal 43 = .ok (.iload_n 1, 1) := by decide +kernel
theorem dX8_deal_44 : decode cX8_deal 44 = .ok (.iaload, 1) := by decide +kernel
theorem dX8_deal_45 : decode cX8_deal 45 = .ok (.if_icmp .eq 7, 3) := by decide +kernel
theorem dX8_deal_48 : decode cX8_deal 48 = .ok (.iconst 1, 1) := by decide +kernel
theorem dX8_deal_49 : decode cX8_deal 49 = .ok (.goto 4, 3) := by decide +kernel
theorem dX8_deal_52 : decode cX8_deal 52 = .ok (.iconst 0, 1) := by decide +kernel
theorem dX8_deal_53 : decode cX8_deal 53 = .ok (.istore 5, 2) := by decide +kernel
theorem dX8_deal_55 : decode cX8_deal 55 = .ok (.iload 5, 2) := by decide +kernel
theorem dX8_deal_57 : decode cX8_deal 57 = .ok (.ifCond .eq 40, 3) := by decide +kernel
theorem dX8_deal_60 : decode cX8_deal 60 = .ok (.aload_n 0, 1) := by decide +kernel
theorem dX8_deal_61 : decode cX8_deal 61 = .ok (.getfield 75, 3) := by decide +kernel
theorem dX8_deal_64 : decode cX8_deal 64 = .ok (.iload_n 1, 1) := by decide +kernel
theorem dX8_deal_65 : decode cX8_deal 65 = .ok (.iaload, 1) := by decide +kernel
theorem dX8_deal_66 : decode cX8_deal 66 = .ok (.iconst (-1), 1) := by decide +kernel
theorem dX8_deal_67 : decode cX8_deal 67 = .ok (.if_icmp .eq 30, 3) := by decide +kernel
theorem dX8_deal_70 : decode cX8_deal 70 = .ok (.iload_n 3, 1) := by decide +kernel
theorem dX8_deal_71 : decode cX8_deal 71 = .ok (.aload_n 0, 1) := by decide +kernel
theorem dX8_deal_72 : decode cX8_deal 72 = .ok (.getfield 78, 3) := by decide +kernel
theorem dX8_deal_75 : decode cX8_deal 75 = .ok (.iload_n 1, 1) := by decide +kernel
theorem dX8_deal_76 : decode cX8_deal 76 = .ok (.iaload, 1) := by decide +kernel
theorem dX8_deal_77 : decode cX8_deal 77 = .ok (.if_icmp .lt 20, 3) := by decide +kernel
theorem dX8_deal_80 : decode cX8_deal 80 = .ok (.aload_n 0, 1) := by decide +kernel
theorem dX8_deal_81 : decode cX8_deal 81 = .ok (.getfield 164, 3) := by decide +kernel
theorem dX8_deal_84 : decode cX8_deal 84 = .ok (.aload_n 0, 1) := by decide +kernel
theorem dX8_deal_85 : decode cX8_deal 85 = .ok (.getfield 84, 3) := by decide +kernel
theorem dX8_deal_88 : decode cX8_deal 88 = .ok (.iload_n 1, 1) := by decide +kernel
theorem dX8_deal_89 : decode cX8_deal 89 = .ok (.iaload, 1) := by decide +kernel
theorem dX8_deal_90 : decode cX8_deal 90 = .ok (.if_icmp .gt 7, 3) := by decide +kernel
theorem dX8_deal_93 : decode cX8_deal 93 = .ok (.iconst 1, 1) := by decide +kernel
theorem dX8_deal_94 : decode cX8_deal 94 = .ok (.goto 4, 3) := by decide +kernel
theorem dX8_deal_97 : decode cX8_deal 97 = .ok (.iconst 0, 1) := by decide +kernel
theorem dX8_deal_98 : decode cX8_deal 98 = .ok (.istore 6, 2) := by decide +kernel
theorem dX8_deal_100 : decode cX8_deal 100 = .ok (.iload 6, 2) := by decide +kernel
theorem dX8_deal_102 : decode cX8_deal 102 = .ok (.ifCond .eq 44, 3) := by decide +kernel
theorem dX8_deal_105 : decode cX8_deal 105 = .ok (.aload_n 0, 1) := by decide +kernel
theorem dX8_deal_106 : decode cX8_deal 106 = .ok (.getfield 17, 3) := by decide +kernel
theorem dX8_deal_109 : decode cX8_deal 109 = .ok (.aload_n 0, 1) := by decide +kernel
theorem dX8_deal_110 : decode cX8_deal 110 = .ok (.getfield 75, 3) := by decide +kernel
theorem dX8_deal_113 : decode cX8_deal 113 = .ok (.iload_n 1, 1) := by decide +kernel
theorem dX8_deal_114 : decode cX8_deal 114 = .ok (.iaload, 1) := by decide +kernel
theorem dX8_deal_115 : decode cX8_deal 115 = .ok (.baload, 1) := by decide +kernel
theorem dX8_deal_116 : decode cX8_deal 116 = .ok (.ifCond .ne 30, 3) := by decide +kernel
theorem dX8_deal_119 : decode cX8_deal 119 = .ok (.aload_n 0, 1) := by decide +kernel
theorem dX8_deal_120 : decode cX8_deal 120 = .ok (.getfield 17, 3) := by decide +kernel
theorem dX8_deal_123 : decode cX8_deal 123 = .ok (.aload_n 0, 1) := by decide +kernel
theorem dX8_deal_124 : decode cX8_deal 124 = .ok (.getfield 66, 3) := by decide +kernel
theorem dX8_deal_127 : decode cX8_deal 127 = .ok (.iload_n 1, 1) := by decide +kernel
theorem dX8_deal_128 : decode cX8_deal 128 = .ok (.iaload, 1) := by decide +kernel
theorem dX8_deal_129 : decode cX8_deal 129 = .ok (.baload, 1) := by decide +kernel
theorem dX8_deal_130 : decode cX8_deal 130 = .ok (.ifCond .ne 16, 3) := by decide +kernel
theorem dX8_deal_133 : decode cX8_deal 133 = .ok (.aload_n 0, 1) := by decide +kernel
theorem dX8_deal_134 : decode cX8_deal 134 = .ok (.getfield 17, 3) := by decide +kernel
theorem dX8_deal_137 : decode cX8_deal 137 = .ok (.iload_n 2, 1) := by decide +kernel
theorem dX8_deal_138 : decode cX8_deal 138 = .ok (.baload, 1) := by decide +kernel
theorem dX8_deal_139 : decode cX8_deal 139 = .ok (.ifCond .ne 7, 3) := by decide +kernel
theorem dX8_deal_142 : decode cX8_deal 142 = .ok (.iconst 1, 1) := by decide +kernel
theorem dX8_deal_143 : decode cX8_deal 143 = .ok (.goto 4, 3) := by decide +kernel
theorem dX8_deal_146 : decode cX8_deal 146 = .ok (.iconst 0, 1) := by decide +kernel
theorem dX8_deal_147 : decode cX8_deal 147 = .ok (.istore 6, 2) := by decide +kernel
theorem dX8_deal_149 : decode cX8_deal 149 = .ok (.aload_n 0, 1) := by decide +kernel
theorem dX8_deal_150 : decode cX8_deal 150 = .ok (.iload 4, 2) := by decide +kernel
theorem dX8_deal_152 : decode cX8_deal 152 = .ok (.ifCond .ne 7, 3) := by decide +kernel
theorem dX8_deal_155 : decode cX8_deal 155 = .ok (.iconst 1, 1) := by decide +kernel
theorem dX8_deal_156 : decode cX8_deal 156 = .ok (.goto 32, 3) := by decide +kernel
theorem dX8_deal_159 : decode cX8_deal 159 = .ok (.iload 5, 2) := by decide +kernel
theorem dX8_deal_161 : decode cX8_deal 161 = .ok (.ifCond .ne 7, 3) := by decide +kernel
theorem dX8_deal_164 : decode cX8_deal 164 = .ok (.iconst 2, 1) := by decide +kernel
theorem dX8_deal_165 : decode cX8_deal 165 = .ok (.goto 23, 3) := by decide +kernel
theorem dX8_deal_168 : decode cX8_deal 168 = .ok (.iload 6, 2) := by decide +kernel
theorem dX8_deal_170 : decode cX8_deal 170 = .ok (.ifCond .eq 13, 3) := by decide +kernel
theorem dX8_deal_173 : decode cX8_deal 173 = .ok (.aload_n 0, 1) := by decide +kernel
theorem dX8_deal_174 : decode cX8_deal 174 = .ok (.iload_n 1, 1) := by decide +kernel
theorem dX8_deal_175 : decode cX8_deal 175 = .ok (.iload_n 2, 1) := by decide +kernel
theorem dX8_deal_176 : decode cX8_deal 176 = .ok (.iload_n 3, 1) := by decide +kernel
theorem dX8_deal_177 : decode cX8_deal 177 = .ok (.invokevirtual 188, 3) := by decide +kernel
theorem dX8_deal_180 : decode cX8_deal 180 = .ok (.ifCond .eq 7, 3) := by decide +kernel
theorem dX8_deal_183 : decode cX8_deal 183 = .ok (.iconst 3, 1) := by decide +kernel
theorem dX8_deal_184 : decode cX8_deal 184 = .ok (.goto 4, 3) := by decide +kernel
theorem dX8_deal_187 : decode cX8_deal 187 = .ok (.iconst 0, 1) := by decide +kernel
theorem dX8_deal_188 : decode cX8_deal 188 = .ok (.invokevirtual 151, 3) := by decide +kernel
theorem dX8_deal_191 : decode cX8_deal 191 = .ok (.ifCond .ne 5, 3) := by decide +kernel
theorem dX8_deal_194 : decode cX8_deal 194 = .ok (.iconst 0, 1) := by decide +kernel
theorem dX8_deal_195 : decode cX8_deal 195 = .ok (.ireturn, 1) := by decide +kernel
theorem dX8_deal_196 : decode cX8_deal 196 = .ok (.aload_n 0, 1) := by decide +kernel
theorem dX8_deal_197 : decode cX8_deal 197 = .ok (.iload_n 1, 1) := by decide +kernel
theorem dX8_deal_198 : decode cX8_deal 198 = .ok (.aload_n 0, 1) := by decide +kernel
theorem dX8_deal_199 : decode cX8_deal 199 = .ok (.getfield 69, 3) := by decide +kernel
theorem dX8_deal_202 : decode cX8_deal 202 = .ok (.iload_n 1, 1) := by decide +kernel
theorem dX8_deal_203 : decode cX8_deal 203 = .ok (.iaload, 1) := by decide +kernel
theorem dX8_deal_204 : decode cX8_deal 204 = .ok (.iload_n 2, 1) := by decide +kernel
theorem dX8_deal_205 : decode cX8_deal 205 = .ok (.iload_n 3, 1) := by decide +kernel
theorem dX8_deal_206 : decode cX8_deal 206 = .ok (.iload_n 3, 1) := by decide +kernel
theorem dX8_deal_207 : decode cX8_deal 207 = .ok (.aload_n 0, 1) := by decide +kernel
theorem dX8_deal_208 : decode cX8_deal 208 = .ok (.getfield 81, 3) := by decide +kernel
theorem dX8_deal_211 : decode cX8_deal 211 = .ok (.iload_n 1, 1) := by decide +kernel
theorem dX8_deal_212 : decode cX8_deal 212 = .ok (.iaload, 1) := by decide +kernel
theorem dX8_deal_213 : decode cX8_deal 213 = .ok (.imul, 1) := by decide +kernel
theorem dX8_deal_214 : decode cX8_deal 214 = .ok (.bipush 100, 2) := by decide +kernel
theorem dX8_deal_216 : decode cX8_deal 216 = .ok (.idiv, 1) := by decide +kernel
theorem dX8_deal_217 : decode cX8_deal 217 = .ok (.invokevirtual 202, 3) := by decide +kernel
theorem dX8_deal_220 : decode cX8_deal 220 = .ok (.ireturn, 1) := by decide +kernel
theorem dX8_knows_0 : decode cX8_knows 0 = .ok (.aload_n 0, 1) := by decide +kernel
theorem dX8_knows_1 : decode cX8_knows 1 = .ok (.getfield 90, 3) := by decide +kernel
theorem dX8_knows_4 : decode cX8_knows 4 = .ok (.iload_n 1, 1) := by decide +kernel
theorem dX8_knows_5 : decode cX8_knows 5 = .ok (.iaload, 1) := by decide +kernel
theorem dX8_knows_6 : decode cX8_knows 6 = .ok (.iconst (-1), 1) := by decide +kernel
theorem dX8_knows_7 : decode cX8_knows 7 = .ok (.if_icmp .eq 21, 3) := by decide +kernel
theorem dX8_knows_10 : decode cX8_knows 10 = .ok (.aload_n 0, 1) := by decide +kernel
theorem dX8_knows_11 : decode cX8_knows 11 = .ok (.getfield 102, 3) := by decide +kernel
theorem dX8_knows_14 : decode cX8_knows 14 = .ok (.iload_n 1, 1) := by decide +kernel
theorem dX8_knows_15 : decode cX8_knows 15 = .ok (.iaload, 1) := by decide +kernel
theorem dX8_knows_16 : decode cX8_knows 16 = .ok (.iload_n 2, 1) := by decide +kernel
theorem dX8_knows_17 : decode cX8_knows 17 = .ok (.ishr, 1) := by decide +kernel
theorem dX8_knows_18 : decode cX8_knows 18 = .ok (.iconst 1, 1) := by decide +kernel
theorem dX8_knows_19 : decode cX8_knows 19 = .ok (.iand, 1) := by decide +kernel
theorem dX8_knows_20 : decode cX8_knows 20 = .ok (.iconst 1, 1) := by decide +kernel
theorem dX8_knows_21 : decode cX8_knows 21 = .ok (.if_icmp .ne 7, 3) := by decide +kernel
theorem dX8_knows_24 : decode cX8_knows 24 = .ok (.iconst 1, 1) := by decide +kernel
theorem dX8_knows_25 : decode cX8_knows 25 = .ok (.goto 4, 3) := by decide +kernel
theorem dX8_knows_28 : decode cX8_knows 28 = .ok (.iconst 0, 1) := by decide +kernel
theorem dX8_knows_29 : decode cX8_knows 29 = .ok (.ireturn, 1) := by decide +kernel
theorem dX8_tell_0 : decode cX8_tell 0 = .ok (.aload_n 0, 1) := by decide +kernel
theorem dX8_tell_1 : decode cX8_tell 1 = .ok (.iload_n 1, 1) := by decide +kernel
theorem dX8_tell_2 : decode cX8_tell 2 = .ok (.invokevirtual 191, 3) := by decide +kernel
theorem dX8_tell_5 : decode cX8_tell 5 = .ok (.ifCond .eq 23, 3) := by decide +kernel
theorem dX8_tell_8 : decode cX8_tell 8 = .ok (.aload_n 0, 1) := by decide +kernel
theorem dX8_tell_9 : decode cX8_tell 9 = .ok (.iload_n 2, 1) := by decide +kernel
theorem dX8_tell_10 : decode cX8_tell 10 = .ok (.invokevirtual 154, 3) := by decide +kernel
theorem dX8_tell_13 : decode cX8_tell 13 = .ok (.ifCond .eq 15, 3) := by decide +kernel
theorem dX8_tell_16 : decode cX8_tell 16 = .ok (.aload_n 0, 1) := by decide +kernel
theorem dX8_tell_17 : decode cX8_tell 17 = .ok (.iload_n 3, 1) := by decide +kernel
theorem dX8_tell_18 : decode cX8_tell 18 = .ok (.invokevirtual 154, 3) := by decide +kernel
theorem dX8_tell_21 : decode cX8_tell 21 = .ok (.ifCond .eq 7, 3) := by decide +kernel
theorem dX8_tell_24 : decode cX8_tell 24 = .ok (.iconst 1, 1) := by decide +kernel
theorem dX8_tell_25 : decode cX8_tell 25 = .ok (.goto 4, 3) := by decide +kernel
theorem dX8_tell_28 : decode cX8_tell 28 = .ok (.iconst 0, 1) := by decide +kernel
theorem dX8_tell_29 : decode cX8_tell 29 = .ok (.istore 4, 2) := by decide +kernel
theorem dX8_tell_31 : decode cX8_tell 31 = .ok (.aload_n 0, 1) := by decide +kernel
theorem dX8_tell_32 : decode cX8_tell 32 = .ok (.iload 4, 2) := by decide +kernel
theorem dX8_tell_34 : decode cX8_tell 34 = .ok (.ifCond .ne 7, 3) := by decide +kernel
theorem dX8_tell_37 : decode cX8_tell 37 = .ok (.iconst 1, 1) := by decide +kernel
theorem dX8_tell_38 : decode cX8_tell 38 = .ok (.goto 17, 3) := by decide +kernel
theorem dX8_tell_41 : decode cX8_tell 41 = .ok (.aload_n 0, 1) := by decide +kernel
theorem dX8_tell_42 : decode cX8_tell 42 = .ok (.iload_n 1, 1) := by decide +kernel
theorem dX8_tell_43 : decode cX8_tell 43 = .ok (.iload_n 2, 1) := by decide +kernel
theorem dX8_tell_44 : decode cX8_tell 44 = .ok (.invokevirtual 205, 3) := by decide +kernel
theorem dX8_tell_47 : decode cX8_tell 47 = .ok (.ifCond .eq 7, 3) := by decide +kernel
theorem dX8_tell_50 : decode cX8_tell 50 = .ok (.iconst 0, 1) := by decide +kernel
theorem dX8_tell_51 : decode cX8_tell 51 = .ok (.goto 4, 3) := by decide +kernel
theorem dX8_tell_54 : decode cX8_tell 54 = .ok (.iconst 2, 1) := by decide +kernel
theorem dX8_tell_55 : decode cX8_tell 55 = .ok (.invokevirtual 151, 3) := by decide +kernel
theorem dX8_tell_58 : decode cX8_tell 58 = .ok (.ifCond .ne 5, 3) := by decide +kernel
theorem dX8_tell_61 : decode cX8_tell 61 = .ok (.iconst 0, 1) := by decide +kernel
theorem dX8_tell_62 : decode cX8_tell 62 = .ok (.ireturn, 1) := by decide +kernel
theorem dX8_tell_63 : decode cX8_tell 63 = .ok (.aload_n 0, 1) := by decide +kernel
theorem dX8_tell_64 : decode cX8_tell 64 = .ok (.iload_n 1, 1) := by decide +kernel
theorem dX8_tell_65 : decode cX8_tell 65 = .ok (.iload_n 3, 1) := by decide +kernel
theorem dX8_tell_66 : decode cX8_tell 66 = .ok (.invokevirtual 205, 3) := by decide +kernel
theorem dX8_tell_69 : decode cX8_tell 69 = .ok (.istore 5, 2) := by decide +kernel
theorem dX8_tell_71 : decode cX8_tell 71 = .ok (.aload_n 0, 1) := by decide +kernel
theorem dX8_tell_72 : decode cX8_tell 72 = .ok (.getfield 102, 3) := by decide +kernel
theorem dX8_tell_75 : decode cX8_tell 75 = .ok (.iload_n 1, 1) := by decide +kernel
theorem dX8_tell_76 : decode cX8_tell 76 = .ok (.dup2, 1) := by decide +kernel
theorem dX8_tell_77 : decode cX8_tell 77 = .ok (.iaload, 1) := by decide +kernel
theorem dX8_tell_78 : decode cX8_tell 78 = .ok (.iconst 1, 1) := by decide +kernel
theorem dX8_tell_79 : decode cX8_tell 79 = .ok (.iload_n 3, 1) := by decide +kernel
theorem dX8_tell_80 : decode cX8_tell 80 = .ok (.ishl, 1) := by decide +kernel
theorem dX8_tell_81 : decode cX8_tell 81 = .ok (.ior, 1) := by decide +kernel
theorem dX8_tell_82 : decode cX8_tell 82 = .ok (.iastore, 1) := by decide +kernel
theorem dX8_tell_83 : decode cX8_tell 83 = .ok (.iload 5, 2) := by decide +kernel
theorem dX8_tell_85 : decode cX8_tell 85 = .ok (.ireturn, 1) := by decide +kernel
theorem dX8_takes_0 : decode cX8_takes 0 = .ok (.aload_n 0, 1) := by decide +kernel
theorem dX8_takes_1 : decode cX8_takes 1 = .ok (.getfield 66, 3) := by decide +kernel
theorem dX8_takes_4 : decode cX8_takes 4 = .ok (.iload_n 1, 1) := by decide +kernel
theorem dX8_takes_5 : decode cX8_takes 5 = .ok (.iload_n 2, 1) := by decide +kernel
theorem dX8_takes_6 : decode cX8_takes 6 = .ok (.iastore, 1) := by decide +kernel
theorem dX8_takes_7 : decode cX8_takes 7 = .ok (.aload_n 0, 1) := by decide +kernel
theorem dX8_takes_8 : decode cX8_takes 8 = .ok (.getfield 75, 3) := by decide +kernel
theorem dX8_takes_11 : decode cX8_takes 11 = .ok (.iload_n 1, 1) := by decide +kernel
theorem dX8_takes_12 : decode cX8_takes 12 = .ok (.iconst (-1), 1) := by decide +kernel
theorem dX8_takes_13 : decode cX8_takes 13 = .ok (.iastore, 1) := by decide +kernel
theorem dX8_takes_14 : decode cX8_takes 14 = .ok (.aload_n 0, 1) := by decide +kernel
theorem dX8_takes_15 : decode cX8_takes 15 = .ok (.getfield 90, 3) := by decide +kernel
theorem dX8_takes_18 : decode cX8_takes 18 = .ok (.iload_n 1, 1) := by decide +kernel
theorem dX8_takes_19 : decode cX8_takes 19 = .ok (.iconst (-1), 1) := by decide +kernel
theorem dX8_takes_20 : decode cX8_takes 20 = .ok (.iastore, 1) := by decide +kernel
theorem dX8_takes_21 : decode cX8_takes 21 = .ok (.return_, 1) := by decide +kernel
theorem dX8_restore_0 : decode cX8_restore 0 = .ok (.aload_n 0, 1) := by decide +kernel
theorem dX8_restore_1 : decode cX8_restore 1 = .ok (.iload_n 1, 1) := by decide +kernel
theorem dX8_restore_2 : decode cX8_restore 2 = .ok (.invokevirtual 191, 3) := by decide +kernel
theorem dX8_restore_5 : decode cX8_restore 5 = .ok (.ifCond .eq 15, 3) := by decide +kernel
theorem dX8_restore_8 : decode cX8_restore 8 = .ok (.aload_n 0, 1) := by decide +kernel
theorem dX8_restore_9 : decode cX8_restore 9 = .ok (.iload_n 2, 1) := by decide +kernel
theorem dX8_restore_10 : decode cX8_restore 10 = .ok (.invokevirtual 154, 3) := by decide +kernel
theorem dX8_restore_13 : decode cX8_restore 13 = .ok (.ifCond .eq 7, 3) := by decide +kernel
theorem dX8_restore_16 : decode cX8_restore 16 = .ok (.iconst 1, 1) := by decide +kernel
theorem dX8_restore_17 : decode cX8_restore 17 = .ok (.goto 4, 3) := by decide +kernel
theorem dX8_restore_20 : decode cX8_restore 20 = .ok (.iconst 0, 1) := by decide +kernel
theorem dX8_restore_21 : decode cX8_restore 21 = .ok (.istore_n 3, 1) := by decide +kernel
theorem dX8_restore_22 : decode cX8_restore 22 = .ok (.iload_n 3, 1) := by decide +kernel
theorem dX8_restore_23 : decode cX8_restore 23 = .ok (.ifCond .eq 35, 3) := by decide +kernel
theorem dX8_restore_26 : decode cX8_restore 26 = .ok (.aload_n 0, 1) := by decide +kernel
theorem dX8_restore_27 : decode cX8_restore 27 = .ok (.getfield 69, 3) := by decide +kernel
theorem dX8_restore_30 : decode cX8_restore 30 = .ok (.iload_n 1, 1) := by decide +kernel
theorem dX8_restore_31 : decode cX8_restore 31 = .ok (.iaload, 1) := by decide +kernel
theorem dX8_restore_32 : decode cX8_restore 32 = .ok (.ifCond .le 26, 3) := by decide +kernel
theorem dX8_restore_35 : decode cX8_restore 35 = .ok (.aload_n 0, 1) := by decide +kernel
theorem dX8_restore_36 : decode cX8_restore 36 = .ok (.getfield 90, 3) := by decide +kernel
theorem dX8_restore_39 : decode cX8_restore 39 = .ok (.iload_n 1, 1) := by decide +kernel
theorem dX8_restore_40 : decode cX8_restore 40 = .ok (.iaload, 1) := by decide +kernel
theorem dX8_restore_41 : decode cX8_restore 41 = .ok (.iconst (-1), 1) := by decide +kernel
theorem dX8_restore_42 : decode cX8_restore 42 = .ok (.if_icmp .eq 16, 3) := by decide +kernel
theorem dX8_restore_45 : decode cX8_restore 45 = .ok (.aload_n 0, 1) := by decide +kernel
theorem dX8_restore_46 : decode cX8_restore 46 = .ok (.getfield 17, 3) := by decide +kernel
theorem dX8_restore_49 : decode cX8_restore 49 = .ok (.iload_n 2, 1) := by decide +kernel
theorem dX8_restore_50 : decode cX8_restore 50 = .ok (.baload, 1) := by decide +kernel
theorem dX8_restore_51 : decode cX8_restore 51 = .ok (.ifCond .ne 7, 3) := by decide +kernel
theorem dX8_restore_54 : decode cX8_restore 54 = .ok (.iconst 1, 1) := by decide +kernel
theorem dX8_restore_55 : decode cX8_restore 55 = .ok (.goto 4, 3) := by decide +kernel
theorem dX8_restore_58 : decode cX8_restore 58 = .ok (.iconst 0, 1) := by decide +kernel
theorem dX8_restore_59 : decode cX8_restore 59 = .ok (.istore 4, 2) := by decide +kernel
theorem dX8_restore_61 : decode cX8_restore 61 = .ok (.iload 4, 2) := by decide +kernel
theorem dX8_restore_63 : decode cX8_restore 63 = .ok (.ifCond .eq 42, 3) := by decide +kernel
theorem dX8_restore_66 : decode cX8_restore 66 = .ok (.aload_n 0, 1) := by decide +kernel
theorem dX8_restore_67 : decode cX8_restore 67 = .ok (.getfield 45, 3) := by decide +kernel
theorem dX8_restore_70 : decode cX8_restore 70 = .ok (.aload_n 0, 1) := by decide +kernel
theorem dX8_restore_71 : decode cX8_restore 71 = .ok (.getfield 63, 3) := by decide +kernel
theorem dX8_restore_74 : decode cX8_restore 74 = .ok (.iload_n 1, 1) := by decide +kernel
theorem dX8_restore_75 : decode cX8_restore 75 = .ok (.iaload, 1) := by decide +kernel
theorem dX8_restore_76 : decode cX8_restore 76 = .ok (.iaload, 1) := by decide +kernel
theorem dX8_restore_77 : decode cX8_restore 77 = .ok (.iconst (-1), 1) := by decide +kernel
theorem dX8_restore_78 : decode cX8_restore 78 = .ok (.if_icmp .eq 27, 3) := by decide +kernel
theorem dX8_restore_81 : decode cX8_restore 81 = .ok (.aload_n 0, 1) := by decide +kernel
theorem dX8_restore_82 : decode cX8_restore 82 = .ok (.getfield 90, 3) := by decide +kernel
theorem dX8_restore_85 : decode cX8_restore 85 = .ok (.iload_n 1, 1) := by decide +kernel
theorem dX8_restore_86 : decode cX8_restore 86 = .ok (.iaload, 1) := by decide +kernel
theorem dX8_restore_87 : decode cX8_restore 87 = .ok (.aload_n 0, 1) := by decide +kernel
theorem dX8_restore_88 : decode cX8_restore 88 = .ok (.getfield 45, 3) := by decide +kernel
theorem dX8_restore_91 : decode cX8_restore 91 = .ok (.aload_n 0, 1) := by decide +kernel
theorem dX8_restore_92 : decode cX8_restore 92 = .ok (.getfield 63, 3) := by decide +kernel
theorem dX8_restore_95 : decode cX8_restore 95 = .ok (.iload_n 1, 1) := by decide +kernel
theorem dX8_restore_96 : decode cX8_restore 96 = .ok (.iaload, 1) := by decide +kernel
theorem dX8_restore_97 : decode cX8_restore 97 = .ok (.iaload, 1) := by decide +kernel
theorem dX8_restore_98 : decode cX8_restore 98 = .ok (.if_icmp .lt 7, 3) := by decide +kernel
theorem dX8_restore_101 : decode cX8_restore 101 = .ok (.iconst 1, 1) := by decide +kernel
theorem dX8_restore_102 : decode cX8_restore 102 = .ok (.goto 4, 3) := by decide +kernel
theorem dX8_restore_105 : decode cX8_restore 105 = .ok (.iconst 0, 1) := by decide +kernel
theorem dX8_restore_106 : decode cX8_restore 106 = .ok (.istore 4, 2) := by decide +kernel
theorem dX8_restore_108 : decode cX8_restore 108 = .ok (.aload_n 0, 1) := by decide +kernel
theorem dX8_restore_109 : decode cX8_restore 109 = .ok (.iload_n 3, 1) := by decide +kernel
theorem dX8_restore_110 : decode cX8_restore 110 = .ok (.ifCond .ne 7, 3) := by decide +kernel
theorem dX8_restore_113 : decode cX8_restore 113 = .ok (.iconst 1, 1) := by decide +kernel
theorem dX8_restore_114 : decode cX8_restore 114 = .ok (.goto 13, 3) := by decide +kernel
theorem dX8_restore_117 : decode cX8_restore 117 = .ok (.iload 4, 2) := by decide +kernel
theorem dX8_restore_119 : decode cX8_restore 119 = .ok (.ifCond .eq 7, 3) := by decide +kernel
theorem dX8_restore_122 : decode cX8_restore 122 = .ok (.iconst 0, 1) := by decide +kernel
theorem dX8_restore_123 : decode cX8_restore 123 = .ok (.goto 4, 3) := by decide +kernel
theorem dX8_restore_126 : decode cX8_restore 126 = .ok (.iconst 2, 1) := by decide +kernel
theorem dX8_restore_127 : decode cX8_restore 127 = .ok (.invokevirtual 151, 3) := by decide +kernel
theorem dX8_restore_130 : decode cX8_restore 130 = .ok (.ifCond .ne 5, 3) := by decide +kernel
theorem dX8_restore_133 : decode cX8_restore 133 = .ok (.iconst 0, 1) := by decide +kernel
theorem dX8_restore_134 : decode cX8_restore 134 = .ok (.ireturn, 1) := by decide +kernel
theorem dX8_restore_135 : decode cX8_restore 135 = .ok (.aload_n 0, 1) := by decide +kernel
theorem dX8_restore_136 : decode cX8_restore 136 = .ok (.getfield 66, 3) := by decide +kernel
theorem dX8_restore_139 : decode cX8_restore 139 = .ok (.iload_n 1, 1) := by decide +kernel
theorem dX8_restore_140 : decode cX8_restore 140 = .ok (.iaload, 1) := by decide +kernel
theorem dX8_restore_141 : decode cX8_restore 141 = .ok (.istore 5, 2) := by decide +kernel
theorem dX8_restore_143 : decode cX8_restore 143 = .ok (.aload_n 0, 1) := by decide +kernel
theorem dX8_restore_144 : decode cX8_restore 144 = .ok (.iload_n 1, 1) := by decide +kernel
theorem dX8_restore_145 : decode cX8_restore 145 = .ok (.iload_n 2, 1) := by decide +kernel
theorem dX8_restore_146 : decode cX8_restore 146 = .ok (.invokevirtual 208, 3) := by decide +kernel
theorem dX8_restore_149 : decode cX8_restore 149 = .ok (.iload 5, 2) := by decide +kernel
theorem dX8_restore_151 : decode cX8_restore 151 = .ok (.ireturn, 1) := by decide +kernel
theorem dX8_canLend_0 : decode cX8_canLend 0 = .ok (.aload_n 0, 1) := by decide +kernel
theorem dX8_canLend_1 : decode cX8_canLend 1 = .ok (.getfield 72, 3) := by decide +kernel
theorem dX8_canLend_4 : decode cX8_canLend 4 = .ok (.iload_n 1, 1) := by decide +kernel
theorem dX8_canLend_5 : decode cX8_canLend 5 = .ok (.iaload, 1) := by decide +kernel
theorem dX8_canLend_6 : decode cX8_canLend 6 = .ok (.iconst (-1), 1) := by decide +kernel
theorem dX8_canLend_7 : decode cX8_canLend 7 = .ok (.if_icmp .ne 40, 3) := by decide +kernel
theorem dX8_canLend_10 : decode cX8_canLend 10 = .ok (.aload_n 0, 1) := by decide +kernel
theorem dX8_canLend_11 : decode cX8_canLend 11 = .ok (.getfield 75, 3) := by decide +kernel
theorem dX8_canLend_14 : decode cX8_canLend 14 = .ok (.iload_n 1, 1) := by decide +kernel
theorem dX8_canLend_15 : decode cX8_canLend 15 = .ok (.iaload, 1) := by decide +kernel
theorem dX8_canLend_16 : decode cX8_canLend 16 = .ok (.iconst (-1), 1) := by decide +kernel
theorem dX8_canLend_17 : decode cX8_canLend 17 = .ok (.if_icmp .ne 30, 3) := by decide +kernel
theorem dX8_canLend_20 : decode cX8_canLend 20 = .ok (.aload_n 0, 1) := by decide +kernel
theorem dX8_canLend_21 : decode cX8_canLend 21 = .ok (.getfield 17, 3) := by decide +kernel
theorem dX8_canLend_24 : decode cX8_canLend 24 = .ok (.iload_n 2, 1) := by decide +kernel
theorem dX8_canLend_25 : decode cX8_canLend 25 = .ok (.baload, 1) := by decide +kernel
theorem dX8_canLend_26 : decode cX8_canLend 26 = .ok (.ifCond .ne 21, 3) := by decide +kernel
theorem dX8_canLend_29 : decode cX8_canLend 29 = .ok (.aload_n 0, 1) := by decide +kernel
theorem dX8_canLend_30 : decode cX8_canLend 30 = .ok (.getfield 17, 3) := by decide +kernel
theorem dX8_canLend_33 : decode cX8_canLend 33 = .ok (.aload_n 0, 1) := by decide +kernel
theorem dX8_canLend_34 : decode cX8_canLend 34 = .ok (.getfield 66, 3) := by decide +kernel
theorem dX8_canLend_37 : decode cX8_canLend 37 = .ok (.iload_n 1, 1) := by decide +kernel
theorem dX8_canLend_38 : decode cX8_canLend 38 = .ok (.iaload, 1) := by decide +kernel
theorem dX8_canLend_39 : decode cX8_canLend 39 = .ok (.baload, 1) := by decide +kernel
theorem dX8_canLend_40 : decode cX8_canLend 40 = .ok (.ifCond .ne 7, 3) := by decide +kernel
theorem dX8_canLend_43 : decode cX8_canLend 43 = .ok (.iconst 1, 1) := by decide +kernel
theorem dX8_canLend_44 : decode cX8_canLend 44 = .ok (.goto 4, 3) := by decide +kernel
theorem dX8_canLend_47 : decode cX8_canLend 47 = .ok (.iconst 0, 1) := by decide +kernel
theorem dX8_canLend_48 : decode cX8_canLend 48 = .ok (.istore 4, 2) := by decide +kernel
theorem dX8_canLend_50 : decode cX8_canLend 50 = .ok (.iload 4, 2) := by decide +kernel
theorem dX8_canLend_52 : decode cX8_canLend 52 = .ok (.ifCond .eq 39, 3) := by decide +kernel
theorem dX8_canLend_55 : decode cX8_canLend 55 = .ok (.aload_n 0, 1) := by decide +kernel
theorem dX8_canLend_56 : decode cX8_canLend 56 = .ok (.getfield 7, 3) := by decide +kernel
theorem dX8_canLend_59 : decode cX8_canLend 59 = .ok (.iload_n 2, 1) := by decide +kernel
theorem dX8_canLend_60 : decode cX8_canLend 60 = .ok (.laload, 1) := by decide +kernel
theorem dX8_canLend_61 : decode cX8_canLend 61 = .ok (.iload_n 3, 1) := by decide +kernel
theorem dX8_canLend_62 : decode cX8_canLend 62 = .ok (.i2l, 1) := by decide +kernel
theorem dX8_canLend_63 : decode cX8_canLend 63 = .ok (.lcmp, 1) := by decide +kernel
theorem dX8_canLend_64 : decode cX8_canLend 64 = .ok (.ifCond .lt 27, 3) := by decide +kernel
theorem dX8_canLend_67 : decode cX8_canLend 67 = .ok (.iconst 2, 1) := by decide +kernel
theorem dX8_canLend_68 : decode cX8_canLend 68 = .ok (.iload_n 3, 1) := by decide +kernel
theorem dX8_canLend_69 : decode cX8_canLend 69 = .ok (.imul, 1) := by decide +kernel
theorem dX8_canLend_70 : decode cX8_canLend 70 = .ok (.aload_n 0, 1) := by decide +kernel
theorem dX8_canLend_71 : decode cX8_canLend 71 = .ok (.iload_n 1, 1) := by decide +kernel
theorem dX8_canLend_72 : decode cX8_canLend 72 = .ok (.invokevirtual 212, 3) := by decide +kernel
theorem dX8_canLend_75 : decode cX8_canLend 75 = .ok (.if_icmp .gt 16, 3) := by decide +kernel
theorem dX8_canLend_78 : decode cX8_canLend 78 = .ok (.aload_n 0, 1) := by decide +kernel
theorem dX8_canLend_79 : decode cX8_canLend 79 = .ok (.getfield 143, 3) := by decide +kernel
theorem dX8_canLend_82 : decode cX8_canLend 82 = .ok (.bipush 20, 2) := by decide +kernel
theorem dX8_canLend_84 : decode cX8_canLend 84 = .ok (.if_icmp .ge 7, 3) := by decide +kernel
theorem dX8_canLend_87 : decode cX8_canLend 87 = .ok (.iconst 1, 1) := by decide +kernel
theorem dX8_canLend_88 : decode cX8_canLend 88 = .ok (.goto 4, 3) := by decide +kernel
theorem dX8_canLend_91 : decode cX8_canLend 91 = .ok (.iconst 0, 1) := by decide +kernel
theorem dX8_canLend_92 : decode cX8_canLend 92 = .ok (.ireturn, 1) := by decide +kernel
theorem dX8_lend_0 : decode cX8_lend 0 = .ok (.aload_n 0, 1) := by decide +kernel
theorem dX8_lend_1 : decode cX8_lend 1 = .ok (.iload_n 1, 1) := by decide +kernel
theorem dX8_lend_2 : decode cX8_lend 2 = .ok (.invokevirtual 191, 3) := by decide +kernel
theorem dX8_lend_5 : decode cX8_lend 5 = .ok (.ifCond .eq 15, 3) := by decide +kernel
theorem dX8_lend_8 : decode cX8_lend 8 = .ok (.aload_n 0, 1) := by decide +kernel
theorem dX8_lend_9 : decode cX8_lend 9 = .ok (.iload_n 2, 1) := by decide +kernel
theorem dX8_lend_10 : decode cX8_lend 10 = .ok (.invokevirtual 154, 3) := by decide +kernel
theorem dX8_lend_13 : decode cX8_lend 13 = .ok (.ifCond .eq 7, 3) := by decide +kernel
theorem dX8_lend_16 : decode cX8_lend 16 = .ok (.iconst 1, 1) := by decide +kernel
theorem dX8_lend_17 : decode cX8_lend 17 = .ok (.goto 4, 3) := by decide +kernel
theorem dX8_lend_20 : decode cX8_lend 20 = .ok (.iconst 0, 1) := by decide +kernel
theorem dX8_lend_21 : decode cX8_lend 21 = .ok (.istore 6, 2) := by decide +kernel
theorem dX8_lend_23 : decode cX8_lend 23 = .ok (.iload 6, 2) := by decide +kernel
theorem dX8_lend_25 : decode cX8_lend 25 = .ok (.ifCond .eq 50, 3) := by decide +kernel
theorem dX8_lend_28 : decode cX8_lend 28 = .ok (.iload_n 3, 1) := by decide +kernel
theorem dX8_lend_29 : decode cX8_lend 29 = .ok (.iconst 1, 1) := by decide +kernel
theorem dX8_lend_30 : decode cX8_lend 30 = .ok (.ldc 150, 2) := by decide +kernel
theorem dX8_lend_32 : decode cX8_lend 32 = .ok (.invokestatic 133, 3) := by decide +kernel
theorem dX8_lend_35 : decode cX8_lend 35 = .ok (.ifCond .eq 40, 3) := by decide +kernel
theorem dX8_lend_38 : decode cX8_lend 38 = .ok (.iload 4, 2) := by decide +kernel
theorem dX8_lend_40 : decode cX8_lend 40 = .ok (.iconst 0, 1) := by decide +kernel
theorem dX8_lend_41 : decode cX8_lend 41 = .ok (.bipush 100, 2) := by decide +kernel
theorem dX8_lend_43 : decode cX8_lend 43 = .ok (.invokestatic 133, 3) := by decide +kernel
theorem dX8_lend_46 : decode cX8_lend 46 = .ok (.ifCond .eq 29, 3) := by decide +kernel
theorem dX8_lend_49 : decode cX8_lend 49 = .ok (.iload 5, 2) := by decide +kernel
theorem dX8_lend_51 : decode cX8_lend 51 = .ok (.iconst 1, 1) := by decide +kernel
theorem dX8_lend_52 : decode cX8_lend 52 = .ok (.sipush 1000, 3) := by decide +kernel
theorem dX8_lend_55 : decode cX8_lend 55 = .ok (.invokestatic 133, 3) := by decide +kernel
theorem dX8_lend_58 : decode cX8_lend 58 = .ok (.ifCond .eq 17, 3) := by decide +kernel
theorem dX8_lend_61 : decode cX8_lend 61 = .ok (.iload_n 2, 1) := by decide +kernel
theorem dX8_lend_62 : decode cX8_lend 62 = .ok (.aload_n 0, 1) := by decide +kernel
theorem dX8_lend_63 : decode cX8_lend 63 = .ok (.getfield 66, 3) := by decide +kernel
theorem dX8_lend_66 : decode cX8_lend 66 = .ok (.iload_n 1, 1) := by decide +kernel
theorem dX8_lend_67 : decode cX8_lend 67 = .ok (.iaload, 1) := by decide +kernel
theorem dX8_lend_68 : decode cX8_lend 68 = .ok (.if_icmp .eq 7, 3) := by decide +kernel
theorem dX8_lend_71 : decode cX8_lend 71 = .ok (.iconst 1, 1) := by decide +kernel
theorem dX8_lend_72 : decode cX8_lend 72 = .ok (.goto 4, 3) := by decide +kernel
theorem dX8_lend_75 : decode cX8_lend 75 = .ok (.iconst 0, 1) := by decide +kernel
theorem dX8_lend_76 : decode cX8_lend 76 = .ok (.istore 7, 2) := by decide +kernel
theorem dX8_lend_78 : decode cX8_lend 78 = .ok (.aload_n 0, 1) := by decide +kernel
theorem dX8_lend_79 : decode cX8_lend 79 = .ok (.iload 6, 2) := by decide +kernel
theorem dX8_lend_81 : decode cX8_lend 81 = .ok (.ifCond .ne 7, 3) := by decide +kernel
theorem dX8_lend_84 : decode cX8_lend 84 = .ok (.iconst 1, 1) := by decide +kernel
theorem dX8_lend_85 : decode cX8_lend 85 = .ok (.goto 27, 3) := by decide +kernel
theorem dX8_lend_88 : decode cX8_lend 88 = .ok (.iload 7, 2) := by decide +kernel
theorem dX8_lend_90 : decode cX8_lend 90 = .ok (.ifCond .ne 7, 3) := by decide +kernel
theorem dX8_lend_93 : decode cX8_lend 93 = .ok (.iconst 2, 1) := by decide +kernel
theorem dX8_lend_94 : decode cX8_lend 94 = .ok (.goto 18, 3) := by decide +kernel
theorem dX8_lend_97 : decode cX8_lend 97 = .ok (.aload_n 0, 1) := by decide +kernel
theorem dX8_lend_98 : decode cX8_lend 98 = .ok (.iload_n 1, 1) := by decide +kernel
theorem dX8_lend_99 : decode cX8_lend 99 = .ok (.iload_n 2, 1) := by decide +kernel
theorem dX8_lend_100 : decode cX8_lend 100 = .ok (.iload_n 3, 1) := by decide +kernel
theorem dX8_lend_101 : decode cX8_lend 101 = .ok (.invokevirtual 215, 3) := by decide +kernel
theorem dX8_lend_104 : decode cX8_lend 104 = .ok (.ifCond .eq 7, 3) := by decide +kernel
theorem dX8_lend_107 : decode cX8_lend 107 = .ok (.iconst 0, 1) := by decide +kernel
theorem dX8_lend_108 : decode cX8_lend 108 = .ok (.goto 4, 3) := by decide +kernel
theorem dX8_lend_111 : decode cX8_lend 111 = .ok (.iconst 3, 1) := by decide +kernel
theorem dX8_lend_112 : decode cX8_lend 112 = .ok (.invokevirtual 151, 3) := by decide +kernel
theorem dX8_lend_115 : decode cX8_lend 115 = .ok (.ifCond .ne 5, 3) := by decide +kernel
theorem dX8_lend_118 : decode cX8_lend 118 = .ok (.iconst 0, 1) := by decide +kernel
theorem dX8_lend_119 : decode cX8_lend 119 = .ok (.ireturn, 1) := by decide +kernel
theorem dX8_lend_120 : decode cX8_lend 120 = .ok (.aload_n 0, 1) := by decide +kernel
theorem dX8_lend_121 : decode cX8_lend 121 = .ok (.getfield 105, 3) := by decide +kernel
theorem dX8_lend_124 : decode cX8_lend 124 = .ok (.aload_n 0, 1) := by decide +kernel
theorem dX8_lend_125 : decode cX8_lend 125 = .ok (.getfield 143, 3) := by decide +kernel
theorem dX8_lend_128 : decode cX8_lend 128 = .ok (.aload_n 0, 1) := by decide +kernel
theorem dX8_lend_129 : decode cX8_lend 129 = .ok (.getfield 66, 3) := by decide +kernel
theorem dX8_lend_132 : decode cX8_lend 132 = .ok (.iload_n 1, 1) := by decide +kernel
theorem dX8_lend_133 : decode cX8_lend 133 = .ok (.iaload, 1) := by decide +kernel
theorem dX8_lend_134 : decode cX8_lend 134 = .ok (.iastore, 1) := by decide +kernel
theorem dX8_lend_135 : decode cX8_lend 135 = .ok (.aload_n 0, 1) := by decide +kernel
theorem dX8_lend_136 : decode cX8_lend 136 = .ok (.getfield 108, 3) := by decide +kernel
theorem dX8_lend_139 : decode cX8_lend 139 = .ok (.aload_n 0, 1) := by decide +kernel
theorem dX8_lend_140 : decode cX8_lend 140 = .ok (.getfield 143, 3) := by decide +kernel
theorem dX8_lend_143 : decode cX8_lend 143 = .ok (.iload_n 2, 1) := by decide +kernel
theorem dX8_lend_144 : decode cX8_lend 144 = .ok (.iastore, 1) := by decide +kernel
theorem dX8_lend_145 : decode cX8_lend 145 = .ok (.aload_n 0, 1) := by decide +kernel
theorem dX8_lend_146 : decode cX8_lend 146 = .ok (.getfield 111, 3) := by decide +kernel
theorem dX8_lend_149 : decode cX8_lend 149 = .ok (.aload_n 0, 1) := by decide +kernel
theorem dX8_lend_150 : decode cX8_lend 150 = .ok (.getfield 143, 3) := by decide +kernel
theorem dX8_lend_153 : decode cX8_lend 153 = .ok (.iload_n 3, 1) := by decide +kernel
theorem dX8_lend_154 : decode cX8_lend 154 = .ok (.iastore, 1) := by decide +kernel
theorem dX8_lend_155 : decode cX8_lend 155 = .ok (.aload_n 0, 1) := by decide +kernel
theorem dX8_lend_156 : decode cX8_lend 156 = .ok (.getfield 114, 3) := by decide +kernel
theorem dX8_lend_159 : decode cX8_lend 159 = .ok (.aload_n 0, 1) := by decide +kernel
theorem dX8_lend_160 : decode cX8_lend 160 = .ok (.getfield 143, 3) := by decide +kernel
theorem dX8_lend_163 : decode cX8_lend 163 = .ok (.iload 4, 2) := by decide +kernel
theorem dX8_lend_165 : decode cX8_lend 165 = .ok (.iastore, 1) := by decide +kernel
theorem dX8_lend_166 : decode cX8_lend 166 = .ok (.aload_n 0, 1) := by decide +kernel
theorem dX8_lend_167 : decode cX8_lend 167 = .ok (.getfield 117, 3) := by decide +kernel
theorem dX8_lend_170 : decode cX8_lend 170 = .ok (.aload_n 0, 1) := by decide +kernel
theorem dX8_lend_171 : decode cX8_lend 171 = .ok (.getfield 143, 3) := by decide +kernel
theorem dX8_lend_174 : decode cX8_lend 174 = .ok (.aload_n 0, 1) := by decide +kernel
theorem dX8_lend_175 : decode cX8_lend 175 = .ok (.getfield 164, 3) := by decide +kernel
theorem dX8_lend_178 : decode cX8_lend 178 = .ok (.iastore, 1) := by decide +kernel
theorem dX8_lend_179 : decode cX8_lend 179 = .ok (.aload_n 0, 1) := by decide +kernel
theorem dX8_lend_180 : decode cX8_lend 180 = .ok (.getfield 120, 3) := by decide +kernel
theorem dX8_lend_183 : decode cX8_lend 183 = .ok (.aload_n 0, 1) := by decide +kernel
theorem dX8_lend_184 : decode cX8_lend 184 = .ok (.getfield 143, 3) := by decide +kernel
theorem dX8_lend_187 : decode cX8_lend 187 = .ok (.aload_n 0, 1) := by decide +kernel
theorem dX8_lend_188 : decode cX8_lend 188 = .ok (.getfield 164, 3) := by decide +kernel
theorem dX8_lend_191 : decode cX8_lend 191 = .ok (.iload 5, 2) := by decide +kernel
theorem dX8_lend_193 : decode cX8_lend 193 = .ok (.iadd, 1) := by decide +kernel
theorem dX8_lend_194 : decode cX8_lend 194 = .ok (.iastore, 1) := by decide +kernel
theorem dX8_lend_195 : decode cX8_lend 195 = .ok (.aload_n 0, 1) := by decide +kernel
theorem dX8_lend_196 : decode cX8_lend 196 = .ok (.getfield 7, 3) := by decide +kernel
theorem dX8_lend_199 : decode cX8_lend 199 = .ok (.iload_n 2, 1) := by decide +kernel
theorem dX8_lend_200 : decode cX8_lend 200 = .ok (.dup2, 1) := by decide +kernel
theorem dX8_lend_201 : decode cX8_lend 201 = .ok (.laload, 1) := by decide +kernel
theorem dX8_lend_202 : decode cX8_lend 202 = .ok (.iload_n 3, 1) := by decide +kernel
theorem dX8_lend_203 : decode cX8_lend 203 = .ok (.i2l, 1) := by decide +kernel
theorem dX8_lend_204 : decode cX8_lend 204 = .ok (.lsub, 1) := by decide +kernel
theorem dX8_lend_205 : decode cX8_lend 205 = .ok (.lastore, 1) := by decide +kernel
theorem dX8_lend_206 : decode cX8_lend 206 = .ok (.aload_n 0, 1) := by decide +kernel
theorem dX8_lend_207 : decode cX8_lend 207 = .ok (.getfield 7, 3) := by decide +kernel
theorem dX8_lend_210 : decode cX8_lend 210 = .ok (.aload_n 0, 1) := by decide +kernel
theorem dX8_lend_211 : decode cX8_lend 211 = .ok (.getfield 66, 3) := by decide +kernel
theorem dX8_lend_214 : decode cX8_lend 214 = .ok (.iload_n 1, 1) := by decide +kernel
theorem dX8_lend_215 : decode cX8_lend 215 = .ok (.iaload, 1) := by decide +kernel
theorem dX8_lend_216 : decode cX8_lend 216 = .ok (.dup2, 1) := by decide +kernel
theorem dX8_lend_217 : decode cX8_lend 217 = .ok (.laload, 1) := by decide +kernel
theorem dX8_lend_218 : decode cX8_lend 218 = .ok (.iload_n 3, 1) := by decide +kernel
theorem dX8_lend_219 : decode cX8_lend 219 = .ok (.i2l, 1) := by decide +kernel
theorem dX8_lend_220 : decode cX8_lend 220 = .ok (.ladd, 1) := by decide +kernel
theorem dX8_lend_221 : decode cX8_lend 221 = .ok (.lastore, 1) := by decide +kernel
theorem dX8_lend_222 : decode cX8_lend 222 = .ok (.aload_n 0, 1) := by decide +kernel
theorem dX8_lend_223 : decode cX8_lend 223 = .ok (.getfield 72, 3) := by decide +kernel
theorem dX8_lend_226 : decode cX8_lend 226 = .ok (.iload_n 1, 1) := by decide +kernel
theorem dX8_lend_227 : decode cX8_lend 227 = .ok (.aload_n 0, 1) := by decide +kernel
theorem dX8_lend_228 : decode cX8_lend 228 = .ok (.getfield 143, 3) := by decide +kernel
theorem dX8_lend_231 : decode cX8_lend 231 = .ok (.iastore, 1) := by decide +kernel
theorem dX8_lend_232 : decode cX8_lend 232 = .ok (.aload_n 0, 1) := by decide +kernel
theorem dX8_lend_233 : decode cX8_lend 233 = .ok (.dup, 1) := by decide +kernel
theorem dX8_lend_234 : decode cX8_lend 234 = .ok (.getfield 143, 3) := by decide +kernel
theorem dX8_lend_237 : decode cX8_lend 237 = .ok (.iconst 1, 1) := by decide +kernel
theorem dX8_lend_238 : decode cX8_lend 238 = .ok (.iadd, 1) := by decide +kernel
theorem dX8_lend_239 : decode cX8_lend 239 = .ok (.putfield 143, 3) := by decide +kernel
theorem dX8_lend_242 : decode cX8_lend 242 = .ok (.aload_n 0, 1) := by decide +kernel
theorem dX8_lend_243 : decode cX8_lend 243 = .ok (.getfield 143, 3) := by decide +kernel
theorem dX8_lend_246 : decode cX8_lend 246 = .ok (.iconst 1, 1) := by decide +kernel
theorem dX8_lend_247 : decode cX8_lend 247 = .ok (.isub, 1) := by decide +kernel
theorem dX8_lend_248 : decode cX8_lend 248 = .ok (.ireturn, 1) := by decide +kernel
theorem dX8_owed_0 : decode cX8_owed 0 = .ok (.aload_n 0, 1) := by decide +kernel
theorem dX8_owed_1 : decode cX8_owed 1 = .ok (.getfield 111, 3) := by decide +kernel
theorem dX8_owed_4 : decode cX8_owed 4 = .ok (.iload_n 1, 1) := by decide +kernel
theorem dX8_owed_5 : decode cX8_owed 5 = .ok (.iaload, 1) := by decide +kernel
theorem dX8_owed_6 : decode cX8_owed 6 = .ok (.i2l, 1) := by decide +kernel
theorem dX8_owed_7 : decode cX8_owed 7 = .ok (.aload_n 0, 1) := by decide +kernel
theorem dX8_owed_8 : decode cX8_owed 8 = .ok (.getfield 114, 3) := by decide +kernel
theorem dX8_owed_11 : decode cX8_owed 11 = .ok (.iload_n 1, 1) := by decide +kernel
theorem dX8_owed_12 : decode cX8_owed 12 = .ok (.iaload, 1) := by decide +kernel
theorem dX8_owed_13 : decode cX8_owed 13 = .ok (.i2l, 1) := by decide +kernel
theorem dX8_owed_14 : decode cX8_owed 14 = .ok (.lmul, 1) := by decide +kernel
theorem dX8_owed_15 : decode cX8_owed 15 = .ok (.aload_n 0, 1) := by decide +kernel
theorem dX8_owed_16 : decode cX8_owed 16 = .ok (.getfield 164, 3) := by decide +kernel
theorem dX8_owed_19 : decode cX8_owed 19 = .ok (.aload_n 0, 1) := by decide +kernel
theorem dX8_owed_20 : decode cX8_owed 20 = .ok (.getfield 117, 3) := by decide +kernel
theorem dX8_owed_23 : decode cX8_owed 23 = .ok (.iload_n 1, 1) := by decide +kernel
theorem dX8_owed_24 : decode cX8_owed 24 = .ok (.iaload, 1) := by decide +kernel
theorem dX8_owed_25 : decode cX8_owed 25 = .ok (.isub, 1) := by decide +kernel
theorem dX8_owed_26 : decode cX8_owed 26 = .ok (.i2l, 1) := by decide +kernel
theorem dX8_owed_27 : decode cX8_owed 27 = .ok (.lmul, 1) := by decide +kernel
theorem dX8_owed_28 : decode cX8_owed 28 = .ok (.ldc2_w 218, 3) := by decide +kernel
theorem dX8_owed_31 : decode cX8_owed 31 = .ok (.ldiv, 1) := by decide +kernel
theorem dX8_owed_32 : decode cX8_owed 32 = .ok (.lstore_n 2, 1) := by decide +kernel
theorem dX8_owed_33 : decode cX8_owed 33 = .ok (.aload_n 0, 1) := by decide +kernel
theorem dX8_owed_34 : decode cX8_owed 34 = .ok (.getfield 123, 3) := by decide +kernel
theorem dX8_owed_37 : decode cX8_owed 37 = .ok (.iload_n 1, 1) := by decide +kernel
theorem dX8_owed_38 : decode cX8_owed 38 = .ok (.baload, 1) := by decide +kernel
theorem dX8_owed_39 : decode cX8_owed 39 = .ok (.ifCond .eq 7, 3) := by decide +kernel
theorem dX8_owed_42 : decode cX8_owed 42 = .ok (.lconst 0, 1) := by decide +kernel
theorem dX8_owed_43 : decode cX8_owed 43 = .ok (.goto 12, 3) := by decide +kernel
theorem dX8_owed_46 : decode cX8_owed 46 = .ok (.aload_n 0, 1) := by decide +kernel
theorem dX8_owed_47 : decode cX8_owed 47 = .ok (.getfield 111, 3) := by decide +kernel
theorem dX8_owed_50 : decode cX8_owed 50 = .ok (.iload_n 1, 1) := by decide +kernel
theorem dX8_owed_51 : decode cX8_owed 51 = .ok (.iaload, 1) := by decide +kernel
theorem dX8_owed_52 : decode cX8_owed 52 = .ok (.i2l, 1) := by decide +kernel
theorem dX8_owed_53 : decode cX8_owed 53 = .ok (.lload_n 2, 1) := by decide +kernel
theorem dX8_owed_54 : decode cX8_owed 54 = .ok (.ladd, 1) := by decide +kernel
theorem dX8_owed_55 : decode cX8_owed 55 = .ok (.lreturn, 1) := by decide +kernel
theorem dX8_goesAway_0 : decode cX8_goesAway 0 = .ok (.aload_n 0, 1) := by decide +kernel
theorem dX8_goesAway_1 : decode cX8_goesAway 1 = .ok (.getfield 123, 3) := by decide +kernel
theorem dX8_goesAway_4 : decode cX8_goesAway 4 = .ok (.iload_n 1, 1) := by decide +kernel
theorem dX8_goesAway_5 : decode cX8_goesAway 5 = .ok (.iconst 1, 1) := by decide +kernel
theorem dX8_goesAway_6 : decode cX8_goesAway 6 = .ok (.bastore, 1) := by decide +kernel
theorem dX8_goesAway_7 : decode cX8_goesAway 7 = .ok (.iconst 0, 1) := by decide +kernel
theorem dX8_goesAway_8 : decode cX8_goesAway 8 = .ok (.istore_n 2, 1) := by decide +kernel
theorem dX8_goesAway_9 : decode cX8_goesAway 9 = .ok (.iload_n 2, 1) := by decide +kernel
theorem dX8_goesAway_10 : decode cX8_goesAway 10 = .ok (.aload_n 0, 1) := by decide +kernel
theorem dX8_goesAway_11 : decode cX8_goesAway 11 = .ok (.getfield 140, 3) := by decide +kernel
theorem dX8_goesAway_14 : decode cX8_goesAway 14 = .ok (.if_icmp .ge 35, 3) := by decide +kernel
theorem dX8_goesAway_17 : decode cX8_goesAway 17 = .ok (.aload_n 0, 1) := by decide +kernel
theorem dX8_goesAway_18 : decode cX8_goesAway 18 = .ok (.getfield 72, 3) := by decide +kernel
theorem dX8_goesAway_21 : decode cX8_goesAway 21 = .ok (.iload_n 2, 1) := by decide +kernel
theorem dX8_goesAway_22 : decode cX8_goesAway 22 = .ok (.aload_n 0, 1) := by decide +kernel
theorem dX8_goesAway_23 : decode cX8_goesAway 23 = .ok (.getfield 72, 3) := by decide +kernel
theorem dX8_goesAway_26 : decode cX8_goesAway 26 = .ok (.iload_n 2, 1) := by decide +kernel
theorem dX8_goesAway_27 : decode cX8_goesAway 27 = .ok (.iaload, 1) := by decide +kernel
theorem dX8_goesAway_28 : decode cX8_goesAway 28 = .ok (.iload_n 1, 1) := by decide +kernel
theorem dX8_goesAway_29 : decode cX8_goesAway 29 = .ok (.if_icmp .ne 7, 3) := by decide +kernel
theorem dX8_goesAway_32 : decode cX8_goesAway 32 = .ok (.iconst (-1), 1) := by decide +kernel
theorem dX8_goesAway_33 : decode cX8_goesAway 33 = .ok (.goto 9, 3) := by decide +kernel
theorem dX8_goesAway_36 : decode cX8_goesAway 36 = .ok (.aload_n 0, 1) := by decide +kernel
theorem dX8_goesAway_37 : decode cX8_goesAway 37 = .ok (.getfield 72, 3) := by decide +kernel
theorem dX8_goesAway_40 : decode cX8_goesAway 40 = .ok (.iload_n 2, 1) := by decide +kernel
theorem dX8_goesAway_41 : decode cX8_goesAway 41 = .ok (.iaload, 1) := by decide +kernel
theorem dX8_goesAway_42 : decode cX8_goesAway 42 = .ok (.iastore, 1) := by decide +kernel
theorem dX8_goesAway_43 : decode cX8_goesAway 43 = .ok (.iinc 2 1, 3) := by decide +kernel
theorem dX8_goesAway_46 : decode cX8_goesAway 46 = .ok (.goto (-37), 3) := by decide +kernel
theorem dX8_goesAway_49 : decode cX8_goesAway 49 = .ok (.return_, 1) := by decide +kernel
theorem dX8_repay_0 : decode cX8_repay 0 = .ok (.aload_n 0, 1) := by decide +kernel
theorem dX8_repay_1 : decode cX8_repay 1 = .ok (.iload_n 1, 1) := by decide +kernel
theorem dX8_repay_2 : decode cX8_repay 2 = .ok (.invokevirtual 220, 3) := by decide +kernel
theorem dX8_repay_5 : decode cX8_repay 5 = .ok (.istore_n 2, 1) := by decide +kernel
theorem dX8_repay_6 : decode cX8_repay 6 = .ok (.iload_n 2, 1) := by decide +kernel
theorem dX8_repay_7 : decode cX8_repay 7 = .ok (.ifCond .eq 50, 3) := by decide +kernel
theorem dX8_repay_10 : decode cX8_repay 10 = .ok (.aload_n 0, 1) := by decide +kernel
theorem dX8_repay_11 : decode cX8_repay 11 = .ok (.getfield 123, 3) := by decide +kernel
theorem dX8_repay_14 : decode cX8_repay 14 = .ok (.iload_n 1, 1) := by decide +kernel
theorem dX8_repay_15 : decode cX8_repay 15 = .ok (.baload, 1) := by decide +kernel
theorem dX8_repay_16 : decode cX8_repay 16 = .ok (.ifCond .ne 41, 3) := by decide +kernel
theorem dX8_repay_19 : decode cX8_repay 19 = .ok (.aload_n 0, 1) := by decide +kernel
theorem dX8_repay_20 : decode cX8_repay 20 = .ok (.getfield 17, 3) := by decide +kernel
theorem dX8_repay_23 : decode cX8_repay 23 = .ok (.aload_n 0, 1) := by decide +kernel
theorem dX8_repay_24 : decode cX8_repay 24 = .ok (.getfield 105, 3) := by decide +kernel
theorem dX8_repay_27 : decode cX8_repay 27 = .ok (.iload_n 1, 1) := by decide +kernel
theorem dX8_repay_28 : decode cX8_repay 28 = .ok (.iaload, 1) := by decide +kernel
theorem dX8_repay_29 : decode cX8_repay 29 = .ok (.baload, 1) := by decide +kernel
theorem dX8_repay_30 : decode cX8_repay 30 = .ok (.ifCond .ne 27, 3) := by decide +kernel
theorem dX8_repay_33 : decode cX8_repay 33 = .ok (.aload_n 0, 1) := by decide +kernel
theorem dX8_repay_34 : decode cX8_repay 34 = .ok (.getfield 7, 3) := by decide +kernel
theorem dX8_repay_37 : decode cX8_repay 37 = .ok (.aload_n 0, 1) := by decide +kernel
theorem dX8_repay_38 : decode cX8_repay 38 = .ok (.getfield 105, 3) := by decide +kernel
theorem dX8_repay_41 : decode cX8_repay 41 = .ok (.iload_n 1, 1) := by decide +kernel
theorem dX8_repay_42 : decode cX8_repay 42 = .ok (.iaload, 1) := by decide +kernel
theorem dX8_repay_43 : decode cX8_repay 43 = .ok (.laload, 1) := by decide +kernel
theorem dX8_repay_44 : decode cX8_repay 44 = .ok (.aload_n 0, 1) := by decide +kernel
theorem dX8_repay_45 : decode cX8_repay 45 = .ok (.iload_n 1, 1) := by decide +kernel
theorem dX8_repay_46 : decode cX8_repay 46 = .ok (.invokevirtual 223, 3) := by decide +kernel
theorem dX8_repay_49 : decode cX8_repay 49 = .ok (.lcmp, 1) := by decide +kernel
theorem dX8_repay_50 : decode cX8_repay 50 = .ok (.ifCond .lt 7, 3) := by decide +kernel
theorem dX8_repay_53 : decode cX8_repay 53 = .ok (.iconst 1, 1) := by decide +kernel
theorem dX8_repay_54 : decode cX8_repay 54 = .ok (.goto 4, 3) := by decide +kernel
theorem dX8_repay_57 : decode cX8_repay 57 = .ok (.iconst 0, 1) := by decide +kernel
theorem dX8_repay_58 : decode cX8_repay 58 = .ok (.istore_n 3, 1) := by decide +kernel
theorem dX8_repay_59 : decode cX8_repay 59 = .ok (.aload_n 0, 1) := by decide +kernel
theorem dX8_repay_60 : decode cX8_repay 60 = .ok (.iload_n 2, 1) := by decide +kernel
theorem dX8_repay_61 : decode cX8_repay 61 = .ok (.ifCond .ne 7, 3) := by decide +kernel
theorem dX8_repay_64 : decode cX8_repay 64 = .ok (.iconst 1, 1) := by decide +kernel
theorem dX8_repay_65 : decode cX8_repay 65 = .ok (.goto 12, 3) := by decide +kernel
theorem dX8_repay_68 : decode cX8_repay 68 = .ok (.iload_n 3, 1) := by decide +kernel
theorem dX8_repay_69 : decode cX8_repay 69 = .ok (.ifCond .eq 7, 3) := by decide +kernel
theorem dX8_repay_72 : decode cX8_repay 72 = .ok (.iconst 0, 1) := by decide +kernel
theorem dX8_repay_73 : decode cX8_repay 73 = .ok (.goto 4, 3) := by decide +kernel
theorem dX8_repay_76 : decode cX8_repay 76 = .ok (.iconst 2, 1) := by decide +kernel
theorem dX8_repay_77 : decode cX8_repay 77 = .ok (.invokevirtual 151, 3) := by decide +kernel
theorem dX8_repay_80 : decode cX8_repay 80 = .ok (.ifCond .ne 5, 3) := by decide +kernel
theorem dX8_repay_83 : decode cX8_repay 83 = .ok (.iconst 0, 1) := by decide +kernel
theorem dX8_repay_84 : decode cX8_repay 84 = .ok (.ireturn, 1) := by decide +kernel
theorem dX8_repay_85 : decode cX8_repay 85 = .ok (.aload_n 0, 1) := by decide +kernel
theorem dX8_repay_86 : decode cX8_repay 86 = .ok (.iload_n 1, 1) := by decide +kernel
theorem dX8_repay_87 : decode cX8_repay 87 = .ok (.invokevirtual 223, 3) := by decide +kernel
theorem dX8_repay_90 : decode cX8_repay 90 = .ok (.lstore 4, 2) := by decide +kernel
theorem dX8_repay_92 : decode cX8_repay 92 = .ok (.aload_n 0, 1) := by decide +kernel
theorem dX8_repay_93 : decode cX8_repay 93 = .ok (.getfield 7, 3) := by decide +kernel
theorem dX8_repay_96 : decode cX8_repay 96 = .ok (.aload_n 0, 1) := by decide +kernel
theorem dX8_repay_97 : decode cX8_repay 97 = .ok (.getfield 105, 3) := by decide +kernel
theorem dX8_repay_100 : decode cX8_repay 100 = .ok (.iload_n 1, 1) := by decide +kernel
theorem dX8_repay_101 : decode cX8_repay 101 = .ok (.iaload, 1) := by decide +kernel
theorem dX8_repay_102 : decode cX8_repay 102 = .ok (.dup2, 1) := by decide +kernel
theorem dX8_repay_103 : decode cX8_repay 103 = .ok (.laload, 1) := by decide +kernel
theorem dX8_repay_104 : decode cX8_repay 104 = .ok (.lload 4, 2) := by decide +kernel
theorem dX8_repay_106 : decode cX8_repay 106 = .ok (.lsub, 1) := by decide +kernel
theorem dX8_repay_107 : decode cX8_repay 107 = .ok (.lastore, 1) := by decide +kernel
theorem dX8_repay_108 : decode cX8_repay 108 = .ok (.aload_n 0, 1) := by decide +kernel
theorem dX8_repay_109 : decode cX8_repay 109 = .ok (.getfield 7, 3) := by decide +kernel
theorem dX8_repay_112 : decode cX8_repay 112 = .ok (.aload_n 0, 1) := by decide +kernel
theorem dX8_repay_113 : decode cX8_repay 113 = .ok (.getfield 108, 3) := by decide +kernel
theorem dX8_repay_116 : decode cX8_repay 116 = .ok (.iload_n 1, 1) := by decide +kernel
theorem dX8_repay_117 : decode cX8_repay 117 = .ok (.iaload, 1) := by decide +kernel
theorem dX8_repay_118 : decode cX8_repay 118 = .ok (.dup2, 1) := by decide +kernel
theorem dX8_repay_119 : decode cX8_repay 119 = .ok (.laload, 1) := by decide +kernel
theorem dX8_repay_120 : decode cX8_repay 120 = .ok (.lload 4, 2) := by decide +kernel
theorem dX8_repay_122 : decode cX8_repay 122 = .ok (.ladd, 1) := by decide +kernel
theorem dX8_repay_123 : decode cX8_repay 123 = .ok (.lastore, 1) := by decide +kernel
theorem dX8_repay_124 : decode cX8_repay 124 = .ok (.aload_n 0, 1) := by decide +kernel
theorem dX8_repay_125 : decode cX8_repay 125 = .ok (.iload_n 1, 1) := by decide +kernel
theorem dX8_repay_126 : decode cX8_repay 126 = .ok (.invokevirtual 227, 3) := by decide +kernel
theorem dX8_repay_129 : decode cX8_repay 129 = .ok (.lload 4, 2) := by decide +kernel
theorem dX8_repay_131 : decode cX8_repay 131 = .ok (.l2i, 1) := by decide +kernel
theorem dX8_repay_132 : decode cX8_repay 132 = .ok (.ireturn, 1) := by decide +kernel
theorem dX8_canSeize_0 : decode cX8_canSeize 0 = .ok (.lconst 0, 1) := by decide +kernel
theorem dX8_canSeize_1 : decode cX8_canSeize 1 = .ok (.lstore_n 2, 1) := by decide +kernel
theorem dX8_canSeize_2 : decode cX8_canSeize 2 = .ok (.iconst 0, 1) := by decide +kernel
theorem dX8_canSeize_3 : decode cX8_canSeize 3 = .ok (.istore 4, 2) := by decide +kernel
theorem dX8_canSeize_5 : decode cX8_canSeize 5 = .ok (.iload 4, 2) := by decide +kernel
theorem dX8_canSeize_7 : decode cX8_canSeize 7 = .ok (.aload_n 0, 1) := by decide +kernel
theorem dX8_canSeize_8 : decode cX8_canSeize 8 = .ok (.getfield 140, 3) := by decide +kernel
theorem dX8_canSeize_11 : decode cX8_canSeize 11 = .ok (.if_icmp .ge 34, 3) := by decide +kernel
theorem dX8_canSeize_14 : decode cX8_canSeize 14 = .ok (.lload_n 2, 1) := by decide +kernel
theorem dX8_canSeize_15 : decode cX8_canSeize 15 = .ok (.aload_n 0, 1) := by decide +kernel
theorem dX8_canSeize_16 : decode cX8_canSeize 16 = .ok (.getfield 72, 3) := by decide +kernel
theorem dX8_canSeize_19 : decode cX8_canSeize 19 = .ok (.iload 4, 2) := by decide +kernel
theorem dX8_canSeize_21 : decode cX8_canSeize 21 = .ok (.iaload, 1) := by decide +kernel
theorem dX8_canSeize_22 : decode cX8_canSeize 22 = .ok (.iload_n 1, 1) := by decide +kernel
theorem dX8_canSeize_23 : decode cX8_canSeize 23 = .ok (.if_icmp .ne 13, 3) := by decide +kernel
theorem dX8_canSeize_26 : decode cX8_canSeize 26 = .ok (.aload_n 0, 1) := by decide +kernel
theorem dX8_canSeize_27 : decode cX8_canSeize 27 = .ok (.iload 4, 2) := by decide +kernel
theorem dX8_canSeize_29 : decode cX8_canSeize 29 = .ok (.invokevirtual 212, 3) := by decide +kernel
theorem dX8_canSeize_32 : decode cX8_canSeize 32 = .ok (.i2l, 1) := by decide +kernel
theorem dX8_canSeize_33 : decode cX8_canSeize 33 = .ok (.goto 4, 3) := by decide +kernel
theorem dX8_canSeize_36 : decode cX8_canSeize 36 = .ok (.lconst 0, 1) := by decide +kernel
theorem dX8_canSeize_37 : decode cX8_canSeize 37 = .ok (.ladd, 1) := by decide +kernel
theorem dX8_canSeize_38 : decode cX8_canSeize 38 = .ok (.lstore_n 2, 1) := by decide +kernel
theorem dX8_canSeize_39 : decode cX8_canSeize 39 = .ok (.iinc 4 1, 3) := by decide +kernel
theorem dX8_canSeize_42 : decode cX8_canSeize 42 = .ok (.goto (-37), 3) := by decide +kernel
theorem dX8_canSeize_45 : decode cX8_canSeize 45 = .ok (.aload_n 0, 1) := by decide +kernel
theorem dX8_canSeize_46 : decode cX8_canSeize 46 = .ok (.getfield 123, 3) := by decide +kernel
theorem dX8_canSeize_49 : decode cX8_canSeize 49 = .ok (.iload_n 1, 1) := by decide +kernel
theorem dX8_canSeize_50 : decode cX8_canSeize 50 = .ok (.baload, 1) := by decide +kernel
theorem dX8_canSeize_51 : decode cX8_canSeize 51 = .ok (.ifCond .ne 38, 3) := by decide +kernel
theorem dX8_canSeize_54 : decode cX8_canSeize 54 = .ok (.aload_n 0, 1) := by decide +kernel
theorem dX8_canSeize_55 : decode cX8_canSeize 55 = .ok (.getfield 164, 3) := by decide +kernel
theorem dX8_canSeize_58 : decode cX8_canSeize 58 = .ok (.aload_n 0, 1) := by decide +kernel
theorem dX8_canSeize_59 : decode cX8_canSeize 59 = .ok (.getfield 120, 3) := by decide +kernel
theorem dX8_canSeize_62 : decode cX8_canSeize 62 = .ok (.iload_n 1, 1) := by decide +kernel
theorem dX8_canSeize_63 : decode cX8_canSeize 63 = .ok (.iaload, 1) := by decide +kernel
theorem dX8_canSeize_64 : decode cX8_canSeize 64 = .ok (.if_icmp .gt 21, 3) := by decide +kernel
theorem dX8_canSeize_67 : decode cX8_canSeize 67 = .ok (.ldc2_w 231, 3) := by decide +kernel
theorem dX8_canSeize_70 : decode cX8_canSeize 70 = .ok (.aload_n 0, 1) := by decide +kernel
theorem dX8_canSeize_71 : decode cX8_canSeize 71 = .ok (.iload_n 1, 1) := by decide +kernel
theorem dX8_canSeize_72 : decode cX8_canSeize 72 = .ok (.invokevirtual 223, 3) := by decide +kernel
theorem dX8_canSeize_75 : decode cX8_canSeize 75 = .ok (.lmul, 1) := by decide +kernel
theorem dX8_canSeize_76 : decode cX8_canSeize 76 = .ok (.ldc2_w 233, 3) := by decide +kernel
theorem dX8_canSeize_79 : decode cX8_canSeize 79 = .ok (.lload_n 2, 1) := by decide +kernel
theorem dX8_canSeize_80 : decode cX8_canSeize 80 = .ok (.lmul, 1) := by decide +kernel
theorem dX8_canSeize_81 : decode cX8_canSeize 81 = .ok (.lcmp, 1) := by decide +kernel
theorem dX8_canSeize_82 : decode cX8_canSeize 82 = .ok (.ifCond .le 7, 3) := by decide +kernel
theorem dX8_canSeize_85 : decode cX8_canSeize 85 = .ok (.iconst 1, 1) := by decide +kernel
theorem dX8_canSeize_86 : decode cX8_canSeize 86 = .ok (.goto 4, 3) := by decide +kernel
theorem dX8_canSeize_89 : decode cX8_canSeize 89 = .ok (.iconst 0, 1) := by decide +kernel
theorem dX8_canSeize_90 : decode cX8_canSeize 90 = .ok (.ireturn, 1) := by decide +kernel
theorem dX8_seize_0 : decode cX8_seize 0 = .ok (.aload_n 0, 1) := by decide +kernel
theorem dX8_seize_1 : decode cX8_seize 1 = .ok (.iload_n 1, 1) := by decide +kernel
theorem dX8_seize_2 : decode cX8_seize 2 = .ok (.invokevirtual 220, 3) := by decide +kernel
theorem dX8_seize_5 : decode cX8_seize 5 = .ok (.istore_n 2, 1) := by decide +kernel
theorem dX8_seize_6 : decode cX8_seize 6 = .ok (.aload_n 0, 1) := by decide +kernel
theorem dX8_seize_7 : decode cX8_seize 7 = .ok (.iload_n 2, 1) := by decide +kernel
theorem dX8_seize_8 : decode cX8_seize 8 = .ok (.ifCond .ne 7, 3) := by decide +kernel
theorem dX8_seize_11 : decode cX8_seize 11 = .ok (.iconst 1, 1) := by decide +kernel
theorem dX8_seize_12 : decode cX8_seize 12 = .ok (.goto 30, 3) := by decide +kernel
theorem dX8_seize_15 : decode cX8_seize 15 = .ok (.aload_n 0, 1) := by decide +kernel
theorem dX8_seize_16 : decode cX8_seize 16 = .ok (.iload_n 1, 1) := by decide +kernel
theorem dX8_seize_17 : decode cX8_seize 17 = .ok (.invokevirtual 235, 3) := by decide +kernel
theorem dX8_seize_20 : decode cX8_seize 20 = .ok (.ifCond .eq 17, 3) := by decide +kernel
theorem dX8_seize_23 : decode cX8_seize 23 = .ok (.aload_n 0, 1) := by decide +kernel
theorem dX8_seize_24 : decode cX8_seize 24 = .ok (.getfield 17, 3) := by decide +kernel
theorem dX8_seize_27 : decode cX8_seize 27 = .ok (.aload_n 0, 1) := by decide +kernel
theorem dX8_seize_28 : decode cX8_seize 28 = .ok (.getfield 108, 3) := by decide +kernel
theorem dX8_seize_31 : decode cX8_seize 31 = .ok (.iload_n 1, 1) := by decide +kernel
theorem dX8_seize_32 : decode cX8_seize 32 = .ok (.iaload, 1) := by decide +kernel
theorem dX8_seize_33 : decode cX8_seize 33 = .ok (.baload, 1) := by decide +kernel
theorem dX8_seize_34 : decode cX8_seize 34 = .ok (.ifCond .eq 7, 3) := by decide +kernel
theorem dX8_seize_37 : decode cX8_seize 37 = .ok (.iconst 2, 1) := by decide +kernel
theorem dX8_seize_38 : decode cX8_seize 38 = .ok (.goto 4, 3) := by decide +kernel
theorem dX8_seize_41 : decode cX8_seize 41 = .ok (.iconst 0, 1) := by decide +kernel
theorem dX8_seize_42 : decode cX8_seize 42 = .ok (.invokevirtual 151, 3) := by decide +kernel
theorem dX8_seize_45 : decode cX8_seize 45 = .ok (.ifCond .ne 5, 3) := by decide +kernel
theorem dX8_seize_48 : decode cX8_seize 48 = .ok (.iconst 0, 1) := by decide +kernel
theorem dX8_seize_49 : decode cX8_seize 49 = .ok (.ireturn, 1) := by decide +kernel
theorem dX8_seize_50 : decode cX8_seize 50 = .ok (.iconst 0, 1) := by decide +kernel
theorem dX8_seize_51 : decode cX8_seize 51 = .ok (.istore_n 3, 1) := by decide +kernel
theorem dX8_seize_52 : decode cX8_seize 52 = .ok (.iconst 0, 1) := by decide +kernel
theorem dX8_seize_53 : decode cX8_seize 53 = .ok (.istore 4, 2) := by decide +kernel
theorem dX8_seize_55 : decode cX8_seize 55 = .ok (.iload 4, 2) := by decide +kernel
theorem dX8_seize_57 : decode cX8_seize 57 = .ok (.aload_n 0, 1) := by decide +kernel
theorem dX8_seize_58 : decode cX8_seize 58 = .ok (.getfield 140, 3) := by decide +kernel
theorem dX8_seize_61 : decode cX8_seize 61 = .ok (.if_icmp .ge 35, 3) := by decide +kernel
theorem dX8_seize_64 : decode cX8_seize 64 = .ok (.aload_n 0, 1) := by decide +kernel
theorem dX8_seize_65 : decode cX8_seize 65 = .ok (.getfield 72, 3) := by decide +kernel
theorem dX8_seize_68 : decode cX8_seize 68 = .ok (.iload 4, 2) := by decide +kernel
theorem dX8_seize_70 : decode cX8_seize 70 = .ok (.iaload, 1) := by decide +kernel
theorem dX8_seize_71 : decode cX8_seize 71 = .ok (.iload_n 1, 1) := by decide +kernel
theorem dX8_seize_72 : decode cX8_seize 72 = .ok (.if_icmp .ne 18, 3) := by decide +kernel
theorem dX8_seize_75 : decode cX8_seize 75 = .ok (.aload_n 0, 1) := by decide +kernel
theorem dX8_seize_76 : decode cX8_seize 76 = .ok (.iload 4, 2) := by decide +kernel
theorem dX8_seize_78 : decode cX8_seize 78 = .ok (.aload_n 0, 1) := by decide +kernel
theorem dX8_seize_79 : decode cX8_seize 79 = .ok (.getfield 108, 3) := by decide +kernel
theorem dX8_seize_82 : decode cX8_seize 82 = .ok (.iload_n 1, 1) := by decide +kernel
theorem dX8_seize_83 : decode cX8_seize 83 = .ok (.iaload, 1) := by decide +kernel
theorem dX8_seize_84 : decode cX8_seize 84 = .ok (.invokevirtual 208, 3) := by decide +kernel
theorem dX8_seize_87 : decode cX8_seize 87 = .ok (.iinc 3 1, 3) := by decide +kernel
theorem dX8_seize_90 : decode cX8_seize 90 = .ok (.iinc 4 1, 3) := by decide +kernel
theorem dX8_seize_93 : decode cX8_seize 93 = .ok (.goto (-38), 3) := by decide +kernel
theorem dX8_seize_96 : decode cX8_seize 96 = .ok (.aload_n 0, 1) := by decide +kernel
theorem dX8_seize_97 : decode cX8_seize 97 = .ok (.iload_n 1, 1) := by decide +kernel
theorem dX8_seize_98 : decode cX8_seize 98 = .ok (.invokevirtual 227, 3) := by decide +kernel
theorem dX8_seize_101 : decode cX8_seize 101 = .ok (.iload_n 3, 1) := by decide +kernel
theorem dX8_seize_102 : decode cX8_seize 102 = .ok (.ireturn, 1) := by decide +kernel

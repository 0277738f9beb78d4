theorem dX8_assign_0 : decode cX8_assign 0 = .ok (.aload_n 0, 1) := by decide +kernel
theorem dX8_assign_1 : decode cX8_assign 1 = .ok (.iload_n 1, 1) := by decide +kernel
theorem dX8_assign_2 : decode cX8_assign 2 = .ok (.invokevirtual 220, 3) := by decide +kernel
theorem dX8_assign_5 : decode cX8_assign 5 = .ok (.ifCond .eq 15, 3) := by decide +kernel
theorem dX8_assign_8 : decode cX8_assign 8 = .ok (.aload_n 0, 1) := by decide +kernel
theorem dX8_assign_9 : decode cX8_assign 9 = .ok (.iload_n 2, 1) := by decide +kernel
theorem dX8_assign_10 : decode cX8_assign 10 = .ok (.invokevirtual 154, 3) := by decide +kernel
theorem dX8_assign_13 : decode cX8_assign 13 = .ok (.ifCond .eq 7, 3) := by decide +kernel
theorem dX8_assign_16 : decode cX8_assign 16 = .ok (.iconst 1, 1) := by decide +kernel
theorem dX8_assign_17 : decode cX8_assign 17 = .ok (.goto 4, 3) := by decide +kernel
theorem dX8_assign_20 : decode cX8_assign 20 = .ok (.iconst 0, 1) := by decide +kernel
theorem dX8_assign_21 : decode cX8_assign 21 = .ok (.istore 4, 2) := by decide +kernel
theorem dX8_assign_23 : decode cX8_assign 23 = .ok (.iload 4, 2) := by decide +kernel
theorem dX8_assign_25 : decode cX8_assign 25 = .ok (.ifCond .eq 37, 3) := by decide +kernel
theorem dX8_assign_28 : decode cX8_assign 28 = .ok (.iload_n 3, 1) := by decide +kernel
theorem dX8_assign_29 : decode cX8_assign 29 = .ok (.iconst 0, 1) := by decide +kernel
theorem dX8_assign_30 : decode cX8_assign 30 = .ok (.ldc 150, 2) := by decide +kernel
theorem dX8_assign_32 : decode cX8_assign 32 = .ok (.invokestatic 133, 3) := by decide +kernel
theorem dX8_assign_35 : decode cX8_assign 35 = .ok (.ifCond .eq 27, 3) := by decide +kernel
theorem dX8_assign_38 : decode cX8_assign 38 = .ok (.iload_n 2, 1) := by decide +kernel
theorem dX8_assign_39 : decode cX8_assign 39 = .ok (.aload_n 0, 1) := by decide +kernel
theorem dX8_assign_40 : decode cX8_assign 40 = .ok (.getfield 108, 3) := by decide +kernel
theorem dX8_assign_43 : decode cX8_assign 43 = .ok (.iload_n 1, 1) := by decide +kernel
theorem dX8_assign_44 : decode cX8_assign 44 = .ok (.iaload, 1) := by decide +kernel
theorem dX8_assign_45 : decode cX8_assign 45 = .ok (.if_icmp .eq 17, 3) := by decide +kernel
theorem dX8_assign_48 : decode cX8_assign 48 = .ok (.iload_n 2, 1) := by decide +kernel
theorem dX8_assign_49 : decode cX8_assign 49 = .ok (.aload_n 0, 1) := by decide +kernel
theorem dX8_assign_50 : decode cX8_assign 50 = .ok (.getfield 105, 3) := by decide +kernel
theorem dX8_assign_53 : decode cX8_assign 53 = .ok (.iload_n 1, 1) := by decide +kernel
theorem dX8_assign_54 : decode cX8_assign 54 = .ok (.iaload, 1) := by decide +kernel
theorem dX8_assign_55 : decode cX8_assign 55 = .ok (.if_icmp .eq 7, 3) := by decide +kernel
theorem dX8_assign_58 : decode cX8_assign 58 = .ok (.iconst 1, 1) := by decide +kernel
theorem dX8_assign_59 : decode cX8_assign 59 = .ok (.goto 4, 3) := by decide +kernel
theorem dX8_assign_62 : decode cX8_assign 62 = .ok (.iconst 0, 1) := by decide +kernel
theorem dX8_assign_63 : decode cX8_assign 63 = .ok (.istore 5, 2) := by decide +kernel
theorem dX8_assign_65 : decode cX8_assign 65 = .ok (.iload 5, 2) := by decide +kernel
theorem dX8_assign_67 : decode cX8_assign 67 = .ok (.ifCond .eq 51, 3) := by decide +kernel
theorem dX8_assign_70 : decode cX8_assign 70 = .ok (.aload_n 0, 1) := by decide +kernel
theorem dX8_assign_71 : decode cX8_assign 71 = .ok (.getfield 123, 3) := by decide +kernel
theorem dX8_assign_74 : decode cX8_assign 74 = .ok (.iload_n 1, 1) := by decide +kernel
theorem dX8_assign_75 : decode cX8_assign 75 = .ok (.baload, 1) := by decide +kernel
theorem dX8_assign_76 : decode cX8_assign 76 = .ok (.ifCond .ne 42, 3) := by decide +kernel
theorem dX8_assign_79 : decode cX8_assign 79 = .ok (.aload_n 0, 1) := by decide +kernel
theorem dX8_assign_80 : decode cX8_assign 80 = .ok (.getfield 17, 3) := by decide +kernel
theorem dX8_assign_83 : decode cX8_assign 83 = .ok (.aload_n 0, 1) := by decide +kernel
theorem dX8_assign_84 : decode cX8_assign 84 = .ok (.getfield 108, 3) := by decide +kernel
theorem dX8_assign_87 : decode cX8_assign 87 = .ok (.iload_n 1, 1) := by decide +kernel
theorem dX8_assign_88 : decode cX8_assign 88 = .ok (.iaload, 1) := by decide +kernel
theorem dX8_assign_89 : decode cX8_assign 89 = .ok (.baload, 1) := by decide +kernel
theorem dX8_assign_90 : decode cX8_assign 90 = .ok (.ifCond .ne 28, 3) := by decide +kernel
theorem dX8_assign_93 : decode cX8_assign 93 = .ok (.aload_n 0, 1) := by decide +kernel
theorem dX8_assign_94 : decode cX8_assign 94 = .ok (.getfield 17, 3) := by decide +kernel
theorem dX8_assign_97 : decode cX8_assign 97 = .ok (.iload_n 2, 1) := by decide +kernel
theorem dX8_assign_98 : decode cX8_assign 98 = .ok (.baload, 1) := by decide +kernel
theorem dX8_assign_99 : decode cX8_assign 99 = .ok (.ifCond .ne 19, 3) := by decide +kernel
theorem dX8_assign_102 : decode cX8_assign 102 = .ok (.aload_n 0, 1) := by decide +kernel
theorem dX8_assign_103 : decode cX8_assign 103 = .ok (.getfield 7, 3) := by decide +kernel
theorem dX8_assign_106 : decode cX8_assign 106 = .ok (.iload_n 2, 1) := by decide +kernel
theorem dX8_assign_107 : decode cX8_assign 107 = .ok (.laload, 1) := by decide +kernel
theorem dX8_assign_108 : decode cX8_assign 108 = .ok (.iload_n 3, 1) := by decide +kernel
theorem dX8_assign_109 : decode cX8_assign 109 = .ok (.i2l, 1) := by decide +kernel
theorem dX8_assign_110 : decode cX8_assign 110 = .ok (.lcmp, 1) := by decide +kernel
theorem dX8_assign_111 : decode cX8_assign 111 = .ok (.ifCond .lt 7, 3) := by decide +kernel
theorem dX8_assign_114 : decode cX8_assign 114 = .ok (.iconst 1, 1) := by decide +kernel
theorem dX8_assign_115 : decode cX8_assign 115 = .ok (.goto 4, 3) := by decide +kernel
theorem dX8_assign_118 : decode cX8_assign 118 = .ok (.iconst 0, 1) := by decide +kernel
theorem dX8_assign_119 : decode cX8_assign 119 = .ok (.istore 6, 2) := by decide +kernel
theorem dX8_assign_121 : decode cX8_assign 121 = .ok (.aload_n 0, 1) := by decide +kernel
theorem dX8_assign_122 : decode cX8_assign 122 = .ok (.iload 4, 2) := by decide +kernel
theorem dX8_assign_124 : decode cX8_assign 124 = .ok (.ifCond .ne 7, 3) := by decide +kernel
theorem dX8_assign_127 : decode cX8_assign 127 = .ok (.iconst 1, 1) := by decide +kernel
theorem dX8_assign_128 : decode cX8_assign 128 = .ok (.goto 22, 3) := by decide +kernel
theorem dX8_assign_131 : decode cX8_assign 131 = .ok (.iload 5, 2) := by decide +kernel
theorem dX8_assign_133 : decode cX8_assign 133 = .ok (.ifCond .ne 7, 3) := by decide +kernel
theorem dX8_assign_136 : decode cX8_assign 136 = .ok (.iconst 2, 1) := by decide +kernel
theorem dX8_assign_137 : decode cX8_assign 137 = .ok (.goto 13, 3) := by decide +kernel
theorem dX8_assign_140 : decode cX8_assign 140 = .ok (.iload 6, 2) := by decide +kernel
theorem dX8_assign_142 : decode cX8_assign 142 = .ok (.ifCond .eq 7, 3) := by decide +kernel
theorem dX8_assign_145 : decode cX8_assign 145 = .ok (.iconst 0, 1) := by decide +kernel
theorem dX8_assign_146 : decode cX8_assign 146 = .ok (.goto 4, 3) := by decide +kernel
theorem dX8_assign_149 : decode cX8_assign 149 = .ok (.iconst 3, 1) := by decide +kernel
theorem dX8_assign_150 : decode cX8_assign 150 = .ok (.invokevirtual 151, 3) := by decide +kernel
theorem dX8_assign_153 : decode cX8_assign 153 = .ok (.ifCond .ne 5, 3) := by decide +kernel
theorem dX8_assign_156 : decode cX8_assign 156 = .ok (.iconst 0, 1) := by decide +kernel
theorem dX8_assign_157 : decode cX8_assign 157 = .ok (.ireturn, 1) := by decide +kernel
theorem dX8_assign_158 : decode cX8_assign 158 = .ok (.aload_n 0, 1) := by decide +kernel
theorem dX8_assign_159 : decode cX8_assign 159 = .ok (.getfield 108, 3) := by decide +kernel
theorem dX8_assign_162 : decode cX8_assign 162 = .ok (.iload_n 1, 1) := by decide +kernel
theorem dX8_assign_163 : decode cX8_assign 163 = .ok (.iaload, 1) := by decide +kernel
theorem dX8_assign_164 : decode cX8_assign 164 = .ok (.istore 7, 2) := by decide +kernel
theorem dX8_assign_166 : decode cX8_assign 166 = .ok (.aload_n 0, 1) := by decide +kernel
theorem dX8_assign_167 : decode cX8_assign 167 = .ok (.getfield 7, 3) := by decide +kernel
theorem dX8_assign_170 : decode cX8_assign 170 = .ok (.iload_n 2, 1) := by decide +kernel
theorem dX8_assign_171 : decode cX8_assign 171 = .ok (.dup2, 1) := by decide +kernel
theorem dX8_assign_172 : decode cX8_assign 172 = .ok (.laload, 1) := by decide +kernel
theorem dX8_assign_173 : decode cX8_assign 173 = .ok (.iload_n 3, 1) := by decide +kernel
theorem dX8_assign_174 : decode cX8_assign 174 = .ok (.i2l, 1) := by decide +kernel
theorem dX8_assign_175 : decode cX8_assign 175 = .ok (.lsub, 1) := by decide +kernel
theorem dX8_assign_176 : decode cX8_assign 176 = .ok (.lastore, 1) := by decide +kernel
theorem dX8_assign_177 : decode cX8_assign 177 = .ok (.aload_n 0, 1) := by decide +kernel
theorem dX8_assign_178 : decode cX8_assign 178 = .ok (.getfield 7, 3) := by decide +kernel
theorem dX8_assign_181 : decode cX8_assign 181 = .ok (.iload 7, 2) := by decide +kernel
theorem dX8_assign_183 : decode cX8_assign 183 = .ok (.dup2, 1) := by decide +kernel
theorem dX8_assign_184 : decode cX8_assign 184 = .ok (.laload, 1) := by decide +kernel
theorem dX8_assign_185 : decode cX8_assign 185 = .ok (.iload_n 3, 1) := by decide +kernel
theorem dX8_assign_186 : decode cX8_assign 186 = .ok (.i2l, 1) := by decide +kernel
theorem dX8_assign_187 : decode cX8_assign 187 = .ok (.ladd, 1) := by decide +kernel
theorem dX8_assign_188 : decode cX8_assign 188 = .ok (.lastore, 1) := by decide +kernel
theorem dX8_assign_189 : decode cX8_assign 189 = .ok (.aload_n 0, 1) := by decide +kernel
theorem dX8_assign_190 : decode cX8_assign 190 = .ok (.getfield 108, 3) := by decide +kernel
theorem dX8_assign_193 : decode cX8_assign 193 = .ok (.iload_n 1, 1) := by decide +kernel
theorem dX8_assign_194 : decode cX8_assign 194 = .ok (.iload_n 2, 1) := by decide +kernel
theorem dX8_assign_195 : decode cX8_assign 195 = .ok (.iastore, 1) := by decide +kernel
theorem dX8_assign_196 : decode cX8_assign 196 = .ok (.iload 7, 2) := by decide +kernel
theorem dX8_assign_198 : decode cX8_assign 198 = .ok (.ireturn, 1) := by decide +kernel
theorem dX8_price_0 : decode cX8_price 0 = .ok (.aload_n 0, 1) := by decide +kernel
theorem dX8_price_1 : decode cX8_price 1 = .ok (.iload_n 1, 1) := by decide +kernel
theorem dX8_price_2 : decode cX8_price 2 = .ok (.invokevirtual 191, 3) := by decide +kernel
theorem dX8_price_5 : decode cX8_price 5 = .ok (.ifCond .eq 15, 3) := by decide +kernel
theorem dX8_price_8 : decode cX8_price 8 = .ok (.aload_n 0, 1) := by decide +kernel
theorem dX8_price_9 : decode cX8_price 9 = .ok (.iload_n 2, 1) := by decide +kernel
theorem dX8_price_10 : decode cX8_price 10 = .ok (.invokevirtual 154, 3) := by decide +kernel
theorem dX8_price_13 : decode cX8_price 13 = .ok (.ifCond .eq 7, 3) := by decide +kernel
theorem dX8_price_16 : decode cX8_price 16 = .ok (.iconst 1, 1) := by decide +kernel
theorem dX8_price_17 : decode cX8_price 17 = .ok (.goto 4, 3) := by decide +kernel
theorem dX8_price_20 : decode cX8_price 20 = .ok (.iconst 0, 1) := by decide +kernel
theorem dX8_price_21 : decode cX8_price 21 = .ok (.istore_n 3, 1) := by decide +kernel
theorem dX8_price_22 : decode cX8_price 22 = .ok (.aload_n 0, 1) := by decide +kernel
theorem dX8_price_23 : decode cX8_price 23 = .ok (.iload_n 3, 1) := by decide +kernel
theorem dX8_price_24 : decode cX8_price 24 = .ok (.ifCond .eq 7, 3) := by decide +kernel
theorem dX8_price_27 : decode cX8_price 27 = .ok (.iconst 0, 1) := by decide +kernel
theorem dX8_price_28 : decode cX8_price 28 = .ok (.goto 4, 3) := by decide +kernel
theorem dX8_price_31 : decode cX8_price 31 = .ok (.iconst 1, 1) := by decide +kernel
theorem dX8_price_32 : decode cX8_price 32 = .ok (.invokevirtual 151, 3) := by decide +kernel
theorem dX8_price_35 : decode cX8_price 35 = .ok (.ifCond .eq 25, 3) := by decide +kernel
theorem dX8_price_38 : decode cX8_price 38 = .ok (.aload_n 0, 1) := by decide +kernel
theorem dX8_price_39 : decode cX8_price 39 = .ok (.iload_n 1, 1) := by decide +kernel
theorem dX8_price_40 : decode cX8_price 40 = .ok (.iload_n 2, 1) := by decide +kernel
theorem dX8_price_41 : decode cX8_price 41 = .ok (.invokevirtual 205, 3) := by decide +kernel
theorem dX8_price_44 : decode cX8_price 44 = .ok (.ifCond .eq 12, 3) := by decide +kernel
theorem dX8_price_47 : decode cX8_price 47 = .ok (.aload_n 0, 1) := by decide +kernel
theorem dX8_price_48 : decode cX8_price 48 = .ok (.getfield 93, 3) := by decide +kernel
theorem dX8_price_51 : decode cX8_price 51 = .ok (.iload_n 1, 1) := by decide +kernel
theorem dX8_price_52 : decode cX8_price 52 = .ok (.iaload, 1) := by decide +kernel
theorem dX8_price_53 : decode cX8_price 53 = .ok (.goto 8, 3) := by decide +kernel
theorem dX8_price_56 : decode cX8_price 56 = .ok (.iconst (-1), 1) := by decide +kernel
theorem dX8_price_57 : decode cX8_price 57 = .ok (.goto 4, 3) := by decide +kernel
theorem dX8_price_60 : decode cX8_price 60 = .ok (.iconst 0, 1) := by decide +kernel
theorem dX8_price_61 : decode cX8_price 61 = .ok (.ireturn, 1) := by decide +kernel
theorem dX8_owes_0 : decode cX8_owes 0 = .ok (.lconst 0, 1) := by decide +kernel
theorem dX8_owes_1 : decode cX8_owes 1 = .ok (.lstore_n 3, 1) := by decide +kernel
theorem dX8_owes_2 : decode cX8_owes 2 = .ok (.iconst 0, 1) := by decide +kernel
theorem dX8_owes_3 : decode cX8_owes 3 = .ok (.istore 5, 2) := by decide +kernel
theorem dX8_owes_5 : decode cX8_owes 5 = .ok (.iload 5, 2) := by decide +kernel
theorem dX8_owes_7 : decode cX8_owes 7 = .ok (.aload_n 0, 1) := by decide +kernel
theorem dX8_owes_8 : decode cX8_owes 8 = .ok (.getfield 143, 3) := by decide +kernel
theorem dX8_owes_11 : decode cX8_owes 11 = .ok (.if_icmp .ge 47, 3) := by decide +kernel
theorem dX8_owes_14 : decode cX8_owes 14 = .ok (.lload_n 3, 1) := by decide +kernel
theorem dX8_owes_15 : decode cX8_owes 15 = .ok (.iload_n 2, 1) := by decide +kernel
theorem dX8_owes_16 : decode cX8_owes 16 = .ok (.ifCond .eq 13, 3) := by decide +kernel
theorem dX8_owes_19 : decode cX8_owes 19 = .ok (.aload_n 0, 1) := by decide +kernel
theorem dX8_owes_20 : decode cX8_owes 20 = .ok (.getfield 108, 3) := by decide +kernel
theorem dX8_owes_23 : decode cX8_owes 23 = .ok (.iload 5, 2) := by decide +kernel
theorem dX8_owes_25 : decode cX8_owes 25 = .ok (.iaload, 1) := by decide +kernel
theorem dX8_owes_26 : decode cX8_owes 26 = .ok (.goto 10, 3) := by decide +kernel
theorem dX8_owes_29 : decode cX8_owes 29 = .ok (.aload_n 0, 1) := by decide +kernel
theorem dX8_owes_30 : decode cX8_owes 30 = .ok (.getfield 105, 3) := by decide +kernel
theorem dX8_owes_33 : decode cX8_owes 33 = .ok (.iload 5, 2) := by decide +kernel
theorem dX8_owes_35 : decode cX8_owes 35 = .ok (.iaload, 1) := by decide +kernel
theorem dX8_owes_36 : decode cX8_owes 36 = .ok (.iload_n 1, 1) := by decide +kernel
theorem dX8_owes_37 : decode cX8_owes 37 = .ok (.if_icmp .ne 12, 3) := by decide +kernel
theorem dX8_owes_40 : decode cX8_owes 40 = .ok (.aload_n 0, 1) := by decide +kernel
theorem dX8_owes_41 : decode cX8_owes 41 = .ok (.iload 5, 2) := by decide +kernel
theorem dX8_owes_43 : decode cX8_owes 43 = .ok (.invokevirtual 223, 3) := by decide +kernel
theorem dX8_owes_46 : decode cX8_owes 46 = .ok (.goto 4, 3) := by decide +kernel
theorem dX8_owes_49 : decode cX8_owes 49 = .ok (.lconst 0, 1) := by decide +kernel
theorem dX8_owes_50 : decode cX8_owes 50 = .ok (.ladd, 1) := by decide +kernel
theorem dX8_owes_51 : decode cX8_owes 51 = .ok (.lstore_n 3, 1) := by decide +kernel
theorem dX8_owes_52 : decode cX8_owes 52 = .ok (.iinc 5 1, 3) := by decide +kernel
theorem dX8_owes_55 : decode cX8_owes 55 = .ok (.goto (-50), 3) := by decide +kernel
theorem dX8_owes_58 : decode cX8_owes 58 = .ok (.lload_n 3, 1) := by decide +kernel
theorem dX8_owes_59 : decode cX8_owes 59 = .ok (.lreturn, 1) := by decide +kernel
theorem dX8_held_0 : decode cX8_held 0 = .ok (.iconst 0, 1) := by decide +kernel
theorem dX8_held_1 : decode cX8_held 1 = .ok (.istore_n 3, 1) := by decide +kernel
theorem dX8_held_2 : decode cX8_held 2 = .ok (.iconst 0, 1) := by decide +kernel
theorem dX8_held_3 : decode cX8_held 3 = .ok (.istore 4, 2) := by decide +kernel
theorem dX8_held_5 : decode cX8_held 5 = .ok (.iload 4, 2) := by decide +kernel
theorem dX8_held_7 : decode cX8_held 7 = .ok (.aload_n 0, 1) := by decide +kernel
theorem dX8_held_8 : decode cX8_held 8 = .ok (.getfield 140, 3) := by decide +kernel
theorem dX8_held_11 : decode cX8_held 11 = .ok (.if_icmp .ge 47, 3) := by decide +kernel
theorem dX8_held_14 : decode cX8_held 14 = .ok (.iload_n 3, 1) := by decide +kernel
theorem dX8_held_15 : decode cX8_held 15 = .ok (.aload_n 0, 1) := by decide +kernel
theorem dX8_held_16 : decode cX8_held 16 = .ok (.getfield 66, 3) := by decide +kernel
theorem dX8_held_19 : decode cX8_held 19 = .ok (.iload 4, 2) := by decide +kernel
theorem dX8_held_21 : decode cX8_held 21 = .ok (.iaload, 1) := by decide +kernel
theorem dX8_held_22 : decode cX8_held 22 = .ok (.iload_n 1, 1) := by decide +kernel
theorem dX8_held_23 : decode cX8_held 23 = .ok (.if_icmp .eq 7, 3) := by decide +kernel
theorem dX8_held_26 : decode cX8_held 26 = .ok (.iconst 0, 1) := by decide +kernel
theorem dX8_held_27 : decode cX8_held 27 = .ok (.goto 23, 3) := by decide +kernel
theorem dX8_held_30 : decode cX8_held 30 = .ok (.iload_n 2, 1) := by decide +kernel
theorem dX8_held_31 : decode cX8_held 31 = .ok (.ifCond .eq 12, 3) := by decide +kernel
theorem dX8_held_34 : decode cX8_held 34 = .ok (.aload_n 0, 1) := by decide +kernel
theorem dX8_held_35 : decode cX8_held 35 = .ok (.iload 4, 2) := by decide +kernel
theorem dX8_held_37 : decode cX8_held 37 = .ok (.invokevirtual 212, 3) := by decide +kernel
theorem dX8_held_40 : decode cX8_held 40 = .ok (.goto 10, 3) := by decide +kernel
theorem dX8_held_43 : decode cX8_held 43 = .ok (.aload_n 0, 1) := by decide +kernel
theorem dX8_held_44 : decode cX8_held 44 = .ok (.getfield 69, 3) := by decide +kernel
theorem dX8_held_47 : decode cX8_held 47 = .ok (.iload 4, 2) := by decide +kernel
theorem dX8_held_49 : decode cX8_held 49 = .ok (.iaload, 1) := by decide +kernel
theorem dX8_held_50 : decode cX8_held 50 = .ok (.iadd, 1) := by decide +kernel
theorem dX8_held_51 : decode cX8_held 51 = .ok (.istore_n 3, 1) := by decide +kernel
theorem dX8_held_52 : decode cX8_held 52 = .ok (.iinc 4 1, 3) := by decide +kernel
theorem dX8_held_55 : decode cX8_held 55 = .ok (.goto (-50), 3) := by decide +kernel
theorem dX8_held_58 : decode cX8_held 58 = .ok (.iload_n 3, 1) := by decide +kernel
theorem dX8_held_59 : decode cX8_held 59 = .ok (.ireturn, 1) := by decide +kernel
theorem dX8_ofParty_0 : decode cX8_ofParty 0 = .ok (.aload_n 0, 1) := by decide +kernel
theorem dX8_ofParty_1 : decode cX8_ofParty 1 = .ok (.aload_n 0, 1) := by decide +kernel
theorem dX8_ofParty_2 : decode cX8_ofParty 2 = .ok (.iload_n 1, 1) := by decide +kernel
theorem dX8_ofParty_3 : decode cX8_ofParty 3 = .ok (.invokevirtual 154, 3) := by decide +kernel
theorem dX8_ofParty_6 : decode cX8_ofParty 6 = .ok (.ifCond .ne 7, 3) := by decide +kernel
theorem dX8_ofParty_9 : decode cX8_ofParty 9 = .ok (.iconst 1, 1) := by decide +kernel
theorem dX8_ofParty_10 : decode cX8_ofParty 10 = .ok (.goto 18, 3) := by decide +kernel
theorem dX8_ofParty_13 : decode cX8_ofParty 13 = .ok (.iload_n 2, 1) := by decide +kernel
theorem dX8_ofParty_14 : decode cX8_ofParty 14 = .ok (.iconst 0, 1) := by decide +kernel
theorem dX8_ofParty_15 : decode cX8_ofParty 15 = .ok (.bipush 6, 2) := by decide +kernel
theorem dX8_ofParty_17 : decode cX8_ofParty 17 = .ok (.invokestatic 133, 3) := by decide +kernel
theorem dX8_ofParty_20 : decode cX8_ofParty 20 = .ok (.ifCond .eq 7, 3) := by decide +kernel
theorem dX8_ofParty_23 : decode cX8_ofParty 23 = .ok (.iconst 0, 1) := by decide +kernel
theorem dX8_ofParty_24 : decode cX8_ofParty 24 = .ok (.goto 4, 3) := by decide +kernel
theorem dX8_ofParty_27 : decode cX8_ofParty 27 = .ok (.iconst 2, 1) := by decide +kernel
theorem dX8_ofParty_28 : decode cX8_ofParty 28 = .ok (.invokevirtual 151, 3) := by decide +kernel
theorem dX8_ofParty_31 : decode cX8_ofParty 31 = .ok (.ifCond .ne 5, 3) := by decide +kernel
theorem dX8_ofParty_34 : decode cX8_ofParty 34 = .ok (.iconst 0, 1) := by decide +kernel
theorem dX8_ofParty_35 : decode cX8_ofParty 35 = .ok (.ireturn, 1) := by decide +kernel
theorem dX8_ofParty_36 : decode cX8_ofParty 36 = .ok (.iload_n 2, 1) := by decide +kernel
theorem dX8_ofParty_37 : decode cX8_ofParty 37 = .ok (.ifCond .eq 13, 3) := by decide +kernel
theorem dX8_ofParty_40 : decode cX8_ofParty 40 = .ok (.iload_n 2, 1) := by decide +kernel
theorem dX8_ofParty_41 : decode cX8_ofParty 41 = .ok (.iconst 2, 1) := by decide +kernel
theorem dX8_ofParty_42 : decode cX8_ofParty 42 = .ok (.if_icmp .eq 8, 3) := by decide +kernel
theorem dX8_ofParty_45 : decode cX8_ofParty 45 = .ok (.iload_n 2, 1) := by decide +kernel
theorem dX8_ofParty_46 : decode cX8_ofParty 46 = .ok (.iconst 3, 1) := by decide +kernel
theorem dX8_ofParty_47 : decode cX8_ofParty 47 = .ok (.if_icmp .ne 33, 3) := by decide +kernel
theorem dX8_ofParty_50 : decode cX8_ofParty 50 = .ok (.iload_n 2, 1) := by decide +kernel
theorem dX8_ofParty_51 : decode cX8_ofParty 51 = .ok (.ifCond .ne 12, 3) := by decide +kernel
theorem dX8_ofParty_54 : decode cX8_ofParty 54 = .ok (.aload_n 0, 1) := by decide +kernel
theorem dX8_ofParty_55 : decode cX8_ofParty 55 = .ok (.getfield 7, 3) := by decide +kernel
theorem dX8_ofParty_58 : decode cX8_ofParty 58 = .ok (.iload_n 1, 1) := by decide +kernel
theorem dX8_ofParty_59 : decode cX8_ofParty 59 = .ok (.laload, 1) := by decide +kernel
theorem dX8_ofParty_60 : decode cX8_ofParty 60 = .ok (.goto 18, 3) := by decide +kernel
theorem dX8_ofParty_63 : decode cX8_ofParty 63 = .ok (.aload_n 0, 1) := by decide +kernel
theorem dX8_ofParty_64 : decode cX8_ofParty 64 = .ok (.iload_n 1, 1) := by decide +kernel
theorem dX8_ofParty_65 : decode cX8_ofParty 65 = .ok (.iload_n 2, 1) := by decide +kernel
theorem dX8_ofParty_66 : decode cX8_ofParty 66 = .ok (.iconst 3, 1) := by decide +kernel
theorem dX8_ofParty_67 : decode cX8_ofParty 67 = .ok (.if_icmp .ne 7, 3) := by decide +kernel
theorem dX8_ofParty_70 : decode cX8_ofParty 70 = .ok (.iconst 1, 1) := by decide +kernel
theorem dX8_ofParty_71 : decode cX8_ofParty 71 = .ok (.goto 4, 3) := by decide +kernel
theorem dX8_ofParty_74 : decode cX8_ofParty 74 = .ok (.iconst 0, 1) := by decide +kernel
theorem dX8_ofParty_75 : decode cX8_ofParty 75 = .ok (.invokevirtual 238, 3) := by decide +kernel
theorem dX8_ofParty_78 : decode cX8_ofParty 78 = .ok (.l2i, 1) := by decide +kernel
theorem dX8_ofParty_79 : decode cX8_ofParty 79 = .ok (.ireturn, 1) := by decide +kernel
theorem dX8_ofParty_80 : decode cX8_ofParty 80 = .ok (.iconst 0, 1) := by decide +kernel
theorem dX8_ofParty_81 : decode cX8_ofParty 81 = .ok (.istore_n 3, 1) := by decide +kernel
theorem dX8_ofParty_82 : decode cX8_ofParty 82 = .ok (.iconst 0, 1) := by decide +kernel
theorem dX8_ofParty_83 : decode cX8_ofParty 83 = .ok (.istore 4, 2) := by decide +kernel
theorem dX8_ofParty_85 : decode cX8_ofParty 85 = .ok (.iload 4, 2) := by decide +kernel
theorem dX8_ofParty_87 : decode cX8_ofParty 87 = .ok (.bipush 10, 2) := by decide +kernel
theorem dX8_ofParty_89 : decode cX8_ofParty 89 = .ok (.if_icmp .ge 32, 3) := by decide +kernel
theorem dX8_ofParty_92 : decode cX8_ofParty 92 = .ok (.iload_n 3, 1) := by decide +kernel
theorem dX8_ofParty_93 : decode cX8_ofParty 93 = .ok (.aload_n 0, 1) := by decide +kernel
theorem dX8_ofParty_94 : decode cX8_ofParty 94 = .ok (.getfield 24, 3) := by decide +kernel
theorem dX8_ofParty_97 : decode cX8_ofParty 97 = .ok (.bipush 10, 2) := by decide +kernel
theorem dX8_ofParty_99 : decode cX8_ofParty 99 = .ok (.iload 4, 2) := by decide +kernel
theorem dX8_ofParty_101 : decode cX8_ofParty 101 = .ok (.imul, 1) := by decide +kernel
theorem dX8_ofParty_102 : decode cX8_ofParty 102 = .ok (.iload_n 1, 1) := by decide +kernel
theorem dX8_ofParty_103 : decode cX8_ofParty 103 = .ok (.iadd, 1) := by decide +kernel
theorem dX8_ofParty_104 : decode cX8_ofParty 104 = .ok (.baload, 1) := by decide +kernel
theorem dX8_ofParty_105 : decode cX8_ofParty 105 = .ok (.ifCond .eq 7, 3) := by decide +kernel
theorem dX8_ofParty_108 : decode cX8_ofParty 108 = .ok (.iconst 1, 1) := by decide +kernel
theorem dX8_ofParty_109 : decode cX8_ofParty 109 = .ok (.goto 4, 3) := by decide +kernel
theorem dX8_ofParty_112 : decode cX8_ofParty 112 = .ok (.iconst 0, 1) := by decide +kernel
theorem dX8_ofParty_113 : decode cX8_ofParty 113 = .ok (.iadd, 1) := by decide +kernel
theorem dX8_ofParty_114 : decode cX8_ofParty 114 = .ok (.istore_n 3, 1) := by decide +kernel
theorem dX8_ofParty_115 : decode cX8_ofParty 115 = .ok (.iinc 4 1, 3) := by decide +kernel
theorem dX8_ofParty_118 : decode cX8_ofParty 118 = .ok (.goto (-33), 3) := by decide +kernel
theorem dX8_ofParty_121 : decode cX8_ofParty 121 = .ok (.iload_n 2, 1) := by decide +kernel
theorem dX8_ofParty_122 : decode cX8_ofParty 122 = .ok (.iconst 5, 1) := by decide +kernel
theorem dX8_ofParty_123 : decode cX8_ofParty 123 = .ok (.if_icmp .ne 20, 3) := by decide +kernel
theorem dX8_ofParty_126 : decode cX8_ofParty 126 = .ok (.aload_n 0, 1) := by decide +kernel
theorem dX8_ofParty_127 : decode cX8_ofParty 127 = .ok (.getfield 17, 3) := by decide +kernel
theorem dX8_ofParty_130 : decode cX8_ofParty 130 = .ok (.iload_n 1, 1) := by decide +kernel
theorem dX8_ofParty_131 : decode cX8_ofParty 131 = .ok (.baload, 1) := by decide +kernel
theorem dX8_ofParty_132 : decode cX8_ofParty 132 = .ok (.ifCond .eq 7, 3) := by decide +kernel
theorem dX8_ofParty_135 : decode cX8_ofParty 135 = .ok (.iconst 1, 1) := by decide +kernel
theorem dX8_ofParty_136 : decode cX8_ofParty 136 = .ok (.goto 32, 3) := by decide +kernel
theorem dX8_ofParty_139 : decode cX8_ofParty 139 = .ok (.iconst 0, 1) := by decide +kernel
theorem dX8_ofParty_140 : decode cX8_ofParty 140 = .ok (.goto 28, 3) := by decide +kernel
theorem dX8_ofParty_143 : decode cX8_ofParty 143 = .ok (.iload_n 2, 1) := by decide +kernel
theorem dX8_ofParty_144 : decode cX8_ofParty 144 = .ok (.bipush 6, 2) := by decide +kernel
theorem dX8_ofParty_146 : decode cX8_ofParty 146 = .ok (.if_icmp .ne 7, 3) := by decide +kernel
theorem dX8_ofParty_149 : decode cX8_ofParty 149 = .ok (.iload_n 3, 1) := by decide +kernel
theorem dX8_ofParty_150 : decode cX8_ofParty 150 = .ok (.goto 18, 3) := by decide +kernel
theorem dX8_ofParty_153 : decode cX8_ofParty 153 = .ok (.aload_n 0, 1) := by decide +kernel
theorem dX8_ofParty_154 : decode cX8_ofParty 154 = .ok (.iload_n 1, 1) := by decide +kernel
theorem dX8_ofParty_155 : decode cX8_ofParty 155 = .ok (.iload_n 2, 1) := by decide +kernel
theorem dX8_ofParty_156 : decode cX8_ofParty 156 = .ok (.iconst 4, 1) := by decide +kernel
theorem dX8_ofParty_157 : decode cX8_ofParty 157 = .ok (.if_icmp .ne 7, 3) := by decide +kernel
theorem dX8_ofParty_160 : decode cX8_ofParty 160 = .ok (.iconst 1, 1) := by decide +kernel
theorem dX8_ofParty_161 : decode cX8_ofParty 161 = .ok (.goto 4, 3) := by decide +kernel
theorem dX8_ofParty_164 : decode cX8_ofParty 164 = .ok (.iconst 0, 1) := by decide +kernel
theorem dX8_ofParty_165 : decode cX8_ofParty 165 = .ok (.invokevirtual 242, 3) := by decide +kernel
theorem dX8_ofParty_168 : decode cX8_ofParty 168 = .ok (.ireturn, 1) := by decide +kernel
theorem dX8_ofWork_0 : decode cX8_ofWork 0 = .ok (.aload_n 0, 1) := by decide +kernel
theorem dX8_ofWork_1 : decode cX8_ofWork 1 = .ok (.aload_n 0, 1) := by decide +kernel
theorem dX8_ofWork_2 : decode cX8_ofWork 2 = .ok (.iload_n 1, 1) := by decide +kernel
theorem dX8_ofWork_3 : decode cX8_ofWork 3 = .ok (.invokevirtual 161, 3) := by decide +kernel
theorem dX8_ofWork_6 : decode cX8_ofWork 6 = .ok (.ifCond .ne 7, 3) := by decide +kernel
theorem dX8_ofWork_9 : decode cX8_ofWork 9 = .ok (.iconst 1, 1) := by decide +kernel
theorem dX8_ofWork_10 : decode cX8_ofWork 10 = .ok (.goto 17, 3) := by decide +kernel
theorem dX8_ofWork_13 : decode cX8_ofWork 13 = .ok (.iload_n 2, 1) := by decide +kernel
theorem dX8_ofWork_14 : decode cX8_ofWork 14 = .ok (.iconst 0, 1) := by decide +kernel
theorem dX8_ofWork_15 : decode cX8_ofWork 15 = .ok (.iconst 5, 1) := by decide +kernel
theorem dX8_ofWork_16 : decode cX8_ofWork 16 = .ok (.invokestatic 133, 3) := by decide +kernel
theorem dX8_ofWork_19 : decode cX8_ofWork 19 = .ok (.ifCond .eq 7, 3) := by decide +kernel
theorem dX8_ofWork_22 : decode cX8_ofWork 22 = .ok (.iconst 0, 1) := by decide +kernel
theorem dX8_ofWork_23 : decode cX8_ofWork 23 = .ok (.goto 4, 3) := by decide +kernel
theorem dX8_ofWork_26 : decode cX8_ofWork 26 = .ok (.iconst 2, 1) := by decide +kernel
theorem dX8_ofWork_27 : decode cX8_ofWork 27 = .ok (.invokevirtual 151, 3) := by decide +kernel
theorem dX8_ofWork_30 : decode cX8_ofWork 30 = .ok (.ifCond .ne 5, 3) := by decide +kernel
theorem dX8_ofWork_33 : decode cX8_ofWork 33 = .ok (.iconst 0, 1) := by decide +kernel
theorem dX8_ofWork_34 : decode cX8_ofWork 34 = .ok (.ireturn, 1) := by decide +kernel
theorem dX8_ofWork_35 : decode cX8_ofWork 35 = .ok (.iload_n 2, 1) := by decide +kernel
theorem dX8_ofWork_36 : decode cX8_ofWork 36 = .ok (.iconst 3, 1) := by decide +kernel
theorem dX8_ofWork_37 : decode cX8_ofWork 37 = .ok (.if_icmp .ge 44, 3) := by decide +kernel
theorem dX8_ofWork_40 : decode cX8_ofWork 40 = .ok (.iload_n 2, 1) := by decide +kernel
theorem dX8_ofWork_41 : decode cX8_ofWork 41 = .ok (.ifCond .ne 11, 3) := by decide +kernel
theorem dX8_ofWork_44 : decode cX8_ofWork 44 = .ok (.aload_n 0, 1) := by decide +kernel
theorem dX8_ofWork_45 : decode cX8_ofWork 45 = .ok (.iload_n 1, 1) := by decide +kernel
theorem dX8_ofWork_46 : decode cX8_ofWork 46 = .ok (.invokevirtual 175, 3) := by decide +kernel
theorem dX8_ofWork_49 : decode cX8_ofWork 49 = .ok (.goto 31, 3) := by decide +kernel
theorem dX8_ofWork_52 : decode cX8_ofWork 52 = .ok (.iload_n 2, 1) := by decide +kernel
theorem dX8_ofWork_53 : decode cX8_ofWork 53 = .ok (.iconst 1, 1) := by decide +kernel
theorem dX8_ofWork_54 : decode cX8_ofWork 54 = .ok (.if_icmp .ne 12, 3) := by decide +kernel
theorem dX8_ofWork_57 : decode cX8_ofWork 57 = .ok (.aload_n 0, 1) := by decide +kernel
theorem dX8_ofWork_58 : decode cX8_ofWork 58 = .ok (.getfield 36, 3) := by decide +kernel
theorem dX8_ofWork_61 : decode cX8_ofWork 61 = .ok (.iload_n 1, 1) := by decide +kernel
theorem dX8_ofWork_62 : decode cX8_ofWork 62 = .ok (.iaload, 1) := by decide +kernel
theorem dX8_ofWork_63 : decode cX8_ofWork 63 = .ok (.goto 17, 3) := by decide +kernel
theorem dX8_ofWork_66 : decode cX8_ofWork 66 = .ok (.aload_n 0, 1) := by decide +kernel
theorem dX8_ofWork_67 : decode cX8_ofWork 67 = .ok (.getfield 39, 3) := by decide +kernel
theorem dX8_ofWork_70 : decode cX8_ofWork 70 = .ok (.iload_n 1, 1) := by decide +kernel
theorem dX8_ofWork_71 : decode cX8_ofWork 71 = .ok (.baload, 1) := by decide +kernel
theorem dX8_ofWork_72 : decode cX8_ofWork 72 = .ok (.ifCond .eq 7, 3) := by decide +kernel
theorem dX8_ofWork_75 : decode cX8_ofWork 75 = .ok (.iconst 1, 1) := by decide +kernel
theorem dX8_ofWork_76 : decode cX8_ofWork 76 = .ok (.goto 4, 3) := by decide +kernel
theorem dX8_ofWork_79 : decode cX8_ofWork 79 = .ok (.iconst 0, 1) := by decide +kernel
theorem dX8_ofWork_80 : decode cX8_ofWork 80 = .ok (.ireturn, 1) := by decide +kernel
theorem dX8_ofWork_81 : decode cX8_ofWork 81 = .ok (.iconst 0, 1) := by decide +kernel
theorem dX8_ofWork_82 : decode cX8_ofWork 82 = .ok (.istore_n 3, 1) := by decide +kernel
theorem dX8_ofWork_83 : decode cX8_ofWork 83 = .ok (.iconst 0, 1) := by decide +kernel
theorem dX8_ofWork_84 : decode cX8_ofWork 84 = .ok (.istore 4, 2) := by decide +kernel
theorem dX8_ofWork_86 : decode cX8_ofWork 86 = .ok (.iload 4, 2) := by decide +kernel
theorem dX8_ofWork_88 : decode cX8_ofWork 88 = .ok (.aload_n 0, 1) := by decide +kernel
theorem dX8_ofWork_89 : decode cX8_ofWork 89 = .ok (.getfield 140, 3) := by decide +kernel
theorem dX8_ofWork_92 : decode cX8_ofWork 92 = .ok (.if_icmp .ge 38, 3) := by decide +kernel
theorem dX8_ofWork_95 : decode cX8_ofWork 95 = .ok (.iload_n 3, 1) := by decide +kernel
theorem dX8_ofWork_96 : decode cX8_ofWork 96 = .ok (.aload_n 0, 1) := by decide +kernel
theorem dX8_ofWork_97 : decode cX8_ofWork 97 = .ok (.getfield 63, 3) := by decide +kernel
theorem dX8_ofWork_100 : decode cX8_ofWork 100 = .ok (.iload 4, 2) := by decide +kernel
theorem dX8_ofWork_102 : decode cX8_ofWork 102 = .ok (.iaload, 1) := by decide +kernel
theorem dX8_ofWork_103 : decode cX8_ofWork 103 = .ok (.iload_n 1, 1) := by decide +kernel
theorem dX8_ofWork_104 : decode cX8_ofWork 104 = .ok (.if_icmp .ne 17, 3) := by decide +kernel
theorem dX8_ofWork_107 : decode cX8_ofWork 107 = .ok (.aload_n 0, 1) := by decide +kernel
theorem dX8_ofWork_108 : decode cX8_ofWork 108 = .ok (.getfield 69, 3) := by decide +kernel
theorem dX8_ofWork_111 : decode cX8_ofWork 111 = .ok (.iload 4, 2) := by decide +kernel
theorem dX8_ofWork_113 : decode cX8_ofWork 113 = .ok (.iaload, 1) := by decide +kernel
theorem dX8_ofWork_114 : decode cX8_ofWork 114 = .ok (.ifCond .le 7, 3) := by decide +kernel
theorem dX8_ofWork_117 : decode cX8_ofWork 117 = .ok (.iconst 1, 1) := by decide +kernel
theorem dX8_ofWork_118 : decode cX8_ofWork 118 = .ok (.goto 4, 3) := by decide +kernel
theorem dX8_ofWork_121 : decode cX8_ofWork 121 = .ok (.iconst 0, 1) := by decide +kernel
theorem dX8_ofWork_122 : decode cX8_ofWork 122 = .ok (.iadd, 1) := by decide +kernel
theorem dX8_ofWork_123 : decode cX8_ofWork 123 = .ok (.istore_n 3, 1) := by decide +kernel
theorem dX8_ofWork_124 : decode cX8_ofWork 124 = .ok (.iinc 4 1, 3) := by decide +kernel
theorem dX8_ofWork_127 : decode cX8_ofWork 127 = .ok (.goto (-41), 3) := by decide +kernel
theorem dX8_ofWork_130 : decode cX8_ofWork 130 = .ok (.iload_n 2, 1) := by decide +kernel
theorem dX8_ofWork_131 : decode cX8_ofWork 131 = .ok (.iconst 3, 1) := by decide +kernel
theorem dX8_ofWork_132 : decode cX8_ofWork 132 = .ok (.if_icmp .ne 11, 3) := by decide +kernel
theorem dX8_ofWork_135 : decode cX8_ofWork 135 = .ok (.aload_n 0, 1) := by decide +kernel
theorem dX8_ofWork_136 : decode cX8_ofWork 136 = .ok (.iload_n 1, 1) := by decide +kernel
theorem dX8_ofWork_137 : decode cX8_ofWork 137 = .ok (.invokevirtual 167, 3) := by decide +kernel
theorem dX8_ofWork_140 : decode cX8_ofWork 140 = .ok (.goto 18, 3) := by decide +kernel
theorem dX8_ofWork_143 : decode cX8_ofWork 143 = .ok (.iload_n 2, 1) := by decide +kernel
theorem dX8_ofWork_144 : decode cX8_ofWork 144 = .ok (.iconst 4, 1) := by decide +kernel
theorem dX8_ofWork_145 : decode cX8_ofWork 145 = .ok (.if_icmp .ne 12, 3) := by decide +kernel
theorem dX8_ofWork_148 : decode cX8_ofWork 148 = .ok (.aload_n 0, 1) := by decide +kernel
theorem dX8_ofWork_149 : decode cX8_ofWork 149 = .ok (.getfield 45, 3) := by decide +kernel
theorem dX8_ofWork_152 : decode cX8_ofWork 152 = .ok (.iload_n 1, 1) := by decide +kernel
theorem dX8_ofWork_153 : decode cX8_ofWork 153 = .ok (.iaload, 1) := by decide +kernel
theorem dX8_ofWork_154 : decode cX8_ofWork 154 = .ok (.goto 4, 3) := by decide +kernel
theorem dX8_ofWork_157 : decode cX8_ofWork 157 = .ok (.iload_n 3, 1) := by decide +kernel
theorem dX8_ofWork_158 : decode cX8_ofWork 158 = .ok (.ireturn, 1) := by decide +kernel
theorem dX8_chain_0 : decode cX8_chain 0 = .ok (.iconst 0, 1) := by decide +kernel
theorem dX8_chain_1 : decode cX8_chain 1 = .ok (.istore_n 2, 1) := by decide +kernel
theorem dX8_chain_2 : decode cX8_chain 2 = .ok (.iload_n 1, 1) := by decide +kernel
theorem dX8_chain_3 : decode cX8_chain 3 = .ok (.istore_n 3, 1) := by decide +kernel
theorem dX8_chain_4 : decode cX8_chain 4 = .ok (.iload_n 3, 1) := by decide +kernel
theorem dX8_chain_5 : decode cX8_chain 5 = .ok (.iconst (-1), 1) := by decide +kernel
theorem dX8_chain_6 : decode cX8_chain 6 = .ok (.if_icmp .eq 64, 3) := by decide +kernel
theorem dX8_chain_9 : decode cX8_chain 9 = .ok (.aload_n 0, 1) := by decide +kernel
theorem dX8_chain_10 : decode cX8_chain 10 = .ok (.getfield 90, 3) := by decide +kernel
theorem dX8_chain_13 : decode cX8_chain 13 = .ok (.iload_n 3, 1) := by decide +kernel
theorem dX8_chain_14 : decode cX8_chain 14 = .ok (.iaload, 1) := by decide +kernel
theorem dX8_chain_15 : decode cX8_chain 15 = .ok (.iconst (-1), 1) := by decide +kernel
theorem dX8_chain_16 : decode cX8_chain 16 = .ok (.if_icmp .eq 54, 3) := by decide +kernel
theorem dX8_chain_19 : decode cX8_chain 19 = .ok (.iinc 2 1, 3) := by decide +kernel
theorem dX8_chain_22 : decode cX8_chain 22 = .ok (.aload_n 0, 1) := by decide +kernel
theorem dX8_chain_23 : decode cX8_chain 23 = .ok (.getfield 87, 3) := by decide +kernel
theorem dX8_chain_26 : decode cX8_chain 26 = .ok (.iload_n 3, 1) := by decide +kernel
theorem dX8_chain_27 : decode cX8_chain 27 = .ok (.iaload, 1) := by decide +kernel
theorem dX8_chain_28 : decode cX8_chain 28 = .ok (.istore 4, 2) := by decide +kernel
theorem dX8_chain_30 : decode cX8_chain 30 = .ok (.aload_n 0, 1) := by decide +kernel
theorem dX8_chain_31 : decode cX8_chain 31 = .ok (.getfield 90, 3) := by decide +kernel
theorem dX8_chain_34 : decode cX8_chain 34 = .ok (.iload 4, 2) := by decide +kernel
theorem dX8_chain_36 : decode cX8_chain 36 = .ok (.iaload, 1) := by decide +kernel
theorem dX8_chain_37 : decode cX8_chain 37 = .ok (.iconst (-1), 1) := by decide +kernel
theorem dX8_chain_38 : decode cX8_chain 38 = .ok (.if_icmp .eq 27, 3) := by decide +kernel
theorem dX8_chain_41 : decode cX8_chain 41 = .ok (.aload_n 0, 1) := by decide +kernel
theorem dX8_chain_42 : decode cX8_chain 42 = .ok (.getfield 90, 3) := by decide +kernel
theorem dX8_chain_45 : decode cX8_chain 45 = .ok (.iload_n 3, 1) := by decide +kernel
theorem dX8_chain_46 : decode cX8_chain 46 = .ok (.iaload, 1) := by decide +kernel
theorem dX8_chain_47 : decode cX8_chain 47 = .ok (.aload_n 0, 1) := by decide +kernel
theorem dX8_chain_48 : decode cX8_chain 48 = .ok (.getfield 90, 3) := by decide +kernel
theorem dX8_chain_51 : decode cX8_chain 51 = .ok (.iload 4, 2) := by decide +kernel
theorem dX8_chain_53 : decode cX8_chain 53 = .ok (.iaload, 1) := by decide +kernel
theorem dX8_chain_54 : decode cX8_chain 54 = .ok (.isub, 1) := by decide +kernel
theorem dX8_chain_55 : decode cX8_chain 55 = .ok (.bipush 7, 2) := by decide +kernel
theorem dX8_chain_57 : decode cX8_chain 57 = .ok (.if_icmp .gt 8, 3) := by decide +kernel
theorem dX8_chain_60 : decode cX8_chain 60 = .ok (.iload 4, 2) := by decide +kernel
theorem dX8_chain_62 : decode cX8_chain 62 = .ok (.goto 4, 3) := by decide +kernel
theorem dX8_chain_65 : decode cX8_chain 65 = .ok (.iconst (-1), 1) := by decide +kernel
theorem dX8_chain_66 : decode cX8_chain 66 = .ok (.istore_n 3, 1) := by decide +kernel
theorem dX8_chain_67 : decode cX8_chain 67 = .ok (.goto (-63), 3) := by decide +kernel
theorem dX8_chain_70 : decode cX8_chain 70 = .ok (.iload_n 2, 1) := by decide +kernel
theorem dX8_chain_71 : decode cX8_chain 71 = .ok (.ireturn, 1) := by decide +kernel
theorem dX8_ofLot_0 : decode cX8_ofLot 0 = .ok (.aload_n 0, 1) := by decide +kernel
theorem dX8_ofLot_1 : decode cX8_ofLot 1 = .ok (.aload_n 0, 1) := by decide +kernel
theorem dX8_ofLot_2 : decode cX8_ofLot 2 = .ok (.iload_n 1, 1) := by decide +kernel
theorem dX8_ofLot_3 : decode cX8_ofLot 3 = .ok (.invokevirtual 191, 3) := by decide +kernel
theorem dX8_ofLot_6 : decode cX8_ofLot 6 = .ok (.ifCond .ne 7, 3) := by decide +kernel
theorem dX8_ofLot_9 : decode cX8_ofLot 9 = .ok (.iconst 1, 1) := by decide +kernel
theorem dX8_ofLot_10 : decode cX8_ofLot 10 = .ok (.goto 18, 3) := by decide +kernel
theorem dX8_ofLot_13 : decode cX8_ofLot 13 = .ok (.iload_n 2, 1) := by decide +kernel
theorem dX8_ofLot_14 : decode cX8_ofLot 14 = .ok (.iconst 0, 1) := by decide +kernel
theorem dX8_ofLot_15 : decode cX8_ofLot 15 = .ok (.bipush 8, 2) := by decide +kernel
theorem dX8_ofLot_17 : decode cX8_ofLot 17 = .ok (.invokestatic 133, 3) := by decide +kernel
theorem dX8_ofLot_20 : decode cX8_ofLot 20 = .ok (.ifCond .eq 7, 3) := by decide +kernel
theorem dX8_ofLot_23 : decode cX8_ofLot 23 = .ok (.iconst 0, 1) := by decide +kernel
theorem dX8_ofLot_24 : decode cX8_ofLot 24 = .ok (.goto 4, 3) := by decide +kernel
theorem dX8_ofLot_27 : decode cX8_ofLot 27 = .ok (.iconst 2, 1) := by decide +kernel
theorem dX8_ofLot_28 : decode cX8_ofLot 28 = .ok (.invokevirtual 151, 3) := by decide +kernel
theorem dX8_ofLot_31 : decode cX8_ofLot 31 = .ok (.ifCond .ne 5, 3) := by decide +kernel
theorem dX8_ofLot_34 : decode cX8_ofLot 34 = .ok (.iconst 0, 1) := by decide +kernel
theorem dX8_ofLot_35 : decode cX8_ofLot 35 = .ok (.ireturn, 1) := by decide +kernel
theorem dX8_ofLot_36 : decode cX8_ofLot 36 = .ok (.iload_n 2, 1) := by decide +kernel
theorem dX8_ofLot_37 : decode cX8_ofLot 37 = .ok (.tableswitch 102 0 7 #[47, 54, 61, 68, 75, 82, 89, 96], 47) := by decide +kernel
theorem dX8_ofLot_84 : decode cX8_ofLot 84 = .ok (.aload_n 0, 1) := by decide +kernel
theorem dX8_ofLot_85 : decode cX8_ofLot 85 = .ok (.getfield 63, 3) := by decide +kernel
theorem dX8_ofLot_88 : decode cX8_ofLot 88 = .ok (.iload_n 1, 1) := by decide +kernel
theorem dX8_ofLot_89 : decode cX8_ofLot 89 = .ok (.iaload, 1) := by decide +kernel
theorem dX8_ofLot_90 : decode cX8_ofLot 90 = .ok (.ireturn, 1) := by decide +kernel
theorem dX8_ofLot_91 : decode cX8_ofLot 91 = .ok (.aload_n 0, 1) := by decide +kernel
theorem dX8_ofLot_92 : decode cX8_ofLot 92 = .ok (.getfield 66, 3) := by decide +kernel
theorem dX8_ofLot_95 : decode cX8_ofLot 95 = .ok (.iload_n 1, 1) := by decide +kernel
theorem dX8_ofLot_96 : decode cX8_ofLot 96 = .ok (.iaload, 1) := by decide +kernel
theorem dX8_ofLot_97 : decode cX8_ofLot 97 = .ok (.ireturn, 1) := by decide +kernel
theorem dX8_ofLot_98 : decode cX8_ofLot 98 = .ok (.aload_n 0, 1) := by decide +kernel
theorem dX8_ofLot_99 : decode cX8_ofLot 99 = .ok (.getfield 69, 3) := by decide +kernel
theorem dX8_ofLot_102 : decode cX8_ofLot 102 = .ok (.iload_n 1, 1) := by decide +kernel
theorem dX8_ofLot_103 : decode cX8_ofLot 103 = .ok (.iaload, 1) := by decide +kernel
theorem dX8_ofLot_104 : decode cX8_ofLot 104 = .ok (.ireturn, 1) := by decide +kernel
theorem dX8_ofLot_105 : decode cX8_ofLot 105 = .ok (.aload_n 0, 1) := by decide +kernel
theorem dX8_ofLot_106 : decode cX8_ofLot 106 = .ok (.getfield 72, 3) := by decide +kernel
theorem dX8_ofLot_109 : decode cX8_ofLot 109 = .ok (.iload_n 1, 1) := by decide +kernel
theorem dX8_ofLot_110 : decode cX8_ofLot 110 = .ok (.iaload, 1) := by decide +kernel
theorem dX8_ofLot_111 : decode cX8_ofLot 111 = .ok (.ireturn, 1) := by decide +kernel
theorem dX8_ofLot_112 : decode cX8_ofLot 112 = .ok (.aload_n 0, 1) := by decide +kernel
theorem dX8_ofLot_113 : decode cX8_ofLot 113 = .ok (.getfield 75, 3) := by decide +kernel
theorem dX8_ofLot_116 : decode cX8_ofLot 116 = .ok (.iload_n 1, 1) := by decide +kernel
theorem dX8_ofLot_117 : decode cX8_ofLot 117 = .ok (.iaload, 1) := by decide +kernel
theorem dX8_ofLot_118 : decode cX8_ofLot 118 = .ok (.ireturn, 1) := by decide +kernel
theorem dX8_ofLot_119 : decode cX8_ofLot 119 = .ok (.aload_n 0, 1) := by decide +kernel
theorem dX8_ofLot_120 : decode cX8_ofLot 120 = .ok (.getfield 87, 3) := by decide +kernel
theorem dX8_ofLot_123 : decode cX8_ofLot 123 = .ok (.iload_n 1, 1) := by decide +kernel
theorem dX8_ofLot_124 : decode cX8_ofLot 124 = .ok (.iaload, 1) := by decide +kernel
theorem dX8_ofLot_125 : decode cX8_ofLot 125 = .ok (.ireturn, 1) := by decide +kernel
theorem dX8_ofLot_126 : decode cX8_ofLot 126 = .ok (.aload_n 0, 1) := by decide +kernel
theorem dX8_ofLot_127 : decode cX8_ofLot 127 = .ok (.getfield 90, 3) := by decide +kernel
theorem dX8_ofLot_130 : decode cX8_ofLot 130 = .ok (.iload_n 1, 1) := by decide +kernel
theorem dX8_ofLot_131 : decode cX8_ofLot 131 = .ok (.iaload, 1) := by decide +kernel
theorem dX8_ofLot_132 : decode cX8_ofLot 132 = .ok (.ireturn, 1) := by decide +kernel
theorem dX8_ofLot_133 : decode cX8_ofLot 133 = .ok (.aload_n 0, 1) := by decide +kernel
theorem dX8_ofLot_134 : decode cX8_ofLot 134 = .ok (.iload_n 1, 1) := by decide +kernel
theorem dX8_ofLot_135 : decode cX8_ofLot 135 = .ok (.invokevirtual 212, 3) := by decide +kernel
theorem dX8_ofLot_138 : decode cX8_ofLot 138 = .ok (.ireturn, 1) := by decide +kernel
theorem dX8_ofLot_139 : decode cX8_ofLot 139 = .ok (.aload_n 0, 1) := by decide +kernel
theorem dX8_ofLot_140 : decode cX8_ofLot 140 = .ok (.iload_n 1, 1) := by decide +kernel
theorem dX8_ofLot_141 : decode cX8_ofLot 141 = .ok (.invokevirtual 246, 3) := by decide +kernel
theorem dX8_ofLot_144 : decode cX8_ofLot 144 = .ok (.ireturn, 1) := by decide +kernel
theorem dX8_ofLoan_0 : decode cX8_ofLoan 0 = .ok (.aload_n 0, 1) := by decide +kernel
theorem dX8_ofLoan_1 : decode cX8_ofLoan 1 = .ok (.aload_n 0, 1) := by decide +kernel
theorem dX8_ofLoan_2 : decode cX8_ofLoan 2 = .ok (.iload_n 1, 1) := by decide +kernel
theorem dX8_ofLoan_3 : decode cX8_ofLoan 3 = .ok (.invokevirtual 220, 3) := by decide +kernel
theorem dX8_ofLoan_6 : decode cX8_ofLoan 6 = .ok (.ifCond .ne 7, 3) := by decide +kernel
theorem dX8_ofLoan_9 : decode cX8_ofLoan 9 = .ok (.iconst 1, 1) := by decide +kernel
theorem dX8_ofLoan_10 : decode cX8_ofLoan 10 = .ok (.goto 17, 3) := by decide +kernel
theorem dX8_ofLoan_13 : decode cX8_ofLoan 13 = .ok (.iload_n 2, 1) := by decide +kernel
theorem dX8_ofLoan_14 : decode cX8_ofLoan 14 = .ok (.iconst 0, 1) := by decide +kernel
theorem dX8_ofLoan_15 : decode cX8_ofLoan 15 = .ok (.iconst 5, 1) := by decide +kernel
theorem dX8_ofLoan_16 : decode cX8_ofLoan 16 = .ok (.invokestatic 133, 3) := by decide +kernel
theorem dX8_ofLoan_19 : decode cX8_ofLoan 19 = .ok (.ifCond .eq 7, 3) := by decide +kernel
theorem dX8_ofLoan_22 : decode cX8_ofLoan 22 = .ok (.iconst 0, 1) := by decide +kernel
theorem dX8_ofLoan_23 : decode cX8_ofLoan 23 = .ok (.goto 4, 3) := by decide +kernel
theorem dX8_ofLoan_26 : decode cX8_ofLoan 26 = .ok (.iconst 2, 1) := by decide +kernel
theorem dX8_ofLoan_27 : decode cX8_ofLoan 27 = .ok (.invokevirtual 151, 3) := by decide +kernel
theorem dX8_ofLoan_30 : decode cX8_ofLoan 30 = .ok (.ifCond .ne 5, 3) := by decide +kernel
theorem dX8_ofLoan_33 : decode cX8_ofLoan 33 = .ok (.iconst 0, 1) := by decide +kernel
theorem dX8_ofLoan_34 : decode cX8_ofLoan 34 = .ok (.ireturn, 1) := by decide +kernel
theorem dX8_ofLoan_35 : decode cX8_ofLoan 35 = .ok (.iload_n 2, 1) := by decide +kernel
theorem dX8_ofLoan_36 : decode cX8_ofLoan 36 = .ok (.iconst 3, 1) := by decide +kernel
theorem dX8_ofLoan_37 : decode cX8_ofLoan 37 = .ok (.if_icmp .ge 37, 3) := by decide +kernel
theorem dX8_ofLoan_40 : decode cX8_ofLoan 40 = .ok (.iload_n 2, 1) := by decide +kernel
theorem dX8_ofLoan_41 : decode cX8_ofLoan 41 = .ok (.ifCond .ne 12, 3) := by decide +kernel
theorem dX8_ofLoan_44 : decode cX8_ofLoan 44 = .ok (.aload_n 0, 1) := by decide +kernel
theorem dX8_ofLoan_45 : decode cX8_ofLoan 45 = .ok (.getfield 105, 3) := by decide +kernel
theorem dX8_ofLoan_48 : decode cX8_ofLoan 48 = .ok (.iload_n 1, 1) := by decide +kernel
theorem dX8_ofLoan_49 : decode cX8_ofLoan 49 = .ok (.iaload, 1) := by decide +kernel
theorem dX8_ofLoan_50 : decode cX8_ofLoan 50 = .ok (.goto 23, 3) := by decide +kernel
theorem dX8_ofLoan_53 : decode cX8_ofLoan 53 = .ok (.iload_n 2, 1) := by decide +kernel
theorem dX8_ofLoan_54 : decode cX8_ofLoan 54 = .ok (.iconst 1, 1) := by decide +kernel
theorem dX8_ofLoan_55 : decode cX8_ofLoan 55 = .ok (.if_icmp .ne 12, 3) := by decide +kernel
theorem dX8_ofLoan_58 : decode cX8_ofLoan 58 = .ok (.aload_n 0, 1) := by decide +kernel
theorem dX8_ofLoan_59 : decode cX8_ofLoan 59 = .ok (.getfield 108, 3) := by decide +kernel
theorem dX8_ofLoan_62 : decode cX8_ofLoan 62 = .ok (.iload_n 1, 1) := by decide +kernel
theorem dX8_ofLoan_63 : decode cX8_ofLoan 63 = .ok (.iaload, 1) := by decide +kernel
theorem dX8_ofLoan_64 : decode cX8_ofLoan 64 = .ok (.goto 9, 3) := by decide +kernel
theorem dX8_ofLoan_67 : decode cX8_ofLoan 67 = .ok (.aload_n 0, 1) := by decide +kernel
theorem dX8_ofLoan_68 : decode cX8_ofLoan 68 = .ok (.iload_n 1, 1) := by decide +kernel
theorem dX8_ofLoan_69 : decode cX8_ofLoan 69 = .ok (.invokevirtual 223, 3) := by decide +kernel
theorem dX8_ofLoan_72 : decode cX8_ofLoan 72 = .ok (.l2i, 1) := by decide +kernel
theorem dX8_ofLoan_73 : decode cX8_ofLoan 73 = .ok (.ireturn, 1) := by decide +kernel
theorem dX8_ofLoan_74 : decode cX8_ofLoan 74 = .ok (.iload_n 2, 1) := by decide +kernel
theorem dX8_ofLoan_75 : decode cX8_ofLoan 75 = .ok (.iconst 3, 1) := by decide +kernel
theorem dX8_ofLoan_76 : decode cX8_ofLoan 76 = .ok (.if_icmp .ne 12, 3) := by decide +kernel
theorem dX8_ofLoan_79 : decode cX8_ofLoan 79 = .ok (.aload_n 0, 1) := by decide +kernel
theorem dX8_ofLoan_80 : decode cX8_ofLoan 80 = .ok (.getfield 120, 3) := by decide +kernel
theorem dX8_ofLoan_83 : decode cX8_ofLoan 83 = .ok (.iload_n 1, 1) := by decide +kernel
theorem dX8_ofLoan_84 : decode cX8_ofLoan 84 = .ok (.iaload, 1) := by decide +kernel
theorem dX8_ofLoan_85 : decode cX8_ofLoan 85 = .ok (.goto 33, 3) := by decide +kernel
theorem dX8_ofLoan_88 : decode cX8_ofLoan 88 = .ok (.iload_n 2, 1) := by decide +kernel
theorem dX8_ofLoan_89 : decode cX8_ofLoan 89 = .ok (.iconst 4, 1) := by decide +kernel
theorem dX8_ofLoan_90 : decode cX8_ofLoan 90 = .ok (.if_icmp .ne 14, 3) := by decide +kernel
theorem dX8_ofLoan_93 : decode cX8_ofLoan 93 = .ok (.aload_n 0, 1) := by decide +kernel
theorem dX8_ofLoan_94 : decode cX8_ofLoan 94 = .ok (.iload_n 1, 1) := by decide +kernel
theorem dX8_ofLoan_95 : decode cX8_ofLoan 95 = .ok (.invokevirtual 235, 3) := by decide +kernel
theorem dX8_ofLoan_98 : decode cX8_ofLoan 98 = .ok (.ifCond .eq 19, 3) := by decide +kernel
theorem dX8_ofLoan_101 : decode cX8_ofLoan 101 = .ok (.goto 12, 3) := by decide +kernel
theorem dX8_ofLoan_104 : decode cX8_ofLoan 104 = .ok (.aload_n 0, 1) := by decide +kernel
theorem dX8_ofLoan_105 : decode cX8_ofLoan 105 = .ok (.getfield 123, 3) := by decide +kernel
theorem dX8_ofLoan_108 : decode cX8_ofLoan 108 = .ok (.iload_n 1, 1) := by decide +kernel
theorem dX8_ofLoan_109 : decode cX8_ofLoan 109 = .ok (.baload, 1) := by decide +kernel
theorem dX8_ofLoan_110 : decode cX8_ofLoan 110 = .ok (.ifCond .eq 7, 3) := by decide +kernel
theorem dX8_ofLoan_113 : decode cX8_ofLoan 113 = .ok (.iconst 1, 1) := by decide +kernel
theorem dX8_ofLoan_114 : decode cX8_ofLoan 114 = .ok (.goto 4, 3) := by decide +kernel
theorem dX8_ofLoan_117 : decode cX8_ofLoan 117 = .ok (.iconst 0, 1) := by decide +kernel
theorem dX8_ofLoan_118 : decode cX8_ofLoan 118 = .ok (.ireturn, 1) := by decide +kernel
theorem dX8_doubt_0 : decode cX8_doubt 0 = .ok (.aload_n 0, 1) := by decide +kernel
theorem dX8_doubt_1 : decode cX8_doubt 1 = .ok (.aload_n 0, 1) := by decide +kernel
theorem dX8_doubt_2 : decode cX8_doubt 2 = .ok (.iload_n 1, 1) := by decide +kernel
theorem dX8_doubt_3 : decode cX8_doubt 3 = .ok (.invokevirtual 161, 3) := by decide +kernel
theorem dX8_doubt_6 : decode cX8_doubt 6 = .ok (.ifCond .ne 7, 3) := by decide +kernel
theorem dX8_doubt_9 : decode cX8_doubt 9 = .ok (.iconst 1, 1) := by decide +kernel
theorem dX8_doubt_10 : decode cX8_doubt 10 = .ok (.goto 20, 3) := by decide +kernel
theorem dX8_doubt_13 : decode cX8_doubt 13 = .ok (.iload_n 2, 1) := by decide +kernel
theorem dX8_doubt_14 : decode cX8_doubt 14 = .ok (.iconst 0, 1) := by decide +kernel
theorem dX8_doubt_15 : decode cX8_doubt 15 = .ok (.aload_n 0, 1) := by decide +kernel
theorem dX8_doubt_16 : decode cX8_doubt 16 = .ok (.getfield 164, 3) := by decide +kernel
theorem dX8_doubt_19 : decode cX8_doubt 19 = .ok (.invokestatic 133, 3) := by decide +kernel
theorem dX8_doubt_22 : decode cX8_doubt 22 = .ok (.ifCond .eq 7, 3) := by decide +kernel
theorem dX8_doubt_25 : decode cX8_doubt 25 = .ok (.iconst 0, 1) := by decide +kernel
theorem dX8_doubt_26 : decode cX8_doubt 26 = .ok (.goto 4, 3) := by decide +kernel
theorem dX8_doubt_29 : decode cX8_doubt 29 = .ok (.iconst 2, 1) := by decide +kernel
theorem dX8_doubt_30 : decode cX8_doubt 30 = .ok (.invokevirtual 151, 3) := by decide +kernel
theorem dX8_doubt_33 : decode cX8_doubt 33 = .ok (.ifCond .eq 12, 3) := by decide +kernel
theorem dX8_doubt_36 : decode cX8_doubt 36 = .ok (.aload_n 0, 1) := by decide +kernel
theorem dX8_doubt_37 : decode cX8_doubt 37 = .ok (.iload_n 1, 1) := by decide +kernel
theorem dX8_doubt_38 : decode cX8_doubt 38 = .ok (.iload_n 2, 1) := by decide +kernel
theorem dX8_doubt_39 : decode cX8_doubt 39 = .ok (.invokevirtual 171, 3) := by decide +kernel
theorem dX8_doubt_42 : decode cX8_doubt 42 = .ok (.goto 4, 3) := by decide +kernel
theorem dX8_doubt_45 : decode cX8_doubt 45 = .ok (.iconst 0, 1) := by decide +kernel
theorem dX8_doubt_46 : decode cX8_doubt 46 = .ok (.ireturn, 1) := by decide +kernel
theorem dX8_gaps_0 : decode cX8_gaps 0 = .ok (.iload_n 2, 1) := by decide +kernel
theorem dX8_gaps_1 : decode cX8_gaps 1 = .ok (.sipush 1900, 3) := by decide +kernel
theorem dX8_gaps_4 : decode cX8_gaps 4 = .ok (.sipush 2000, 3) := by decide +kernel
theorem dX8_gaps_7 : decode cX8_gaps 7 = .ok (.invokestatic 133, 3) := by decide +kernel
theorem dX8_gaps_10 : decode cX8_gaps 10 = .ok (.ifCond .eq 18, 3) := by decide +kernel
theorem dX8_gaps_13 : decode cX8_gaps 13 = .ok (.iload_n 3, 1) := by decide +kernel
theorem dX8_gaps_14 : decode cX8_gaps 14 = .ok (.iload_n 2, 1) := by decide +kernel
theorem dX8_gaps_15 : decode cX8_gaps 15 = .ok (.sipush 2000, 3) := by decide +kernel
theorem dX8_gaps_18 : decode cX8_gaps 18 = .ok (.invokestatic 133, 3) := by decide +kernel
theorem dX8_gaps_21 : decode cX8_gaps 21 = .ok (.ifCond .eq 7, 3) := by decide +kernel
theorem dX8_gaps_24 : decode cX8_gaps 24 = .ok (.iconst 1, 1) := by decide +kernel
theorem dX8_gaps_25 : decode cX8_gaps 25 = .ok (.goto 4, 3) := by decide +kernel
theorem dX8_gaps_28 : decode cX8_gaps 28 = .ok (.iconst 0, 1) := by decide +kernel
theorem dX8_gaps_29 : decode cX8_gaps 29 = .ok (.istore 4, 2) := by decide +kernel
theorem dX8_gaps_31 : decode cX8_gaps 31 = .ok (.aload_n 0, 1) := by decide +kernel
theorem dX8_gaps_32 : decode cX8_gaps 32 = .ok (.aload_n 0, 1) := by decide +kernel
theorem dX8_gaps_33 : decode cX8_gaps 33 = .ok (.iload_n 1, 1) := by decide +kernel
theorem dX8_gaps_34 : decode cX8_gaps 34 = .ok (.invokevirtual 161, 3) := by decide +kernel
theorem dX8_gaps_37 : decode cX8_gaps 37 = .ok (.ifCond .ne 7, 3) := by decide +kernel
theorem dX8_gaps_40 : decode cX8_gaps 40 = .ok (.iconst 1, 1) := by decide +kernel
theorem dX8_gaps_41 : decode cX8_gaps 41 = .ok (.goto 13, 3) := by decide +kernel
theorem dX8_gaps_44 : decode cX8_gaps 44 = .ok (.iload 4, 2) := by decide +kernel
theorem dX8_gaps_46 : decode cX8_gaps 46 = .ok (.ifCond .eq 7, 3) := by decide +kernel
theorem dX8_gaps_49 : decode cX8_gaps 49 = .ok (.iconst 0, 1) := by decide +kernel
theorem dX8_gaps_50 : decode cX8_gaps 50 = .ok (.goto 4, 3) := by decide +kernel
theorem dX8_gaps_53 : decode cX8_gaps 53 = .ok (.iconst 2, 1) := by decide +kernel
theorem dX8_gaps_54 : decode cX8_gaps 54 = .ok (.invokevirtual 151, 3) := by decide +kernel
theorem dX8_gaps_57 : decode cX8_gaps 57 = .ok (.istore 5, 2) := by decide +kernel
theorem dX8_gaps_59 : decode cX8_gaps 59 = .ok (.iconst 0, 1) := by decide +kernel
theorem dX8_gaps_60 : decode cX8_gaps 60 = .ok (.istore 6, 2) := by decide +kernel
theorem dX8_gaps_62 : decode cX8_gaps 62 = .ok (.iload_n 2, 1) := by decide +kernel
theorem dX8_gaps_63 : decode cX8_gaps 63 = .ok (.istore 7, 2) := by decide +kernel
theorem dX8_gaps_65 : decode cX8_gaps 65 = .ok (.iload 5, 2) := by decide +kernel
theorem dX8_gaps_67 : decode cX8_gaps 67 = .ok (.ifCond .eq 44, 3) := by decide +kernel
theorem dX8_gaps_70 : decode cX8_gaps 70 = .ok (.iload 7, 2) := by decide +kernel
theorem dX8_gaps_72 : decode cX8_gaps 72 = .ok (.iload_n 3, 1) := by decide +kernel
theorem dX8_gaps_73 : decode cX8_gaps 73 = .ok (.if_icmp .gt 38, 3) := by decide +kernel
theorem dX8_gaps_76 : decode cX8_gaps 76 = .ok (.iload 6, 2) := by decide +kernel
theorem dX8_gaps_78 : decode cX8_gaps 78 = .ok (.aload_n 0, 1) := by decide +kernel
theorem dX8_gaps_79 : decode cX8_gaps 79 = .ok (.getfield 48, 3) := by decide +kernel
theorem dX8_gaps_82 : decode cX8_gaps 82 = .ok (.bipush 101, 2) := by decide +kernel
theorem dX8_gaps_84 : decode cX8_gaps 84 = .ok (.iload_n 1, 1) := by decide +kernel
theorem dX8_gaps_85 : decode cX8_gaps 85 = .ok (.imul, 1) := by decide +kernel
theorem dX8_gaps_86 : decode cX8_gaps 86 = .ok (.iload 7, 2) := by decide +kernel
theorem dX8_gaps_88 : decode cX8_gaps 88 = .ok (.iadd, 1) := by decide +kernel
theorem dX8_gaps_89 : decode cX8_gaps 89 = .ok (.sipush 1900, 3) := by decide +kernel
theorem dX8_gaps_92 : decode cX8_gaps 92 = .ok (.isub, 1) := by decide +kernel
theorem dX8_gaps_93 : decode cX8_gaps 93 = .ok (.baload, 1) := by decide +kernel
theorem dX8_gaps_94 : decode cX8_gaps 94 = .ok (.ifCond .eq 7, 3) := by decide +kernel
theorem dX8_gaps_97 : decode cX8_gaps 97 = .ok (.iconst 0, 1) := by decide +kernel
theorem dX8_gaps_98 : decode cX8_gaps 98 = .ok (.goto 4, 3) := by decide +kernel
theorem dX8_gaps_101 : decode cX8_gaps 101 = .ok (.iconst 1, 1) := by decide +kernel
theorem dX8_gaps_102 : decode cX8_gaps 102 = .ok (.iadd, 1) := by decide +kernel
theorem dX8_gaps_103 : decode cX8_gaps 103 = .ok (.istore 6, 2) := by decide +kernel
theorem dX8_gaps_105 : decode cX8_gaps 105 = .ok (.iinc 7 1, 3) := by decide +kernel
theorem dX8_gaps_108 : decode cX8_gaps 108 = .ok (.goto (-43), 3) := by decide +kernel
theorem dX8_gaps_111 : decode cX8_gaps 111 = .ok (.iload 6, 2) := by decide +kernel
theorem dX8_gaps_113 : decode cX8_gaps 113 = .ok (.ireturn, 1) := by decide +kernel
theorem dX8_index_0 : decode cX8_index 0 = .ok (.aload_n 0, 1) := by decide +kernel
theorem dX8_index_1 : decode cX8_index 1 = .ok (.iconst 0, 1) := by decide +kernel
theorem dX8_index_2 : decode cX8_index 2 = .ok (.putfield 126, 3) := by decide +kernel
theorem dX8_index_5 : decode cX8_index 5 = .ok (.lconst 0, 1) := by decide +kernel
theorem dX8_index_6 : decode cX8_index 6 = .ok (.lstore_n 1, 1) := by decide +kernel
theorem dX8_index_7 : decode cX8_index 7 = .ok (.iconst 0, 1) := by decide +kernel
theorem dX8_index_8 : decode cX8_index 8 = .ok (.istore_n 3, 1) := by decide +kernel
theorem dX8_index_9 : decode cX8_index 9 = .ok (.iconst 0, 1) := by decide +kernel
theorem dX8_index_10 : decode cX8_index 10 = .ok (.istore 4, 2) := by decide +kernel
theorem dX8_index_12 : decode cX8_index 12 = .ok (.iload 4, 2) := by decide +kernel
theorem dX8_index_14 : decode cX8_index 14 = .ok (.aload_n 0, 1) := by decide +kernel
theorem dX8_index_15 : decode cX8_index 15 = .ok (.getfield 140, 3) := by decide +kernel
theorem dX8_index_18 : decode cX8_index 18 = .ok (.if_icmp .ge 105, 3) := by decide +kernel
theorem dX8_index_21 : decode cX8_index 21 = .ok (.aload_n 0, 1) := by decide +kernel
theorem dX8_index_22 : decode cX8_index 22 = .ok (.getfield 87, 3) := by decide +kernel
theorem dX8_index_25 : decode cX8_index 25 = .ok (.iload 4, 2) := by decide +kernel
theorem dX8_index_27 : decode cX8_index 27 = .ok (.iaload, 1) := by decide +kernel
theorem dX8_index_28 : decode cX8_index 28 = .ok (.istore 5, 2) := by decide +kernel
theorem dX8_index_30 : decode cX8_index 30 = .ok (.aload_n 0, 1) := by decide +kernel
theorem dX8_index_31 : decode cX8_index 31 = .ok (.getfield 90, 3) := by decide +kernel
theorem dX8_index_34 : decode cX8_index 34 = .ok (.iload 4, 2) := by decide +kernel
theorem dX8_index_36 : decode cX8_index 36 = .ok (.iaload, 1) := by decide +kernel
theorem dX8_index_37 : decode cX8_index 37 = .ok (.iconst (-1), 1) := by decide +kernel
theorem dX8_index_38 : decode cX8_index 38 = .ok (.if_icmp .eq 79, 3) := by decide +kernel
theorem dX8_index_41 : decode cX8_index 41 = .ok (.aload_n 0, 1) := by decide +kernel
theorem dX8_index_42 : decode cX8_index 42 = .ok (.getfield 90, 3) := by decide +kernel
theorem dX8_index_45 : decode cX8_index 45 = .ok (.iload 5, 2) := by decide +kernel
theorem dX8_index_47 : decode cX8_index 47 = .ok (.iaload, 1) := by decide +kernel
theorem dX8_index_48 : decode cX8_index 48 = .ok (.iconst (-1), 1) := by decide +kernel
theorem dX8_index_49 : decode cX8_index 49 = .ok (.if_icmp .eq 68, 3) := by decide +kernel
theorem dX8_index_52 : decode cX8_index 52 = .ok (.aload_n 0, 1) := by decide +kernel
theorem dX8_index_53 : decode cX8_index 53 = .ok (.getfield 93, 3) := by decide +kernel
theorem dX8_index_56 : decode cX8_index 56 = .ok (.iload 4, 2) := by decide +kernel
theorem dX8_index_58 : decode cX8_index 58 = .ok (.iaload, 1) := by decide +kernel
theorem dX8_index_59 : decode cX8_index 59 = .ok (.ifCond .le 58, 3) := by decide +kernel
theorem dX8_index_62 : decode cX8_index 62 = .ok (.aload_n 0, 1) := by decide +kernel
theorem dX8_index_63 : decode cX8_index 63 = .ok (.getfield 93, 3) := by decide +kernel
theorem dX8_index_66 : decode cX8_index 66 = .ok (.iload 5, 2) := by decide +kernel
theorem dX8_index_68 : decode cX8_index 68 = .ok (.iaload, 1) := by decide +kernel
theorem dX8_index_69 : decode cX8_index 69 = .ok (.ifCond .le 48, 3) := by decide +kernel
theorem dX8_index_72 : decode cX8_index 72 = .ok (.lload_n 1, 1) := by decide +kernel
theorem dX8_index_73 : decode cX8_index 73 = .ok (.ldc2_w 249, 3) := by decide +kernel
theorem dX8_index_76 : decode cX8_index 76 = .ok (.aload_n 0, 1) := by decide +kernel
theorem dX8_index_77 : decode cX8_index 77 = .ok (.getfield 93, 3) := by decide +kernel
theorem dX8_index_80 : decode cX8_index 80 = .ok (.iload 4, 2) := by decide +kernel
theorem dX8_index_82 : decode cX8_index 82 = .ok (.iaload, 1) := by decide +kernel
theorem dX8_index_83 : decode cX8_index 83 = .ok (.i2l, 1) := by decide +kernel
theorem dX8_index_84 : decode cX8_index 84 = .ok (.lmul, 1) := by decide +kernel
theorem dX8_index_85 : decode cX8_index 85 = .ok (.aload_n 0, 1) := by decide +kernel
theorem dX8_index_86 : decode cX8_index 86 = .ok (.getfield 96, 3) := by decide +kernel
theorem dX8_index_89 : decode cX8_index 89 = .ok (.iload 5, 2) := by decide +kernel
theorem dX8_index_91 : decode cX8_index 91 = .ok (.iaload, 1) := by decide +kernel
theorem dX8_index_92 : decode cX8_index 92 = .ok (.i2l, 1) := by decide +kernel
theorem dX8_index_93 : decode cX8_index 93 = .ok (.lmul, 1) := by decide +kernel
theorem dX8_index_94 : decode cX8_index 94 = .ok (.aload_n 0, 1) := by decide +kernel
theorem dX8_index_95 : decode cX8_index 95 = .ok (.getfield 93, 3) := by decide +kernel
theorem dX8_index_98 : decode cX8_index 98 = .ok (.iload 5, 2) := by decide +kernel
theorem dX8_index_100 : decode cX8_index 100 = .ok (.iaload, 1) := by decide +kernel
theorem dX8_index_101 : decode cX8_index 101 = .ok (.i2l, 1) := by decide +kernel
theorem dX8_index_102 : decode cX8_index 102 = .ok (.aload_n 0, 1) := by decide +kernel
theorem dX8_index_103 : decode cX8_index 103 = .ok (.getfield 96, 3) := by decide +kernel
theorem dX8_index_106 : decode cX8_index 106 = .ok (.iload 4, 2) := by decide +kernel
theorem dX8_index_108 : decode cX8_index 108 = .ok (.iaload, 1) := by decide +kernel
theorem dX8_index_109 : decode cX8_index 109 = .ok (.i2l, 1) := by decide +kernel
theorem dX8_index_110 : decode cX8_index 110 = .ok (.lmul, 1) := by decide +kernel
theorem dX8_index_111 : decode cX8_index 111 = .ok (.ldiv, 1) := by decide +kernel
theorem dX8_index_112 : decode cX8_index 112 = .ok (.ladd, 1) := by decide +kernel
theorem dX8_index_113 : decode cX8_index 113 = .ok (.lstore_n 1, 1) := by decide +kernel
theorem dX8_index_114 : decode cX8_index 114 = .ok (.iinc 3 1, 3) := by decide +kernel
theorem dX8_index_117 : decode cX8_index 117 = .ok (.iinc 4 1, 3) := by decide +kernel
theorem dX8_index_120 : decode cX8_index 120 = .ok (.goto (-108), 3) := by decide +kernel
theorem dX8_index_123 : decode cX8_index 123 = .ok (.iload_n 3, 1) := by decide +kernel
theorem dX8_index_124 : decode cX8_index 124 = .ok (.ifCond .ne 9, 3) := by decide +kernel
theorem dX8_index_127 : decode cX8_index 127 = .ok (.ldc2_w 251, 3) := by decide +kernel
theorem dX8_index_130 : decode cX8_index 130 = .ok (.goto 7, 3) := by decide +kernel
theorem dX8_index_133 : decode cX8_index 133 = .ok (.lload_n 1, 1) := by decide +kernel
theorem dX8_index_134 : decode cX8_index 134 = .ok (.iload_n 3, 1) := by decide +kernel
theorem dX8_index_135 : decode cX8_index 135 = .ok (.i2l, 1) := by decide +kernel
theorem dX8_index_136 : decode cX8_index 136 = .ok (.ldiv, 1) := by decide +kernel
theorem dX8_index_137 : decode cX8_index 137 = .ok (.lreturn, 1) := by decide +kernel
theorem dJ6_bitCount_0f7a4_0 : decode cJ6_bitCount_0f7a4 0 = .ok (.iload_n 0, 1) := by decide +kernel
theorem dJ6_bitCount_0f7a4_1 : decode cJ6_bitCount_0f7a4 1 = .ok (.iload_n 0, 1) := by decide +kernel
theorem dJ6_bitCount_0f7a4_2 : decode cJ6_bitCount_0f7a4 2 = .ok (.iconst 1, 1) := by decide +kernel
theorem dJ6_bitCount_0f7a4_3 : decode cJ6_bitCount_0f7a4 3 = .ok (.iushr, 1) := by decide +kernel
theorem dJ6_bitCount_0f7a4_4 : decode cJ6_bitCount_0f7a4 4 = .ok (.ldc_w 265, 3) := by decide +kernel
theorem dJ6_bitCount_0f7a4_7 : decode cJ6_bitCount_0f7a4 7 = .ok (.iand, 1) := by decide +kernel
theorem dJ6_bitCount_0f7a4_8 : decode cJ6_bitCount_0f7a4 8 = .ok (.isub, 1) := by decide +kernel
theorem dJ6_bitCount_0f7a4_9 : decode cJ6_bitCount_0f7a4 9 = .ok (.istore_n 0, 1) := by decide +kernel
theorem dJ6_bitCount_0f7a4_10 : decode cJ6_bitCount_0f7a4 10 = .ok (.iload_n 0, 1) := by decide +kernel
theorem dJ6_bitCount_0f7a4_11 : decode cJ6_bitCount_0f7a4 11 = .ok (.ldc_w 266, 3) := by decide +kernel
theorem dJ6_bitCount_0f7a4_14 : decode cJ6_bitCount_0f7a4 14 = .ok (.iand, 1) := by decide +kernel
theorem dJ6_bitCount_0f7a4_15 : decode cJ6_bitCount_0f7a4 15 = .ok (.iload_n 0, 1) := by decide +kernel
theorem dJ6_bitCount_0f7a4_16 : decode cJ6_bitCount_0f7a4 16 = .ok (.iconst 2, 1) := by decide +kernel
theorem dJ6_bitCount_0f7a4_17 : decode cJ6_bitCount_0f7a4 17 = .ok (.iushr, 1) := by decide +kernel
theorem dJ6_bitCount_0f7a4_18 : decode cJ6_bitCount_0f7a4 18 = .ok (.ldc_w 266, 3) := by decide +kernel
theorem dJ6_bitCount_0f7a4_21 : decode cJ6_bitCount_0f7a4 21 = .ok (.iand, 1) := by decide +kernel
theorem dJ6_bitCount_0f7a4_22 : decode cJ6_bitCount_0f7a4 22 = .ok (.iadd, 1) := by decide +kernel
theorem dJ6_bitCount_0f7a4_23 : decode cJ6_bitCount_0f7a4 23 = .ok (.istore_n 0, 1) := by decide +kernel
theorem dJ6_bitCount_0f7a4_24 : decode cJ6_bitCount_0f7a4 24 = .ok (.iload_n 0, 1) := by decide +kernel
theorem dJ6_bitCount_0f7a4_25 : decode cJ6_bitCount_0f7a4 25 = .ok (.iload_n 0, 1) := by decide +kernel
theorem dJ6_bitCount_0f7a4_26 : decode cJ6_bitCount_0f7a4 26 = .ok (.iconst 4, 1) := by decide +kernel
theorem dJ6_bitCount_0f7a4_27 : decode cJ6_bitCount_0f7a4 27 = .ok (.iushr, 1) := by decide +kernel
theorem dJ6_bitCount_0f7a4_28 : decode cJ6_bitCount_0f7a4 28 = .ok (.iadd, 1) := by decide +kernel
theorem dJ6_bitCount_0f7a4_29 : decode cJ6_bitCount_0f7a4 29 = .ok (.ldc_w 267, 3) := by decide +kernel
theorem dJ6_bitCount_0f7a4_32 : decode cJ6_bitCount_0f7a4 32 = .ok (.iand, 1) := by decide +kernel
theorem dJ6_bitCount_0f7a4_33 : decode cJ6_bitCount_0f7a4 33 = .ok (.istore_n 0, 1) := by decide +kernel
theorem dJ6_bitCount_0f7a4_34 : decode cJ6_bitCount_0f7a4 34 = .ok (.iload_n 0, 1) := by decide +kernel
theorem dJ6_bitCount_0f7a4_35 : decode cJ6_bitCount_0f7a4 35 = .ok (.iload_n 0, 1) := by decide +kernel
theorem dJ6_bitCount_0f7a4_36 : decode cJ6_bitCount_0f7a4 36 = .ok (.bipush 8, 2) := by decide +kernel
theorem dJ6_bitCount_0f7a4_38 : decode cJ6_bitCount_0f7a4 38 = .ok (.iushr, 1) := by decide +kernel
theorem dJ6_bitCount_0f7a4_39 : decode cJ6_bitCount_0f7a4 39 = .ok (.iadd, 1) := by decide +kernel
theorem dJ6_bitCount_0f7a4_40 : decode cJ6_bitCount_0f7a4 40 = .ok (.istore_n 0, 1) := by decide +kernel
theorem dJ6_bitCount_0f7a4_41 : decode cJ6_bitCount_0f7a4 41 = .ok (.iload_n 0, 1) := by decide +kernel
theorem dJ6_bitCount_0f7a4_42 : decode cJ6_bitCount_0f7a4 42 = .ok (.iload_n 0, 1) := by decide +kernel
theorem dJ6_bitCount_0f7a4_43 : decode cJ6_bitCount_0f7a4 43 = .ok (.bipush 16, 2) := by decide +kernel
theorem dJ6_bitCount_0f7a4_45 : decode cJ6_bitCount_0f7a4 45 = .ok (.iushr, 1) := by decide +kernel
theorem dJ6_bitCount_0f7a4_46 : decode cJ6_bitCount_0f7a4 46 = .ok (.iadd, 1) := by decide +kernel
theorem dJ6_bitCount_0f7a4_47 : decode cJ6_bitCount_0f7a4 47 = .ok (.istore_n 0, 1) := by decide +kernel
theorem dJ6_bitCount_0f7a4_48 : decode cJ6_bitCount_0f7a4 48 = .ok (.iload_n 0, 1) := by decide +kernel
theorem dJ6_bitCount_0f7a4_49 : decode cJ6_bitCount_0f7a4 49 = .ok (.bipush 63, 2) := by decide +kernel
theorem dJ6_bitCount_0f7a4_51 : decode cJ6_bitCount_0f7a4 51 = .ok (.iand, 1) := by decide +kernel
theorem dJ6_bitCount_0f7a4_52 : decode cJ6_bitCount_0f7a4 52 = .ok (.ireturn, 1) := by decide +kernel
theorem dJ9_max_7cf53_0 : decode cJ9_max_7cf53 0 = .ok (.iload_n 0, 1) := by decide +kernel
theorem dJ9_max_7cf53_1 : decode cJ9_max_7cf53 1 = .ok (.iload_n 1, 1) := by decide +kernel
theorem dJ9_max_7cf53_2 : decode cJ9_max_7cf53 2 = .ok (.if_icmp .lt 7, 3) := by decide +kernel
theorem dJ9_max_7cf53_5 : decode cJ9_max_7cf53 5 = .ok (.iload_n 0, 1) := by decide +kernel
theorem dJ9_max_7cf53_6 : decode cJ9_max_7cf53 6 = .ok (.goto 4, 3) := by decide +kernel
theorem dJ9_max_7cf53_9 : decode cJ9_max_7cf53 9 = .ok (.iload_n 1, 1) := by decide +kernel
theorem dJ9_max_7cf53_10 : decode cJ9_max_7cf53 10 = .ok (.ireturn, 1) := by decide +kernel

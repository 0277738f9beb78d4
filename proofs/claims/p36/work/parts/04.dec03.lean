theorem dL_does_0 : decode cL_does 0 = .ok (.iload_n 1, 1) := by decide +kernel
theorem dL_does_1 : decode cL_does 1 = .ok (.bipush 13, 2) := by decide +kernel
theorem dL_does_3 : decode cL_does 3 = .ok (.if_icmp .ge 15, 3) := by decide +kernel
theorem dL_does_6 : decode cL_does 6 = .ok (.aload_n 0, 1) := by decide +kernel
theorem dL_does_7 : decode cL_does 7 = .ok (.iload_n 1, 1) := by decide +kernel
theorem dL_does_8 : decode cL_does 8 = .ok (.iload_n 2, 1) := by decide +kernel
theorem dL_does_9 : decode cL_does 9 = .ok (.iload_n 3, 1) := by decide +kernel
theorem dL_does_10 : decode cL_does 10 = .ok (.iload 4, 2) := by decide +kernel
theorem dL_does_12 : decode cL_does 12 = .ok (.invokestatic 8, 3) := by decide +kernel
theorem dL_does_15 : decode cL_does 15 = .ok (.goto 121, 3) := by decide +kernel
theorem dL_does_18 : decode cL_does 18 = .ok (.iload_n 1, 1) := by decide +kernel
theorem dL_does_19 : decode cL_does 19 = .ok (.bipush 25, 2) := by decide +kernel
theorem dL_does_21 : decode cL_does 21 = .ok (.if_icmp .ge 17, 3) := by decide +kernel
theorem dL_does_24 : decode cL_does 24 = .ok (.aload_n 0, 1) := by decide +kernel
theorem dL_does_25 : decode cL_does 25 = .ok (.iload_n 1, 1) := by decide +kernel
theorem dL_does_26 : decode cL_does 26 = .ok (.iload_n 2, 1) := by decide +kernel
theorem dL_does_27 : decode cL_does 27 = .ok (.iload_n 3, 1) := by decide +kernel
theorem dL_does_28 : decode cL_does 28 = .ok (.iload 4, 2) := by decide +kernel
theorem dL_does_30 : decode cL_does 30 = .ok (.iload 5, 2) := by decide +kernel
theorem dL_does_32 : decode cL_does 32 = .ok (.invokestatic 14, 3) := by decide +kernel
theorem dL_does_35 : decode cL_does 35 = .ok (.goto 101, 3) := by decide +kernel
theorem dL_does_38 : decode cL_does 38 = .ok (.iload_n 1, 1) := by decide +kernel
theorem dL_does_39 : decode cL_does 39 = .ok (.bipush 25, 2) := by decide +kernel
theorem dL_does_41 : decode cL_does 41 = .ok (.if_icmp .ne 12, 3) := by decide +kernel
theorem dL_does_44 : decode cL_does 44 = .ok (.aload_n 0, 1) := by decide +kernel
theorem dL_does_45 : decode cL_does 45 = .ok (.iload_n 2, 1) := by decide +kernel
theorem dL_does_46 : decode cL_does 46 = .ok (.iload_n 3, 1) := by decide +kernel
theorem dL_does_47 : decode cL_does 47 = .ok (.invokevirtual 18, 3) := by decide +kernel
theorem dL_does_50 : decode cL_does 50 = .ok (.goto 86, 3) := by decide +kernel
theorem dL_does_53 : decode cL_does 53 = .ok (.iload_n 1, 1) := by decide +kernel
theorem dL_does_54 : decode cL_does 54 = .ok (.bipush 26, 2) := by decide +kernel
theorem dL_does_56 : decode cL_does 56 = .ok (.if_icmp .ne 12, 3) := by decide +kernel
theorem dL_does_59 : decode cL_does 59 = .ok (.aload_n 0, 1) := by decide +kernel
theorem dL_does_60 : decode cL_does 60 = .ok (.iload_n 2, 1) := by decide +kernel
theorem dL_does_61 : decode cL_does 61 = .ok (.iload_n 3, 1) := by decide +kernel
theorem dL_does_62 : decode cL_does 62 = .ok (.invokevirtual 24, 3) := by decide +kernel
theorem dL_does_65 : decode cL_does 65 = .ok (.goto 71, 3) := by decide +kernel
theorem dL_does_68 : decode cL_does 68 = .ok (.iload_n 1, 1) := by decide +kernel
theorem dL_does_69 : decode cL_does 69 = .ok (.bipush 27, 2) := by decide +kernel
theorem dL_does_71 : decode cL_does 71 = .ok (.if_icmp .ne 12, 3) := by decide +kernel
theorem dL_does_74 : decode cL_does 74 = .ok (.aload_n 0, 1) := by decide +kernel
theorem dL_does_75 : decode cL_does 75 = .ok (.iload_n 2, 1) := by decide +kernel
theorem dL_does_76 : decode cL_does 76 = .ok (.iload_n 3, 1) := by decide +kernel
theorem dL_does_77 : decode cL_does 77 = .ok (.invokevirtual 27, 3) := by decide +kernel
theorem dL_does_80 : decode cL_does 80 = .ok (.goto 56, 3) := by decide +kernel
theorem dL_does_83 : decode cL_does 83 = .ok (.iload_n 1, 1) := by decide +kernel
theorem dL_does_84 : decode cL_does 84 = .ok (.bipush 28, 2) := by decide +kernel
theorem dL_does_86 : decode cL_does 86 = .ok (.if_icmp .ne 12, 3) := by decide +kernel
theorem dL_does_89 : decode cL_does 89 = .ok (.aload_n 0, 1) := by decide +kernel
theorem dL_does_90 : decode cL_does 90 = .ok (.iload_n 2, 1) := by decide +kernel
theorem dL_does_91 : decode cL_does 91 = .ok (.iload_n 3, 1) := by decide +kernel
theorem dL_does_92 : decode cL_does 92 = .ok (.invokevirtual 30, 3) := by decide +kernel
theorem dL_does_95 : decode cL_does 95 = .ok (.goto 41, 3) := by decide +kernel
theorem dL_does_98 : decode cL_does 98 = .ok (.iload_n 1, 1) := by decide +kernel
theorem dL_does_99 : decode cL_does 99 = .ok (.bipush 29, 2) := by decide +kernel
theorem dL_does_101 : decode cL_does 101 = .ok (.if_icmp .ne 12, 3) := by decide +kernel
theorem dL_does_104 : decode cL_does 104 = .ok (.aload_n 0, 1) := by decide +kernel
theorem dL_does_105 : decode cL_does 105 = .ok (.iload_n 2, 1) := by decide +kernel
theorem dL_does_106 : decode cL_does 106 = .ok (.iload_n 3, 1) := by decide +kernel
theorem dL_does_107 : decode cL_does 107 = .ok (.invokevirtual 33, 3) := by decide +kernel
theorem dL_does_110 : decode cL_does 110 = .ok (.goto 26, 3) := by decide +kernel
theorem dL_does_113 : decode cL_does 113 = .ok (.iload_n 1, 1) := by decide +kernel
theorem dL_does_114 : decode cL_does 114 = .ok (.bipush 30, 2) := by decide +kernel
theorem dL_does_116 : decode cL_does 116 = .ok (.if_icmp .ne 12, 3) := by decide +kernel
theorem dL_does_119 : decode cL_does 119 = .ok (.aload_n 0, 1) := by decide +kernel
theorem dL_does_120 : decode cL_does 120 = .ok (.iload_n 2, 1) := by decide +kernel
theorem dL_does_121 : decode cL_does 121 = .ok (.iload_n 3, 1) := by decide +kernel
theorem dL_does_122 : decode cL_does 122 = .ok (.invokevirtual 36, 3) := by decide +kernel
theorem dL_does_125 : decode cL_does 125 = .ok (.goto 11, 3) := by decide +kernel
theorem dL_does_128 : decode cL_does 128 = .ok (.aload_n 0, 1) := by decide +kernel
theorem dL_does_129 : decode cL_does 129 = .ok (.iload_n 2, 1) := by decide +kernel
theorem dL_does_130 : decode cL_does 130 = .ok (.iload_n 3, 1) := by decide +kernel
theorem dL_does_131 : decode cL_does 131 = .ok (.iload 4, 2) := by decide +kernel
theorem dL_does_133 : decode cL_does 133 = .ok (.invokevirtual 39, 3) := by decide +kernel
theorem dL_does_136 : decode cL_does 136 = .ok (.ireturn, 1) := by decide +kernel
theorem dL_does_137 : decode cL_does 137 = .ok (.astore 6, 2) := by decide +kernel
theorem dL_does_139 : decode cL_does 139 = .ok (.ldc 45, 2) := by decide +kernel
theorem dL_does_141 : decode cL_does 141 = .ok (.ireturn, 1) := by decide +kernel
theorem dL_does_142 : decode cL_does 142 = .ok (.astore 6, 2) := by decide +kernel
theorem dL_does_144 : decode cL_does 144 = .ok (.ldc 45, 2) := by decide +kernel
theorem dL_does_146 : decode cL_does 146 = .ok (.ireturn, 1) := by decide +kernel
theorem dL_does_147 : decode cL_does 147 = .ok (.astore 6, 2) := by decide +kernel
theorem dL_does_149 : decode cL_does 149 = .ok (.ldc 45, 2) := by decide +kernel
theorem dL_does_151 : decode cL_does 151 = .ok (.ireturn, 1) := by decide +kernel
theorem dL_early_0 : decode cL_early 0 = .ok (.iload_n 1, 1) := by decide +kernel
theorem dL_early_1 : decode cL_early 1 = .ok (.ifCond .ne 12, 3) := by decide +kernel
theorem dL_early_4 : decode cL_early 4 = .ok (.aload_n 0, 1) := by decide +kernel
theorem dL_early_5 : decode cL_early 5 = .ok (.iload_n 2, 1) := by decide +kernel
theorem dL_early_6 : decode cL_early 6 = .ok (.iload_n 3, 1) := by decide +kernel
theorem dL_early_7 : decode cL_early 7 = .ok (.invokevirtual 50, 3) := by decide +kernel
theorem dL_early_10 : decode cL_early 10 = .ok (.goto 191, 3) := by decide +kernel
theorem dL_early_13 : decode cL_early 13 = .ok (.iload_n 1, 1) := by decide +kernel
theorem dL_early_14 : decode cL_early 14 = .ok (.iconst 1, 1) := by decide +kernel
theorem dL_early_15 : decode cL_early 15 = .ok (.if_icmp .ne 12, 3) := by decide +kernel
theorem dL_early_18 : decode cL_early 18 = .ok (.aload_n 0, 1) := by decide +kernel
theorem dL_early_19 : decode cL_early 19 = .ok (.iload_n 2, 1) := by decide +kernel
theorem dL_early_20 : decode cL_early 20 = .ok (.iload_n 3, 1) := by decide +kernel
theorem dL_early_21 : decode cL_early 21 = .ok (.invokevirtual 53, 3) := by decide +kernel
theorem dL_early_24 : decode cL_early 24 = .ok (.goto 177, 3) := by decide +kernel
theorem dL_early_27 : decode cL_early 27 = .ok (.iload_n 1, 1) := by decide +kernel
theorem dL_early_28 : decode cL_early 28 = .ok (.iconst 2, 1) := by decide +kernel
theorem dL_early_29 : decode cL_early 29 = .ok (.if_icmp .ne 12, 3) := by decide +kernel
theorem dL_early_32 : decode cL_early 32 = .ok (.aload_n 0, 1) := by decide +kernel
theorem dL_early_33 : decode cL_early 33 = .ok (.iload_n 2, 1) := by decide +kernel
theorem dL_early_34 : decode cL_early 34 = .ok (.iload_n 3, 1) := by decide +kernel
theorem dL_early_35 : decode cL_early 35 = .ok (.invokevirtual 56, 3) := by decide +kernel
theorem dL_early_38 : decode cL_early 38 = .ok (.goto 163, 3) := by decide +kernel
theorem dL_early_41 : decode cL_early 41 = .ok (.iload_n 1, 1) := by decide +kernel
theorem dL_early_42 : decode cL_early 42 = .ok (.iconst 3, 1) := by decide +kernel
theorem dL_early_43 : decode cL_early 43 = .ok (.if_icmp .ne 11, 3) := by decide +kernel
theorem dL_early_46 : decode cL_early 46 = .ok (.aload_n 0, 1) := by decide +kernel
theorem dL_early_47 : decode cL_early 47 = .ok (.iload_n 2, 1) := by decide +kernel
theorem dL_early_48 : decode cL_early 48 = .ok (.invokevirtual 59, 3) := by decide +kernel
theorem dL_early_51 : decode cL_early 51 = .ok (.goto 150, 3) := by decide +kernel
theorem dL_early_54 : decode cL_early 54 = .ok (.iload_n 1, 1) := by decide +kernel
theorem dL_early_55 : decode cL_early 55 = .ok (.iconst 4, 1) := by decide +kernel
theorem dL_early_56 : decode cL_early 56 = .ok (.if_icmp .ne 12, 3) := by decide +kernel
theorem dL_early_59 : decode cL_early 59 = .ok (.aload_n 0, 1) := by decide +kernel
theorem dL_early_60 : decode cL_early 60 = .ok (.iload_n 2, 1) := by decide +kernel
theorem dL_early_61 : decode cL_early 61 = .ok (.iload_n 3, 1) := by decide +kernel
theorem dL_early_62 : decode cL_early 62 = .ok (.invokevirtual 63, 3) := by decide +kernel
theorem dL_early_65 : decode cL_early 65 = .ok (.goto 136, 3) := by decide +kernel
theorem dL_early_68 : decode cL_early 68 = .ok (.iload_n 1, 1) := by decide +kernel
theorem dL_early_69 : decode cL_early 69 = .ok (.iconst 5, 1) := by decide +kernel
theorem dL_early_70 : decode cL_early 70 = .ok (.if_icmp .ne 23, 3) := by decide +kernel
theorem dL_early_73 : decode cL_early 73 = .ok (.aload_n 0, 1) := by decide +kernel
theorem dL_early_74 : decode cL_early 74 = .ok (.iload_n 2, 1) := by decide +kernel
theorem dL_early_75 : decode cL_early 75 = .ok (.iload_n 3, 1) := by decide +kernel
theorem dL_early_76 : decode cL_early 76 = .ok (.iload 4, 2) := by decide +kernel
theorem dL_early_78 : decode cL_early 78 = .ok (.iconst 1, 1) := by decide +kernel
theorem dL_early_79 : decode cL_early 79 = .ok (.if_icmp .ne 7, 3) := by decide +kernel
theorem dL_early_82 : decode cL_early 82 = .ok (.iconst 1, 1) := by decide +kernel
theorem dL_early_83 : decode cL_early 83 = .ok (.goto 4, 3) := by decide +kernel
theorem dL_early_86 : decode cL_early 86 = .ok (.iconst 0, 1) := by decide +kernel
theorem dL_early_87 : decode cL_early 87 = .ok (.invokevirtual 66, 3) := by decide +kernel
theorem dL_early_90 : decode cL_early 90 = .ok (.goto 111, 3) := by decide +kernel
theorem dL_early_93 : decode cL_early 93 = .ok (.iload_n 1, 1) := by decide +kernel
theorem dL_early_94 : decode cL_early 94 = .ok (.bipush 6, 2) := by decide +kernel
theorem dL_early_96 : decode cL_early 96 = .ok (.if_icmp .ne 14, 3) := by decide +kernel
theorem dL_early_99 : decode cL_early 99 = .ok (.aload_n 0, 1) := by decide +kernel
theorem dL_early_100 : decode cL_early 100 = .ok (.iload_n 2, 1) := by decide +kernel
theorem dL_early_101 : decode cL_early 101 = .ok (.iload_n 3, 1) := by decide +kernel
theorem dL_early_102 : decode cL_early 102 = .ok (.iload 4, 2) := by decide +kernel
theorem dL_early_104 : decode cL_early 104 = .ok (.invokestatic 70, 3) := by decide +kernel
theorem dL_early_107 : decode cL_early 107 = .ok (.goto 94, 3) := by decide +kernel
theorem dL_early_110 : decode cL_early 110 = .ok (.iload_n 1, 1) := by decide +kernel
theorem dL_early_111 : decode cL_early 111 = .ok (.bipush 7, 2) := by decide +kernel
theorem dL_early_113 : decode cL_early 113 = .ok (.if_icmp .ne 12, 3) := by decide +kernel
theorem dL_early_116 : decode cL_early 116 = .ok (.aload_n 0, 1) := by decide +kernel
theorem dL_early_117 : decode cL_early 117 = .ok (.iload_n 2, 1) := by decide +kernel
theorem dL_early_118 : decode cL_early 118 = .ok (.iload_n 3, 1) := by decide +kernel
theorem dL_early_119 : decode cL_early 119 = .ok (.invokevirtual 74, 3) := by decide +kernel
theorem dL_early_122 : decode cL_early 122 = .ok (.goto 79, 3) := by decide +kernel
theorem dL_early_125 : decode cL_early 125 = .ok (.iload_n 1, 1) := by decide +kernel
theorem dL_early_126 : decode cL_early 126 = .ok (.bipush 8, 2) := by decide +kernel
theorem dL_early_128 : decode cL_early 128 = .ok (.if_icmp .ne 12, 3) := by decide +kernel
theorem dL_early_131 : decode cL_early 131 = .ok (.aload_n 0, 1) := by decide +kernel
theorem dL_early_132 : decode cL_early 132 = .ok (.iload_n 2, 1) := by decide +kernel
theorem dL_early_133 : decode cL_early 133 = .ok (.iload_n 3, 1) := by decide +kernel
theorem dL_early_134 : decode cL_early 134 = .ok (.invokevirtual 77, 3) := by decide +kernel
theorem dL_early_137 : decode cL_early 137 = .ok (.goto 64, 3) := by decide +kernel
theorem dL_early_140 : decode cL_early 140 = .ok (.iload_n 1, 1) := by decide +kernel
theorem dL_early_141 : decode cL_early 141 = .ok (.bipush 9, 2) := by decide +kernel
theorem dL_early_143 : decode cL_early 143 = .ok (.if_icmp .ne 24, 3) := by decide +kernel
theorem dL_early_146 : decode cL_early 146 = .ok (.aload_n 0, 1) := by decide +kernel
theorem dL_early_147 : decode cL_early 147 = .ok (.iload_n 2, 1) := by decide +kernel
theorem dL_early_148 : decode cL_early 148 = .ok (.iload_n 3, 1) := by decide +kernel
theorem dL_early_149 : decode cL_early 149 = .ok (.iconst 1, 1) := by decide +kernel
theorem dL_early_150 : decode cL_early 150 = .ok (.if_icmp .ne 7, 3) := by decide +kernel
theorem dL_early_153 : decode cL_early 153 = .ok (.iconst 1, 1) := by decide +kernel
theorem dL_early_154 : decode cL_early 154 = .ok (.goto 4, 3) := by decide +kernel
theorem dL_early_157 : decode cL_early 157 = .ok (.iconst 0, 1) := by decide +kernel
theorem dL_early_158 : decode cL_early 158 = .ok (.invokevirtual 80, 3) := by decide +kernel
theorem dL_early_161 : decode cL_early 161 = .ok (.invokestatic 84, 3) := by decide +kernel
theorem dL_early_164 : decode cL_early 164 = .ok (.goto 37, 3) := by decide +kernel
theorem dL_early_167 : decode cL_early 167 = .ok (.iload_n 1, 1) := by decide +kernel
theorem dL_early_168 : decode cL_early 168 = .ok (.bipush 10, 2) := by decide +kernel
theorem dL_early_170 : decode cL_early 170 = .ok (.if_icmp .ne 12, 3) := by decide +kernel
theorem dL_early_173 : decode cL_early 173 = .ok (.aload_n 0, 1) := by decide +kernel
theorem dL_early_174 : decode cL_early 174 = .ok (.iload_n 2, 1) := by decide +kernel
theorem dL_early_175 : decode cL_early 175 = .ok (.iload_n 3, 1) := by decide +kernel
theorem dL_early_176 : decode cL_early 176 = .ok (.invokevirtual 88, 3) := by decide +kernel
theorem dL_early_179 : decode cL_early 179 = .ok (.goto 22, 3) := by decide +kernel
theorem dL_early_182 : decode cL_early 182 = .ok (.iload_n 1, 1) := by decide +kernel
theorem dL_early_183 : decode cL_early 183 = .ok (.bipush 11, 2) := by decide +kernel
theorem dL_early_185 : decode cL_early 185 = .ok (.if_icmp .ne 11, 3) := by decide +kernel
theorem dL_early_188 : decode cL_early 188 = .ok (.aload_n 0, 1) := by decide +kernel
theorem dL_early_189 : decode cL_early 189 = .ok (.iload_n 2, 1) := by decide +kernel
theorem dL_early_190 : decode cL_early 190 = .ok (.invokestatic 91, 3) := by decide +kernel
theorem dL_early_193 : decode cL_early 193 = .ok (.goto 8, 3) := by decide +kernel
theorem dL_early_196 : decode cL_early 196 = .ok (.aload_n 0, 1) := by decide +kernel
theorem dL_early_197 : decode cL_early 197 = .ok (.iload_n 2, 1) := by decide +kernel
theorem dL_early_198 : decode cL_early 198 = .ok (.invokevirtual 95, 3) := by decide +kernel
theorem dL_early_201 : decode cL_early 201 = .ok (.ireturn, 1) := by decide +kernel
theorem dL_middle_0 : decode cL_middle 0 = .ok (.iload_n 1, 1) := by decide +kernel
theorem dL_middle_1 : decode cL_middle 1 = .ok (.bipush 13, 2) := by decide +kernel
theorem dL_middle_3 : decode cL_middle 3 = .ok (.if_icmp .ne 16, 3) := by decide +kernel
theorem dL_middle_6 : decode cL_middle 6 = .ok (.aload_n 0, 1) := by decide +kernel
theorem dL_middle_7 : decode cL_middle 7 = .ok (.iload_n 2, 1) := by decide +kernel
theorem dL_middle_8 : decode cL_middle 8 = .ok (.iload_n 3, 1) := by decide +kernel
theorem dL_middle_9 : decode cL_middle 9 = .ok (.iload 4, 2) := by decide +kernel
theorem dL_middle_11 : decode cL_middle 11 = .ok (.iload 5, 2) := by decide +kernel
theorem dL_middle_13 : decode cL_middle 13 = .ok (.invokevirtual 98, 3) := by decide +kernel
theorem dL_middle_16 : decode cL_middle 16 = .ok (.goto 199, 3) := by decide +kernel
theorem dL_middle_19 : decode cL_middle 19 = .ok (.iload_n 1, 1) := by decide +kernel
theorem dL_middle_20 : decode cL_middle 20 = .ok (.bipush 14, 2) := by decide +kernel
theorem dL_middle_22 : decode cL_middle 22 = .ok (.if_icmp .ne 24, 3) := by decide +kernel
theorem dL_middle_25 : decode cL_middle 25 = .ok (.aload_n 0, 1) := by decide +kernel
theorem dL_middle_26 : decode cL_middle 26 = .ok (.iload_n 2, 1) := by decide +kernel
theorem dL_middle_27 : decode cL_middle 27 = .ok (.iload_n 3, 1) := by decide +kernel
theorem dL_middle_28 : decode cL_middle 28 = .ok (.iload 4, 2) := by decide +kernel
theorem dL_middle_30 : decode cL_middle 30 = .ok (.iload 5, 2) := by decide +kernel
theorem dL_middle_32 : decode cL_middle 32 = .ok (.bipush 100, 2) := by decide +kernel
theorem dL_middle_34 : decode cL_middle 34 = .ok (.irem, 1) := by decide +kernel
theorem dL_middle_35 : decode cL_middle 35 = .ok (.iload 5, 2) := by decide +kernel
theorem dL_middle_37 : decode cL_middle 37 = .ok (.bipush 100, 2) := by decide +kernel
theorem dL_middle_39 : decode cL_middle 39 = .ok (.idiv, 1) := by decide +kernel
theorem dL_middle_40 : decode cL_middle 40 = .ok (.invokestatic 102, 3) := by decide +kernel
theorem dL_middle_43 : decode cL_middle 43 = .ok (.goto 172, 3) := by decide +kernel
theorem dL_middle_46 : decode cL_middle 46 = .ok (.iload_n 1, 1) := by decide +kernel
theorem dL_middle_47 : decode cL_middle 47 = .ok (.bipush 15, 2) := by decide +kernel
theorem dL_middle_49 : decode cL_middle 49 = .ok (.if_icmp .ne 11, 3) := by decide +kernel
theorem dL_middle_52 : decode cL_middle 52 = .ok (.aload_n 0, 1) := by decide +kernel
theorem dL_middle_53 : decode cL_middle 53 = .ok (.iload_n 2, 1) := by decide +kernel
theorem dL_middle_54 : decode cL_middle 54 = .ok (.invokevirtual 105, 3) := by decide +kernel
theorem dL_middle_57 : decode cL_middle 57 = .ok (.goto 158, 3) := by decide +kernel
theorem dL_middle_60 : decode cL_middle 60 = .ok (.iload_n 1, 1) := by decide +kernel
theorem dL_middle_61 : decode cL_middle 61 = .ok (.bipush 16, 2) := by decide +kernel
theorem dL_middle_63 : decode cL_middle 63 = .ok (.if_icmp .ne 14, 3) := by decide +kernel
theorem dL_middle_66 : decode cL_middle 66 = .ok (.aload_n 0, 1) := by decide +kernel
theorem dL_middle_67 : decode cL_middle 67 = .ok (.iload_n 2, 1) := by decide +kernel
theorem dL_middle_68 : decode cL_middle 68 = .ok (.iload_n 3, 1) := by decide +kernel
theorem dL_middle_69 : decode cL_middle 69 = .ok (.iload 4, 2) := by decide +kernel
theorem dL_middle_71 : decode cL_middle 71 = .ok (.invokevirtual 108, 3) := by decide +kernel
theorem dL_middle_74 : decode cL_middle 74 = .ok (.goto 141, 3) := by decide +kernel
theorem dL_middle_77 : decode cL_middle 77 = .ok (.iload_n 1, 1) := by decide +kernel
theorem dL_middle_78 : decode cL_middle 78 = .ok (.bipush 17, 2) := by decide +kernel
theorem dL_middle_80 : decode cL_middle 80 = .ok (.if_icmp .ne 17, 3) := by decide +kernel
theorem dL_middle_83 : decode cL_middle 83 = .ok (.aload_n 0, 1) := by decide +kernel
theorem dL_middle_84 : decode cL_middle 84 = .ok (.iload_n 2, 1) := by decide +kernel
theorem dL_middle_85 : decode cL_middle 85 = .ok (.iload_n 3, 1) := by decide +kernel
theorem dL_middle_86 : decode cL_middle 86 = .ok (.iload 4, 2) := by decide +kernel
theorem dL_middle_88 : decode cL_middle 88 = .ok (.invokevirtual 111, 3) := by decide +kernel
theorem dL_middle_91 : decode cL_middle 91 = .ok (.invokestatic 84, 3) := by decide +kernel
theorem dL_middle_94 : decode cL_middle 94 = .ok (.goto 121, 3) := by decide +kernel
theorem dL_middle_97 : decode cL_middle 97 = .ok (.iload_n 1, 1) := by decide +kernel
theorem dL_middle_98 : decode cL_middle 98 = .ok (.bipush 18, 2) := by decide +kernel
theorem dL_middle_100 : decode cL_middle 100 = .ok (.if_icmp .ne 12, 3) := by decide +kernel
theorem dL_middle_103 : decode cL_middle 103 = .ok (.aload_n 0, 1) := by decide +kernel
theorem dL_middle_104 : decode cL_middle 104 = .ok (.iload_n 2, 1) := by decide +kernel
theorem dL_middle_105 : decode cL_middle 105 = .ok (.iload_n 3, 1) := by decide +kernel
theorem dL_middle_106 : decode cL_middle 106 = .ok (.invokevirtual 115, 3) := by decide +kernel
theorem dL_middle_109 : decode cL_middle 109 = .ok (.goto 106, 3) := by decide +kernel
theorem dL_middle_112 : decode cL_middle 112 = .ok (.iload_n 1, 1) := by decide +kernel
theorem dL_middle_113 : decode cL_middle 113 = .ok (.bipush 19, 2) := by decide +kernel
theorem dL_middle_115 : decode cL_middle 115 = .ok (.if_icmp .ne 26, 3) := by decide +kernel
theorem dL_middle_118 : decode cL_middle 118 = .ok (.aload_n 0, 1) := by decide +kernel
theorem dL_middle_119 : decode cL_middle 119 = .ok (.iload_n 2, 1) := by decide +kernel
theorem dL_middle_120 : decode cL_middle 120 = .ok (.iload_n 3, 1) := by decide +kernel
theorem dL_middle_121 : decode cL_middle 121 = .ok (.iload 4, 2) := by decide +kernel
theorem dL_middle_123 : decode cL_middle 123 = .ok (.iload 5, 2) := by decide +kernel
theorem dL_middle_125 : decode cL_middle 125 = .ok (.sipush 1000, 3) := by decide +kernel
theorem dL_middle_128 : decode cL_middle 128 = .ok (.irem, 1) := by decide +kernel
theorem dL_middle_129 : decode cL_middle 129 = .ok (.iload 5, 2) := by decide +kernel
theorem dL_middle_131 : decode cL_middle 131 = .ok (.sipush 1000, 3) := by decide +kernel
theorem dL_middle_134 : decode cL_middle 134 = .ok (.idiv, 1) := by decide +kernel
theorem dL_middle_135 : decode cL_middle 135 = .ok (.invokevirtual 118, 3) := by decide +kernel
theorem dL_middle_138 : decode cL_middle 138 = .ok (.goto 77, 3) := by decide +kernel
theorem dL_middle_141 : decode cL_middle 141 = .ok (.iload_n 1, 1) := by decide +kernel
theorem dL_middle_142 : decode cL_middle 142 = .ok (.bipush 20, 2) := by decide +kernel
theorem dL_middle_144 : decode cL_middle 144 = .ok (.if_icmp .ne 11, 3) := by decide +kernel
theorem dL_middle_147 : decode cL_middle 147 = .ok (.aload_n 0, 1) := by decide +kernel
theorem dL_middle_148 : decode cL_middle 148 = .ok (.iload_n 2, 1) := by decide +kernel
theorem dL_middle_149 : decode cL_middle 149 = .ok (.invokevirtual 122, 3) := by decide +kernel
theorem dL_middle_152 : decode cL_middle 152 = .ok (.goto 63, 3) := by decide +kernel
theorem dL_middle_155 : decode cL_middle 155 = .ok (.iload_n 1, 1) := by decide +kernel
theorem dL_middle_156 : decode cL_middle 156 = .ok (.bipush 21, 2) := by decide +kernel
theorem dL_middle_158 : decode cL_middle 158 = .ok (.if_icmp .ne 11, 3) := by decide +kernel
theorem dL_middle_161 : decode cL_middle 161 = .ok (.aload_n 0, 1) := by decide +kernel
theorem dL_middle_162 : decode cL_middle 162 = .ok (.iload_n 2, 1) := by decide +kernel
theorem dL_middle_163 : decode cL_middle 163 = .ok (.invokevirtual 125, 3) := by decide +kernel
theorem dL_middle_166 : decode cL_middle 166 = .ok (.goto 49, 3) := by decide +kernel
theorem dL_middle_169 : decode cL_middle 169 = .ok (.iload_n 1, 1) := by decide +kernel
theorem dL_middle_170 : decode cL_middle 170 = .ok (.bipush 22, 2) := by decide +kernel
theorem dL_middle_172 : decode cL_middle 172 = .ok (.if_icmp .ne 14, 3) := by decide +kernel
theorem dL_middle_175 : decode cL_middle 175 = .ok (.aload_n 0, 1) := by decide +kernel
theorem dL_middle_176 : decode cL_middle 176 = .ok (.iload_n 2, 1) := by decide +kernel
theorem dL_middle_177 : decode cL_middle 177 = .ok (.iload_n 3, 1) := by decide +kernel
theorem dL_middle_178 : decode cL_middle 178 = .ok (.iload 4, 2) := by decide +kernel
theorem dL_middle_180 : decode cL_middle 180 = .ok (.invokevirtual 128, 3) := by decide +kernel
theorem dL_middle_183 : decode cL_middle 183 = .ok (.goto 32, 3) := by decide +kernel
theorem dL_middle_186 : decode cL_middle 186 = .ok (.iload_n 1, 1) := by decide +kernel
theorem dL_middle_187 : decode cL_middle 187 = .ok (.bipush 23, 2) := by decide +kernel
theorem dL_middle_189 : decode cL_middle 189 = .ok (.if_icmp .ne 16, 3) := by decide +kernel
theorem dL_middle_192 : decode cL_middle 192 = .ok (.aload_n 0, 1) := by decide +kernel
theorem dL_middle_193 : decode cL_middle 193 = .ok (.iload_n 2, 1) := by decide +kernel
theorem dL_middle_194 : decode cL_middle 194 = .ok (.iload_n 3, 1) := by decide +kernel
theorem dL_middle_195 : decode cL_middle 195 = .ok (.iload 4, 2) := by decide +kernel
theorem dL_middle_197 : decode cL_middle 197 = .ok (.iload 5, 2) := by decide +kernel
theorem dL_middle_199 : decode cL_middle 199 = .ok (.invokevirtual 131, 3) := by decide +kernel
theorem dL_middle_202 : decode cL_middle 202 = .ok (.goto 13, 3) := by decide +kernel
theorem dL_middle_205 : decode cL_middle 205 = .ok (.aload_n 0, 1) := by decide +kernel
theorem dL_middle_206 : decode cL_middle 206 = .ok (.iload_n 2, 1) := by decide +kernel
theorem dL_middle_207 : decode cL_middle 207 = .ok (.iload_n 3, 1) := by decide +kernel
theorem dL_middle_208 : decode cL_middle 208 = .ok (.iload 4, 2) := by decide +kernel
theorem dL_middle_210 : decode cL_middle 210 = .ok (.iload 5, 2) := by decide +kernel
theorem dL_middle_212 : decode cL_middle 212 = .ok (.invokevirtual 134, 3) := by decide +kernel
theorem dL_middle_215 : decode cL_middle 215 = .ok (.ireturn, 1) := by decide +kernel
theorem dL_papers_0 : decode cL_papers 0 = .ok (.aload_n 0, 1) := by decide +kernel
theorem dL_papers_1 : decode cL_papers 1 = .ok (.iload_n 1, 1) := by decide +kernel
theorem dL_papers_2 : decode cL_papers 2 = .ok (.iload_n 2, 1) := by decide +kernel
theorem dL_papers_3 : decode cL_papers 3 = .ok (.iload_n 3, 1) := by decide +kernel
theorem dL_papers_4 : decode cL_papers 4 = .ok (.invokevirtual 137, 3) := by decide +kernel
theorem dL_papers_7 : decode cL_papers 7 = .ok (.iconst 0, 1) := by decide +kernel
theorem dL_papers_8 : decode cL_papers 8 = .ok (.ireturn, 1) := by decide +kernel
theorem dL_lists_0 : decode cL_lists 0 = .ok (.aload_n 0, 1) := by decide +kernel
theorem dL_lists_1 : decode cL_lists 1 = .ok (.iload_n 1, 1) := by decide +kernel
theorem dL_lists_2 : decode cL_lists 2 = .ok (.invokevirtual 141, 3) := by decide +kernel
theorem dL_lists_5 : decode cL_lists 5 = .ok (.iconst 0, 1) := by decide +kernel
theorem dL_lists_6 : decode cL_lists 6 = .ok (.ireturn, 1) := by decide +kernel
theorem dL_consigns_0 : decode cL_consigns 0 = .ok (.aload_n 0, 1) := by decide +kernel
theorem dL_consigns_1 : decode cL_consigns 1 = .ok (.iload_n 1, 1) := by decide +kernel
theorem dL_consigns_2 : decode cL_consigns 2 = .ok (.iload_n 2, 1) := by decide +kernel
theorem dL_consigns_3 : decode cL_consigns 3 = .ok (.iload_n 3, 1) := by decide +kernel
theorem dL_consigns_4 : decode cL_consigns 4 = .ok (.iload 4, 2) := by decide +kernel
theorem dL_consigns_6 : decode cL_consigns 6 = .ok (.iload 5, 2) := by decide +kernel
theorem dL_consigns_8 : decode cL_consigns 8 = .ok (.invokevirtual 145, 3) := by decide +kernel
theorem dL_consigns_11 : decode cL_consigns 11 = .ok (.iconst 0, 1) := by decide +kernel
theorem dL_consigns_12 : decode cL_consigns 12 = .ok (.ireturn, 1) := by decide +kernel
theorem dL_bit_0 : decode cL_bit 0 = .ok (.iload_n 0, 1) := by decide +kernel
theorem dL_bit_1 : decode cL_bit 1 = .ok (.ifCond .eq 7, 3) := by decide +kernel
theorem dL_bit_4 : decode cL_bit 4 = .ok (.iconst 1, 1) := by decide +kernel
theorem dL_bit_5 : decode cL_bit 5 = .ok (.goto 4, 3) := by decide +kernel
theorem dL_bit_8 : decode cL_bit 8 = .ok (.iconst 0, 1) := by decide +kernel
theorem dL_bit_9 : decode cL_bit 9 = .ok (.ireturn, 1) := by decide +kernel

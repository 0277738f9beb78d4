theorem dX8_init_0 : decode cX8_init 0 = .ok (.aload_n 0, 1) := by decide +kernel
theorem dX8_init_1 : decode cX8_init 1 = .ok (.invokespecial 1, 3) := by decide +kernel
theorem dX8_init_4 : decode cX8_init 4 = .ok (.aload_n 0, 1) := by decide +kernel
theorem dX8_init_5 : decode cX8_init 5 = .ok (.bipush 10, 2) := by decide +kernel
theorem dX8_init_7 : decode cX8_init 7 = .ok (.newarray .long, 2) := by decide +kernel
theorem dX8_init_9 : decode cX8_init 9 = .ok (.putfield 7, 3) := by decide +kernel
theorem dX8_init_12 : decode cX8_init 12 = .ok (.aload_n 0, 1) := by decide +kernel
theorem dX8_init_13 : decode cX8_init 13 = .ok (.bipush 10, 2) := by decide +kernel
theorem dX8_init_15 : decode cX8_init 15 = .ok (.newarray .int, 2) := by decide +kernel
theorem dX8_init_17 : decode cX8_init 17 = .ok (.putfield 13, 3) := by decide +kernel
theorem dX8_init_20 : decode cX8_init 20 = .ok (.aload_n 0, 1) := by decide +kernel
theorem dX8_init_21 : decode cX8_init 21 = .ok (.bipush 10, 2) := by decide +kernel
theorem dX8_init_23 : decode cX8_init 23 = .ok (.newarray .boolean, 2) := by decide +kernel
theorem dX8_init_25 : decode cX8_init 25 = .ok (.putfield 17, 3) := by decide +kernel
theorem dX8_init_28 : decode cX8_init 28 = .ok (.aload_n 0, 1) := by decide +kernel
theorem dX8_init_29 : decode cX8_init 29 = .ok (.bipush 10, 2) := by decide +kernel
theorem dX8_init_31 : decode cX8_init 31 = .ok (.newarray .int, 2) := by decide +kernel
theorem dX8_init_33 : decode cX8_init 33 = .ok (.putfield 21, 3) := by decide +kernel
theorem dX8_init_36 : decode cX8_init 36 = .ok (.aload_n 0, 1) := by decide +kernel
theorem dX8_init_37 : decode cX8_init 37 = .ok (.bipush 100, 2) := by decide +kernel
theorem dX8_init_39 : decode cX8_init 39 = .ok (.newarray .boolean, 2) := by decide +kernel
theorem dX8_init_41 : decode cX8_init 41 = .ok (.putfield 24, 3) := by decide +kernel
theorem dX8_init_44 : decode cX8_init 44 = .ok (.aload_n 0, 1) := by decide +kernel
theorem dX8_init_45 : decode cX8_init 45 = .ok (.iconst 4, 1) := by decide +kernel
theorem dX8_init_46 : decode cX8_init 46 = .ok (.newarray .int, 2) := by decide +kernel
theorem dX8_init_48 : decode cX8_init 48 = .ok (.putfield 27, 3) := by decide +kernel
theorem dX8_init_51 : decode cX8_init 51 = .ok (.aload_n 0, 1) := by decide +kernel
theorem dX8_init_52 : decode cX8_init 52 = .ok (.bipush 12, 2) := by decide +kernel
theorem dX8_init_54 : decode cX8_init 54 = .ok (.newarray .int, 2) := by decide +kernel
theorem dX8_init_56 : decode cX8_init 56 = .ok (.putfield 30, 3) := by decide +kernel
theorem dX8_init_59 : decode cX8_init 59 = .ok (.aload_n 0, 1) := by decide +kernel
theorem dX8_init_60 : decode cX8_init 60 = .ok (.bipush 12, 2) := by decide +kernel
theorem dX8_init_62 : decode cX8_init 62 = .ok (.newarray .int, 2) := by decide +kernel
theorem dX8_init_64 : decode cX8_init 64 = .ok (.putfield 33, 3) := by decide +kernel
theorem dX8_init_67 : decode cX8_init 67 = .ok (.aload_n 0, 1) := by decide +kernel
theorem dX8_init_68 : decode cX8_init 68 = .ok (.bipush 12, 2) := by decide +kernel
theorem dX8_init_70 : decode cX8_init 70 = .ok (.newarray .int, 2) := by decide +kernel
theorem dX8_init_72 : decode cX8_init 72 = .ok (.putfield 36, 3) := by decide +kernel
theorem dX8_init_75 : decode cX8_init 75 = .ok (.aload_n 0, 1) := by decide +kernel
theorem dX8_init_76 : decode cX8_init 76 = .ok (.bipush 12, 2) := by decide +kernel
theorem dX8_init_78 : decode cX8_init 78 = .ok (.newarray .boolean, 2) := by decide +kernel
theorem dX8_init_80 : decode cX8_init 80 = .ok (.putfield 39, 3) := by decide +kernel
theorem dX8_init_83 : decode cX8_init 83 = .ok (.aload_n 0, 1) := by decide +kernel
theorem dX8_init_84 : decode cX8_init 84 = .ok (.bipush 12, 2) := by decide +kernel
theorem dX8_init_86 : decode cX8_init 86 = .ok (.newarray .int, 2) := by decide +kernel
theorem dX8_init_88 : decode cX8_init 88 = .ok (.putfield 42, 3) := by decide +kernel
theorem dX8_init_91 : decode cX8_init 91 = .ok (.aload_n 0, 1) := by decide +kernel
theorem dX8_init_92 : decode cX8_init 92 = .ok (.bipush 12, 2) := by decide +kernel
theorem dX8_init_94 : decode cX8_init 94 = .ok (.newarray .int, 2) := by decide +kernel
theorem dX8_init_96 : decode cX8_init 96 = .ok (.putfield 45, 3) := by decide +kernel
theorem dX8_init_99 : decode cX8_init 99 = .ok (.aload_n 0, 1) := by decide +kernel
theorem dX8_init_100 : decode cX8_init 100 = .ok (.sipush 1212, 3) := by decide +kernel
theorem dX8_init_103 : decode cX8_init 103 = .ok (.newarray .boolean, 2) := by decide +kernel
theorem dX8_init_105 : decode cX8_init 105 = .ok (.putfield 48, 3) := by decide +kernel
theorem dX8_init_108 : decode cX8_init 108 = .ok (.aload_n 0, 1) := by decide +kernel
theorem dX8_init_109 : decode cX8_init 109 = .ok (.bipush 12, 2) := by decide +kernel
theorem dX8_init_111 : decode cX8_init 111 = .ok (.newarray .int, 2) := by decide +kernel
theorem dX8_init_113 : decode cX8_init 113 = .ok (.putfield 51, 3) := by decide +kernel
theorem dX8_init_116 : decode cX8_init 116 = .ok (.aload_n 0, 1) := by decide +kernel
theorem dX8_init_117 : decode cX8_init 117 = .ok (.sipush 600, 3) := by decide +kernel
theorem dX8_init_120 : decode cX8_init 120 = .ok (.newarray .int, 2) := by decide +kernel
theorem dX8_init_122 : decode cX8_init 122 = .ok (.putfield 54, 3) := by decide +kernel
theorem dX8_init_125 : decode cX8_init 125 = .ok (.aload_n 0, 1) := by decide +kernel
theorem dX8_init_126 : decode cX8_init 126 = .ok (.sipush 600, 3) := by decide +kernel
theorem dX8_init_129 : decode cX8_init 129 = .ok (.newarray .int, 2) := by decide +kernel
theorem dX8_init_131 : decode cX8_init 131 = .ok (.putfield 57, 3) := by decide +kernel
theorem dX8_init_134 : decode cX8_init 134 = .ok (.aload_n 0, 1) := by decide +kernel
theorem dX8_init_135 : decode cX8_init 135 = .ok (.sipush 600, 3) := by decide +kernel
theorem dX8_init_138 : decode cX8_init 138 = .ok (.newarray .boolean, 2) := by decide +kernel
theorem dX8_init_140 : decode cX8_init 140 = .ok (.putfield 60, 3) := by decide +kernel
theorem dX8_init_143 : decode cX8_init 143 = .ok (.aload_n 0, 1) := by decide +kernel
theorem dX8_init_144 : decode cX8_init 144 = .ok (.bipush 60, 2) := by decide +kernel
theorem dX8_init_146 : decode cX8_init 146 = .ok (.newarray .int, 2) := by decide +kernel
theorem dX8_init_148 : decode cX8_init 148 = .ok (.putfield 63, 3) := by decide +kernel
theorem dX8_init_151 : decode cX8_init 151 = .ok (.aload_n 0, 1) := by decide +kernel
theorem dX8_init_152 : decode cX8_init 152 = .ok (.bipush 60, 2) := by decide +kernel
theorem dX8_init_154 : decode cX8_init 154 = .ok (.newarray .int, 2) := by decide +kernel
theorem dX8_init_156 : decode cX8_init 156 = .ok (.putfield 66, 3) := by decide +kernel
theorem dX8_init_159 : decode cX8_init 159 = .ok (.aload_n 0, 1) := by decide +kernel
theorem dX8_init_160 : decode cX8_init 160 = .ok (.bipush 60, 2) := by decide +kernel
theorem dX8_init_162 : decode cX8_init 162 = .ok (.newarray .int, 2) := by decide +kernel
theorem dX8_init_164 : decode cX8_init 164 = .ok (.putfield 69, 3) := by decide +kernel
theorem dX8_init_167 : decode cX8_init 167 = .ok (.aload_n 0, 1) := by decide +kernel
theorem dX8_init_168 : decode cX8_init 168 = .ok (.bipush 60, 2) := by decide +kernel
theorem dX8_init_170 : decode cX8_init 170 = .ok (.newarray .int, 2) := by decide +kernel
theorem dX8_init_172 : decode cX8_init 172 = .ok (.putfield 72, 3) := by decide +kernel
theorem dX8_init_175 : decode cX8_init 175 = .ok (.aload_n 0, 1) := by decide +kernel
theorem dX8_init_176 : decode cX8_init 176 = .ok (.bipush 60, 2) := by decide +kernel
theorem dX8_init_178 : decode cX8_init 178 = .ok (.newarray .int, 2) := by decide +kernel
theorem dX8_init_180 : decode cX8_init 180 = .ok (.putfield 75, 3) := by decide +kernel
theorem dX8_init_183 : decode cX8_init 183 = .ok (.aload_n 0, 1) := by decide +kernel
theorem dX8_init_184 : decode cX8_init 184 = .ok (.bipush 60, 2) := by decide +kernel
theorem dX8_init_186 : decode cX8_init 186 = .ok (.newarray .int, 2) := by decide +kernel
theorem dX8_init_188 : decode cX8_init 188 = .ok (.putfield 78, 3) := by decide +kernel
theorem dX8_init_191 : decode cX8_init 191 = .ok (.aload_n 0, 1) := by decide +kernel
theorem dX8_init_192 : decode cX8_init 192 = .ok (.bipush 60, 2) := by decide +kernel
theorem dX8_init_194 : decode cX8_init 194 = .ok (.newarray .int, 2) := by decide +kernel
theorem dX8_init_196 : decode cX8_init 196 = .ok (.putfield 81, 3) := by decide +kernel
theorem dX8_init_199 : decode cX8_init 199 = .ok (.aload_n 0, 1) := by decide +kernel
theorem dX8_init_200 : decode cX8_init 200 = .ok (.bipush 60, 2) := by decide +kernel
theorem dX8_init_202 : decode cX8_init 202 = .ok (.newarray .int, 2) := by decide +kernel
theorem dX8_init_204 : decode cX8_init 204 = .ok (.putfield 84, 3) := by decide +kernel
theorem dX8_init_207 : decode cX8_init 207 = .ok (.aload_n 0, 1) := by decide +kernel
theorem dX8_init_208 : decode cX8_init 208 = .ok (.bipush 60, 2) := by decide +kernel
theorem dX8_init_210 : decode cX8_init 210 = .ok (.newarray .int, 2) := by decide +kernel
theorem dX8_init_212 : decode cX8_init 212 = .ok (.putfield 87, 3) := by decide +kernel
theorem dX8_init_215 : decode cX8_init 215 = .ok (.aload_n 0, 1) := by decide +kernel
theorem dX8_init_216 : decode cX8_init 216 = .ok (.bipush 60, 2) := by decide +kernel
theorem dX8_init_218 : decode cX8_init 218 = .ok (.newarray .int, 2) := by decide +kernel
theorem dX8_init_220 : decode cX8_init 220 = .ok (.putfield 90, 3) := by decide +kernel
theorem dX8_init_223 : decode cX8_init 223 = .ok (.aload_n 0, 1) := by decide +kernel
theorem dX8_init_224 : decode cX8_init 224 = .ok (.bipush 60, 2) := by decide +kernel
theorem dX8_init_226 : decode cX8_init 226 = .ok (.newarray .int, 2) := by decide +kernel
theorem dX8_init_228 : decode cX8_init 228 = .ok (.putfield 93, 3) := by decide +kernel
theorem dX8_init_231 : decode cX8_init 231 = .ok (.aload_n 0, 1) := by decide +kernel
theorem dX8_init_232 : decode cX8_init 232 = .ok (.bipush 60, 2) := by decide +kernel
theorem dX8_init_234 : decode cX8_init 234 = .ok (.newarray .int, 2) := by decide +kernel
theorem dX8_init_236 : decode cX8_init 236 = .ok (.putfield 96, 3) := by decide +kernel
theorem dX8_init_239 : decode cX8_init 239 = .ok (.aload_n 0, 1) := by decide +kernel
theorem dX8_init_240 : decode cX8_init 240 = .ok (.bipush 60, 2) := by decide +kernel
theorem dX8_init_242 : decode cX8_init 242 = .ok (.newarray .boolean, 2) := by decide +kernel
theorem dX8_init_244 : decode cX8_init 244 = .ok (.putfield 99, 3) := by decide +kernel
theorem dX8_init_247 : decode cX8_init 247 = .ok (.aload_n 0, 1) := by decide +kernel
theorem dX8_init_248 : decode cX8_init 248 = .ok (.bipush 60, 2) := by decide +kernel
theorem dX8_init_250 : decode cX8_init 250 = .ok (.newarray .int, 2) := by decide +kernel
theorem dX8_init_252 : decode cX8_init 252 = .ok (.putfield 102, 3) := by decide +kernel
theorem dX8_init_255 : decode cX8_init 255 = .ok (.aload_n 0, 1) := by decide +kernel
theorem dX8_init_256 : decode cX8_init 256 = .ok (.bipush 20, 2) := by decide +kernel
theorem dX8_init_258 : decode cX8_init 258 = .ok (.newarray .int, 2) := by decide +kernel
theorem dX8_init_260 : decode cX8_init 260 = .ok (.putfield 105, 3) := by decide +kernel
theorem dX8_init_263 : decode cX8_init 263 = .ok (.aload_n 0, 1) := by decide +kernel
theorem dX8_init_264 : decode cX8_init 264 = .ok (.bipush 20, 2) := by decide +kernel
theorem dX8_init_266 : decode cX8_init 266 = .ok (.newarray .int, 2) := by decide +kernel
theorem dX8_init_268 : decode cX8_init 268 = .ok (.putfield 108, 3) := by decide +kernel
theorem dX8_init_271 : decode cX8_init 271 = .ok (.aload_n 0, 1) := by decide +kernel
theorem dX8_init_272 : decode cX8_init 272 = .ok (.bipush 20, 2) := by decide +kernel
theorem dX8_init_274 : decode cX8_init 274 = .ok (.newarray .int, 2) := by decide +kernel
theorem dX8_init_276 : decode cX8_init 276 = .ok (.putfield 111, 3) := by decide +kernel
theorem dX8_init_279 : decode cX8_init 279 = .ok (.aload_n 0, 1) := by decide +kernel
theorem dX8_init_280 : decode cX8_init 280 = .ok (.bipush 20, 2) := by decide +kernel
theorem dX8_init_282 : decode cX8_init 282 = .ok (.newarray .int, 2) := by decide +kernel
theorem dX8_init_284 : decode cX8_init 284 = .ok (.putfield 114, 3) := by decide +kernel
theorem dX8_init_287 : decode cX8_init 287 = .ok (.aload_n 0, 1) := by decide +kernel
theorem dX8_init_288 : decode cX8_init 288 = .ok (.bipush 20, 2) := by decide +kernel
theorem dX8_init_290 : decode cX8_init 290 = .ok (.newarray .int, 2) := by decide +kernel
theorem dX8_init_292 : decode cX8_init 292 = .ok (.putfield 117, 3) := by decide +kernel
theorem dX8_init_295 : decode cX8_init 295 = .ok (.aload_n 0, 1) := by decide +kernel
theorem dX8_init_296 : decode cX8_init 296 = .ok (.bipush 20, 2) := by decide +kernel
theorem dX8_init_298 : decode cX8_init 298 = .ok (.newarray .int, 2) := by decide +kernel
theorem dX8_init_300 : decode cX8_init 300 = .ok (.putfield 120, 3) := by decide +kernel
theorem dX8_init_303 : decode cX8_init 303 = .ok (.aload_n 0, 1) := by decide +kernel
theorem dX8_init_304 : decode cX8_init 304 = .ok (.bipush 20, 2) := by decide +kernel
theorem dX8_init_306 : decode cX8_init 306 = .ok (.newarray .boolean, 2) := by decide +kernel
theorem dX8_init_308 : decode cX8_init 308 = .ok (.putfield 123, 3) := by decide +kernel
theorem dX8_init_311 : decode cX8_init 311 = .ok (.return_, 1) := by decide +kernel
theorem dX8_thrown_0 : decode cX8_thrown 0 = .ok (.aload_n 0, 1) := by decide +kernel
theorem dX8_thrown_1 : decode cX8_thrown 1 = .ok (.getfield 126, 3) := by decide +kernel
theorem dX8_thrown_4 : decode cX8_thrown 4 = .ok (.ireturn, 1) := by decide +kernel
theorem dX8_holds_0 : decode cX8_holds 0 = .ok (.aload_n 0, 1) := by decide +kernel
theorem dX8_holds_1 : decode cX8_holds 1 = .ok (.iload_n 1, 1) := by decide +kernel
theorem dX8_holds_2 : decode cX8_holds 2 = .ok (.putfield 126, 3) := by decide +kernel
theorem dX8_holds_5 : decode cX8_holds 5 = .ok (.iload_n 1, 1) := by decide +kernel
theorem dX8_holds_6 : decode cX8_holds 6 = .ok (.ifCond .ne 7, 3) := by decide +kernel
theorem dX8_holds_9 : decode cX8_holds 9 = .ok (.iconst 1, 1) := by decide +kernel
theorem dX8_holds_10 : decode cX8_holds 10 = .ok (.goto 4, 3) := by decide +kernel
theorem dX8_holds_13 : decode cX8_holds 13 = .ok (.iconst 0, 1) := by decide +kernel
theorem dX8_holds_14 : decode cX8_holds 14 = .ok (.ireturn, 1) := by decide +kernel
theorem dX8_in_0 : decode cX8_in 0 = .ok (.iload_n 0, 1) := by decide +kernel
theorem dX8_in_1 : decode cX8_in 1 = .ok (.iload_n 1, 1) := by decide +kernel
theorem dX8_in_2 : decode cX8_in 2 = .ok (.if_icmp .lt 12, 3) := by decide +kernel
theorem dX8_in_5 : decode cX8_in 5 = .ok (.iload_n 0, 1) := by decide +kernel
theorem dX8_in_6 : decode cX8_in 6 = .ok (.iload_n 2, 1) := by decide +kernel
theorem dX8_in_7 : decode cX8_in 7 = .ok (.if_icmp .gt 7, 3) := by decide +kernel
theorem dX8_in_10 : decode cX8_in 10 = .ok (.iconst 1, 1) := by decide +kernel
theorem dX8_in_11 : decode cX8_in 11 = .ok (.goto 4, 3) := by decide +kernel
theorem dX8_in_14 : decode cX8_in 14 = .ok (.iconst 0, 1) := by decide +kernel
theorem dX8_in_15 : decode cX8_in 15 = .ok (.ireturn, 1) := by decide +kernel
theorem dX8_isParty_0 : decode cX8_isParty 0 = .ok (.iload_n 1, 1) := by decide +kernel
theorem dX8_isParty_1 : decode cX8_isParty 1 = .ok (.iconst 0, 1) := by decide +kernel
theorem dX8_isParty_2 : decode cX8_isParty 2 = .ok (.aload_n 0, 1) := by decide +kernel
theorem dX8_isParty_3 : decode cX8_isParty 3 = .ok (.getfield 130, 3) := by decide +kernel
theorem dX8_isParty_6 : decode cX8_isParty 6 = .ok (.iconst 1, 1) := by decide +kernel
theorem dX8_isParty_7 : decode cX8_isParty 7 = .ok (.isub, 1) := by decide +kernel
theorem dX8_isParty_8 : decode cX8_isParty 8 = .ok (.invokestatic 133, 3) := by decide +kernel
theorem dX8_isParty_11 : decode cX8_isParty 11 = .ok (.ireturn, 1) := by decide +kernel
theorem dX8_isWork_0 : decode cX8_isWork 0 = .ok (.iload_n 1, 1) := by decide +kernel
theorem dX8_isWork_1 : decode cX8_isWork 1 = .ok (.iconst 0, 1) := by decide +kernel
theorem dX8_isWork_2 : decode cX8_isWork 2 = .ok (.aload_n 0, 1) := by decide +kernel
theorem dX8_isWork_3 : decode cX8_isWork 3 = .ok (.getfield 137, 3) := by decide +kernel
theorem dX8_isWork_6 : decode cX8_isWork 6 = .ok (.iconst 1, 1) := by decide +kernel
theorem dX8_isWork_7 : decode cX8_isWork 7 = .ok (.isub, 1) := by decide +kernel
theorem dX8_isWork_8 : decode cX8_isWork 8 = .ok (.invokestatic 133, 3) := by decide +kernel
theorem dX8_isWork_11 : decode cX8_isWork 11 = .ok (.ireturn, 1) := by decide +kernel
theorem dX8_isLot_0 : decode cX8_isLot 0 = .ok (.iload_n 1, 1) := by decide +kernel
theorem dX8_isLot_1 : decode cX8_isLot 1 = .ok (.iconst 0, 1) := by decide +kernel
theorem dX8_isLot_2 : decode cX8_isLot 2 = .ok (.aload_n 0, 1) := by decide +kernel
theorem dX8_isLot_3 : decode cX8_isLot 3 = .ok (.getfield 140, 3) := by decide +kernel
theorem dX8_isLot_6 : decode cX8_isLot 6 = .ok (.iconst 1, 1) := by decide +kernel
theorem dX8_isLot_7 : decode cX8_isLot 7 = .ok (.isub, 1) := by decide +kernel
theorem dX8_isLot_8 : decode cX8_isLot 8 = .ok (.invokestatic 133, 3) := by decide +kernel
theorem dX8_isLot_11 : decode cX8_isLot 11 = .ok (.ireturn, 1) := by decide +kernel
theorem dX8_isLoan_0 : decode cX8_isLoan 0 = .ok (.iload_n 1, 1) := by decide +kernel
theorem dX8_isLoan_1 : decode cX8_isLoan 1 = .ok (.iconst 0, 1) := by decide +kernel
theorem dX8_isLoan_2 : decode cX8_isLoan 2 = .ok (.aload_n 0, 1) := by decide +kernel
theorem dX8_isLoan_3 : decode cX8_isLoan 3 = .ok (.getfield 143, 3) := by decide +kernel
theorem dX8_isLoan_6 : decode cX8_isLoan 6 = .ok (.iconst 1, 1) := by decide +kernel
theorem dX8_isLoan_7 : decode cX8_isLoan 7 = .ok (.isub, 1) := by decide +kernel
theorem dX8_isLoan_8 : decode cX8_isLoan 8 = .ok (.invokestatic 133, 3) := by decide +kernel
theorem dX8_isLoan_11 : decode cX8_isLoan 11 = .ok (.ireturn, 1) := by decide +kernel
theorem dX8_isLand_0 : decode cX8_isLand 0 = .ok (.iload_n 0, 1) := by decide +kernel
theorem dX8_isLand_1 : decode cX8_isLand 1 = .ok (.iconst 0, 1) := by decide +kernel
theorem dX8_isLand_2 : decode cX8_isLand 2 = .ok (.iconst 3, 1) := by decide +kernel
theorem dX8_isLand_3 : decode cX8_isLand 3 = .ok (.invokestatic 133, 3) := by decide +kernel
theorem dX8_isLand_6 : decode cX8_isLand 6 = .ok (.ireturn, 1) := by decide +kernel
theorem dX8_party_0 : decode cX8_party 0 = .ok (.aload_n 0, 1) := by decide +kernel
theorem dX8_party_1 : decode cX8_party 1 = .ok (.iload_n 2, 1) := by decide +kernel
theorem dX8_party_2 : decode cX8_party 2 = .ok (.invokestatic 146, 3) := by decide +kernel
theorem dX8_party_5 : decode cX8_party 5 = .ok (.ifCond .ne 7, 3) := by decide +kernel
theorem dX8_party_8 : decode cX8_party 8 = .ok (.iconst 1, 1) := by decide +kernel
theorem dX8_party_9 : decode cX8_party 9 = .ok (.goto 31, 3) := by decide +kernel
theorem dX8_party_12 : decode cX8_party 12 = .ok (.iload_n 1, 1) := by decide +kernel
theorem dX8_party_13 : decode cX8_party 13 = .ok (.iconst 0, 1) := by decide +kernel
theorem dX8_party_14 : decode cX8_party 14 = .ok (.ldc 150, 2) := by decide +kernel
theorem dX8_party_16 : decode cX8_party 16 = .ok (.invokestatic 133, 3) := by decide +kernel
theorem dX8_party_19 : decode cX8_party 19 = .ok (.ifCond .ne 7, 3) := by decide +kernel
theorem dX8_party_22 : decode cX8_party 22 = .ok (.iconst 2, 1) := by decide +kernel
theorem dX8_party_23 : decode cX8_party 23 = .ok (.goto 17, 3) := by decide +kernel
theorem dX8_party_26 : decode cX8_party 26 = .ok (.aload_n 0, 1) := by decide +kernel
theorem dX8_party_27 : decode cX8_party 27 = .ok (.getfield 130, 3) := by decide +kernel
theorem dX8_party_30 : decode cX8_party 30 = .ok (.bipush 10, 2) := by decide +kernel
theorem dX8_party_32 : decode cX8_party 32 = .ok (.if_icmp .ne 7, 3) := by decide +kernel
theorem dX8_party_35 : decode cX8_party 35 = .ok (.iconst 3, 1) := by decide +kernel
theorem dX8_party_36 : decode cX8_party 36 = .ok (.goto 4, 3) := by decide +kernel
theorem dX8_party_39 : decode cX8_party 39 = .ok (.iconst 0, 1) := by decide +kernel
theorem dX8_party_40 : decode cX8_party 40 = .ok (.invokevirtual 151, 3) := by decide +kernel
theorem dX8_party_43 : decode cX8_party 43 = .ok (.ifCond .ne 5, 3) := by decide +kernel
theorem dX8_party_46 : decode cX8_party 46 = .ok (.iconst 0, 1) := by decide +kernel
theorem dX8_party_47 : decode cX8_party 47 = .ok (.ireturn, 1) := by decide +kernel
theorem dX8_party_48 : decode cX8_party 48 = .ok (.aload_n 0, 1) := by decide +kernel
theorem dX8_party_49 : decode cX8_party 49 = .ok (.getfield 7, 3) := by decide +kernel
theorem dX8_party_52 : decode cX8_party 52 = .ok (.aload_n 0, 1) := by decide +kernel
theorem dX8_party_53 : decode cX8_party 53 = .ok (.getfield 130, 3) := by decide +kernel
theorem dX8_party_56 : decode cX8_party 56 = .ok (.iload_n 1, 1) := by decide +kernel
theorem dX8_party_57 : decode cX8_party 57 = .ok (.i2l, 1) := by decide +kernel
theorem dX8_party_58 : decode cX8_party 58 = .ok (.lastore, 1) := by decide +kernel
theorem dX8_party_59 : decode cX8_party 59 = .ok (.aload_n 0, 1) := by decide +kernel
theorem dX8_party_60 : decode cX8_party 60 = .ok (.getfield 13, 3) := by decide +kernel
theorem dX8_party_63 : decode cX8_party 63 = .ok (.aload_n 0, 1) := by decide +kernel
theorem dX8_party_64 : decode cX8_party 64 = .ok (.getfield 130, 3) := by decide +kernel
theorem dX8_party_67 : decode cX8_party 67 = .ok (.iload_n 2, 1) := by decide +kernel
theorem dX8_party_68 : decode cX8_party 68 = .ok (.iastore, 1) := by decide +kernel
theorem dX8_party_69 : decode cX8_party 69 = .ok (.aload_n 0, 1) := by decide +kernel
theorem dX8_party_70 : decode cX8_party 70 = .ok (.dup, 1) := by decide +kernel
theorem dX8_party_71 : decode cX8_party 71 = .ok (.getfield 130, 3) := by decide +kernel
theorem dX8_party_74 : decode cX8_party 74 = .ok (.iconst 1, 1) := by decide +kernel
theorem dX8_party_75 : decode cX8_party 75 = .ok (.iadd, 1) := by decide +kernel
theorem dX8_party_76 : decode cX8_party 76 = .ok (.putfield 130, 3) := by decide +kernel
theorem dX8_party_79 : decode cX8_party 79 = .ok (.aload_n 0, 1) := by decide +kernel
theorem dX8_party_80 : decode cX8_party 80 = .ok (.getfield 130, 3) := by decide +kernel
theorem dX8_party_83 : decode cX8_party 83 = .ok (.iconst 1, 1) := by decide +kernel
theorem dX8_party_84 : decode cX8_party 84 = .ok (.isub, 1) := by decide +kernel
theorem dX8_party_85 : decode cX8_party 85 = .ok (.ireturn, 1) := by decide +kernel
theorem dX8_lays_0 : decode cX8_lays 0 = .ok (.aload_n 0, 1) := by decide +kernel
theorem dX8_lays_1 : decode cX8_lays 1 = .ok (.getfield 63, 3) := by decide +kernel
theorem dX8_lays_4 : decode cX8_lays 4 = .ok (.aload_n 0, 1) := by decide +kernel
theorem dX8_lays_5 : decode cX8_lays 5 = .ok (.getfield 140, 3) := by decide +kernel
theorem dX8_lays_8 : decode cX8_lays 8 = .ok (.iload_n 1, 1) := by decide +kernel
theorem dX8_lays_9 : decode cX8_lays 9 = .ok (.iastore, 1) := by decide +kernel
theorem dX8_lays_10 : decode cX8_lays 10 = .ok (.aload_n 0, 1) := by decide +kernel
theorem dX8_lays_11 : decode cX8_lays 11 = .ok (.getfield 66, 3) := by decide +kernel
theorem dX8_lays_14 : decode cX8_lays 14 = .ok (.aload_n 0, 1) := by decide +kernel
theorem dX8_lays_15 : decode cX8_lays 15 = .ok (.getfield 140, 3) := by decide +kernel
theorem dX8_lays_18 : decode cX8_lays 18 = .ok (.iload_n 2, 1) := by decide +kernel
theorem dX8_lays_19 : decode cX8_lays 19 = .ok (.iastore, 1) := by decide +kernel
theorem dX8_lays_20 : decode cX8_lays 20 = .ok (.aload_n 0, 1) := by decide +kernel
theorem dX8_lays_21 : decode cX8_lays 21 = .ok (.getfield 69, 3) := by decide +kernel
theorem dX8_lays_24 : decode cX8_lays 24 = .ok (.aload_n 0, 1) := by decide +kernel
theorem dX8_lays_25 : decode cX8_lays 25 = .ok (.getfield 140, 3) := by decide +kernel
theorem dX8_lays_28 : decode cX8_lays 28 = .ok (.iload_n 3, 1) := by decide +kernel
theorem dX8_lays_29 : decode cX8_lays 29 = .ok (.iastore, 1) := by decide +kernel
theorem dX8_lays_30 : decode cX8_lays 30 = .ok (.aload_n 0, 1) := by decide +kernel
theorem dX8_lays_31 : decode cX8_lays 31 = .ok (.getfield 72, 3) := by decide +kernel
theorem dX8_lays_34 : decode cX8_lays 34 = .ok (.aload_n 0, 1) := by decide +kernel
theorem dX8_lays_35 : decode cX8_lays 35 = .ok (.getfield 140, 3) := by decide +kernel
theorem dX8_lays_38 : decode cX8_lays 38 = .ok (.iload 4, 2) := by decide +kernel
theorem dX8_lays_40 : decode cX8_lays 40 = .ok (.iastore, 1) := by decide +kernel
theorem dX8_lays_41 : decode cX8_lays 41 = .ok (.aload_n 0, 1) := by decide +kernel
theorem dX8_lays_42 : decode cX8_lays 42 = .ok (.getfield 75, 3) := by decide +kernel
theorem dX8_lays_45 : decode cX8_lays 45 = .ok (.aload_n 0, 1) := by decide +kernel
theorem dX8_lays_46 : decode cX8_lays 46 = .ok (.getfield 140, 3) := by decide +kernel
theorem dX8_lays_49 : decode cX8_lays 49 = .ok (.iconst (-1), 1) := by decide +kernel
theorem dX8_lays_50 : decode cX8_lays 50 = .ok (.iastore, 1) := by decide +kernel
theorem dX8_lays_51 : decode cX8_lays 51 = .ok (.aload_n 0, 1) := by decide +kernel
theorem dX8_lays_52 : decode cX8_lays 52 = .ok (.getfield 87, 3) := by decide +kernel
theorem dX8_lays_55 : decode cX8_lays 55 = .ok (.aload_n 0, 1) := by decide +kernel
theorem dX8_lays_56 : decode cX8_lays 56 = .ok (.getfield 140, 3) := by decide +kernel
theorem dX8_lays_59 : decode cX8_lays 59 = .ok (.iload 5, 2) := by decide +kernel
theorem dX8_lays_61 : decode cX8_lays 61 = .ok (.iastore, 1) := by decide +kernel
theorem dX8_lays_62 : decode cX8_lays 62 = .ok (.aload_n 0, 1) := by decide +kernel
theorem dX8_lays_63 : decode cX8_lays 63 = .ok (.getfield 90, 3) := by decide +kernel
theorem dX8_lays_66 : decode cX8_lays 66 = .ok (.aload_n 0, 1) := by decide +kernel
theorem dX8_lays_67 : decode cX8_lays 67 = .ok (.getfield 140, 3) := by decide +kernel
theorem dX8_lays_70 : decode cX8_lays 70 = .ok (.iconst (-1), 1) := by decide +kernel
theorem dX8_lays_71 : decode cX8_lays 71 = .ok (.iastore, 1) := by decide +kernel
theorem dX8_lays_72 : decode cX8_lays 72 = .ok (.aload_n 0, 1) := by decide +kernel
theorem dX8_lays_73 : decode cX8_lays 73 = .ok (.dup, 1) := by decide +kernel
theorem dX8_lays_74 : decode cX8_lays 74 = .ok (.getfield 140, 3) := by decide +kernel
theorem dX8_lays_77 : decode cX8_lays 77 = .ok (.iconst 1, 1) := by decide +kernel
theorem dX8_lays_78 : decode cX8_lays 78 = .ok (.iadd, 1) := by decide +kernel
theorem dX8_lays_79 : decode cX8_lays 79 = .ok (.putfield 140, 3) := by decide +kernel
theorem dX8_lays_82 : decode cX8_lays 82 = .ok (.aload_n 0, 1) := by decide +kernel
theorem dX8_lays_83 : decode cX8_lays 83 = .ok (.getfield 140, 3) := by decide +kernel
theorem dX8_lays_86 : decode cX8_lays 86 = .ok (.iconst 1, 1) := by decide +kernel
theorem dX8_lays_87 : decode cX8_lays 87 = .ok (.isub, 1) := by decide +kernel
theorem dX8_lays_88 : decode cX8_lays 88 = .ok (.ireturn, 1) := by decide +kernel
theorem dX8_work_0 : decode cX8_work 0 = .ok (.aload_n 0, 1) := by decide +kernel
theorem dX8_work_1 : decode cX8_work 1 = .ok (.iload_n 1, 1) := by decide +kernel
theorem dX8_work_2 : decode cX8_work 2 = .ok (.invokevirtual 154, 3) := by decide +kernel
theorem dX8_work_5 : decode cX8_work 5 = .ok (.istore_n 3, 1) := by decide +kernel
theorem dX8_work_6 : decode cX8_work 6 = .ok (.aload_n 0, 1) := by decide +kernel
theorem dX8_work_7 : decode cX8_work 7 = .ok (.iload_n 3, 1) := by decide +kernel
theorem dX8_work_8 : decode cX8_work 8 = .ok (.ifCond .ne 7, 3) := by decide +kernel
theorem dX8_work_11 : decode cX8_work 11 = .ok (.iconst 1, 1) := by decide +kernel
theorem dX8_work_12 : decode cX8_work 12 = .ok (.goto 40, 3) := by decide +kernel
theorem dX8_work_15 : decode cX8_work 15 = .ok (.iload_n 2, 1) := by decide +kernel
theorem dX8_work_16 : decode cX8_work 16 = .ok (.iconst 0, 1) := by decide +kernel
theorem dX8_work_17 : decode cX8_work 17 = .ok (.ldc 150, 2) := by decide +kernel
theorem dX8_work_19 : decode cX8_work 19 = .ok (.invokestatic 133, 3) := by decide +kernel
theorem dX8_work_22 : decode cX8_work 22 = .ok (.ifCond .ne 7, 3) := by decide +kernel
theorem dX8_work_25 : decode cX8_work 25 = .ok (.iconst 2, 1) := by decide +kernel
theorem dX8_work_26 : decode cX8_work 26 = .ok (.goto 26, 3) := by decide +kernel
theorem dX8_work_29 : decode cX8_work 29 = .ok (.aload_n 0, 1) := by decide +kernel
theorem dX8_work_30 : decode cX8_work 30 = .ok (.getfield 137, 3) := by decide +kernel
theorem dX8_work_33 : decode cX8_work 33 = .ok (.bipush 12, 2) := by decide +kernel
theorem dX8_work_35 : decode cX8_work 35 = .ok (.if_icmp .eq 12, 3) := by decide +kernel
theorem dX8_work_38 : decode cX8_work 38 = .ok (.aload_n 0, 1) := by decide +kernel
theorem dX8_work_39 : decode cX8_work 39 = .ok (.getfield 140, 3) := by decide +kernel
theorem dX8_work_42 : decode cX8_work 42 = .ok (.bipush 60, 2) := by decide +kernel
theorem dX8_work_44 : decode cX8_work 44 = .ok (.if_icmp .ne 7, 3) := by decide +kernel
theorem dX8_work_47 : decode cX8_work 47 = .ok (.iconst 3, 1) := by decide +kernel
theorem dX8_work_48 : decode cX8_work 48 = .ok (.goto 4, 3) := by decide +kernel
theorem dX8_work_51 : decode cX8_work 51 = .ok (.iconst 0, 1) := by decide +kernel
theorem dX8_work_52 : decode cX8_work 52 = .ok (.invokevirtual 151, 3) := by decide +kernel
theorem dX8_work_55 : decode cX8_work 55 = .ok (.ifCond .ne 5, 3) := by decide +kernel
theorem dX8_work_58 : decode cX8_work 58 = .ok (.iconst 0, 1) := by decide +kernel
theorem dX8_work_59 : decode cX8_work 59 = .ok (.ireturn, 1) := by decide +kernel
theorem dX8_work_60 : decode cX8_work 60 = .ok (.aload_n 0, 1) := by decide +kernel
theorem dX8_work_61 : decode cX8_work 61 = .ok (.getfield 30, 3) := by decide +kernel
theorem dX8_work_64 : decode cX8_work 64 = .ok (.aload_n 0, 1) := by decide +kernel
theorem dX8_work_65 : decode cX8_work 65 = .ok (.getfield 137, 3) := by decide +kernel
theorem dX8_work_68 : decode cX8_work 68 = .ok (.iload_n 1, 1) := by decide +kernel
theorem dX8_work_69 : decode cX8_work 69 = .ok (.iastore, 1) := by decide +kernel
theorem dX8_work_70 : decode cX8_work 70 = .ok (.aload_n 0, 1) := by decide +kernel
theorem dX8_work_71 : decode cX8_work 71 = .ok (.getfield 33, 3) := by decide +kernel
theorem dX8_work_74 : decode cX8_work 74 = .ok (.aload_n 0, 1) := by decide +kernel
theorem dX8_work_75 : decode cX8_work 75 = .ok (.getfield 137, 3) := by decide +kernel
theorem dX8_work_78 : decode cX8_work 78 = .ok (.iload_n 2, 1) := by decide +kernel
theorem dX8_work_79 : decode cX8_work 79 = .ok (.iastore, 1) := by decide +kernel
theorem dX8_work_80 : decode cX8_work 80 = .ok (.aload_n 0, 1) := by decide +kernel
theorem dX8_work_81 : decode cX8_work 81 = .ok (.getfield 36, 3) := by decide +kernel
theorem dX8_work_84 : decode cX8_work 84 = .ok (.aload_n 0, 1) := by decide +kernel
theorem dX8_work_85 : decode cX8_work 85 = .ok (.getfield 137, 3) := by decide +kernel
theorem dX8_work_88 : decode cX8_work 88 = .ok (.aload_n 0, 1) := by decide +kernel
theorem dX8_work_89 : decode cX8_work 89 = .ok (.getfield 13, 3) := by decide +kernel
theorem dX8_work_92 : decode cX8_work 92 = .ok (.iload_n 1, 1) := by decide +kernel
theorem dX8_work_93 : decode cX8_work 93 = .ok (.iaload, 1) := by decide +kernel
theorem dX8_work_94 : decode cX8_work 94 = .ok (.iastore, 1) := by decide +kernel
theorem dX8_work_95 : decode cX8_work 95 = .ok (.aload_n 0, 1) := by decide +kernel
theorem dX8_work_96 : decode cX8_work 96 = .ok (.getfield 45, 3) := by decide +kernel
theorem dX8_work_99 : decode cX8_work 99 = .ok (.aload_n 0, 1) := by decide +kernel
theorem dX8_work_100 : decode cX8_work 100 = .ok (.getfield 137, 3) := by decide +kernel
theorem dX8_work_103 : decode cX8_work 103 = .ok (.iconst (-1), 1) := by decide +kernel
theorem dX8_work_104 : decode cX8_work 104 = .ok (.iastore, 1) := by decide +kernel
theorem dX8_work_105 : decode cX8_work 105 = .ok (.aload_n 0, 1) := by decide +kernel
theorem dX8_work_106 : decode cX8_work 106 = .ok (.aload_n 0, 1) := by decide +kernel
theorem dX8_work_107 : decode cX8_work 107 = .ok (.getfield 137, 3) := by decide +kernel
theorem dX8_work_110 : decode cX8_work 110 = .ok (.iload_n 1, 1) := by decide +kernel
theorem dX8_work_111 : decode cX8_work 111 = .ok (.bipush 60, 2) := by decide +kernel
theorem dX8_work_113 : decode cX8_work 113 = .ok (.iconst (-1), 1) := by decide +kernel
theorem dX8_work_114 : decode cX8_work 114 = .ok (.iconst (-1), 1) := by decide +kernel
theorem dX8_work_115 : decode cX8_work 115 = .ok (.invokevirtual 157, 3) := by decide +kernel
theorem dX8_work_118 : decode cX8_work 118 = .ok (.pop, 1) := by decide +kernel
theorem dX8_work_119 : decode cX8_work 119 = .ok (.aload_n 0, 1) := by decide +kernel
theorem dX8_work_120 : decode cX8_work 120 = .ok (.dup, 1) := by decide +kernel
theorem dX8_work_121 : decode cX8_work 121 = .ok (.getfield 137, 3) := by decide +kernel
theorem dX8_work_124 : decode cX8_work 124 = .ok (.iconst 1, 1) := by decide +kernel
theorem dX8_work_125 : decode cX8_work 125 = .ok (.iadd, 1) := by decide +kernel
theorem dX8_work_126 : decode cX8_work 126 = .ok (.putfield 137, 3) := by decide +kernel
theorem dX8_work_129 : decode cX8_work 129 = .ok (.aload_n 0, 1) := by decide +kernel
theorem dX8_work_130 : decode cX8_work 130 = .ok (.getfield 137, 3) := by decide +kernel
theorem dX8_work_133 : decode cX8_work 133 = .ok (.iconst 1, 1) := by decide +kernel
theorem dX8_work_134 : decode cX8_work 134 = .ok (.isub, 1) := by decide +kernel
theorem dX8_work_135 : decode cX8_work 135 = .ok (.ireturn, 1) := by decide +kernel
theorem dX8_value_0 : decode cX8_value 0 = .ok (.aload_n 0, 1) := by decide +kernel
theorem dX8_value_1 : decode cX8_value 1 = .ok (.aload_n 0, 1) := by decide +kernel
theorem dX8_value_2 : decode cX8_value 2 = .ok (.iload_n 1, 1) := by decide +kernel
theorem dX8_value_3 : decode cX8_value 3 = .ok (.invokevirtual 161, 3) := by decide +kernel
theorem dX8_value_6 : decode cX8_value 6 = .ok (.ifCond .ne 7, 3) := by decide +kernel
theorem dX8_value_9 : decode cX8_value 9 = .ok (.iconst 1, 1) := by decide +kernel
theorem dX8_value_10 : decode cX8_value 10 = .ok (.goto 18, 3) := by decide +kernel
theorem dX8_value_13 : decode cX8_value 13 = .ok (.iload_n 2, 1) := by decide +kernel
theorem dX8_value_14 : decode cX8_value 14 = .ok (.iconst 0, 1) := by decide +kernel
theorem dX8_value_15 : decode cX8_value 15 = .ok (.ldc 150, 2) := by decide +kernel
theorem dX8_value_17 : decode cX8_value 17 = .ok (.invokestatic 133, 3) := by decide +kernel
theorem dX8_value_20 : decode cX8_value 20 = .ok (.ifCond .eq 7, 3) := by decide +kernel
theorem dX8_value_23 : decode cX8_value 23 = .ok (.iconst 0, 1) := by decide +kernel
theorem dX8_value_24 : decode cX8_value 24 = .ok (.goto 4, 3) := by decide +kernel
theorem dX8_value_27 : decode cX8_value 27 = .ok (.iconst 2, 1) := by decide +kernel
theorem dX8_value_28 : decode cX8_value 28 = .ok (.invokevirtual 151, 3) := by decide +kernel
theorem dX8_value_31 : decode cX8_value 31 = .ok (.ifCond .ne 5, 3) := by decide +kernel
theorem dX8_value_34 : decode cX8_value 34 = .ok (.iconst 0, 1) := by decide +kernel
theorem dX8_value_35 : decode cX8_value 35 = .ok (.ireturn, 1) := by decide +kernel
theorem dX8_value_36 : decode cX8_value 36 = .ok (.aload_n 0, 1) := by decide +kernel
theorem dX8_value_37 : decode cX8_value 37 = .ok (.getfield 33, 3) := by decide +kernel
theorem dX8_value_40 : decode cX8_value 40 = .ok (.iload_n 1, 1) := by decide +kernel
theorem dX8_value_41 : decode cX8_value 41 = .ok (.iaload, 1) := by decide +kernel
theorem dX8_value_42 : decode cX8_value 42 = .ok (.istore_n 3, 1) := by decide +kernel
theorem dX8_value_43 : decode cX8_value 43 = .ok (.aload_n 0, 1) := by decide +kernel
theorem dX8_value_44 : decode cX8_value 44 = .ok (.getfield 33, 3) := by decide +kernel
theorem dX8_value_47 : decode cX8_value 47 = .ok (.iload_n 1, 1) := by decide +kernel
theorem dX8_value_48 : decode cX8_value 48 = .ok (.iload_n 2, 1) := by decide +kernel
theorem dX8_value_49 : decode cX8_value 49 = .ok (.iastore, 1) := by decide +kernel
theorem dX8_value_50 : decode cX8_value 50 = .ok (.iload_n 3, 1) := by decide +kernel
theorem dX8_value_51 : decode cX8_value 51 = .ok (.ireturn, 1) := by decide +kernel
theorem dX8_pass_0 : decode cX8_pass 0 = .ok (.aload_n 0, 1) := by decide +kernel
theorem dX8_pass_1 : decode cX8_pass 1 = .ok (.iload_n 1, 1) := by decide +kernel
theorem dX8_pass_2 : decode cX8_pass 2 = .ok (.iconst 1, 1) := by decide +kernel
theorem dX8_pass_3 : decode cX8_pass 3 = .ok (.sipush 1000, 3) := by decide +kernel
theorem dX8_pass_6 : decode cX8_pass 6 = .ok (.invokestatic 133, 3) := by decide +kernel
theorem dX8_pass_9 : decode cX8_pass 9 = .ok (.ifCond .ne 7, 3) := by decide +kernel
theorem dX8_pass_12 : decode cX8_pass 12 = .ok (.iconst 1, 1) := by decide +kernel
theorem dX8_pass_13 : decode cX8_pass 13 = .ok (.goto 20, 3) := by decide +kernel
theorem dX8_pass_16 : decode cX8_pass 16 = .ok (.aload_n 0, 1) := by decide +kernel
theorem dX8_pass_17 : decode cX8_pass 17 = .ok (.getfield 164, 3) := by decide +kernel
theorem dX8_pass_20 : decode cX8_pass 20 = .ok (.iload_n 1, 1) := by decide +kernel
theorem dX8_pass_21 : decode cX8_pass 21 = .ok (.iadd, 1) := by decide +kernel
theorem dX8_pass_22 : decode cX8_pass 22 = .ok (.sipush 20000, 3) := by decide +kernel
theorem dX8_pass_25 : decode cX8_pass 25 = .ok (.if_icmp .le 7, 3) := by decide +kernel
theorem dX8_pass_28 : decode cX8_pass 28 = .ok (.iconst 2, 1) := by decide +kernel
theorem dX8_pass_29 : decode cX8_pass 29 = .ok (.goto 4, 3) := by decide +kernel
theorem dX8_pass_32 : decode cX8_pass 32 = .ok (.iconst 0, 1) := by decide +kernel
theorem dX8_pass_33 : decode cX8_pass 33 = .ok (.invokevirtual 151, 3) := by decide +kernel
theorem dX8_pass_36 : decode cX8_pass 36 = .ok (.ifCond .ne 5, 3) := by decide +kernel
theorem dX8_pass_39 : decode cX8_pass 39 = .ok (.iconst 0, 1) := by decide +kernel
theorem dX8_pass_40 : decode cX8_pass 40 = .ok (.ireturn, 1) := by decide +kernel
theorem dX8_pass_41 : decode cX8_pass 41 = .ok (.aload_n 0, 1) := by decide +kernel
theorem dX8_pass_42 : decode cX8_pass 42 = .ok (.dup, 1) := by decide +kernel
theorem dX8_pass_43 : decode cX8_pass 43 = .ok (.getfield 164, 3) := by decide +kernel
theorem dX8_pass_46 : decode cX8_pass 46 = .ok (.iload_n 1, 1) := by decide +kernel
theorem dX8_pass_47 : decode cX8_pass 47 = .ok (.iadd, 1) := by decide +kernel
theorem dX8_pass_48 : decode cX8_pass 48 = .ok (.putfield 164, 3) := by decide +kernel
theorem dX8_pass_51 : decode cX8_pass 51 = .ok (.aload_n 0, 1) := by decide +kernel
theorem dX8_pass_52 : decode cX8_pass 52 = .ok (.getfield 164, 3) := by decide +kernel
theorem dX8_pass_55 : decode cX8_pass 55 = .ok (.ireturn, 1) := by decide +kernel
theorem dX8_weight_0 : decode cX8_weight 0 = .ok (.aload_n 0, 1) := by decide +kernel
theorem dX8_weight_1 : decode cX8_weight 1 = .ok (.aload_n 0, 1) := by decide +kernel
theorem dX8_weight_2 : decode cX8_weight 2 = .ok (.iload_n 1, 1) := by decide +kernel
theorem dX8_weight_3 : decode cX8_weight 3 = .ok (.invokevirtual 154, 3) := by decide +kernel
theorem dX8_weight_6 : decode cX8_weight 6 = .ok (.ifCond .ne 7, 3) := by decide +kernel
theorem dX8_weight_9 : decode cX8_weight 9 = .ok (.iconst 1, 1) := by decide +kernel
theorem dX8_weight_10 : decode cX8_weight 10 = .ok (.goto 18, 3) := by decide +kernel
theorem dX8_weight_13 : decode cX8_weight 13 = .ok (.iload_n 2, 1) := by decide +kernel
theorem dX8_weight_14 : decode cX8_weight 14 = .ok (.iconst 0, 1) := by decide +kernel
theorem dX8_weight_15 : decode cX8_weight 15 = .ok (.bipush 9, 2) := by decide +kernel
theorem dX8_weight_17 : decode cX8_weight 17 = .ok (.invokestatic 133, 3) := by decide +kernel
theorem dX8_weight_20 : decode cX8_weight 20 = .ok (.ifCond .eq 7, 3) := by decide +kernel
theorem dX8_weight_23 : decode cX8_weight 23 = .ok (.iconst 0, 1) := by decide +kernel
theorem dX8_weight_24 : decode cX8_weight 24 = .ok (.goto 4, 3) := by decide +kernel
theorem dX8_weight_27 : decode cX8_weight 27 = .ok (.iconst 2, 1) := by decide +kernel
theorem dX8_weight_28 : decode cX8_weight 28 = .ok (.invokevirtual 151, 3) := by decide +kernel
theorem dX8_weight_31 : decode cX8_weight 31 = .ok (.ifCond .ne 5, 3) := by decide +kernel
theorem dX8_weight_34 : decode cX8_weight 34 = .ok (.iconst 0, 1) := by decide +kernel
theorem dX8_weight_35 : decode cX8_weight 35 = .ok (.ireturn, 1) := by decide +kernel
theorem dX8_weight_36 : decode cX8_weight 36 = .ok (.aload_n 0, 1) := by decide +kernel
theorem dX8_weight_37 : decode cX8_weight 37 = .ok (.getfield 21, 3) := by decide +kernel
theorem dX8_weight_40 : decode cX8_weight 40 = .ok (.iload_n 1, 1) := by decide +kernel
theorem dX8_weight_41 : decode cX8_weight 41 = .ok (.iaload, 1) := by decide +kernel
theorem dX8_weight_42 : decode cX8_weight 42 = .ok (.istore_n 3, 1) := by decide +kernel
theorem dX8_weight_43 : decode cX8_weight 43 = .ok (.aload_n 0, 1) := by decide +kernel
theorem dX8_weight_44 : decode cX8_weight 44 = .ok (.getfield 21, 3) := by decide +kernel
theorem dX8_weight_47 : decode cX8_weight 47 = .ok (.iload_n 1, 1) := by decide +kernel
theorem dX8_weight_48 : decode cX8_weight 48 = .ok (.iload_n 2, 1) := by decide +kernel
theorem dX8_weight_49 : decode cX8_weight 49 = .ok (.iastore, 1) := by decide +kernel
theorem dX8_weight_50 : decode cX8_weight 50 = .ok (.iload_n 3, 1) := by decide +kernel
theorem dX8_weight_51 : decode cX8_weight 51 = .ok (.ireturn, 1) := by decide +kernel
theorem dX8_word_0 : decode cX8_word 0 = .ok (.aload_n 0, 1) := by decide +kernel
theorem dX8_word_1 : decode cX8_word 1 = .ok (.iload_n 1, 1) := by decide +kernel
theorem dX8_word_2 : decode cX8_word 2 = .ok (.invokevirtual 154, 3) := by decide +kernel
theorem dX8_word_5 : decode cX8_word 5 = .ok (.ifCond .eq 15, 3) := by decide +kernel
theorem dX8_word_8 : decode cX8_word 8 = .ok (.aload_n 0, 1) := by decide +kernel
theorem dX8_word_9 : decode cX8_word 9 = .ok (.iload_n 2, 1) := by decide +kernel
theorem dX8_word_10 : decode cX8_word 10 = .ok (.invokevirtual 161, 3) := by decide +kernel
theorem dX8_word_13 : decode cX8_word 13 = .ok (.ifCond .eq 7, 3) := by decide +kernel
theorem dX8_word_16 : decode cX8_word 16 = .ok (.iconst 1, 1) := by decide +kernel
theorem dX8_word_17 : decode cX8_word 17 = .ok (.goto 4, 3) := by decide +kernel
theorem dX8_word_20 : decode cX8_word 20 = .ok (.iconst 0, 1) := by decide +kernel
theorem dX8_word_21 : decode cX8_word 21 = .ok (.istore 4, 2) := by decide +kernel
theorem dX8_word_23 : decode cX8_word 23 = .ok (.aload_n 0, 1) := by decide +kernel
theorem dX8_word_24 : decode cX8_word 24 = .ok (.iload 4, 2) := by decide +kernel
theorem dX8_word_26 : decode cX8_word 26 = .ok (.ifCond .ne 7, 3) := by decide +kernel
theorem dX8_word_29 : decode cX8_word 29 = .ok (.iconst 1, 1) := by decide +kernel
theorem dX8_word_30 : decode cX8_word 30 = .ok (.goto 19, 3) := by decide +kernel
theorem dX8_word_33 : decode cX8_word 33 = .ok (.aload_n 0, 1) := by decide +kernel
theorem dX8_word_34 : decode cX8_word 34 = .ok (.getfield 51, 3) := by decide +kernel
theorem dX8_word_37 : decode cX8_word 37 = .ok (.iload_n 2, 1) := by decide +kernel
theorem dX8_word_38 : decode cX8_word 38 = .ok (.iaload, 1) := by decide +kernel
theorem dX8_word_39 : decode cX8_word 39 = .ok (.bipush 50, 2) := by decide +kernel
theorem dX8_word_41 : decode cX8_word 41 = .ok (.if_icmp .ne 7, 3) := by decide +kernel
theorem dX8_word_44 : decode cX8_word 44 = .ok (.iconst 2, 1) := by decide +kernel
theorem dX8_word_45 : decode cX8_word 45 = .ok (.goto 4, 3) := by decide +kernel
theorem dX8_word_48 : decode cX8_word 48 = .ok (.iconst 0, 1) := by decide +kernel
theorem dX8_word_49 : decode cX8_word 49 = .ok (.invokevirtual 151, 3) := by decide +kernel
theorem dX8_word_52 : decode cX8_word 52 = .ok (.ifCond .ne 5, 3) := by decide +kernel
theorem dX8_word_55 : decode cX8_word 55 = .ok (.iconst 0, 1) := by decide +kernel
theorem dX8_word_56 : decode cX8_word 56 = .ok (.ireturn, 1) := by decide +kernel
theorem dX8_word_57 : decode cX8_word 57 = .ok (.bipush 50, 2) := by decide +kernel
theorem dX8_word_59 : decode cX8_word 59 = .ok (.iload_n 2, 1) := by decide +kernel
theorem dX8_word_60 : decode cX8_word 60 = .ok (.imul, 1) := by decide +kernel
theorem dX8_word_61 : decode cX8_word 61 = .ok (.aload_n 0, 1) := by decide +kernel
theorem dX8_word_62 : decode cX8_word 62 = .ok (.getfield 51, 3) := by decide +kernel
theorem dX8_word_65 : decode cX8_word 65 = .ok (.iload_n 2, 1) := by decide +kernel
theorem dX8_word_66 : decode cX8_word 66 = .ok (.iaload, 1) := by decide +kernel
theorem dX8_word_67 : decode cX8_word 67 = .ok (.iadd, 1) := by decide +kernel
theorem dX8_word_68 : decode cX8_word 68 = .ok (.istore 5, 2) := by decide +kernel
theorem dX8_word_70 : decode cX8_word 70 = .ok (.aload_n 0, 1) := by decide +kernel
theorem dX8_word_71 : decode cX8_word 71 = .ok (.getfield 54, 3) := by decide +kernel
theorem dX8_word_74 : decode cX8_word 74 = .ok (.iload 5, 2) := by decide +kernel
theorem dX8_word_76 : decode cX8_word 76 = .ok (.iload_n 1, 1) := by decide +kernel
theorem dX8_word_77 : decode cX8_word 77 = .ok (.iastore, 1) := by decide +kernel
theorem dX8_word_78 : decode cX8_word 78 = .ok (.aload_n 0, 1) := by decide +kernel
theorem dX8_word_79 : decode cX8_word 79 = .ok (.getfield 57, 3) := by decide +kernel
theorem dX8_word_82 : decode cX8_word 82 = .ok (.iload 5, 2) := by decide +kernel
theorem dX8_word_84 : decode cX8_word 84 = .ok (.aload_n 0, 1) := by decide +kernel
theorem dX8_word_85 : decode cX8_word 85 = .ok (.getfield 164, 3) := by decide +kernel
theorem dX8_word_88 : decode cX8_word 88 = .ok (.iastore, 1) := by decide +kernel
theorem dX8_word_89 : decode cX8_word 89 = .ok (.aload_n 0, 1) := by decide +kernel
theorem dX8_word_90 : decode cX8_word 90 = .ok (.getfield 60, 3) := by decide +kernel
theorem dX8_word_93 : decode cX8_word 93 = .ok (.iload 5, 2) := by decide +kernel
theorem dX8_word_95 : decode cX8_word 95 = .ok (.iload_n 3, 1) := by decide +kernel
theorem dX8_word_96 : decode cX8_word 96 = .ok (.bastore, 1) := by decide +kernel
theorem dX8_word_97 : decode cX8_word 97 = .ok (.aload_n 0, 1) := by decide +kernel
theorem dX8_word_98 : decode cX8_word 98 = .ok (.getfield 51, 3) := by decide +kernel
theorem dX8_word_101 : decode cX8_word 101 = .ok (.iload_n 2, 1) := by decide +kernel
theorem dX8_word_102 : decode cX8_word 102 = .ok (.dup2, 1) := by decide +kernel
theorem dX8_word_103 : decode cX8_word 103 = .ok (.iaload, 1) := by decide +kernel
theorem dX8_word_104 : decode cX8_word 104 = .ok (.iconst 1, 1) := by decide +kernel
theorem dX8_word_105 : decode cX8_word 105 = .ok (.iadd, 1) := by decide +kernel
theorem dX8_word_106 : decode cX8_word 106 = .ok (.iastore, 1) := by decide +kernel
theorem dX8_word_107 : decode cX8_word 107 = .ok (.aload_n 0, 1) := by decide +kernel
theorem dX8_word_108 : decode cX8_word 108 = .ok (.getfield 51, 3) := by decide +kernel
theorem dX8_word_111 : decode cX8_word 111 = .ok (.iload_n 2, 1) := by decide +kernel
theorem dX8_word_112 : decode cX8_word 112 = .ok (.iaload, 1) := by decide +kernel
theorem dX8_word_113 : decode cX8_word 113 = .ok (.ireturn, 1) := by decide +kernel
theorem dX8_paper_0 : decode cX8_paper 0 = .ok (.iload_n 2, 1) := by decide +kernel
theorem dX8_paper_1 : decode cX8_paper 1 = .ok (.sipush 1900, 3) := by decide +kernel
theorem dX8_paper_4 : decode cX8_paper 4 = .ok (.sipush 2000, 3) := by decide +kernel
theorem dX8_paper_7 : decode cX8_paper 7 = .ok (.invokestatic 133, 3) := by decide +kernel
theorem dX8_paper_10 : decode cX8_paper 10 = .ok (.ifCond .eq 18, 3) := by decide +kernel
theorem dX8_paper_13 : decode cX8_paper 13 = .ok (.iload_n 3, 1) := by decide +kernel
theorem dX8_paper_14 : decode cX8_paper 14 = .ok (.iload_n 2, 1) := by decide +kernel
theorem dX8_paper_15 : decode cX8_paper 15 = .ok (.sipush 2000, 3) := by decide +kernel
theorem dX8_paper_18 : decode cX8_paper 18 = .ok (.invokestatic 133, 3) := by decide +kernel
theorem dX8_paper_21 : decode cX8_paper 21 = .ok (.ifCond .eq 7, 3) := by decide +kernel
theorem dX8_paper_24 : decode cX8_paper 24 = .ok (.iconst 1, 1) := by decide +kernel
theorem dX8_paper_25 : decode cX8_paper 25 = .ok (.goto 4, 3) := by decide +kernel
theorem dX8_paper_28 : decode cX8_paper 28 = .ok (.iconst 0, 1) := by decide +kernel
theorem dX8_paper_29 : decode cX8_paper 29 = .ok (.istore 4, 2) := by decide +kernel
theorem dX8_paper_31 : decode cX8_paper 31 = .ok (.aload_n 0, 1) := by decide +kernel
theorem dX8_paper_32 : decode cX8_paper 32 = .ok (.aload_n 0, 1) := by decide +kernel
theorem dX8_paper_33 : decode cX8_paper 33 = .ok (.iload_n 1, 1) := by decide +kernel
theorem dX8_paper_34 : decode cX8_paper 34 = .ok (.invokevirtual 161, 3) := by decide +kernel
theorem dX8_paper_37 : decode cX8_paper 37 = .ok (.ifCond .ne 7, 3) := by decide +kernel
theorem dX8_paper_40 : decode cX8_paper 40 = .ok (.iconst 1, 1) := by decide +kernel
theorem dX8_paper_41 : decode cX8_paper 41 = .ok (.goto 13, 3) := by decide +kernel
theorem dX8_paper_44 : decode cX8_paper 44 = .ok (.iload 4, 2) := by decide +kernel
theorem dX8_paper_46 : decode cX8_paper 46 = .ok (.ifCond .eq 7, 3) := by decide +kernel
theorem dX8_paper_49 : decode cX8_paper 49 = .ok (.iconst 0, 1) := by decide +kernel
theorem dX8_paper_50 : decode cX8_paper 50 = .ok (.goto 4, 3) := by decide +kernel
theorem dX8_paper_53 : decode cX8_paper 53 = .ok (.iconst 2, 1) := by decide +kernel
theorem dX8_paper_54 : decode cX8_paper 54 = .ok (.invokevirtual 151, 3) := by decide +kernel
theorem dX8_paper_57 : decode cX8_paper 57 = .ok (.istore 5, 2) := by decide +kernel
theorem dX8_paper_59 : decode cX8_paper 59 = .ok (.iload_n 2, 1) := by decide +kernel
theorem dX8_paper_60 : decode cX8_paper 60 = .ok (.istore 6, 2) := by decide +kernel
theorem dX8_paper_62 : decode cX8_paper 62 = .ok (.iload 5, 2) := by decide +kernel
theorem dX8_paper_64 : decode cX8_paper 64 = .ok (.ifCond .eq 32, 3) := by decide +kernel
theorem dX8_paper_67 : decode cX8_paper 67 = .ok (.iload 6, 2) := by decide +kernel
theorem dX8_paper_69 : decode cX8_paper 69 = .ok (.iload_n 3, 1) := by decide +kernel
theorem dX8_paper_70 : decode cX8_paper 70 = .ok (.if_icmp .gt 26, 3) := by decide +kernel
theorem dX8_paper_73 : decode cX8_paper 73 = .ok (.aload_n 0, 1) := by decide +kernel
theorem dX8_paper_74 : decode cX8_paper 74 = .ok (.getfield 48, 3) := by decide +kernel
theorem dX8_paper_77 : decode cX8_paper 77 = .ok (.bipush 101, 2) := by decide +kernel
theorem dX8_paper_79 : decode cX8_paper 79 = .ok (.iload_n 1, 1) := by decide +kernel
theorem dX8_paper_80 : decode cX8_paper 80 = .ok (.imul, 1) := by decide +kernel
theorem dX8_paper_81 : decode cX8_paper 81 = .ok (.iload 6, 2) := by decide +kernel
theorem dX8_paper_83 : decode cX8_paper 83 = .ok (.iadd, 1) := by decide +kernel
theorem dX8_paper_84 : decode cX8_paper 84 = .ok (.sipush 1900, 3) := by decide +kernel
theorem dX8_paper_87 : decode cX8_paper 87 = .ok (.isub, 1) := by decide +kernel
theorem dX8_paper_88 : decode cX8_paper 88 = .ok (.iconst 1, 1) := by decide +kernel
theorem dX8_paper_89 : decode cX8_paper 89 = .ok (.bastore, 1) := by decide +kernel
theorem dX8_paper_90 : decode cX8_paper 90 = .ok (.iinc 6 1, 3) := by decide +kernel
theorem dX8_paper_93 : decode cX8_paper 93 = .ok (.goto (-31), 3) := by decide +kernel
theorem dX8_paper_96 : decode cX8_paper 96 = .ok (.return_, 1) := by decide +kernel
theorem dX8_right_0 : decode cX8_right 0 = .ok (.aload_n 0, 1) := by decide +kernel
theorem dX8_right_1 : decode cX8_right 1 = .ok (.iload_n 1, 1) := by decide +kernel
theorem dX8_right_2 : decode cX8_right 2 = .ok (.invokestatic 146, 3) := by decide +kernel
theorem dX8_right_5 : decode cX8_right 5 = .ok (.ifCond .ne 7, 3) := by decide +kernel
theorem dX8_right_8 : decode cX8_right 8 = .ok (.iconst 1, 1) := by decide +kernel
theorem dX8_right_9 : decode cX8_right 9 = .ok (.goto 18, 3) := by decide +kernel
theorem dX8_right_12 : decode cX8_right 12 = .ok (.iload_n 2, 1) := by decide +kernel
theorem dX8_right_13 : decode cX8_right 13 = .ok (.iconst 0, 1) := by decide +kernel
theorem dX8_right_14 : decode cX8_right 14 = .ok (.bipush 20, 2) := by decide +kernel
theorem dX8_right_16 : decode cX8_right 16 = .ok (.invokestatic 133, 3) := by decide +kernel
theorem dX8_right_19 : decode cX8_right 19 = .ok (.ifCond .eq 7, 3) := by decide +kernel
theorem dX8_right_22 : decode cX8_right 22 = .ok (.iconst 0, 1) := by decide +kernel
theorem dX8_right_23 : decode cX8_right 23 = .ok (.goto 4, 3) := by decide +kernel
theorem dX8_right_26 : decode cX8_right 26 = .ok (.iconst 2, 1) := by decide +kernel
theorem dX8_right_27 : decode cX8_right 27 = .ok (.invokevirtual 151, 3) := by decide +kernel
theorem dX8_right_30 : decode cX8_right 30 = .ok (.ifCond .ne 5, 3) := by decide +kernel
theorem dX8_right_33 : decode cX8_right 33 = .ok (.iconst 0, 1) := by decide +kernel
theorem dX8_right_34 : decode cX8_right 34 = .ok (.ireturn, 1) := by decide +kernel
theorem dX8_right_35 : decode cX8_right 35 = .ok (.aload_n 0, 1) := by decide +kernel
theorem dX8_right_36 : decode cX8_right 36 = .ok (.getfield 27, 3) := by decide +kernel
theorem dX8_right_39 : decode cX8_right 39 = .ok (.iload_n 1, 1) := by decide +kernel
theorem dX8_right_40 : decode cX8_right 40 = .ok (.iaload, 1) := by decide +kernel
theorem dX8_right_41 : decode cX8_right 41 = .ok (.istore_n 3, 1) := by decide +kernel
theorem dX8_right_42 : decode cX8_right 42 = .ok (.aload_n 0, 1) := by decide +kernel
theorem dX8_right_43 : decode cX8_right 43 = .ok (.getfield 27, 3) := by decide +kernel
theorem dX8_right_46 : decode cX8_right 46 = .ok (.iload_n 1, 1) := by decide +kernel
theorem dX8_right_47 : decode cX8_right 47 = .ok (.iload_n 2, 1) := by decide +kernel
theorem dX8_right_48 : decode cX8_right 48 = .ok (.iastore, 1) := by decide +kernel
theorem dX8_right_49 : decode cX8_right 49 = .ok (.iload_n 3, 1) := by decide +kernel
theorem dX8_right_50 : decode cX8_right 50 = .ok (.ireturn, 1) := by decide +kernel
theorem dX8_leftOf_0 : decode cX8_leftOf 0 = .ok (.aload_n 0, 1) := by decide +kernel
theorem dX8_leftOf_1 : decode cX8_leftOf 1 = .ok (.getfield 42, 3) := by decide +kernel
theorem dX8_leftOf_4 : decode cX8_leftOf 4 = .ok (.iload_n 1, 1) := by decide +kernel
theorem dX8_leftOf_5 : decode cX8_leftOf 5 = .ok (.iaload, 1) := by decide +kernel
theorem dX8_leftOf_6 : decode cX8_leftOf 6 = .ok (.aload_n 0, 1) := by decide +kernel
theorem dX8_leftOf_7 : decode cX8_leftOf 7 = .ok (.getfield 164, 3) := by decide +kernel
theorem dX8_leftOf_10 : decode cX8_leftOf 10 = .ok (.if_icmp .le 17, 3) := by decide +kernel
theorem dX8_leftOf_13 : decode cX8_leftOf 13 = .ok (.aload_n 0, 1) := by decide +kernel
theorem dX8_leftOf_14 : decode cX8_leftOf 14 = .ok (.getfield 42, 3) := by decide +kernel
theorem dX8_leftOf_17 : decode cX8_leftOf 17 = .ok (.iload_n 1, 1) := by decide +kernel
theorem dX8_leftOf_18 : decode cX8_leftOf 18 = .ok (.iaload, 1) := by decide +kernel
theorem dX8_leftOf_19 : decode cX8_leftOf 19 = .ok (.aload_n 0, 1) := by decide +kernel
theorem dX8_leftOf_20 : decode cX8_leftOf 20 = .ok (.getfield 164, 3) := by decide +kernel
theorem dX8_leftOf_23 : decode cX8_leftOf 23 = .ok (.isub, 1) := by decide +kernel
theorem dX8_leftOf_24 : decode cX8_leftOf 24 = .ok (.goto 4, 3) := by decide +kernel
theorem dX8_leftOf_27 : decode cX8_leftOf 27 = .ok (.iconst 0, 1) := by decide +kernel
theorem dX8_leftOf_28 : decode cX8_leftOf 28 = .ok (.ireturn, 1) := by decide +kernel
theorem dX8_bar_0 : decode cX8_bar 0 = .ok (.aload_n 0, 1) := by decide +kernel
theorem dX8_bar_1 : decode cX8_bar 1 = .ok (.aload_n 0, 1) := by decide +kernel
theorem dX8_bar_2 : decode cX8_bar 2 = .ok (.iload_n 1, 1) := by decide +kernel
theorem dX8_bar_3 : decode cX8_bar 3 = .ok (.invokevirtual 161, 3) := by decide +kernel
theorem dX8_bar_6 : decode cX8_bar 6 = .ok (.ifCond .ne 7, 3) := by decide +kernel
theorem dX8_bar_9 : decode cX8_bar 9 = .ok (.iconst 1, 1) := by decide +kernel
theorem dX8_bar_10 : decode cX8_bar 10 = .ok (.goto 19, 3) := by decide +kernel
theorem dX8_bar_13 : decode cX8_bar 13 = .ok (.iload_n 2, 1) := by decide +kernel
theorem dX8_bar_14 : decode cX8_bar 14 = .ok (.iconst 0, 1) := by decide +kernel
theorem dX8_bar_15 : decode cX8_bar 15 = .ok (.sipush 1000, 3) := by decide +kernel
theorem dX8_bar_18 : decode cX8_bar 18 = .ok (.invokestatic 133, 3) := by decide +kernel
theorem dX8_bar_21 : decode cX8_bar 21 = .ok (.ifCond .eq 7, 3) := by decide +kernel
theorem dX8_bar_24 : decode cX8_bar 24 = .ok (.iconst 0, 1) := by decide +kernel
theorem dX8_bar_25 : decode cX8_bar 25 = .ok (.goto 4, 3) := by decide +kernel
theorem dX8_bar_28 : decode cX8_bar 28 = .ok (.iconst 2, 1) := by decide +kernel
theorem dX8_bar_29 : decode cX8_bar 29 = .ok (.invokevirtual 151, 3) := by decide +kernel
theorem dX8_bar_32 : decode cX8_bar 32 = .ok (.ifCond .ne 5, 3) := by decide +kernel
theorem dX8_bar_35 : decode cX8_bar 35 = .ok (.iconst 0, 1) := by decide +kernel
theorem dX8_bar_36 : decode cX8_bar 36 = .ok (.ireturn, 1) := by decide +kernel
theorem dX8_bar_37 : decode cX8_bar 37 = .ok (.aload_n 0, 1) := by decide +kernel
theorem dX8_bar_38 : decode cX8_bar 38 = .ok (.iload_n 1, 1) := by decide +kernel
theorem dX8_bar_39 : decode cX8_bar 39 = .ok (.invokevirtual 167, 3) := by decide +kernel
theorem dX8_bar_42 : decode cX8_bar 42 = .ok (.istore_n 3, 1) := by decide +kernel
theorem dX8_bar_43 : decode cX8_bar 43 = .ok (.aload_n 0, 1) := by decide +kernel
theorem dX8_bar_44 : decode cX8_bar 44 = .ok (.getfield 42, 3) := by decide +kernel
theorem dX8_bar_47 : decode cX8_bar 47 = .ok (.iload_n 1, 1) := by decide +kernel
theorem dX8_bar_48 : decode cX8_bar 48 = .ok (.aload_n 0, 1) := by decide +kernel
theorem dX8_bar_49 : decode cX8_bar 49 = .ok (.getfield 164, 3) := by decide +kernel
theorem dX8_bar_52 : decode cX8_bar 52 = .ok (.iload_n 2, 1) := by decide +kernel
theorem dX8_bar_53 : decode cX8_bar 53 = .ok (.iadd, 1) := by decide +kernel
theorem dX8_bar_54 : decode cX8_bar 54 = .ok (.iastore, 1) := by decide +kernel
theorem dX8_bar_55 : decode cX8_bar 55 = .ok (.iload_n 3, 1) := by decide +kernel
theorem dX8_bar_56 : decode cX8_bar 56 = .ok (.ireturn, 1) := by decide +kernel
theorem dX8_seal_0 : decode cX8_seal 0 = .ok (.aload_n 0, 1) := by decide +kernel
theorem dX8_seal_1 : decode cX8_seal 1 = .ok (.iload_n 1, 1) := by decide +kernel
theorem dX8_seal_2 : decode cX8_seal 2 = .ok (.invokevirtual 161, 3) := by decide +kernel
theorem dX8_seal_5 : decode cX8_seal 5 = .ok (.istore_n 3, 1) := by decide +kernel
theorem dX8_seal_6 : decode cX8_seal 6 = .ok (.aload_n 0, 1) := by decide +kernel
theorem dX8_seal_7 : decode cX8_seal 7 = .ok (.iload_n 3, 1) := by decide +kernel
theorem dX8_seal_8 : decode cX8_seal 8 = .ok (.ifCond .ne 7, 3) := by decide +kernel
theorem dX8_seal_11 : decode cX8_seal 11 = .ok (.iconst 1, 1) := by decide +kernel
theorem dX8_seal_12 : decode cX8_seal 12 = .ok (.goto 21, 3) := by decide +kernel
theorem dX8_seal_15 : decode cX8_seal 15 = .ok (.iload_n 2, 1) := by decide +kernel
theorem dX8_seal_16 : decode cX8_seal 16 = .ok (.ifCond .eq 16, 3) := by decide +kernel
theorem dX8_seal_19 : decode cX8_seal 19 = .ok (.aload_n 0, 1) := by decide +kernel
theorem dX8_seal_20 : decode cX8_seal 20 = .ok (.getfield 36, 3) := by decide +kernel
theorem dX8_seal_23 : decode cX8_seal 23 = .ok (.iload_n 1, 1) := by decide +kernel
theorem dX8_seal_24 : decode cX8_seal 24 = .ok (.iaload, 1) := by decide +kernel
theorem dX8_seal_25 : decode cX8_seal 25 = .ok (.ifCond .eq 7, 3) := by decide +kernel
theorem dX8_seal_28 : decode cX8_seal 28 = .ok (.iconst 2, 1) := by decide +kernel
theorem dX8_seal_29 : decode cX8_seal 29 = .ok (.goto 4, 3) := by decide +kernel
theorem dX8_seal_32 : decode cX8_seal 32 = .ok (.iconst 0, 1) := by decide +kernel
theorem dX8_seal_33 : decode cX8_seal 33 = .ok (.invokevirtual 151, 3) := by decide +kernel
theorem dX8_seal_36 : decode cX8_seal 36 = .ok (.ifCond .ne 5, 3) := by decide +kernel
theorem dX8_seal_39 : decode cX8_seal 39 = .ok (.iconst 0, 1) := by decide +kernel
theorem dX8_seal_40 : decode cX8_seal 40 = .ok (.ireturn, 1) := by decide +kernel
theorem dX8_seal_41 : decode cX8_seal 41 = .ok (.aload_n 0, 1) := by decide +kernel
theorem dX8_seal_42 : decode cX8_seal 42 = .ok (.getfield 39, 3) := by decide +kernel
theorem dX8_seal_45 : decode cX8_seal 45 = .ok (.iload_n 1, 1) := by decide +kernel
theorem dX8_seal_46 : decode cX8_seal 46 = .ok (.baload, 1) := by decide +kernel
theorem dX8_seal_47 : decode cX8_seal 47 = .ok (.istore 4, 2) := by decide +kernel
theorem dX8_seal_49 : decode cX8_seal 49 = .ok (.aload_n 0, 1) := by decide +kernel
theorem dX8_seal_50 : decode cX8_seal 50 = .ok (.getfield 39, 3) := by decide +kernel
theorem dX8_seal_53 : decode cX8_seal 53 = .ok (.iload_n 1, 1) := by decide +kernel
theorem dX8_seal_54 : decode cX8_seal 54 = .ok (.iload_n 2, 1) := by decide +kernel
theorem dX8_seal_55 : decode cX8_seal 55 = .ok (.bastore, 1) := by decide +kernel
theorem dX8_seal_56 : decode cX8_seal 56 = .ok (.iload 4, 2) := by decide +kernel
theorem dX8_seal_58 : decode cX8_seal 58 = .ok (.ireturn, 1) := by decide +kernel
theorem dX8_bring_0 : decode cX8_bring 0 = .ok (.aload_n 0, 1) := by decide +kernel
theorem dX8_bring_1 : decode cX8_bring 1 = .ok (.iload_n 1, 1) := by decide +kernel
theorem dX8_bring_2 : decode cX8_bring 2 = .ok (.invokevirtual 161, 3) := by decide +kernel
theorem dX8_bring_5 : decode cX8_bring 5 = .ok (.ifCond .eq 14, 3) := by decide +kernel
theorem dX8_bring_8 : decode cX8_bring 8 = .ok (.iload_n 2, 1) := by decide +kernel
theorem dX8_bring_9 : decode cX8_bring 9 = .ok (.invokestatic 146, 3) := by decide +kernel
theorem dX8_bring_12 : decode cX8_bring 12 = .ok (.ifCond .eq 7, 3) := by decide +kernel
theorem dX8_bring_15 : decode cX8_bring 15 = .ok (.iconst 1, 1) := by decide +kernel
theorem dX8_bring_16 : decode cX8_bring 16 = .ok (.goto 4, 3) := by decide +kernel
theorem dX8_bring_19 : decode cX8_bring 19 = .ok (.iconst 0, 1) := by decide +kernel
theorem dX8_bring_20 : decode cX8_bring 20 = .ok (.istore_n 3, 1) := by decide +kernel
theorem dX8_bring_21 : decode cX8_bring 21 = .ok (.aload_n 0, 1) := by decide +kernel
theorem dX8_bring_22 : decode cX8_bring 22 = .ok (.iload_n 3, 1) := by decide +kernel
theorem dX8_bring_23 : decode cX8_bring 23 = .ok (.ifCond .ne 7, 3) := by decide +kernel
theorem dX8_bring_26 : decode cX8_bring 26 = .ok (.iconst 1, 1) := by decide +kernel
theorem dX8_bring_27 : decode cX8_bring 27 = .ok (.goto 35, 3) := by decide +kernel
theorem dX8_bring_30 : decode cX8_bring 30 = .ok (.aload_n 0, 1) := by decide +kernel
theorem dX8_bring_31 : decode cX8_bring 31 = .ok (.getfield 36, 3) := by decide +kernel
theorem dX8_bring_34 : decode cX8_bring 34 = .ok (.iload_n 1, 1) := by decide +kernel
theorem dX8_bring_35 : decode cX8_bring 35 = .ok (.iaload, 1) := by decide +kernel
theorem dX8_bring_36 : decode cX8_bring 36 = .ok (.iload_n 2, 1) := by decide +kernel
theorem dX8_bring_37 : decode cX8_bring 37 = .ok (.if_icmp .eq 24, 3) := by decide +kernel
theorem dX8_bring_40 : decode cX8_bring 40 = .ok (.aload_n 0, 1) := by decide +kernel
theorem dX8_bring_41 : decode cX8_bring 41 = .ok (.getfield 39, 3) := by decide +kernel
theorem dX8_bring_44 : decode cX8_bring 44 = .ok (.iload_n 1, 1) := by decide +kernel
theorem dX8_bring_45 : decode cX8_bring 45 = .ok (.baload, 1) := by decide +kernel
theorem dX8_bring_46 : decode cX8_bring 46 = .ok (.ifCond .ne 11, 3) := by decide +kernel
theorem dX8_bring_49 : decode cX8_bring 49 = .ok (.aload_n 0, 1) := by decide +kernel
theorem dX8_bring_50 : decode cX8_bring 50 = .ok (.iload_n 1, 1) := by decide +kernel
theorem dX8_bring_51 : decode cX8_bring 51 = .ok (.invokevirtual 167, 3) := by decide +kernel
theorem dX8_bring_54 : decode cX8_bring 54 = .ok (.ifCond .le 7, 3) := by decide +kernel
theorem dX8_bring_57 : decode cX8_bring 57 = .ok (.iconst 2, 1) := by decide +kernel
theorem dX8_bring_58 : decode cX8_bring 58 = .ok (.goto 4, 3) := by decide +kernel
theorem dX8_bring_61 : decode cX8_bring 61 = .ok (.iconst 0, 1) := by decide +kernel
theorem dX8_bring_62 : decode cX8_bring 62 = .ok (.invokevirtual 151, 3) := by decide +kernel
theorem dX8_bring_65 : decode cX8_bring 65 = .ok (.ifCond .ne 5, 3) := by decide +kernel
theorem dX8_bring_68 : decode cX8_bring 68 = .ok (.iconst 0, 1) := by decide +kernel
theorem dX8_bring_69 : decode cX8_bring 69 = .ok (.ireturn, 1) := by decide +kernel
theorem dX8_bring_70 : decode cX8_bring 70 = .ok (.aload_n 0, 1) := by decide +kernel
theorem dX8_bring_71 : decode cX8_bring 71 = .ok (.getfield 36, 3) := by decide +kernel
theorem dX8_bring_74 : decode cX8_bring 74 = .ok (.iload_n 1, 1) := by decide +kernel
theorem dX8_bring_75 : decode cX8_bring 75 = .ok (.iaload, 1) := by decide +kernel
theorem dX8_bring_76 : decode cX8_bring 76 = .ok (.istore 4, 2) := by decide +kernel
theorem dX8_bring_78 : decode cX8_bring 78 = .ok (.aload_n 0, 1) := by decide +kernel
theorem dX8_bring_79 : decode cX8_bring 79 = .ok (.getfield 36, 3) := by decide +kernel
theorem dX8_bring_82 : decode cX8_bring 82 = .ok (.iload_n 1, 1) := by decide +kernel
theorem dX8_bring_83 : decode cX8_bring 83 = .ok (.iload_n 2, 1) := by decide +kernel
theorem dX8_bring_84 : decode cX8_bring 84 = .ok (.iastore, 1) := by decide +kernel
theorem dX8_bring_85 : decode cX8_bring 85 = .ok (.iload 4, 2) := by decide +kernel
theorem dX8_bring_87 : decode cX8_bring 87 = .ok (.ireturn, 1) := by decide +kernel
theorem dX8_list_0 : decode cX8_list 0 = .ok (.aload_n 0, 1) := by decide +kernel
theorem dX8_list_1 : decode cX8_list 1 = .ok (.iload_n 1, 1) := by decide +kernel
theorem dX8_list_2 : decode cX8_list 2 = .ok (.invokevirtual 161, 3) := by decide +kernel
theorem dX8_list_5 : decode cX8_list 5 = .ok (.istore_n 2, 1) := by decide +kernel
theorem dX8_list_6 : decode cX8_list 6 = .ok (.aload_n 0, 1) := by decide +kernel
theorem dX8_list_7 : decode cX8_list 7 = .ok (.iload_n 2, 1) := by decide +kernel
theorem dX8_list_8 : decode cX8_list 8 = .ok (.ifCond .ne 7, 3) := by decide +kernel
theorem dX8_list_11 : decode cX8_list 11 = .ok (.iconst 1, 1) := by decide +kernel
theorem dX8_list_12 : decode cX8_list 12 = .ok (.goto 18, 3) := by decide +kernel
theorem dX8_list_15 : decode cX8_list 15 = .ok (.aload_n 0, 1) := by decide +kernel
theorem dX8_list_16 : decode cX8_list 16 = .ok (.getfield 45, 3) := by decide +kernel
theorem dX8_list_19 : decode cX8_list 19 = .ok (.iload_n 1, 1) := by decide +kernel
theorem dX8_list_20 : decode cX8_list 20 = .ok (.iaload, 1) := by decide +kernel
theorem dX8_list_21 : decode cX8_list 21 = .ok (.iconst (-1), 1) := by decide +kernel
theorem dX8_list_22 : decode cX8_list 22 = .ok (.if_icmp .eq 7, 3) := by decide +kernel
theorem dX8_list_25 : decode cX8_list 25 = .ok (.iconst 2, 1) := by decide +kernel
theorem dX8_list_26 : decode cX8_list 26 = .ok (.goto 4, 3) := by decide +kernel
theorem dX8_list_29 : decode cX8_list 29 = .ok (.iconst 0, 1) := by decide +kernel
theorem dX8_list_30 : decode cX8_list 30 = .ok (.invokevirtual 151, 3) := by decide +kernel
theorem dX8_list_33 : decode cX8_list 33 = .ok (.ifCond .eq 13, 3) := by decide +kernel
theorem dX8_list_36 : decode cX8_list 36 = .ok (.aload_n 0, 1) := by decide +kernel
theorem dX8_list_37 : decode cX8_list 37 = .ok (.getfield 45, 3) := by decide +kernel
theorem dX8_list_40 : decode cX8_list 40 = .ok (.iload_n 1, 1) := by decide +kernel
theorem dX8_list_41 : decode cX8_list 41 = .ok (.aload_n 0, 1) := by decide +kernel
theorem dX8_list_42 : decode cX8_list 42 = .ok (.getfield 164, 3) := by decide +kernel
theorem dX8_list_45 : decode cX8_list 45 = .ok (.iastore, 1) := by decide +kernel
theorem dX8_list_46 : decode cX8_list 46 = .ok (.return_, 1) := by decide +kernel

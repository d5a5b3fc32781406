theorem dX6_simulate_132 : decode cX6_simulate 132 = .ok (.iload 6, 2) := by decide +kernel
theorem dX6_simulate_134 : decode cX6_simulate 134 = .ok (.imul, 1) := by decide +kernel
theorem dX6_simulate_135 : decode cX6_simulate 135 = .ok (.bipush 100, 2) := by decide +kernel
theorem dX6_simulate_137 : decode cX6_simulate 137 = .ok (.iload 7, 2) := by decide +kernel
theorem dX6_simulate_139 : decode cX6_simulate 139 = .ok (.imul, 1) := by decide +kernel
theorem dX6_simulate_140 : decode cX6_simulate 140 = .ok (.iadd, 1) := by decide +kernel
theorem dX6_simulate_141 : decode cX6_simulate 141 = .ok (.iload 8, 2) := by decide +kernel
theorem dX6_simulate_143 : decode cX6_simulate 143 = .ok (.iadd, 1) := by decide +kernel
theorem dX6_simulate_144 : decode cX6_simulate 144 = .ok (.ireturn, 1) := by decide +kernel
theorem dX6_save_0 : decode cX6_save 0 = .ok (.iload_n 1, 1) := by decide +kernel
theorem dX6_save_1 : decode cX6_save 1 = .ok (.invokestatic 324, 3) := by decide +kernel
theorem dX6_save_4 : decode cX6_save 4 = .ok (.aload_n 0, 1) := by decide +kernel
theorem dX6_save_5 : decode cX6_save 5 = .ok (.getfield 36, 3) := by decide +kernel
theorem dX6_save_8 : decode cX6_save 8 = .ok (.iload_n 1, 1) := by decide +kernel
theorem dX6_save_9 : decode cX6_save 9 = .ok (.aaload, 1) := by decide +kernel
theorem dX6_save_10 : decode cX6_save 10 = .ok (.aload_n 0, 1) := by decide +kernel
theorem dX6_save_11 : decode cX6_save 11 = .ok (.getfield 19, 3) := by decide +kernel
theorem dX6_save_14 : decode cX6_save 14 = .ok (.invokevirtual 70, 3) := by decide +kernel
theorem dX6_save_17 : decode cX6_save 17 = .ok (.aload_n 0, 1) := by decide +kernel
theorem dX6_save_18 : decode cX6_save 18 = .ok (.getfield 40, 3) := by decide +kernel
theorem dX6_save_21 : decode cX6_save 21 = .ok (.iload_n 1, 1) := by decide +kernel
theorem dX6_save_22 : decode cX6_save 22 = .ok (.iconst 1, 1) := by decide +kernel
theorem dX6_save_23 : decode cX6_save 23 = .ok (.bastore, 1) := by decide +kernel
theorem dX6_save_24 : decode cX6_save 24 = .ok (.aload_n 0, 1) := by decide +kernel
theorem dX6_save_25 : decode cX6_save 25 = .ok (.getfield 19, 3) := by decide +kernel
theorem dX6_save_28 : decode cX6_save 28 = .ok (.getfield 95, 3) := by decide +kernel
theorem dX6_save_31 : decode cX6_save 31 = .ok (.ireturn, 1) := by decide +kernel
theorem dX6_restore_0 : decode cX6_restore 0 = .ok (.iload_n 1, 1) := by decide +kernel
theorem dX6_restore_1 : decode cX6_restore 1 = .ok (.invokestatic 324, 3) := by decide +kernel
theorem dX6_restore_4 : decode cX6_restore 4 = .ok (.aload_n 0, 1) := by decide +kernel
theorem dX6_restore_5 : decode cX6_restore 5 = .ok (.getfield 40, 3) := by decide +kernel
theorem dX6_restore_8 : decode cX6_restore 8 = .ok (.iload_n 1, 1) := by decide +kernel
theorem dX6_restore_9 : decode cX6_restore 9 = .ok (.baload, 1) := by decide +kernel
theorem dX6_restore_10 : decode cX6_restore 10 = .ok (.ifCond .ne 14, 3) := by decide +kernel
theorem dX6_restore_13 : decode cX6_restore 13 = .ok (.new 55, 3) := by decide +kernel
theorem dX6_restore_16 : decode cX6_restore 16 = .ok (.dup, 1) := by decide +kernel
theorem dX6_restore_17 : decode cX6_restore 17 = .ok (.ldc_w 327, 3) := by decide +kernel
theorem dX6_restore_20 : decode cX6_restore 20 = .ok (.invokespecial 59, 3) := by decide +kernel
theorem dX6_restore_23 : decode cX6_restore 23 = .ok (.athrow, 1) := by decide +kernel
theorem dX6_restore_24 : decode cX6_restore 24 = .ok (.aload_n 0, 1) := by decide +kernel
theorem dX6_restore_25 : decode cX6_restore 25 = .ok (.getfield 19, 3) := by decide +kernel
theorem dX6_restore_28 : decode cX6_restore 28 = .ok (.aload_n 0, 1) := by decide +kernel
theorem dX6_restore_29 : decode cX6_restore 29 = .ok (.getfield 36, 3) := by decide +kernel
theorem dX6_restore_32 : decode cX6_restore 32 = .ok (.iload_n 1, 1) := by decide +kernel
theorem dX6_restore_33 : decode cX6_restore 33 = .ok (.aaload, 1) := by decide +kernel
theorem dX6_restore_34 : decode cX6_restore 34 = .ok (.invokevirtual 70, 3) := by decide +kernel
theorem dX6_restore_37 : decode cX6_restore 37 = .ok (.aload_n 0, 1) := by decide +kernel
theorem dX6_restore_38 : decode cX6_restore 38 = .ok (.getfield 32, 3) := by decide +kernel
theorem dX6_restore_41 : decode cX6_restore 41 = .ok (.iconst 0, 1) := by decide +kernel
theorem dX6_restore_42 : decode cX6_restore 42 = .ok (.putfield 74, 3) := by decide +kernel
theorem dX6_restore_45 : decode cX6_restore 45 = .ok (.aload_n 0, 1) := by decide +kernel
theorem dX6_restore_46 : decode cX6_restore 46 = .ok (.getfield 19, 3) := by decide +kernel
theorem dX6_restore_49 : decode cX6_restore 49 = .ok (.getfield 95, 3) := by decide +kernel
theorem dX6_restore_52 : decode cX6_restore 52 = .ok (.ireturn, 1) := by decide +kernel
theorem dX6_checkMember_0 : decode cX6_checkMember 0 = .ok (.aload_n 0, 1) := by decide +kernel
theorem dX6_checkMember_1 : decode cX6_checkMember 1 = .ok (.getfield 19, 3) := by decide +kernel
theorem dX6_checkMember_4 : decode cX6_checkMember 4 = .ok (.iload_n 1, 1) := by decide +kernel
theorem dX6_checkMember_5 : decode cX6_checkMember 5 = .ok (.invokevirtual 329, 3) := by decide +kernel
theorem dX6_checkMember_8 : decode cX6_checkMember 8 = .ok (.ifCond .ne 14, 3) := by decide +kernel
theorem dX6_checkMember_11 : decode cX6_checkMember 11 = .ok (.new 174, 3) := by decide +kernel
theorem dX6_checkMember_14 : decode cX6_checkMember 14 = .ok (.dup, 1) := by decide +kernel
theorem dX6_checkMember_15 : decode cX6_checkMember 15 = .ok (.ldc_w 332, 3) := by decide +kernel
theorem dX6_checkMember_18 : decode cX6_checkMember 18 = .ok (.invokespecial 178, 3) := by decide +kernel
theorem dX6_checkMember_21 : decode cX6_checkMember 21 = .ok (.athrow, 1) := by decide +kernel
theorem dX6_checkMember_22 : decode cX6_checkMember 22 = .ok (.return_, 1) := by decide +kernel
theorem dX6_checkSlot_0 : decode cX6_checkSlot 0 = .ok (.iload_n 0, 1) := by decide +kernel
theorem dX6_checkSlot_1 : decode cX6_checkSlot 1 = .ok (.ifCond .lt 8, 3) := by decide +kernel
theorem dX6_checkSlot_4 : decode cX6_checkSlot 4 = .ok (.iload_n 0, 1) := by decide +kernel
theorem dX6_checkSlot_5 : decode cX6_checkSlot 5 = .ok (.iconst 2, 1) := by decide +kernel
theorem dX6_checkSlot_6 : decode cX6_checkSlot 6 = .ok (.if_icmp .lt 14, 3) := by decide +kernel
theorem dX6_checkSlot_9 : decode cX6_checkSlot 9 = .ok (.new 174, 3) := by decide +kernel
theorem dX6_checkSlot_12 : decode cX6_checkSlot 12 = .ok (.dup, 1) := by decide +kernel
theorem dX6_checkSlot_13 : decode cX6_checkSlot 13 = .ok (.ldc_w 334, 3) := by decide +kernel
theorem dX6_checkSlot_16 : decode cX6_checkSlot 16 = .ok (.invokespecial 178, 3) := by decide +kernel
theorem dX6_checkSlot_19 : decode cX6_checkSlot 19 = .ok (.athrow, 1) := by decide +kernel
theorem dX6_checkSlot_20 : decode cX6_checkSlot 20 = .ok (.return_, 1) := by decide +kernel
theorem dX6_succeeds_0 : decode cX6_succeeds 0 = .ok (.iload_n 1, 1) := by decide +kernel
theorem dX6_succeeds_1 : decode cX6_succeeds 1 = .ok (.sipush 1000, 3) := by decide +kernel
theorem dX6_succeeds_4 : decode cX6_succeeds 4 = .ok (.idiv, 1) := by decide +kernel
theorem dX6_succeeds_5 : decode cX6_succeeds 5 = .ok (.bipush 10, 2) := by decide +kernel
theorem dX6_succeeds_7 : decode cX6_succeeds 7 = .ok (.irem, 1) := by decide +kernel
theorem dX6_succeeds_8 : decode cX6_succeeds 8 = .ok (.istore_n 2, 1) := by decide +kernel
theorem dX6_succeeds_9 : decode cX6_succeeds 9 = .ok (.iload_n 1, 1) := by decide +kernel
theorem dX6_succeeds_10 : decode cX6_succeeds 10 = .ok (.bipush 100, 2) := by decide +kernel
theorem dX6_succeeds_12 : decode cX6_succeeds 12 = .ok (.idiv, 1) := by decide +kernel
theorem dX6_succeeds_13 : decode cX6_succeeds 13 = .ok (.bipush 10, 2) := by decide +kernel
theorem dX6_succeeds_15 : decode cX6_succeeds 15 = .ok (.irem, 1) := by decide +kernel
theorem dX6_succeeds_16 : decode cX6_succeeds 16 = .ok (.istore_n 3, 1) := by decide +kernel
theorem dX6_succeeds_17 : decode cX6_succeeds 17 = .ok (.iload_n 1, 1) := by decide +kernel
theorem dX6_succeeds_18 : decode cX6_succeeds 18 = .ok (.bipush 100, 2) := by decide +kernel
theorem dX6_succeeds_20 : decode cX6_succeeds 20 = .ok (.irem, 1) := by decide +kernel
theorem dX6_succeeds_21 : decode cX6_succeeds 21 = .ok (.istore 4, 2) := by decide +kernel
theorem dX6_succeeds_23 : decode cX6_succeeds 23 = .ok (.iload_n 1, 1) := by decide +kernel
theorem dX6_succeeds_24 : decode cX6_succeeds 24 = .ok (.sipush 10000, 3) := by decide +kernel
theorem dX6_succeeds_27 : decode cX6_succeeds 27 = .ok (.idiv, 1) := by decide +kernel
theorem dX6_succeeds_28 : decode cX6_succeeds 28 = .ok (.tableswitch 396 1 9 #[52, 81, 106, 151, 200, 229, 267, 305, 346], 52) := by decide +kernel
theorem dX6_succeeds_80 : decode cX6_succeeds 80 = .ok (.iload_n 3, 1) := by decide +kernel
theorem dX6_succeeds_81 : decode cX6_succeeds 81 = .ok (.ifCond .ne 26, 3) := by decide +kernel
theorem dX6_succeeds_84 : decode cX6_succeeds 84 = .ok (.iload 4, 2) := by decide +kernel
theorem dX6_succeeds_86 : decode cX6_succeeds 86 = .ok (.ifCond .ne 21, 3) := by decide +kernel
theorem dX6_succeeds_89 : decode cX6_succeeds 89 = .ok (.aload_n 0, 1) := by decide +kernel
theorem dX6_succeeds_90 : decode cX6_succeeds 90 = .ok (.getfield 26, 3) := by decide +kernel
theorem dX6_succeeds_93 : decode cX6_succeeds 93 = .ok (.bipush 115, 2) := by decide +kernel
theorem dX6_succeeds_95 : decode cX6_succeeds 95 = .ok (.iload_n 2, 1) := by decide +kernel
theorem dX6_succeeds_96 : decode cX6_succeeds 96 = .ok (.iconst 0, 1) := by decide +kernel
theorem dX6_succeeds_97 : decode cX6_succeeds 97 = .ok (.invokevirtual 87, 3) := by decide +kernel
theorem dX6_succeeds_100 : decode cX6_succeeds 100 = .ok (.ifCond .eq 7, 3) := by decide +kernel
theorem dX6_succeeds_103 : decode cX6_succeeds 103 = .ok (.iconst 1, 1) := by decide +kernel
theorem dX6_succeeds_104 : decode cX6_succeeds 104 = .ok (.goto 4, 3) := by decide +kernel
theorem dX6_succeeds_107 : decode cX6_succeeds 107 = .ok (.iconst 0, 1) := by decide +kernel
theorem dX6_succeeds_108 : decode cX6_succeeds 108 = .ok (.ireturn, 1) := by decide +kernel
theorem dX6_succeeds_109 : decode cX6_succeeds 109 = .ok (.iload_n 3, 1) := by decide +kernel
theorem dX6_succeeds_110 : decode cX6_succeeds 110 = .ok (.ifCond .ne 22, 3) := by decide +kernel
theorem dX6_succeeds_113 : decode cX6_succeeds 113 = .ok (.aload_n 0, 1) := by decide +kernel
theorem dX6_succeeds_114 : decode cX6_succeeds 114 = .ok (.getfield 26, 3) := by decide +kernel
theorem dX6_succeeds_117 : decode cX6_succeeds 117 = .ok (.bipush 99, 2) := by decide +kernel
theorem dX6_succeeds_119 : decode cX6_succeeds 119 = .ok (.iload_n 2, 1) := by decide +kernel
theorem dX6_succeeds_120 : decode cX6_succeeds 120 = .ok (.iload 4, 2) := by decide +kernel
theorem dX6_succeeds_122 : decode cX6_succeeds 122 = .ok (.invokevirtual 87, 3) := by decide +kernel
theorem dX6_succeeds_125 : decode cX6_succeeds 125 = .ok (.ifCond .eq 7, 3) := by decide +kernel
theorem dX6_succeeds_128 : decode cX6_succeeds 128 = .ok (.iconst 1, 1) := by decide +kernel
theorem dX6_succeeds_129 : decode cX6_succeeds 129 = .ok (.goto 4, 3) := by decide +kernel
theorem dX6_succeeds_132 : decode cX6_succeeds 132 = .ok (.iconst 0, 1) := by decide +kernel
theorem dX6_succeeds_133 : decode cX6_succeeds 133 = .ok (.ireturn, 1) := by decide +kernel
theorem dX6_succeeds_134 : decode cX6_succeeds 134 = .ok (.iload 4, 2) := by decide +kernel
theorem dX6_succeeds_136 : decode cX6_succeeds 136 = .ok (.bipush 10, 2) := by decide +kernel
theorem dX6_succeeds_138 : decode cX6_succeeds 138 = .ok (.if_icmp .ne 17, 3) := by decide +kernel
theorem dX6_succeeds_141 : decode cX6_succeeds 141 = .ok (.aload_n 0, 1) := by decide +kernel
theorem dX6_succeeds_142 : decode cX6_succeeds 142 = .ok (.getfield 26, 3) := by decide +kernel
theorem dX6_succeeds_145 : decode cX6_succeeds 145 = .ok (.bipush 120, 2) := by decide +kernel
theorem dX6_succeeds_147 : decode cX6_succeeds 147 = .ok (.iload_n 2, 1) := by decide +kernel
theorem dX6_succeeds_148 : decode cX6_succeeds 148 = .ok (.iload_n 3, 1) := by decide +kernel
theorem dX6_succeeds_149 : decode cX6_succeeds 149 = .ok (.invokevirtual 87, 3) := by decide +kernel
theorem dX6_succeeds_152 : decode cX6_succeeds 152 = .ok (.ifCond .ne 21, 3) := by decide +kernel
theorem dX6_succeeds_155 : decode cX6_succeeds 155 = .ok (.iload 4, 2) := by decide +kernel
theorem dX6_succeeds_157 : decode cX6_succeeds 157 = .ok (.ifCond .ne 20, 3) := by decide +kernel
theorem dX6_succeeds_160 : decode cX6_succeeds 160 = .ok (.aload_n 0, 1) := by decide +kernel
theorem dX6_succeeds_161 : decode cX6_succeeds 161 = .ok (.getfield 26, 3) := by decide +kernel
theorem dX6_succeeds_164 : decode cX6_succeeds 164 = .ok (.iconst 0, 1) := by decide +kernel
theorem dX6_succeeds_165 : decode cX6_succeeds 165 = .ok (.iload_n 2, 1) := by decide +kernel
theorem dX6_succeeds_166 : decode cX6_succeeds 166 = .ok (.iload_n 3, 1) := by decide +kernel
theorem dX6_succeeds_167 : decode cX6_succeeds 167 = .ok (.invokevirtual 87, 3) := by decide +kernel
theorem dX6_succeeds_170 : decode cX6_succeeds 170 = .ok (.ifCond .eq 7, 3) := by decide +kernel
theorem dX6_succeeds_173 : decode cX6_succeeds 173 = .ok (.iconst 1, 1) := by decide +kernel
theorem dX6_succeeds_174 : decode cX6_succeeds 174 = .ok (.goto 4, 3) := by decide +kernel
theorem dX6_succeeds_177 : decode cX6_succeeds 177 = .ok (.iconst 0, 1) := by decide +kernel
theorem dX6_succeeds_178 : decode cX6_succeeds 178 = .ok (.ireturn, 1) := by decide +kernel
theorem dX6_succeeds_179 : decode cX6_succeeds 179 = .ok (.iload_n 3, 1) := by decide +kernel
theorem dX6_succeeds_180 : decode cX6_succeeds 180 = .ok (.ifCond .ne 46, 3) := by decide +kernel
theorem dX6_succeeds_183 : decode cX6_succeeds 183 = .ok (.iload 4, 2) := by decide +kernel
theorem dX6_succeeds_185 : decode cX6_succeeds 185 = .ok (.ifCond .ne 17, 3) := by decide +kernel
theorem dX6_succeeds_188 : decode cX6_succeeds 188 = .ok (.aload_n 0, 1) := by decide +kernel
theorem dX6_succeeds_189 : decode cX6_succeeds 189 = .ok (.getfield 26, 3) := by decide +kernel
theorem dX6_succeeds_192 : decode cX6_succeeds 192 = .ok (.bipush 103, 2) := by decide +kernel
theorem dX6_succeeds_194 : decode cX6_succeeds 194 = .ok (.iload_n 2, 1) := by decide +kernel
theorem dX6_succeeds_195 : decode cX6_succeeds 195 = .ok (.iconst 0, 1) := by decide +kernel
theorem dX6_succeeds_196 : decode cX6_succeeds 196 = .ok (.invokevirtual 87, 3) := by decide +kernel
theorem dX6_succeeds_199 : decode cX6_succeeds 199 = .ok (.ifCond .ne 23, 3) := by decide +kernel
theorem dX6_succeeds_202 : decode cX6_succeeds 202 = .ok (.iload 4, 2) := by decide +kernel
theorem dX6_succeeds_204 : decode cX6_succeeds 204 = .ok (.iconst 1, 1) := by decide +kernel
theorem dX6_succeeds_205 : decode cX6_succeeds 205 = .ok (.if_icmp .ne 21, 3) := by decide +kernel
theorem dX6_succeeds_208 : decode cX6_succeeds 208 = .ok (.aload_n 0, 1) := by decide +kernel
theorem dX6_succeeds_209 : decode cX6_succeeds 209 = .ok (.getfield 26, 3) := by decide +kernel
theorem dX6_succeeds_212 : decode cX6_succeeds 212 = .ok (.bipush 98, 2) := by decide +kernel
theorem dX6_succeeds_214 : decode cX6_succeeds 214 = .ok (.iload_n 2, 1) := by decide +kernel
theorem dX6_succeeds_215 : decode cX6_succeeds 215 = .ok (.iconst 0, 1) := by decide +kernel
theorem dX6_succeeds_216 : decode cX6_succeeds 216 = .ok (.invokevirtual 87, 3) := by decide +kernel
theorem dX6_succeeds_219 : decode cX6_succeeds 219 = .ok (.ifCond .eq 7, 3) := by decide +kernel
theorem dX6_succeeds_222 : decode cX6_succeeds 222 = .ok (.iconst 1, 1) := by decide +kernel
theorem dX6_succeeds_223 : decode cX6_succeeds 223 = .ok (.goto 4, 3) := by decide +kernel
theorem dX6_succeeds_226 : decode cX6_succeeds 226 = .ok (.iconst 0, 1) := by decide +kernel
theorem dX6_succeeds_227 : decode cX6_succeeds 227 = .ok (.ireturn, 1) := by decide +kernel
theorem dX6_succeeds_228 : decode cX6_succeeds 228 = .ok (.iload_n 2, 1) := by decide +kernel
theorem dX6_succeeds_229 : decode cX6_succeeds 229 = .ok (.ifCond .ne 26, 3) := by decide +kernel
theorem dX6_succeeds_232 : decode cX6_succeeds 232 = .ok (.iload_n 3, 1) := by decide +kernel
theorem dX6_succeeds_233 : decode cX6_succeeds 233 = .ok (.ifCond .ne 22, 3) := by decide +kernel
theorem dX6_succeeds_236 : decode cX6_succeeds 236 = .ok (.aload_n 0, 1) := by decide +kernel
theorem dX6_succeeds_237 : decode cX6_succeeds 237 = .ok (.getfield 26, 3) := by decide +kernel
theorem dX6_succeeds_240 : decode cX6_succeeds 240 = .ok (.bipush 116, 2) := by decide +kernel
theorem dX6_succeeds_242 : decode cX6_succeeds 242 = .ok (.iload 4, 2) := by decide +kernel
theorem dX6_succeeds_244 : decode cX6_succeeds 244 = .ok (.iconst 0, 1) := by decide +kernel
theorem dX6_succeeds_245 : decode cX6_succeeds 245 = .ok (.invokevirtual 87, 3) := by decide +kernel
theorem dX6_succeeds_248 : decode cX6_succeeds 248 = .ok (.ifCond .eq 7, 3) := by decide +kernel
theorem dX6_succeeds_251 : decode cX6_succeeds 251 = .ok (.iconst 1, 1) := by decide +kernel
theorem dX6_succeeds_252 : decode cX6_succeeds 252 = .ok (.goto 4, 3) := by decide +kernel
theorem dX6_succeeds_255 : decode cX6_succeeds 255 = .ok (.iconst 0, 1) := by decide +kernel
theorem dX6_succeeds_256 : decode cX6_succeeds 256 = .ok (.ireturn, 1) := by decide +kernel
theorem dX6_succeeds_257 : decode cX6_succeeds 257 = .ok (.iload_n 3, 1) := by decide +kernel
theorem dX6_succeeds_258 : decode cX6_succeeds 258 = .ok (.ifCond .ne 35, 3) := by decide +kernel
theorem dX6_succeeds_261 : decode cX6_succeeds 261 = .ok (.aload_n 0, 1) := by decide +kernel
theorem dX6_succeeds_262 : decode cX6_succeeds 262 = .ok (.getfield 26, 3) := by decide +kernel
theorem dX6_succeeds_265 : decode cX6_succeeds 265 = .ok (.iload_n 2, 1) := by decide +kernel
theorem dX6_succeeds_266 : decode cX6_succeeds 266 = .ok (.invokevirtual 329, 3) := by decide +kernel
theorem dX6_succeeds_269 : decode cX6_succeeds 269 = .ok (.ifCond .eq 24, 3) := by decide +kernel
theorem dX6_succeeds_272 : decode cX6_succeeds 272 = .ok (.aload_n 0, 1) := by decide +kernel
theorem dX6_succeeds_273 : decode cX6_succeeds 273 = .ok (.getfield 26, 3) := by decide +kernel
theorem dX6_succeeds_276 : decode cX6_succeeds 276 = .ok (.getfield 128, 3) := by decide +kernel
theorem dX6_succeeds_279 : decode cX6_succeeds 279 = .ok (.iload_n 2, 1) := by decide +kernel
theorem dX6_succeeds_280 : decode cX6_succeeds 280 = .ok (.aaload, 1) := by decide +kernel
theorem dX6_succeeds_281 : decode cX6_succeeds 281 = .ok (.getfield 140, 3) := by decide +kernel
theorem dX6_succeeds_284 : decode cX6_succeeds 284 = .ok (.iload 4, 2) := by decide +kernel
theorem dX6_succeeds_286 : decode cX6_succeeds 286 = .ok (.if_icmp .lt 7, 3) := by decide +kernel
theorem dX6_succeeds_289 : decode cX6_succeeds 289 = .ok (.iconst 1, 1) := by decide +kernel
theorem dX6_succeeds_290 : decode cX6_succeeds 290 = .ok (.goto 4, 3) := by decide +kernel
theorem dX6_succeeds_293 : decode cX6_succeeds 293 = .ok (.iconst 0, 1) := by decide +kernel
theorem dX6_succeeds_294 : decode cX6_succeeds 294 = .ok (.ireturn, 1) := by decide +kernel
theorem dX6_succeeds_295 : decode cX6_succeeds 295 = .ok (.iload_n 3, 1) := by decide +kernel
theorem dX6_succeeds_296 : decode cX6_succeeds 296 = .ok (.ifCond .ne 35, 3) := by decide +kernel
theorem dX6_succeeds_299 : decode cX6_succeeds 299 = .ok (.aload_n 0, 1) := by decide +kernel
theorem dX6_succeeds_300 : decode cX6_succeeds 300 = .ok (.getfield 26, 3) := by decide +kernel
theorem dX6_succeeds_303 : decode cX6_succeeds 303 = .ok (.iload_n 2, 1) := by decide +kernel
theorem dX6_succeeds_304 : decode cX6_succeeds 304 = .ok (.invokevirtual 329, 3) := by decide +kernel
theorem dX6_succeeds_307 : decode cX6_succeeds 307 = .ok (.ifCond .eq 24, 3) := by decide +kernel
theorem dX6_succeeds_310 : decode cX6_succeeds 310 = .ok (.aload_n 0, 1) := by decide +kernel
theorem dX6_succeeds_311 : decode cX6_succeeds 311 = .ok (.getfield 26, 3) := by decide +kernel
theorem dX6_succeeds_314 : decode cX6_succeeds 314 = .ok (.getfield 128, 3) := by decide +kernel
theorem dX6_succeeds_317 : decode cX6_succeeds 317 = .ok (.iload_n 2, 1) := by decide +kernel
theorem dX6_succeeds_318 : decode cX6_succeeds 318 = .ok (.aaload, 1) := by decide +kernel
theorem dX6_succeeds_319 : decode cX6_succeeds 319 = .ok (.getfield 137, 3) := by decide +kernel
theorem dX6_succeeds_322 : decode cX6_succeeds 322 = .ok (.iload 4, 2) := by decide +kernel
theorem dX6_succeeds_324 : decode cX6_succeeds 324 = .ok (.if_icmp .ne 7, 3) := by decide +kernel
theorem dX6_succeeds_327 : decode cX6_succeeds 327 = .ok (.iconst 1, 1) := by decide +kernel
theorem dX6_succeeds_328 : decode cX6_succeeds 328 = .ok (.goto 4, 3) := by decide +kernel
theorem dX6_succeeds_331 : decode cX6_succeeds 331 = .ok (.iconst 0, 1) := by decide +kernel
theorem dX6_succeeds_332 : decode cX6_succeeds 332 = .ok (.ireturn, 1) := by decide +kernel
theorem dX6_succeeds_333 : decode cX6_succeeds 333 = .ok (.iload_n 3, 1) := by decide +kernel
theorem dX6_succeeds_334 : decode cX6_succeeds 334 = .ok (.ifCond .ne 38, 3) := by decide +kernel
theorem dX6_succeeds_337 : decode cX6_succeeds 337 = .ok (.aload_n 0, 1) := by decide +kernel
theorem dX6_succeeds_338 : decode cX6_succeeds 338 = .ok (.getfield 26, 3) := by decide +kernel
theorem dX6_succeeds_341 : decode cX6_succeeds 341 = .ok (.iload_n 2, 1) := by decide +kernel
theorem dX6_succeeds_342 : decode cX6_succeeds 342 = .ok (.invokevirtual 329, 3) := by decide +kernel
theorem dX6_succeeds_345 : decode cX6_succeeds 345 = .ok (.ifCond .eq 27, 3) := by decide +kernel
theorem dX6_succeeds_348 : decode cX6_succeeds 348 = .ok (.aload_n 0, 1) := by decide +kernel
theorem dX6_succeeds_349 : decode cX6_succeeds 349 = .ok (.getfield 26, 3) := by decide +kernel
theorem dX6_succeeds_352 : decode cX6_succeeds 352 = .ok (.getfield 128, 3) := by decide +kernel
theorem dX6_succeeds_355 : decode cX6_succeeds 355 = .ok (.iload_n 2, 1) := by decide +kernel
theorem dX6_succeeds_356 : decode cX6_succeeds 356 = .ok (.aaload, 1) := by decide +kernel
theorem dX6_succeeds_357 : decode cX6_succeeds 357 = .ok (.getfield 149, 3) := by decide +kernel
theorem dX6_succeeds_360 : decode cX6_succeeds 360 = .ok (.invokestatic 291, 3) := by decide +kernel
theorem dX6_succeeds_363 : decode cX6_succeeds 363 = .ok (.iload 4, 2) := by decide +kernel
theorem dX6_succeeds_365 : decode cX6_succeeds 365 = .ok (.if_icmp .lt 7, 3) := by decide +kernel
theorem dX6_succeeds_368 : decode cX6_succeeds 368 = .ok (.iconst 1, 1) := by decide +kernel
theorem dX6_succeeds_369 : decode cX6_succeeds 369 = .ok (.goto 4, 3) := by decide +kernel
theorem dX6_succeeds_372 : decode cX6_succeeds 372 = .ok (.iconst 0, 1) := by decide +kernel
theorem dX6_succeeds_373 : decode cX6_succeeds 373 = .ok (.ireturn, 1) := by decide +kernel
theorem dX6_succeeds_374 : decode cX6_succeeds 374 = .ok (.iload 4, 2) := by decide +kernel
theorem dX6_succeeds_376 : decode cX6_succeeds 376 = .ok (.bipush 10, 2) := by decide +kernel
theorem dX6_succeeds_378 : decode cX6_succeeds 378 = .ok (.if_icmp .ge 44, 3) := by decide +kernel
theorem dX6_succeeds_381 : decode cX6_succeeds 381 = .ok (.aload_n 0, 1) := by decide +kernel
theorem dX6_succeeds_382 : decode cX6_succeeds 382 = .ok (.getfield 26, 3) := by decide +kernel
theorem dX6_succeeds_385 : decode cX6_succeeds 385 = .ok (.iload_n 2, 1) := by decide +kernel
theorem dX6_succeeds_386 : decode cX6_succeeds 386 = .ok (.invokevirtual 329, 3) := by decide +kernel
theorem dX6_succeeds_389 : decode cX6_succeeds 389 = .ok (.ifCond .eq 33, 3) := by decide +kernel
theorem dX6_succeeds_392 : decode cX6_succeeds 392 = .ok (.aload_n 0, 1) := by decide +kernel
theorem dX6_succeeds_393 : decode cX6_succeeds 393 = .ok (.getfield 26, 3) := by decide +kernel
theorem dX6_succeeds_396 : decode cX6_succeeds 396 = .ok (.iload_n 3, 1) := by decide +kernel
theorem dX6_succeeds_397 : decode cX6_succeeds 397 = .ok (.invokevirtual 329, 3) := by decide +kernel
theorem dX6_succeeds_400 : decode cX6_succeeds 400 = .ok (.ifCond .eq 22, 3) := by decide +kernel
theorem dX6_succeeds_403 : decode cX6_succeeds 403 = .ok (.aload_n 0, 1) := by decide +kernel
theorem dX6_succeeds_404 : decode cX6_succeeds 404 = .ok (.getfield 26, 3) := by decide +kernel
theorem dX6_succeeds_407 : decode cX6_succeeds 407 = .ok (.iload_n 2, 1) := by decide +kernel
theorem dX6_succeeds_408 : decode cX6_succeeds 408 = .ok (.iload_n 3, 1) := by decide +kernel
theorem dX6_succeeds_409 : decode cX6_succeeds 409 = .ok (.iconst 1, 1) := by decide +kernel
theorem dX6_succeeds_410 : decode cX6_succeeds 410 = .ok (.invokevirtual 282, 3) := by decide +kernel
theorem dX6_succeeds_413 : decode cX6_succeeds 413 = .ok (.iload 4, 2) := by decide +kernel
theorem dX6_succeeds_415 : decode cX6_succeeds 415 = .ok (.if_icmp .gt 7, 3) := by decide +kernel
theorem dX6_succeeds_418 : decode cX6_succeeds 418 = .ok (.iconst 1, 1) := by decide +kernel
theorem dX6_succeeds_419 : decode cX6_succeeds 419 = .ok (.goto 4, 3) := by decide +kernel
theorem dX6_succeeds_422 : decode cX6_succeeds 422 = .ok (.iconst 0, 1) := by decide +kernel
theorem dX6_succeeds_423 : decode cX6_succeeds 423 = .ok (.ireturn, 1) := by decide +kernel
theorem dX6_succeeds_424 : decode cX6_succeeds 424 = .ok (.iconst 0, 1) := by decide +kernel
theorem dX6_succeeds_425 : decode cX6_succeeds 425 = .ok (.ireturn, 1) := by decide +kernel
theorem dX6_takeTurn_0 : decode cX6_takeTurn 0 = .ok (.iload_n 1, 1) := by decide +kernel
theorem dX6_takeTurn_1 : decode cX6_takeTurn 1 = .ok (.bipush 16, 2) := by decide +kernel
theorem dX6_takeTurn_3 : decode cX6_takeTurn 3 = .ok (.idiv, 1) := by decide +kernel
theorem dX6_takeTurn_4 : decode cX6_takeTurn 4 = .ok (.istore_n 2, 1) := by decide +kernel
theorem dX6_takeTurn_5 : decode cX6_takeTurn 5 = .ok (.iload_n 2, 1) := by decide +kernel
theorem dX6_takeTurn_6 : decode cX6_takeTurn 6 = .ok (.bipush 6, 2) := by decide +kernel
theorem dX6_takeTurn_8 : decode cX6_takeTurn 8 = .ok (.irem, 1) := by decide +kernel
theorem dX6_takeTurn_9 : decode cX6_takeTurn 9 = .ok (.istore_n 3, 1) := by decide +kernel
theorem dX6_takeTurn_10 : decode cX6_takeTurn 10 = .ok (.iload_n 1, 1) := by decide +kernel
theorem dX6_takeTurn_11 : decode cX6_takeTurn 11 = .ok (.bipush 16, 2) := by decide +kernel
theorem dX6_takeTurn_13 : decode cX6_takeTurn 13 = .ok (.irem, 1) := by decide +kernel
theorem dX6_takeTurn_14 : decode cX6_takeTurn 14 = .ok (.tableswitch 205 0 10 #[58, 76, 76, 76, 76, 76, 91, 91, 124, 158, 187], 58) := by decide +kernel
theorem dX6_takeTurn_72 : decode cX6_takeTurn 72 = .ok (.aload_n 0, 1) := by decide +kernel
theorem dX6_takeTurn_73 : decode cX6_takeTurn 73 = .ok (.getfield 26, 3) := by decide +kernel
theorem dX6_takeTurn_76 : decode cX6_takeTurn 76 = .ok (.bipush 109, 2) := by decide +kernel
theorem dX6_takeTurn_78 : decode cX6_takeTurn 78 = .ok (.iload_n 2, 1) := by decide +kernel
theorem dX6_takeTurn_79 : decode cX6_takeTurn 79 = .ok (.bipush 10, 2) := by decide +kernel
theorem dX6_takeTurn_81 : decode cX6_takeTurn 81 = .ok (.irem, 1) := by decide +kernel
theorem dX6_takeTurn_82 : decode cX6_takeTurn 82 = .ok (.iconst 0, 1) := by decide +kernel
theorem dX6_takeTurn_83 : decode cX6_takeTurn 83 = .ok (.invokevirtual 87, 3) := by decide +kernel
theorem dX6_takeTurn_86 : decode cX6_takeTurn 86 = .ok (.pop, 1) := by decide +kernel
theorem dX6_takeTurn_87 : decode cX6_takeTurn 87 = .ok (.goto 149, 3) := by decide +kernel
theorem dX6_takeTurn_90 : decode cX6_takeTurn 90 = .ok (.aload_n 0, 1) := by decide +kernel
theorem dX6_takeTurn_91 : decode cX6_takeTurn 91 = .ok (.getfield 26, 3) := by decide +kernel
theorem dX6_takeTurn_94 : decode cX6_takeTurn 94 = .ok (.bipush 115, 2) := by decide +kernel
theorem dX6_takeTurn_96 : decode cX6_takeTurn 96 = .ok (.iload_n 3, 1) := by decide +kernel
theorem dX6_takeTurn_97 : decode cX6_takeTurn 97 = .ok (.iconst 0, 1) := by decide +kernel
theorem dX6_takeTurn_98 : decode cX6_takeTurn 98 = .ok (.invokevirtual 87, 3) := by decide +kernel
theorem dX6_takeTurn_101 : decode cX6_takeTurn 101 = .ok (.pop, 1) := by decide +kernel
theorem dX6_takeTurn_102 : decode cX6_takeTurn 102 = .ok (.goto 134, 3) := by decide +kernel
theorem dX6_takeTurn_105 : decode cX6_takeTurn 105 = .ok (.aload_n 0, 1) := by decide +kernel
theorem dX6_takeTurn_106 : decode cX6_takeTurn 106 = .ok (.getfield 26, 3) := by decide +kernel
theorem dX6_takeTurn_109 : decode cX6_takeTurn 109 = .ok (.bipush 99, 2) := by decide +kernel
theorem dX6_takeTurn_111 : decode cX6_takeTurn 111 = .ok (.iload_n 3, 1) := by decide +kernel
theorem dX6_takeTurn_112 : decode cX6_takeTurn 112 = .ok (.iload_n 2, 1) := by decide +kernel
theorem dX6_takeTurn_113 : decode cX6_takeTurn 113 = .ok (.bipush 8, 2) := by decide +kernel
theorem dX6_takeTurn_115 : decode cX6_takeTurn 115 = .ok (.idiv, 1) := by decide +kernel
theorem dX6_takeTurn_116 : decode cX6_takeTurn 116 = .ok (.bipush 64, 2) := by decide +kernel
theorem dX6_takeTurn_118 : decode cX6_takeTurn 118 = .ok (.irem, 1) := by decide +kernel
theorem dX6_takeTurn_119 : decode cX6_takeTurn 119 = .ok (.aload_n 0, 1) := by decide +kernel
theorem dX6_takeTurn_120 : decode cX6_takeTurn 120 = .ok (.getfield 26, 3) := by decide +kernel
theorem dX6_takeTurn_123 : decode cX6_takeTurn 123 = .ok (.invokevirtual 336, 3) := by decide +kernel
theorem dX6_takeTurn_126 : decode cX6_takeTurn 126 = .ok (.iand, 1) := by decide +kernel
theorem dX6_takeTurn_127 : decode cX6_takeTurn 127 = .ok (.iconst 1, 1) := by decide +kernel
theorem dX6_takeTurn_128 : decode cX6_takeTurn 128 = .ok (.iload_n 3, 1) := by decide +kernel
theorem dX6_takeTurn_129 : decode cX6_takeTurn 129 = .ok (.ishl, 1) := by decide +kernel
theorem dX6_takeTurn_130 : decode cX6_takeTurn 130 = .ok (.ior, 1) := by decide +kernel
theorem dX6_takeTurn_131 : decode cX6_takeTurn 131 = .ok (.invokevirtual 87, 3) := by decide +kernel
theorem dX6_takeTurn_134 : decode cX6_takeTurn 134 = .ok (.pop, 1) := by decide +kernel
theorem dX6_takeTurn_135 : decode cX6_takeTurn 135 = .ok (.goto 101, 3) := by decide +kernel
theorem dX6_takeTurn_138 : decode cX6_takeTurn 138 = .ok (.aload_n 0, 1) := by decide +kernel
theorem dX6_takeTurn_139 : decode cX6_takeTurn 139 = .ok (.getfield 26, 3) := by decide +kernel
theorem dX6_takeTurn_142 : decode cX6_takeTurn 142 = .ok (.iload_n 2, 1) := by decide +kernel
theorem dX6_takeTurn_143 : decode cX6_takeTurn 143 = .ok (.bipush 64, 2) := by decide +kernel
theorem dX6_takeTurn_145 : decode cX6_takeTurn 145 = .ok (.idiv, 1) := by decide +kernel
theorem dX6_takeTurn_146 : decode cX6_takeTurn 146 = .ok (.iconst 3, 1) := by decide +kernel
theorem dX6_takeTurn_147 : decode cX6_takeTurn 147 = .ok (.irem, 1) := by decide +kernel
theorem dX6_takeTurn_148 : decode cX6_takeTurn 148 = .ok (.ifCond .ne 8, 3) := by decide +kernel
theorem dX6_takeTurn_151 : decode cX6_takeTurn 151 = .ok (.bipush 120, 2) := by decide +kernel
theorem dX6_takeTurn_153 : decode cX6_takeTurn 153 = .ok (.goto 4, 3) := by decide +kernel
theorem dX6_takeTurn_156 : decode cX6_takeTurn 156 = .ok (.iconst 0, 1) := by decide +kernel
theorem dX6_takeTurn_157 : decode cX6_takeTurn 157 = .ok (.iload_n 3, 1) := by decide +kernel
theorem dX6_takeTurn_158 : decode cX6_takeTurn 158 = .ok (.iload_n 2, 1) := by decide +kernel
theorem dX6_takeTurn_159 : decode cX6_takeTurn 159 = .ok (.bipush 6, 2) := by decide +kernel
theorem dX6_takeTurn_161 : decode cX6_takeTurn 161 = .ok (.idiv, 1) := by decide +kernel
theorem dX6_takeTurn_162 : decode cX6_takeTurn 162 = .ok (.bipush 6, 2) := by decide +kernel
theorem dX6_takeTurn_164 : decode cX6_takeTurn 164 = .ok (.irem, 1) := by decide +kernel
theorem dX6_takeTurn_165 : decode cX6_takeTurn 165 = .ok (.invokevirtual 87, 3) := by decide +kernel
theorem dX6_takeTurn_168 : decode cX6_takeTurn 168 = .ok (.pop, 1) := by decide +kernel
theorem dX6_takeTurn_169 : decode cX6_takeTurn 169 = .ok (.goto 67, 3) := by decide +kernel
theorem dX6_takeTurn_172 : decode cX6_takeTurn 172 = .ok (.aload_n 0, 1) := by decide +kernel
theorem dX6_takeTurn_173 : decode cX6_takeTurn 173 = .ok (.getfield 26, 3) := by decide +kernel
theorem dX6_takeTurn_176 : decode cX6_takeTurn 176 = .ok (.iload_n 2, 1) := by decide +kernel
theorem dX6_takeTurn_177 : decode cX6_takeTurn 177 = .ok (.bipush 8, 2) := by decide +kernel
theorem dX6_takeTurn_179 : decode cX6_takeTurn 179 = .ok (.idiv, 1) := by decide +kernel
theorem dX6_takeTurn_180 : decode cX6_takeTurn 180 = .ok (.iconst 3, 1) := by decide +kernel
theorem dX6_takeTurn_181 : decode cX6_takeTurn 181 = .ok (.irem, 1) := by decide +kernel
theorem dX6_takeTurn_182 : decode cX6_takeTurn 182 = .ok (.ifCond .ne 8, 3) := by decide +kernel
theorem dX6_takeTurn_185 : decode cX6_takeTurn 185 = .ok (.bipush 103, 2) := by decide +kernel
theorem dX6_takeTurn_187 : decode cX6_takeTurn 187 = .ok (.goto 5, 3) := by decide +kernel
theorem dX6_takeTurn_190 : decode cX6_takeTurn 190 = .ok (.bipush 98, 2) := by decide +kernel
theorem dX6_takeTurn_192 : decode cX6_takeTurn 192 = .ok (.iload_n 3, 1) := by decide +kernel
theorem dX6_takeTurn_193 : decode cX6_takeTurn 193 = .ok (.iconst 0, 1) := by decide +kernel
theorem dX6_takeTurn_194 : decode cX6_takeTurn 194 = .ok (.invokevirtual 87, 3) := by decide +kernel
theorem dX6_takeTurn_197 : decode cX6_takeTurn 197 = .ok (.pop, 1) := by decide +kernel
theorem dX6_takeTurn_198 : decode cX6_takeTurn 198 = .ok (.goto 38, 3) := by decide +kernel
theorem dX6_takeTurn_201 : decode cX6_takeTurn 201 = .ok (.aload_n 0, 1) := by decide +kernel
theorem dX6_takeTurn_202 : decode cX6_takeTurn 202 = .ok (.getfield 26, 3) := by decide +kernel
theorem dX6_takeTurn_205 : decode cX6_takeTurn 205 = .ok (.bipush 112, 2) := by decide +kernel
theorem dX6_takeTurn_207 : decode cX6_takeTurn 207 = .ok (.iload_n 2, 1) := by decide +kernel
theorem dX6_takeTurn_208 : decode cX6_takeTurn 208 = .ok (.bipush 41, 2) := by decide +kernel
theorem dX6_takeTurn_210 : decode cX6_takeTurn 210 = .ok (.irem, 1) := by decide +kernel
theorem dX6_takeTurn_211 : decode cX6_takeTurn 211 = .ok (.iconst 0, 1) := by decide +kernel
theorem dX6_takeTurn_212 : decode cX6_takeTurn 212 = .ok (.invokevirtual 87, 3) := by decide +kernel
theorem dX6_takeTurn_215 : decode cX6_takeTurn 215 = .ok (.pop, 1) := by decide +kernel
theorem dX6_takeTurn_216 : decode cX6_takeTurn 216 = .ok (.goto 20, 3) := by decide +kernel
theorem dX6_takeTurn_219 : decode cX6_takeTurn 219 = .ok (.aload_n 0, 1) := by decide +kernel
theorem dX6_takeTurn_220 : decode cX6_takeTurn 220 = .ok (.getfield 26, 3) := by decide +kernel
theorem dX6_takeTurn_223 : decode cX6_takeTurn 223 = .ok (.bipush 116, 2) := by decide +kernel
theorem dX6_takeTurn_225 : decode cX6_takeTurn 225 = .ok (.iconst 1, 1) := by decide +kernel
theorem dX6_takeTurn_226 : decode cX6_takeTurn 226 = .ok (.iload_n 2, 1) := by decide +kernel
theorem dX6_takeTurn_227 : decode cX6_takeTurn 227 = .ok (.bipush 8, 2) := by decide +kernel
theorem dX6_takeTurn_229 : decode cX6_takeTurn 229 = .ok (.irem, 1) := by decide +kernel
theorem dX6_takeTurn_230 : decode cX6_takeTurn 230 = .ok (.iadd, 1) := by decide +kernel
theorem dX6_takeTurn_231 : decode cX6_takeTurn 231 = .ok (.iconst 0, 1) := by decide +kernel
theorem dX6_takeTurn_232 : decode cX6_takeTurn 232 = .ok (.invokevirtual 87, 3) := by decide +kernel
theorem dX6_takeTurn_235 : decode cX6_takeTurn 235 = .ok (.pop, 1) := by decide +kernel
theorem dX6_takeTurn_236 : decode cX6_takeTurn 236 = .ok (.return_, 1) := by decide +kernel
theorem dX6_isPlace_0 : decode cX6_isPlace 0 = .ok (.iload_n 0, 1) := by decide +kernel
theorem dX6_isPlace_1 : decode cX6_isPlace 1 = .ok (.ifCond .lt 13, 3) := by decide +kernel
theorem dX6_isPlace_4 : decode cX6_isPlace 4 = .ok (.iload_n 0, 1) := by decide +kernel
theorem dX6_isPlace_5 : decode cX6_isPlace 5 = .ok (.bipush 9, 2) := by decide +kernel
theorem dX6_isPlace_7 : decode cX6_isPlace 7 = .ok (.if_icmp .gt 7, 3) := by decide +kernel
theorem dX6_isPlace_10 : decode cX6_isPlace 10 = .ok (.iconst 1, 1) := by decide +kernel
theorem dX6_isPlace_11 : decode cX6_isPlace 11 = .ok (.goto 4, 3) := by decide +kernel
theorem dX6_isPlace_14 : decode cX6_isPlace 14 = .ok (.iconst 0, 1) := by decide +kernel
theorem dX6_isPlace_15 : decode cX6_isPlace 15 = .ok (.ireturn, 1) := by decide +kernel
theorem dX6_isPatience_0 : decode cX6_isPatience 0 = .ok (.iload_n 0, 1) := by decide +kernel
theorem dX6_isPatience_1 : decode cX6_isPatience 1 = .ok (.ifCond .lt 13, 3) := by decide +kernel
theorem dX6_isPatience_4 : decode cX6_isPatience 4 = .ok (.iload_n 0, 1) := by decide +kernel
theorem dX6_isPatience_5 : decode cX6_isPatience 5 = .ok (.bipush 40, 2) := by decide +kernel
theorem dX6_isPatience_7 : decode cX6_isPatience 7 = .ok (.if_icmp .gt 7, 3) := by decide +kernel
theorem dX6_isPatience_10 : decode cX6_isPatience 10 = .ok (.iconst 1, 1) := by decide +kernel
theorem dX6_isPatience_11 : decode cX6_isPatience 11 = .ok (.goto 4, 3) := by decide +kernel
theorem dX6_isPatience_14 : decode cX6_isPatience 14 = .ok (.iconst 0, 1) := by decide +kernel
theorem dX6_isPatience_15 : decode cX6_isPatience 15 = .ok (.ireturn, 1) := by decide +kernel
theorem dX6_areTicks_0 : decode cX6_areTicks 0 = .ok (.iload_n 0, 1) := by decide +kernel
theorem dX6_areTicks_1 : decode cX6_areTicks 1 = .ok (.iconst 1, 1) := by decide +kernel
theorem dX6_areTicks_2 : decode cX6_areTicks 2 = .ok (.if_icmp .lt 13, 3) := by decide +kernel
theorem dX6_areTicks_5 : decode cX6_areTicks 5 = .ok (.iload_n 0, 1) := by decide +kernel
theorem dX6_areTicks_6 : decode cX6_areTicks 6 = .ok (.bipush 60, 2) := by decide +kernel
theorem dX6_areTicks_8 : decode cX6_areTicks 8 = .ok (.if_icmp .gt 7, 3) := by decide +kernel
theorem dX6_areTicks_11 : decode cX6_areTicks 11 = .ok (.iconst 1, 1) := by decide +kernel
theorem dX6_areTicks_12 : decode cX6_areTicks 12 = .ok (.goto 4, 3) := by decide +kernel
theorem dX6_areTicks_15 : decode cX6_areTicks 15 = .ok (.iconst 0, 1) := by decide +kernel
theorem dX6_areTicks_16 : decode cX6_areTicks 16 = .ok (.ireturn, 1) := by decide +kernel
theorem dX6_hasBit_0 : decode cX6_hasBit 0 = .ok (.iload_n 0, 1) := by decide +kernel
theorem dX6_hasBit_1 : decode cX6_hasBit 1 = .ok (.iload_n 1, 1) := by decide +kernel
theorem dX6_hasBit_2 : decode cX6_hasBit 2 = .ok (.ishr, 1) := by decide +kernel
theorem dX6_hasBit_3 : decode cX6_hasBit 3 = .ok (.iconst 1, 1) := by decide +kernel
theorem dX6_hasBit_4 : decode cX6_hasBit 4 = .ok (.iand, 1) := by decide +kernel
theorem dX6_hasBit_5 : decode cX6_hasBit 5 = .ok (.ifCond .eq 7, 3) := by decide +kernel
theorem dX6_hasBit_8 : decode cX6_hasBit 8 = .ok (.iconst 1, 1) := by decide +kernel
theorem dX6_hasBit_9 : decode cX6_hasBit 9 = .ok (.goto 4, 3) := by decide +kernel
theorem dX6_hasBit_12 : decode cX6_hasBit 12 = .ok (.iconst 0, 1) := by decide +kernel
theorem dX6_hasBit_13 : decode cX6_hasBit 13 = .ok (.ireturn, 1) := by decide +kernel
theorem dL_cuts_0 : decode cL_cuts 0 = .ok (.aload_n 0, 1) := by decide +kernel
theorem dL_cuts_1 : decode cL_cuts 1 = .ok (.iload_n 1, 1) := by decide +kernel
theorem dL_cuts_2 : decode cL_cuts 2 = .ok (.iload_n 2, 1) := by decide +kernel
theorem dL_cuts_3 : decode cL_cuts 3 = .ok (.iload_n 3, 1) := by decide +kernel
theorem dL_cuts_4 : decode cL_cuts 4 = .ok (.invokevirtual 7, 3) := by decide +kernel
theorem dL_cuts_7 : decode cL_cuts 7 = .ok (.ireturn, 1) := by decide +kernel
theorem dL_cuts_8 : decode cL_cuts 8 = .ok (.astore 4, 2) := by decide +kernel
theorem dL_cuts_10 : decode cL_cuts 10 = .ok (.ldc 15, 2) := by decide +kernel
theorem dL_cuts_12 : decode cL_cuts 12 = .ok (.ireturn, 1) := by decide +kernel
theorem dL_cuts_13 : decode cL_cuts 13 = .ok (.astore 4, 2) := by decide +kernel
theorem dL_cuts_15 : decode cL_cuts 15 = .ok (.ldc 18, 2) := by decide +kernel
theorem dL_cuts_17 : decode cL_cuts 17 = .ok (.ireturn, 1) := by decide +kernel
theorem dL_doScript_0 : decode cL_doScript 0 = .ok (.aload_n 0, 1) := by decide +kernel
theorem dL_doScript_1 : decode cL_doScript 1 = .ok (.iload_n 1, 1) := by decide +kernel
theorem dL_doScript_2 : decode cL_doScript 2 = .ok (.lload_n 2, 1) := by decide +kernel
theorem dL_doScript_3 : decode cL_doScript 3 = .ok (.invokevirtual 19, 3) := by decide +kernel
theorem dL_doScript_6 : decode cL_doScript 6 = .ok (.ireturn, 1) := by decide +kernel
theorem dL_doScript_7 : decode cL_doScript 7 = .ok (.astore 4, 2) := by decide +kernel
theorem dL_doScript_9 : decode cL_doScript 9 = .ok (.ldc 18, 2) := by decide +kernel
theorem dL_doScript_11 : decode cL_doScript 11 = .ok (.ireturn, 1) := by decide +kernel
theorem dL_doSimulate_0 : decode cL_doSimulate 0 = .ok (.aload_n 0, 1) := by decide +kernel
theorem dL_doSimulate_1 : decode cL_doSimulate 1 = .ok (.lload_n 1, 1) := by decide +kernel
theorem dL_doSimulate_2 : decode cL_doSimulate 2 = .ok (.iload_n 3, 1) := by decide +kernel
theorem dL_doSimulate_3 : decode cL_doSimulate 3 = .ok (.invokevirtual 23, 3) := by decide +kernel
theorem dL_doSimulate_6 : decode cL_doSimulate 6 = .ok (.ireturn, 1) := by decide +kernel
theorem dL_doSimulate_7 : decode cL_doSimulate 7 = .ok (.astore 4, 2) := by decide +kernel
theorem dL_doSimulate_9 : decode cL_doSimulate 9 = .ok (.ldc 18, 2) := by decide +kernel
theorem dL_doSimulate_11 : decode cL_doSimulate 11 = .ok (.ireturn, 1) := by decide +kernel
theorem dL_tryAppend_0 : decode cL_tryAppend 0 = .ok (.aload_n 0, 1) := by decide +kernel
theorem dL_tryAppend_1 : decode cL_tryAppend 1 = .ok (.iload_n 1, 1) := by decide +kernel
theorem dL_tryAppend_2 : decode cL_tryAppend 2 = .ok (.invokevirtual 27, 3) := by decide +kernel
theorem dL_tryAppend_5 : decode cL_tryAppend 5 = .ok (.ireturn, 1) := by decide +kernel
theorem dL_tryAppend_6 : decode cL_tryAppend 6 = .ok (.astore_n 2, 1) := by decide +kernel
theorem dL_tryAppend_7 : decode cL_tryAppend 7 = .ok (.ldc 18, 2) := by decide +kernel
theorem dL_tryAppend_9 : decode cL_tryAppend 9 = .ok (.ireturn, 1) := by decide +kernel
theorem dL_tryAppend_10 : decode cL_tryAppend 10 = .ok (.astore_n 2, 1) := by decide +kernel
theorem dL_tryAppend_11 : decode cL_tryAppend 11 = .ok (.ldc 33, 2) := by decide +kernel
theorem dL_tryAppend_13 : decode cL_tryAppend 13 = .ok (.ireturn, 1) := by decide +kernel
theorem dL_tryLoad_0 : decode cL_tryLoad 0 = .ok (.aload_n 0, 1) := by decide +kernel
theorem dL_tryLoad_1 : decode cL_tryLoad 1 = .ok (.invokevirtual 34, 3) := by decide +kernel
theorem dL_tryLoad_4 : decode cL_tryLoad 4 = .ok (.ireturn, 1) := by decide +kernel
theorem dL_tryLoad_5 : decode cL_tryLoad 5 = .ok (.astore_n 1, 1) := by decide +kernel
theorem dL_tryLoad_6 : decode cL_tryLoad 6 = .ok (.ldc 33, 2) := by decide +kernel
theorem dL_tryLoad_8 : decode cL_tryLoad 8 = .ok (.ireturn, 1) := by decide +kernel
theorem dL_tryAbout_0 : decode cL_tryAbout 0 = .ok (.aload_n 0, 1) := by decide +kernel
theorem dL_tryAbout_1 : decode cL_tryAbout 1 = .ok (.iload_n 1, 1) := by decide +kernel
theorem dL_tryAbout_2 : decode cL_tryAbout 2 = .ok (.invokevirtual 38, 3) := by decide +kernel
theorem dL_tryAbout_5 : decode cL_tryAbout 5 = .ok (.ireturn, 1) := by decide +kernel
theorem dL_tryAbout_6 : decode cL_tryAbout 6 = .ok (.astore_n 2, 1) := by decide +kernel
theorem dL_tryAbout_7 : decode cL_tryAbout 7 = .ok (.ldc 18, 2) := by decide +kernel
theorem dL_tryAbout_9 : decode cL_tryAbout 9 = .ok (.ireturn, 1) := by decide +kernel
theorem dL_tryMember_0 : decode cL_tryMember 0 = .ok (.aload_n 0, 1) := by decide +kernel
theorem dL_tryMember_1 : decode cL_tryMember 1 = .ok (.iload_n 1, 1) := by decide +kernel
theorem dL_tryMember_2 : decode cL_tryMember 2 = .ok (.iload_n 2, 1) := by decide +kernel
theorem dL_tryMember_3 : decode cL_tryMember 3 = .ok (.invokevirtual 41, 3) := by decide +kernel
theorem dL_tryMember_6 : decode cL_tryMember 6 = .ok (.ireturn, 1) := by decide +kernel
theorem dL_tryMember_7 : decode cL_tryMember 7 = .ok (.astore_n 3, 1) := by decide +kernel
theorem dL_tryMember_8 : decode cL_tryMember 8 = .ok (.ldc 15, 2) := by decide +kernel
theorem dL_tryMember_10 : decode cL_tryMember 10 = .ok (.ireturn, 1) := by decide +kernel
theorem dL_tryMember_11 : decode cL_tryMember 11 = .ok (.astore_n 3, 1) := by decide +kernel
theorem dL_tryMember_12 : decode cL_tryMember 12 = .ok (.ldc 18, 2) := by decide +kernel
theorem dL_tryMember_14 : decode cL_tryMember 14 = .ok (.ireturn, 1) := by decide +kernel
theorem dL_trySession_0 : decode cL_trySession 0 = .ok (.aload_n 0, 1) := by decide +kernel
theorem dL_trySession_1 : decode cL_trySession 1 = .ok (.iload_n 1, 1) := by decide +kernel
theorem dL_trySession_2 : decode cL_trySession 2 = .ok (.iload_n 2, 1) := by decide +kernel
theorem dL_trySession_3 : decode cL_trySession 3 = .ok (.iload_n 3, 1) := by decide +kernel
theorem dL_trySession_4 : decode cL_trySession 4 = .ok (.invokevirtual 45, 3) := by decide +kernel
theorem dL_trySession_7 : decode cL_trySession 7 = .ok (.ireturn, 1) := by decide +kernel
theorem dL_trySession_8 : decode cL_trySession 8 = .ok (.astore 4, 2) := by decide +kernel
theorem dL_trySession_10 : decode cL_trySession 10 = .ok (.ldc 15, 2) := by decide +kernel
theorem dL_trySession_12 : decode cL_trySession 12 = .ok (.ireturn, 1) := by decide +kernel
theorem dL_trySession_13 : decode cL_trySession 13 = .ok (.astore 4, 2) := by decide +kernel
theorem dL_trySession_15 : decode cL_trySession 15 = .ok (.ldc 18, 2) := by decide +kernel
theorem dL_trySession_17 : decode cL_trySession 17 = .ok (.ireturn, 1) := by decide +kernel
theorem dL_tryNote_0 : decode cL_tryNote 0 = .ok (.aload_n 0, 1) := by decide +kernel
theorem dL_tryNote_1 : decode cL_tryNote 1 = .ok (.iload_n 1, 1) := by decide +kernel
theorem dL_tryNote_2 : decode cL_tryNote 2 = .ok (.iload_n 2, 1) := by decide +kernel
theorem dL_tryNote_3 : decode cL_tryNote 3 = .ok (.invokevirtual 49, 3) := by decide +kernel
theorem dL_tryNote_6 : decode cL_tryNote 6 = .ok (.ireturn, 1) := by decide +kernel
theorem dL_tryNote_7 : decode cL_tryNote 7 = .ok (.astore_n 3, 1) := by decide +kernel
theorem dL_tryNote_8 : decode cL_tryNote 8 = .ok (.ldc 15, 2) := by decide +kernel
theorem dL_tryNote_10 : decode cL_tryNote 10 = .ok (.ireturn, 1) := by decide +kernel
theorem dL_tryNote_11 : decode cL_tryNote 11 = .ok (.astore_n 3, 1) := by decide +kernel
theorem dL_tryNote_12 : decode cL_tryNote 12 = .ok (.ldc 18, 2) := by decide +kernel
theorem dL_tryNote_14 : decode cL_tryNote 14 = .ok (.ireturn, 1) := by decide +kernel
theorem dL_tryCut_0 : decode cL_tryCut 0 = .ok (.aload_n 0, 1) := by decide +kernel
theorem dL_tryCut_1 : decode cL_tryCut 1 = .ok (.iload_n 1, 1) := by decide +kernel
theorem dL_tryCut_2 : decode cL_tryCut 2 = .ok (.iload_n 2, 1) := by decide +kernel
theorem dL_tryCut_3 : decode cL_tryCut 3 = .ok (.invokevirtual 52, 3) := by decide +kernel
theorem dL_tryCut_6 : decode cL_tryCut 6 = .ok (.ireturn, 1) := by decide +kernel
theorem dL_tryCut_7 : decode cL_tryCut 7 = .ok (.astore_n 3, 1) := by decide +kernel
theorem dL_tryCut_8 : decode cL_tryCut 8 = .ok (.ldc 15, 2) := by decide +kernel
theorem dL_tryCut_10 : decode cL_tryCut 10 = .ok (.ireturn, 1) := by decide +kernel
theorem dL_tryCome_0 : decode cL_tryCome 0 = .ok (.aload_n 0, 1) := by decide +kernel
theorem dL_tryCome_1 : decode cL_tryCome 1 = .ok (.iload_n 1, 1) := by decide +kernel
theorem dL_tryCome_2 : decode cL_tryCome 2 = .ok (.invokevirtual 55, 3) := by decide +kernel
theorem dL_tryCome_5 : decode cL_tryCome 5 = .ok (.ireturn, 1) := by decide +kernel
theorem dL_tryCome_6 : decode cL_tryCome 6 = .ok (.astore_n 2, 1) := by decide +kernel
theorem dL_tryCome_7 : decode cL_tryCome 7 = .ok (.ldc 18, 2) := by decide +kernel
theorem dL_tryCome_9 : decode cL_tryCome 9 = .ok (.ireturn, 1) := by decide +kernel
theorem dL_tryCome_10 : decode cL_tryCome 10 = .ok (.astore_n 2, 1) := by decide +kernel
theorem dL_tryCome_11 : decode cL_tryCome 11 = .ok (.ldc 33, 2) := by decide +kernel
theorem dL_tryCome_13 : decode cL_tryCome 13 = .ok (.ireturn, 1) := by decide +kernel
theorem dL_trySay_0 : decode cL_trySay 0 = .ok (.aload_n 0, 1) := by decide +kernel
theorem dL_trySay_1 : decode cL_trySay 1 = .ok (.iload_n 1, 1) := by decide +kernel
theorem dL_trySay_2 : decode cL_trySay 2 = .ok (.invokevirtual 58, 3) := by decide +kernel
theorem dL_trySay_5 : decode cL_trySay 5 = .ok (.ireturn, 1) := by decide +kernel
theorem dL_trySay_6 : decode cL_trySay 6 = .ok (.astore_n 2, 1) := by decide +kernel
theorem dL_trySay_7 : decode cL_trySay 7 = .ok (.ldc 15, 2) := by decide +kernel
theorem dL_trySay_9 : decode cL_trySay 9 = .ok (.ireturn, 1) := by decide +kernel
theorem dL_trySay_10 : decode cL_trySay 10 = .ok (.astore_n 2, 1) := by decide +kernel
theorem dL_trySay_11 : decode cL_trySay 11 = .ok (.ldc 33, 2) := by decide +kernel
theorem dL_trySay_13 : decode cL_trySay 13 = .ok (.ireturn, 1) := by decide +kernel
theorem dL_tryCall_0 : decode cL_tryCall 0 = .ok (.aload_n 0, 1) := by decide +kernel
theorem dL_tryCall_1 : decode cL_tryCall 1 = .ok (.iload_n 1, 1) := by decide +kernel
theorem dL_tryCall_2 : decode cL_tryCall 2 = .ok (.iload_n 2, 1) := by decide +kernel
theorem dL_tryCall_3 : decode cL_tryCall 3 = .ok (.invokevirtual 61, 3) := by decide +kernel
theorem dL_tryCall_6 : decode cL_tryCall 6 = .ok (.ireturn, 1) := by decide +kernel
theorem dL_tryCall_7 : decode cL_tryCall 7 = .ok (.astore_n 3, 1) := by decide +kernel
theorem dL_tryCall_8 : decode cL_tryCall 8 = .ok (.ldc 15, 2) := by decide +kernel
theorem dL_tryCall_10 : decode cL_tryCall 10 = .ok (.ireturn, 1) := by decide +kernel
theorem dL_tryCall_11 : decode cL_tryCall 11 = .ok (.astore_n 3, 1) := by decide +kernel
theorem dL_tryCall_12 : decode cL_tryCall 12 = .ok (.ldc 18, 2) := by decide +kernel
theorem dL_tryCall_14 : decode cL_tryCall 14 = .ok (.ireturn, 1) := by decide +kernel
theorem dL_tryCall_15 : decode cL_tryCall 15 = .ok (.astore_n 3, 1) := by decide +kernel
theorem dL_tryCall_16 : decode cL_tryCall 16 = .ok (.ldc 33, 2) := by decide +kernel
theorem dL_tryCall_18 : decode cL_tryCall 18 = .ok (.ireturn, 1) := by decide +kernel
theorem dL_tryLeave_0 : decode cL_tryLeave 0 = .ok (.aload_n 0, 1) := by decide +kernel
theorem dL_tryLeave_1 : decode cL_tryLeave 1 = .ok (.iload_n 1, 1) := by decide +kernel
theorem dL_tryLeave_2 : decode cL_tryLeave 2 = .ok (.invokevirtual 64, 3) := by decide +kernel
theorem dL_tryLeave_5 : decode cL_tryLeave 5 = .ok (.ireturn, 1) := by decide +kernel
theorem dL_tryLeave_6 : decode cL_tryLeave 6 = .ok (.astore_n 2, 1) := by decide +kernel
theorem dL_tryLeave_7 : decode cL_tryLeave 7 = .ok (.ldc 15, 2) := by decide +kernel
theorem dL_tryLeave_9 : decode cL_tryLeave 9 = .ok (.ireturn, 1) := by decide +kernel
theorem dL_tryLeave_10 : decode cL_tryLeave 10 = .ok (.astore_n 2, 1) := by decide +kernel
theorem dL_tryLeave_11 : decode cL_tryLeave 11 = .ok (.ldc 33, 2) := by decide +kernel
theorem dL_tryLeave_13 : decode cL_tryLeave 13 = .ok (.ireturn, 1) := by decide +kernel
theorem dL_tryReturn_0 : decode cL_tryReturn 0 = .ok (.aload_n 0, 1) := by decide +kernel
theorem dL_tryReturn_1 : decode cL_tryReturn 1 = .ok (.iload_n 1, 1) := by decide +kernel
theorem dL_tryReturn_2 : decode cL_tryReturn 2 = .ok (.invokevirtual 67, 3) := by decide +kernel
theorem dL_tryReturn_5 : decode cL_tryReturn 5 = .ok (.ireturn, 1) := by decide +kernel
theorem dL_tryReturn_6 : decode cL_tryReturn 6 = .ok (.astore_n 2, 1) := by decide +kernel
theorem dL_tryReturn_7 : decode cL_tryReturn 7 = .ok (.ldc 15, 2) := by decide +kernel
theorem dL_tryReturn_9 : decode cL_tryReturn 9 = .ok (.ireturn, 1) := by decide +kernel
theorem dL_tryReturn_10 : decode cL_tryReturn 10 = .ok (.astore_n 2, 1) := by decide +kernel
theorem dL_tryReturn_11 : decode cL_tryReturn 11 = .ok (.ldc 33, 2) := by decide +kernel
theorem dL_tryReturn_13 : decode cL_tryReturn 13 = .ok (.ireturn, 1) := by decide +kernel
theorem dL_tryLay_0 : decode cL_tryLay 0 = .ok (.aload_n 0, 1) := by decide +kernel
theorem dL_tryLay_1 : decode cL_tryLay 1 = .ok (.iload_n 1, 1) := by decide +kernel
theorem dL_tryLay_2 : decode cL_tryLay 2 = .ok (.invokevirtual 70, 3) := by decide +kernel
theorem dL_tryLay_5 : decode cL_tryLay 5 = .ok (.ireturn, 1) := by decide +kernel
theorem dL_tryLay_6 : decode cL_tryLay 6 = .ok (.astore_n 2, 1) := by decide +kernel
theorem dL_tryLay_7 : decode cL_tryLay 7 = .ok (.ldc 18, 2) := by decide +kernel
theorem dL_tryLay_9 : decode cL_tryLay 9 = .ok (.ireturn, 1) := by decide +kernel
theorem dL_tryTicks_0 : decode cL_tryTicks 0 = .ok (.aload_n 0, 1) := by decide +kernel
theorem dL_tryTicks_1 : decode cL_tryTicks 1 = .ok (.iload_n 1, 1) := by decide +kernel
theorem dL_tryTicks_2 : decode cL_tryTicks 2 = .ok (.invokevirtual 73, 3) := by decide +kernel
theorem dL_tryTicks_5 : decode cL_tryTicks 5 = .ok (.ireturn, 1) := by decide +kernel
theorem dL_tryTicks_6 : decode cL_tryTicks 6 = .ok (.astore_n 2, 1) := by decide +kernel
theorem dL_tryTicks_7 : decode cL_tryTicks 7 = .ok (.ldc 18, 2) := by decide +kernel
theorem dL_tryTicks_9 : decode cL_tryTicks 9 = .ok (.ireturn, 1) := by decide +kernel
theorem dL_tryUndo_0 : decode cL_tryUndo 0 = .ok (.aload_n 0, 1) := by decide +kernel
theorem dL_tryUndo_1 : decode cL_tryUndo 1 = .ok (.invokevirtual 76, 3) := by decide +kernel
theorem dL_tryUndo_4 : decode cL_tryUndo 4 = .ok (.ireturn, 1) := by decide +kernel
theorem dL_tryUndo_5 : decode cL_tryUndo 5 = .ok (.astore_n 1, 1) := by decide +kernel
theorem dL_tryUndo_6 : decode cL_tryUndo 6 = .ok (.ldc 33, 2) := by decide +kernel
theorem dL_tryUndo_8 : decode cL_tryUndo 8 = .ok (.ireturn, 1) := by decide +kernel
theorem dL_tryStands_0 : decode cL_tryStands 0 = .ok (.aload_n 0, 1) := by decide +kernel
theorem dL_tryStands_1 : decode cL_tryStands 1 = .ok (.iload_n 1, 1) := by decide +kernel
theorem dL_tryStands_2 : decode cL_tryStands 2 = .ok (.iload_n 2, 1) := by decide +kernel
theorem dL_tryStands_3 : decode cL_tryStands 3 = .ok (.iload_n 3, 1) := by decide +kernel
theorem dL_tryStands_4 : decode cL_tryStands 4 = .ok (.invokevirtual 79, 3) := by decide +kernel
theorem dL_tryStands_7 : decode cL_tryStands 7 = .ok (.ireturn, 1) := by decide +kernel
theorem dL_tryStands_8 : decode cL_tryStands 8 = .ok (.astore 4, 2) := by decide +kernel
theorem dL_tryStands_10 : decode cL_tryStands 10 = .ok (.ldc 15, 2) := by decide +kernel
theorem dL_tryStands_12 : decode cL_tryStands 12 = .ok (.ireturn, 1) := by decide +kernel
theorem dL_tryStands_13 : decode cL_tryStands 13 = .ok (.astore 4, 2) := by decide +kernel
theorem dL_tryStands_15 : decode cL_tryStands 15 = .ok (.ldc 18, 2) := by decide +kernel
theorem dL_tryStands_17 : decode cL_tryStands 17 = .ok (.ireturn, 1) := by decide +kernel
theorem dL_tryCompare_0 : decode cL_tryCompare 0 = .ok (.aload_n 0, 1) := by decide +kernel
theorem dL_tryCompare_1 : decode cL_tryCompare 1 = .ok (.iload_n 1, 1) := by decide +kernel
theorem dL_tryCompare_2 : decode cL_tryCompare 2 = .ok (.iload_n 2, 1) := by decide +kernel
theorem dL_tryCompare_3 : decode cL_tryCompare 3 = .ok (.iload_n 3, 1) := by decide +kernel
theorem dL_tryCompare_4 : decode cL_tryCompare 4 = .ok (.invokevirtual 82, 3) := by decide +kernel
theorem dL_tryCompare_7 : decode cL_tryCompare 7 = .ok (.ireturn, 1) := by decide +kernel
theorem dL_tryCompare_8 : decode cL_tryCompare 8 = .ok (.astore 4, 2) := by decide +kernel
theorem dL_tryCompare_10 : decode cL_tryCompare 10 = .ok (.ldc 15, 2) := by decide +kernel
theorem dL_tryCompare_12 : decode cL_tryCompare 12 = .ok (.ireturn, 1) := by decide +kernel
theorem dL_tryCompare_13 : decode cL_tryCompare 13 = .ok (.astore 4, 2) := by decide +kernel
theorem dL_tryCompare_15 : decode cL_tryCompare 15 = .ok (.ldc 18, 2) := by decide +kernel
theorem dL_tryCompare_17 : decode cL_tryCompare 17 = .ok (.ireturn, 1) := by decide +kernel
theorem dL_tryLacks_0 : decode cL_tryLacks 0 = .ok (.aload_n 0, 1) := by decide +kernel
theorem dL_tryLacks_1 : decode cL_tryLacks 1 = .ok (.iload_n 1, 1) := by decide +kernel
theorem dL_tryLacks_2 : decode cL_tryLacks 2 = .ok (.invokevirtual 85, 3) := by decide +kernel
theorem dL_tryLacks_5 : decode cL_tryLacks 5 = .ok (.ireturn, 1) := by decide +kernel
theorem dL_tryLacks_6 : decode cL_tryLacks 6 = .ok (.astore_n 2, 1) := by decide +kernel
theorem dL_tryLacks_7 : decode cL_tryLacks 7 = .ok (.ldc 15, 2) := by decide +kernel
theorem dL_tryLacks_9 : decode cL_tryLacks 9 = .ok (.ireturn, 1) := by decide +kernel
theorem dL_tryKeep_0 : decode cL_tryKeep 0 = .ok (.aload_n 0, 1) := by decide +kernel
theorem dL_tryKeep_1 : decode cL_tryKeep 1 = .ok (.iload_n 1, 1) := by decide +kernel
theorem dL_tryKeep_2 : decode cL_tryKeep 2 = .ok (.invokevirtual 88, 3) := by decide +kernel
theorem dL_tryKeep_5 : decode cL_tryKeep 5 = .ok (.ireturn, 1) := by decide +kernel
theorem dL_tryKeep_6 : decode cL_tryKeep 6 = .ok (.astore_n 2, 1) := by decide +kernel
theorem dL_tryKeep_7 : decode cL_tryKeep 7 = .ok (.ldc 15, 2) := by decide +kernel
theorem dL_tryKeep_9 : decode cL_tryKeep 9 = .ok (.ireturn, 1) := by decide +kernel
theorem dL_tryBack_0 : decode cL_tryBack 0 = .ok (.aload_n 0, 1) := by decide +kernel
theorem dL_tryBack_1 : decode cL_tryBack 1 = .ok (.iload_n 1, 1) := by decide +kernel
theorem dL_tryBack_2 : decode cL_tryBack 2 = .ok (.invokevirtual 91, 3) := by decide +kernel
theorem dL_tryBack_5 : decode cL_tryBack 5 = .ok (.ireturn, 1) := by decide +kernel
theorem dL_tryBack_6 : decode cL_tryBack 6 = .ok (.astore_n 2, 1) := by decide +kernel
theorem dL_tryBack_7 : decode cL_tryBack 7 = .ok (.ldc 15, 2) := by decide +kernel
theorem dL_tryBack_9 : decode cL_tryBack 9 = .ok (.ireturn, 1) := by decide +kernel
theorem dL_tryBack_10 : decode cL_tryBack 10 = .ok (.astore_n 2, 1) := by decide +kernel
theorem dL_tryBack_11 : decode cL_tryBack 11 = .ok (.ldc 33, 2) := by decide +kernel
theorem dL_tryBack_13 : decode cL_tryBack 13 = .ok (.ireturn, 1) := by decide +kernel
theorem dL_call_0 : decode cL_call 0 = .ok (.iload_n 1, 1) := by decide +kernel
theorem dL_call_1 : decode cL_call 1 = .ok (.tableswitch 216 0 18 #[91, 97, 102, 108, 115, 124, 131, 138, 144, 150, 157, 163, 169, 175, 181, 186, 195, 204, 210], 91) := by decide +kernel
theorem dL_call_92 : decode cL_call 92 = .ok (.aload_n 0, 1) := by decide +kernel
theorem dL_call_93 : decode cL_call 93 = .ok (.iload_n 2, 1) := by decide +kernel
theorem dL_call_94 : decode cL_call 94 = .ok (.invokestatic 94, 3) := by decide +kernel
theorem dL_call_97 : decode cL_call 97 = .ok (.ireturn, 1) := by decide +kernel
theorem dL_call_98 : decode cL_call 98 = .ok (.aload_n 0, 1) := by decide +kernel
theorem dL_call_99 : decode cL_call 99 = .ok (.invokestatic 100, 3) := by decide +kernel
theorem dL_call_102 : decode cL_call 102 = .ok (.ireturn, 1) := by decide +kernel
theorem dL_call_103 : decode cL_call 103 = .ok (.aload_n 0, 1) := by decide +kernel
theorem dL_call_104 : decode cL_call 104 = .ok (.iload_n 2, 1) := by decide +kernel
theorem dL_call_105 : decode cL_call 105 = .ok (.invokestatic 104, 3) := by decide +kernel
theorem dL_call_108 : decode cL_call 108 = .ok (.ireturn, 1) := by decide +kernel
theorem dL_call_109 : decode cL_call 109 = .ok (.aload_n 0, 1) := by decide +kernel
theorem dL_call_110 : decode cL_call 110 = .ok (.iload_n 2, 1) := by decide +kernel
theorem dL_call_111 : decode cL_call 111 = .ok (.iload_n 3, 1) := by decide +kernel
theorem dL_call_112 : decode cL_call 112 = .ok (.invokestatic 107, 3) := by decide +kernel
theorem dL_call_115 : decode cL_call 115 = .ok (.ireturn, 1) := by decide +kernel
theorem dL_call_116 : decode cL_call 116 = .ok (.aload_n 0, 1) := by decide +kernel
theorem dL_call_117 : decode cL_call 117 = .ok (.iload_n 2, 1) := by decide +kernel
theorem dL_call_118 : decode cL_call 118 = .ok (.iload_n 3, 1) := by decide +kernel
theorem dL_call_119 : decode cL_call 119 = .ok (.iload 4, 2) := by decide +kernel
theorem dL_call_121 : decode cL_call 121 = .ok (.invokestatic 111, 3) := by decide +kernel
theorem dL_call_124 : decode cL_call 124 = .ok (.ireturn, 1) := by decide +kernel
theorem dL_call_125 : decode cL_call 125 = .ok (.aload_n 0, 1) := by decide +kernel
theorem dL_call_126 : decode cL_call 126 = .ok (.iload_n 2, 1) := by decide +kernel
theorem dL_call_127 : decode cL_call 127 = .ok (.iload_n 3, 1) := by decide +kernel
theorem dL_call_128 : decode cL_call 128 = .ok (.invokestatic 115, 3) := by decide +kernel
theorem dL_call_131 : decode cL_call 131 = .ok (.ireturn, 1) := by decide +kernel
theorem dL_call_132 : decode cL_call 132 = .ok (.aload_n 0, 1) := by decide +kernel
theorem dL_call_133 : decode cL_call 133 = .ok (.iload_n 2, 1) := by decide +kernel
theorem dL_call_134 : decode cL_call 134 = .ok (.iload_n 3, 1) := by decide +kernel
theorem dL_call_135 : decode cL_call 135 = .ok (.invokestatic 118, 3) := by decide +kernel
theorem dL_call_138 : decode cL_call 138 = .ok (.ireturn, 1) := by decide +kernel
theorem dL_call_139 : decode cL_call 139 = .ok (.aload_n 0, 1) := by decide +kernel
theorem dL_call_140 : decode cL_call 140 = .ok (.iload_n 2, 1) := by decide +kernel
theorem dL_call_141 : decode cL_call 141 = .ok (.invokestatic 121, 3) := by decide +kernel
theorem dL_call_144 : decode cL_call 144 = .ok (.ireturn, 1) := by decide +kernel
theorem dL_call_145 : decode cL_call 145 = .ok (.aload_n 0, 1) := by decide +kernel
theorem dL_call_146 : decode cL_call 146 = .ok (.iload_n 2, 1) := by decide +kernel
theorem dL_call_147 : decode cL_call 147 = .ok (.invokestatic 124, 3) := by decide +kernel
theorem dL_call_150 : decode cL_call 150 = .ok (.ireturn, 1) := by decide +kernel
theorem dL_call_151 : decode cL_call 151 = .ok (.aload_n 0, 1) := by decide +kernel
theorem dL_call_152 : decode cL_call 152 = .ok (.iload_n 2, 1) := by decide +kernel
theorem dL_call_153 : decode cL_call 153 = .ok (.iload_n 3, 1) := by decide +kernel
theorem dL_call_154 : decode cL_call 154 = .ok (.invokestatic 127, 3) := by decide +kernel
theorem dL_call_157 : decode cL_call 157 = .ok (.ireturn, 1) := by decide +kernel
theorem dL_call_158 : decode cL_call 158 = .ok (.aload_n 0, 1) := by decide +kernel
theorem dL_call_159 : decode cL_call 159 = .ok (.iload_n 2, 1) := by decide +kernel
theorem dL_call_160 : decode cL_call 160 = .ok (.invokestatic 130, 3) := by decide +kernel
theorem dL_call_163 : decode cL_call 163 = .ok (.ireturn, 1) := by decide +kernel
theorem dL_call_164 : decode cL_call 164 = .ok (.aload_n 0, 1) := by decide +kernel
theorem dL_call_165 : decode cL_call 165 = .ok (.iload_n 2, 1) := by decide +kernel
theorem dL_call_166 : decode cL_call 166 = .ok (.invokestatic 133, 3) := by decide +kernel
theorem dL_call_169 : decode cL_call 169 = .ok (.ireturn, 1) := by decide +kernel
theorem dL_call_170 : decode cL_call 170 = .ok (.aload_n 0, 1) := by decide +kernel
theorem dL_call_171 : decode cL_call 171 = .ok (.iload_n 2, 1) := by decide +kernel
theorem dL_call_172 : decode cL_call 172 = .ok (.invokestatic 136, 3) := by decide +kernel
theorem dL_call_175 : decode cL_call 175 = .ok (.ireturn, 1) := by decide +kernel
theorem dL_call_176 : decode cL_call 176 = .ok (.aload_n 0, 1) := by decide +kernel
theorem dL_call_177 : decode cL_call 177 = .ok (.iload_n 2, 1) := by decide +kernel
theorem dL_call_178 : decode cL_call 178 = .ok (.invokestatic 139, 3) := by decide +kernel
theorem dL_call_181 : decode cL_call 181 = .ok (.ireturn, 1) := by decide +kernel
theorem dL_call_182 : decode cL_call 182 = .ok (.aload_n 0, 1) := by decide +kernel
theorem dL_call_183 : decode cL_call 183 = .ok (.invokestatic 142, 3) := by decide +kernel
theorem dL_call_186 : decode cL_call 186 = .ok (.ireturn, 1) := by decide +kernel
theorem dL_call_187 : decode cL_call 187 = .ok (.aload_n 0, 1) := by decide +kernel
theorem dL_call_188 : decode cL_call 188 = .ok (.iload_n 2, 1) := by decide +kernel
theorem dL_call_189 : decode cL_call 189 = .ok (.iload_n 3, 1) := by decide +kernel
theorem dL_call_190 : decode cL_call 190 = .ok (.iload 4, 2) := by decide +kernel
theorem dL_call_192 : decode cL_call 192 = .ok (.invokestatic 145, 3) := by decide +kernel
theorem dL_call_195 : decode cL_call 195 = .ok (.ireturn, 1) := by decide +kernel
theorem dL_call_196 : decode cL_call 196 = .ok (.aload_n 0, 1) := by decide +kernel
theorem dL_call_197 : decode cL_call 197 = .ok (.iload_n 2, 1) := by decide +kernel
theorem dL_call_198 : decode cL_call 198 = .ok (.iload_n 3, 1) := by decide +kernel
theorem dL_call_199 : decode cL_call 199 = .ok (.iload 4, 2) := by decide +kernel
theorem dL_call_201 : decode cL_call 201 = .ok (.invokestatic 148, 3) := by decide +kernel
theorem dL_call_204 : decode cL_call 204 = .ok (.ireturn, 1) := by decide +kernel
theorem dL_call_205 : decode cL_call 205 = .ok (.aload_n 0, 1) := by decide +kernel
theorem dL_call_206 : decode cL_call 206 = .ok (.iload_n 2, 1) := by decide +kernel
theorem dL_call_207 : decode cL_call 207 = .ok (.invokestatic 151, 3) := by decide +kernel
theorem dL_call_210 : decode cL_call 210 = .ok (.ireturn, 1) := by decide +kernel
theorem dL_call_211 : decode cL_call 211 = .ok (.aload_n 0, 1) := by decide +kernel
theorem dL_call_212 : decode cL_call 212 = .ok (.iload_n 2, 1) := by decide +kernel
theorem dL_call_213 : decode cL_call 213 = .ok (.invokestatic 154, 3) := by decide +kernel
theorem dL_call_216 : decode cL_call 216 = .ok (.ireturn, 1) := by decide +kernel
theorem dL_call_217 : decode cL_call 217 = .ok (.aload_n 0, 1) := by decide +kernel
theorem dL_call_218 : decode cL_call 218 = .ok (.iload_n 2, 1) := by decide +kernel
theorem dL_call_219 : decode cL_call 219 = .ok (.invokestatic 157, 3) := by decide +kernel
theorem dL_call_222 : decode cL_call 222 = .ok (.ireturn, 1) := by decide +kernel
theorem dL_cell_0 : decode cL_cell 0 = .ok (.iload_n 1, 1) := by decide +kernel
theorem dL_cell_1 : decode cL_cell 1 = .ok (.aload_n 0, 1) := by decide +kernel
theorem dL_cell_2 : decode cL_cell 2 = .ok (.arraylength, 1) := by decide +kernel
theorem dL_cell_3 : decode cL_cell 3 = .ok (.if_icmp .ge 9, 3) := by decide +kernel
theorem dL_cell_6 : decode cL_cell 6 = .ok (.aload_n 0, 1) := by decide +kernel
theorem dL_cell_7 : decode cL_cell 7 = .ok (.iload_n 1, 1) := by decide +kernel
theorem dL_cell_8 : decode cL_cell 8 = .ok (.iaload, 1) := by decide +kernel
theorem dL_cell_9 : decode cL_cell 9 = .ok (.goto 13, 3) := by decide +kernel
theorem dL_cell_12 : decode cL_cell 12 = .ok (.ldc 160, 2) := by decide +kernel
theorem dL_cell_14 : decode cL_cell 14 = .ok (.iload_n 1, 1) := by decide +kernel
theorem dL_cell_15 : decode cL_cell 15 = .ok (.iconst 3, 1) := by decide +kernel
theorem dL_cell_16 : decode cL_cell 16 = .ok (.iadd, 1) := by decide +kernel
theorem dL_cell_17 : decode cL_cell 17 = .ok (.imul, 1) := by decide +kernel
theorem dL_cell_18 : decode cL_cell 18 = .ok (.sipush 11719, 3) := by decide +kernel
theorem dL_cell_21 : decode cL_cell 21 = .ok (.iadd, 1) := by decide +kernel
theorem dL_cell_22 : decode cL_cell 22 = .ok (.ldc 161, 2) := by decide +kernel
theorem dL_cell_24 : decode cL_cell 24 = .ok (.iand, 1) := by decide +kernel
theorem dL_cell_25 : decode cL_cell 25 = .ok (.ireturn, 1) := by decide +kernel
theorem dL_thrown_0 : decode cL_thrown 0 = .ok (.iload_n 0, 1) := by decide +kernel
theorem dL_thrown_1 : decode cL_thrown 1 = .ok (.ldc 15, 2) := by decide +kernel
theorem dL_thrown_3 : decode cL_thrown 3 = .ok (.if_icmp .eq 15, 3) := by decide +kernel
theorem dL_thrown_6 : decode cL_thrown 6 = .ok (.iload_n 0, 1) := by decide +kernel
theorem dL_thrown_7 : decode cL_thrown 7 = .ok (.ldc 18, 2) := by decide +kernel
theorem dL_thrown_9 : decode cL_thrown 9 = .ok (.if_icmp .eq 9, 3) := by decide +kernel
theorem dL_thrown_12 : decode cL_thrown 12 = .ok (.iload_n 0, 1) := by decide +kernel
theorem dL_thrown_13 : decode cL_thrown 13 = .ok (.ldc 33, 2) := by decide +kernel
theorem dL_thrown_15 : decode cL_thrown 15 = .ok (.if_icmp .ne 7, 3) := by decide +kernel
theorem dL_thrown_18 : decode cL_thrown 18 = .ok (.iconst 1, 1) := by decide +kernel
theorem dL_thrown_19 : decode cL_thrown 19 = .ok (.goto 4, 3) := by decide +kernel
theorem dL_thrown_22 : decode cL_thrown 22 = .ok (.iconst 0, 1) := by decide +kernel
theorem dL_thrown_23 : decode cL_thrown 23 = .ok (.ireturn, 1) := by decide +kernel
theorem dL_refuses_0 : decode cL_refuses 0 = .ok (.aload_n 0, 1) := by decide +kernel
theorem dL_refuses_1 : decode cL_refuses 1 = .ok (.iconst 2, 1) := by decide +kernel
theorem dL_refuses_2 : decode cL_refuses 2 = .ok (.iconst 0, 1) := by decide +kernel
theorem dL_refuses_3 : decode cL_refuses 3 = .ok (.iconst 0, 1) := by decide +kernel
theorem dL_refuses_4 : decode cL_refuses 4 = .ok (.iconst 0, 1) := by decide +kernel
theorem dL_refuses_5 : decode cL_refuses 5 = .ok (.invokestatic 162, 3) := by decide +kernel
theorem dL_refuses_8 : decode cL_refuses 8 = .ok (.istore_n 2, 1) := by decide +kernel
theorem dL_refuses_9 : decode cL_refuses 9 = .ok (.aload_n 0, 1) := by decide +kernel
theorem dL_refuses_10 : decode cL_refuses 10 = .ok (.iconst 2, 1) := by decide +kernel
theorem dL_refuses_11 : decode cL_refuses 11 = .ok (.iconst 2, 1) := by decide +kernel
theorem dL_refuses_12 : decode cL_refuses 12 = .ok (.iconst 0, 1) := by decide +kernel
theorem dL_refuses_13 : decode cL_refuses 13 = .ok (.iconst 0, 1) := by decide +kernel
theorem dL_refuses_14 : decode cL_refuses 14 = .ok (.invokestatic 162, 3) := by decide +kernel
theorem dL_refuses_17 : decode cL_refuses 17 = .ok (.istore_n 3, 1) := by decide +kernel
theorem dL_refuses_18 : decode cL_refuses 18 = .ok (.iload_n 1, 1) := by decide +kernel
theorem dL_refuses_19 : decode cL_refuses 19 = .ok (.iconst 2, 1) := by decide +kernel
theorem dL_refuses_20 : decode cL_refuses 20 = .ok (.irem, 1) := by decide +kernel
theorem dL_refuses_21 : decode cL_refuses 21 = .ok (.ifCond .ne 12, 3) := by decide +kernel
theorem dL_refuses_24 : decode cL_refuses 24 = .ok (.iconst (-1), 1) := by decide +kernel
theorem dL_refuses_25 : decode cL_refuses 25 = .ok (.iload_n 1, 1) := by decide +kernel
theorem dL_refuses_26 : decode cL_refuses 26 = .ok (.bipush 99, 2) := by decide +kernel
theorem dL_refuses_28 : decode cL_refuses 28 = .ok (.irem, 1) := by decide +kernel
theorem dL_refuses_29 : decode cL_refuses 29 = .ok (.isub, 1) := by decide +kernel
theorem dL_refuses_30 : decode cL_refuses 30 = .ok (.goto 9, 3) := by decide +kernel
theorem dL_refuses_33 : decode cL_refuses 33 = .ok (.iload_n 2, 1) := by decide +kernel
theorem dL_refuses_34 : decode cL_refuses 34 = .ok (.iload_n 1, 1) := by decide +kernel
theorem dL_refuses_35 : decode cL_refuses 35 = .ok (.bipush 99, 2) := by decide +kernel
theorem dL_refuses_37 : decode cL_refuses 37 = .ok (.irem, 1) := by decide +kernel
theorem dL_refuses_38 : decode cL_refuses 38 = .ok (.iadd, 1) := by decide +kernel
theorem dL_refuses_39 : decode cL_refuses 39 = .ok (.istore 4, 2) := by decide +kernel
theorem dL_refuses_41 : decode cL_refuses 41 = .ok (.iload_n 1, 1) := by decide +kernel
theorem dL_refuses_42 : decode cL_refuses 42 = .ok (.iload_n 2, 1) := by decide +kernel
theorem dL_refuses_43 : decode cL_refuses 43 = .ok (.irem, 1) := by decide +kernel
theorem dL_refuses_44 : decode cL_refuses 44 = .ok (.istore 5, 2) := by decide +kernel
theorem dL_refuses_46 : decode cL_refuses 46 = .ok (.aload_n 0, 1) := by decide +kernel
theorem dL_refuses_47 : decode cL_refuses 47 = .ok (.iconst 0, 1) := by decide +kernel
theorem dL_refuses_48 : decode cL_refuses 48 = .ok (.iload_n 1, 1) := by decide +kernel
theorem dL_refuses_49 : decode cL_refuses 49 = .ok (.iconst 2, 1) := by decide +kernel
theorem dL_refuses_50 : decode cL_refuses 50 = .ok (.irem, 1) := by decide +kernel
theorem dL_refuses_51 : decode cL_refuses 51 = .ok (.ifCond .ne 12, 3) := by decide +kernel
theorem dL_refuses_54 : decode cL_refuses 54 = .ok (.iconst (-1), 1) := by decide +kernel
theorem dL_refuses_55 : decode cL_refuses 55 = .ok (.iload_n 1, 1) := by decide +kernel
theorem dL_refuses_56 : decode cL_refuses 56 = .ok (.bipush 9, 2) := by decide +kernel
theorem dL_refuses_58 : decode cL_refuses 58 = .ok (.irem, 1) := by decide +kernel
theorem dL_refuses_59 : decode cL_refuses 59 = .ok (.isub, 1) := by decide +kernel
theorem dL_refuses_60 : decode cL_refuses 60 = .ok (.goto 11, 3) := by decide +kernel
theorem dL_refuses_63 : decode cL_refuses 63 = .ok (.sipush 256, 3) := by decide +kernel
theorem dL_refuses_66 : decode cL_refuses 66 = .ok (.iload_n 1, 1) := by decide +kernel
theorem dL_refuses_67 : decode cL_refuses 67 = .ok (.bipush 9, 2) := by decide +kernel
theorem dL_refuses_69 : decode cL_refuses 69 = .ok (.irem, 1) := by decide +kernel
theorem dL_refuses_70 : decode cL_refuses 70 = .ok (.iadd, 1) := by decide +kernel
theorem dL_refuses_71 : decode cL_refuses 71 = .ok (.iconst 0, 1) := by decide +kernel
theorem dL_refuses_72 : decode cL_refuses 72 = .ok (.iconst 0, 1) := by decide +kernel
theorem dL_refuses_73 : decode cL_refuses 73 = .ok (.invokestatic 162, 3) := by decide +kernel
theorem dL_refuses_76 : decode cL_refuses 76 = .ok (.ldc 18, 2) := by decide +kernel
theorem dL_refuses_78 : decode cL_refuses 78 = .ok (.if_icmp .ne 598, 3) := by decide +kernel
theorem dL_refuses_81 : decode cL_refuses 81 = .ok (.aload_n 0, 1) := by decide +kernel
theorem dL_refuses_82 : decode cL_refuses 82 = .ok (.iconst 2, 1) := by decide +kernel
theorem dL_refuses_83 : decode cL_refuses 83 = .ok (.bipush 10, 2) := by decide +kernel
theorem dL_refuses_85 : decode cL_refuses 85 = .ok (.iload_n 1, 1) := by decide +kernel
theorem dL_refuses_86 : decode cL_refuses 86 = .ok (.bipush 50, 2) := by decide +kernel
theorem dL_refuses_88 : decode cL_refuses 88 = .ok (.irem, 1) := by decide +kernel
theorem dL_refuses_89 : decode cL_refuses 89 = .ok (.iadd, 1) := by decide +kernel
theorem dL_refuses_90 : decode cL_refuses 90 = .ok (.iconst 0, 1) := by decide +kernel
theorem dL_refuses_91 : decode cL_refuses 91 = .ok (.iconst 0, 1) := by decide +kernel
theorem dL_refuses_92 : decode cL_refuses 92 = .ok (.invokestatic 162, 3) := by decide +kernel
theorem dL_refuses_95 : decode cL_refuses 95 = .ok (.ldc 18, 2) := by decide +kernel
theorem dL_refuses_97 : decode cL_refuses 97 = .ok (.if_icmp .ne 579, 3) := by decide +kernel
theorem dL_refuses_100 : decode cL_refuses 100 = .ok (.aload_n 0, 1) := by decide +kernel
theorem dL_refuses_101 : decode cL_refuses 101 = .ok (.iconst 3, 1) := by decide +kernel
theorem dL_refuses_102 : decode cL_refuses 102 = .ok (.iload 4, 2) := by decide +kernel
theorem dL_refuses_104 : decode cL_refuses 104 = .ok (.bipush 99, 2) := by decide +kernel
theorem dL_refuses_106 : decode cL_refuses 106 = .ok (.iconst 0, 1) := by decide +kernel
theorem dL_refuses_107 : decode cL_refuses 107 = .ok (.invokestatic 162, 3) := by decide +kernel
theorem dL_refuses_110 : decode cL_refuses 110 = .ok (.ldc 15, 2) := by decide +kernel
theorem dL_refuses_112 : decode cL_refuses 112 = .ok (.if_icmp .ne 564, 3) := by decide +kernel
theorem dL_refuses_115 : decode cL_refuses 115 = .ok (.aload_n 0, 1) := by decide +kernel
theorem dL_refuses_116 : decode cL_refuses 116 = .ok (.iconst 3, 1) := by decide +kernel
theorem dL_refuses_117 : decode cL_refuses 117 = .ok (.iload 5, 2) := by decide +kernel
theorem dL_refuses_119 : decode cL_refuses 119 = .ok (.bipush 12, 2) := by decide +kernel
theorem dL_refuses_121 : decode cL_refuses 121 = .ok (.iload_n 1, 1) := by decide +kernel
theorem dL_refuses_122 : decode cL_refuses 122 = .ok (.bipush 9, 2) := by decide +kernel
theorem dL_refuses_124 : decode cL_refuses 124 = .ok (.irem, 1) := by decide +kernel
theorem dL_refuses_125 : decode cL_refuses 125 = .ok (.iadd, 1) := by decide +kernel
theorem dL_refuses_126 : decode cL_refuses 126 = .ok (.iconst 0, 1) := by decide +kernel
theorem dL_refuses_127 : decode cL_refuses 127 = .ok (.invokestatic 162, 3) := by decide +kernel
theorem dL_refuses_130 : decode cL_refuses 130 = .ok (.ldc 18, 2) := by decide +kernel
theorem dL_refuses_132 : decode cL_refuses 132 = .ok (.if_icmp .ne 544, 3) := by decide +kernel
theorem dL_refuses_135 : decode cL_refuses 135 = .ok (.aload_n 0, 1) := by decide +kernel
theorem dL_refuses_136 : decode cL_refuses 136 = .ok (.iconst 4, 1) := by decide +kernel
theorem dL_refuses_137 : decode cL_refuses 137 = .ok (.iload 4, 2) := by decide +kernel
theorem dL_refuses_139 : decode cL_refuses 139 = .ok (.iconst 0, 1) := by decide +kernel
theorem dL_refuses_140 : decode cL_refuses 140 = .ok (.bipush 9, 2) := by decide +kernel
theorem dL_refuses_142 : decode cL_refuses 142 = .ok (.invokestatic 162, 3) := by decide +kernel
theorem dL_refuses_145 : decode cL_refuses 145 = .ok (.ldc 15, 2) := by decide +kernel
theorem dL_refuses_147 : decode cL_refuses 147 = .ok (.if_icmp .ne 529, 3) := by decide +kernel
theorem dL_refuses_150 : decode cL_refuses 150 = .ok (.aload_n 0, 1) := by decide +kernel
theorem dL_refuses_151 : decode cL_refuses 151 = .ok (.iconst 4, 1) := by decide +kernel
theorem dL_refuses_152 : decode cL_refuses 152 = .ok (.iload 5, 2) := by decide +kernel
theorem dL_refuses_154 : decode cL_refuses 154 = .ok (.aload_n 0, 1) := by decide +kernel
theorem dL_refuses_155 : decode cL_refuses 155 = .ok (.iconst 3, 1) := by decide +kernel
theorem dL_refuses_156 : decode cL_refuses 156 = .ok (.iload 5, 2) := by decide +kernel
theorem dL_refuses_158 : decode cL_refuses 158 = .ok (.bipush 11, 2) := by decide +kernel
theorem dL_refuses_160 : decode cL_refuses 160 = .ok (.iconst 0, 1) := by decide +kernel
theorem dL_refuses_161 : decode cL_refuses 161 = .ok (.invokestatic 162, 3) := by decide +kernel
theorem dL_refuses_164 : decode cL_refuses 164 = .ok (.iload_n 1, 1) := by decide +kernel
theorem dL_refuses_165 : decode cL_refuses 165 = .ok (.bipush 9, 2) := by decide +kernel
theorem dL_refuses_167 : decode cL_refuses 167 = .ok (.irem, 1) := by decide +kernel
theorem dL_refuses_168 : decode cL_refuses 168 = .ok (.iadd, 1) := by decide +kernel
theorem dL_refuses_169 : decode cL_refuses 169 = .ok (.bipush 9, 2) := by decide +kernel
theorem dL_refuses_171 : decode cL_refuses 171 = .ok (.invokestatic 162, 3) := by decide +kernel
theorem dL_refuses_174 : decode cL_refuses 174 = .ok (.ldc 15, 2) := by decide +kernel
theorem dL_refuses_176 : decode cL_refuses 176 = .ok (.if_icmp .ne 500, 3) := by decide +kernel
theorem dL_refuses_179 : decode cL_refuses 179 = .ok (.aload_n 0, 1) := by decide +kernel
theorem dL_refuses_180 : decode cL_refuses 180 = .ok (.iconst 5, 1) := by decide +kernel
theorem dL_refuses_181 : decode cL_refuses 181 = .ok (.iload_n 3, 1) := by decide +kernel
theorem dL_refuses_182 : decode cL_refuses 182 = .ok (.iload_n 1, 1) := by decide +kernel
theorem dL_refuses_183 : decode cL_refuses 183 = .ok (.bipush 9, 2) := by decide +kernel
theorem dL_refuses_185 : decode cL_refuses 185 = .ok (.irem, 1) := by decide +kernel
theorem dL_refuses_186 : decode cL_refuses 186 = .ok (.iadd, 1) := by decide +kernel
theorem dL_refuses_187 : decode cL_refuses 187 = .ok (.bipush 9, 2) := by decide +kernel
theorem dL_refuses_189 : decode cL_refuses 189 = .ok (.iconst 0, 1) := by decide +kernel
theorem dL_refuses_190 : decode cL_refuses 190 = .ok (.invokestatic 162, 3) := by decide +kernel
theorem dL_refuses_193 : decode cL_refuses 193 = .ok (.ldc 15, 2) := by decide +kernel
theorem dL_refuses_195 : decode cL_refuses 195 = .ok (.if_icmp .ne 481, 3) := by decide +kernel
theorem dL_refuses_198 : decode cL_refuses 198 = .ok (.aload_n 0, 1) := by decide +kernel
theorem dL_refuses_199 : decode cL_refuses 199 = .ok (.bipush 6, 2) := by decide +kernel
theorem dL_refuses_201 : decode cL_refuses 201 = .ok (.iload 4, 2) := by decide +kernel
theorem dL_refuses_203 : decode cL_refuses 203 = .ok (.iconst 0, 1) := by decide +kernel
theorem dL_refuses_204 : decode cL_refuses 204 = .ok (.iconst 0, 1) := by decide +kernel
theorem dL_refuses_205 : decode cL_refuses 205 = .ok (.invokestatic 162, 3) := by decide +kernel
theorem dL_refuses_208 : decode cL_refuses 208 = .ok (.ldc 15, 2) := by decide +kernel
theorem dL_refuses_210 : decode cL_refuses 210 = .ok (.if_icmp .ne 466, 3) := by decide +kernel
theorem dL_refuses_213 : decode cL_refuses 213 = .ok (.aload_n 0, 1) := by decide +kernel
theorem dL_refuses_214 : decode cL_refuses 214 = .ok (.bipush 6, 2) := by decide +kernel
theorem dL_refuses_216 : decode cL_refuses 216 = .ok (.iconst 0, 1) := by decide +kernel
theorem dL_refuses_217 : decode cL_refuses 217 = .ok (.iload 4, 2) := by decide +kernel
theorem dL_refuses_219 : decode cL_refuses 219 = .ok (.iconst 0, 1) := by decide +kernel
theorem dL_refuses_220 : decode cL_refuses 220 = .ok (.invokestatic 162, 3) := by decide +kernel
theorem dL_refuses_223 : decode cL_refuses 223 = .ok (.ldc 15, 2) := by decide +kernel
theorem dL_refuses_225 : decode cL_refuses 225 = .ok (.if_icmp .ne 451, 3) := by decide +kernel
theorem dL_refuses_228 : decode cL_refuses 228 = .ok (.aload_n 0, 1) := by decide +kernel
theorem dL_refuses_229 : decode cL_refuses 229 = .ok (.bipush 7, 2) := by decide +kernel
theorem dL_refuses_231 : decode cL_refuses 231 = .ok (.iload_n 1, 1) := by decide +kernel
theorem dL_refuses_232 : decode cL_refuses 232 = .ok (.iconst 2, 1) := by decide +kernel
theorem dL_refuses_233 : decode cL_refuses 233 = .ok (.irem, 1) := by decide +kernel
theorem dL_refuses_234 : decode cL_refuses 234 = .ok (.ifCond .ne 7, 3) := by decide +kernel
theorem dL_refuses_237 : decode cL_refuses 237 = .ok (.iconst (-1), 1) := by decide +kernel
theorem dL_refuses_238 : decode cL_refuses 238 = .ok (.goto 10, 3) := by decide +kernel
theorem dL_refuses_241 : decode cL_refuses 241 = .ok (.bipush 10, 2) := by decide +kernel
theorem dL_refuses_243 : decode cL_refuses 243 = .ok (.iload_n 1, 1) := by decide +kernel
theorem dL_refuses_244 : decode cL_refuses 244 = .ok (.bipush 9, 2) := by decide +kernel
theorem dL_refuses_246 : decode cL_refuses 246 = .ok (.irem, 1) := by decide +kernel
theorem dL_refuses_247 : decode cL_refuses 247 = .ok (.iadd, 1) := by decide +kernel
theorem dL_refuses_248 : decode cL_refuses 248 = .ok (.iconst 0, 1) := by decide +kernel
theorem dL_refuses_249 : decode cL_refuses 249 = .ok (.iconst 0, 1) := by decide +kernel
theorem dL_refuses_250 : decode cL_refuses 250 = .ok (.invokestatic 162, 3) := by decide +kernel
theorem dL_refuses_253 : decode cL_refuses 253 = .ok (.ldc 18, 2) := by decide +kernel
theorem dL_refuses_255 : decode cL_refuses 255 = .ok (.if_icmp .ne 421, 3) := by decide +kernel
theorem dL_refuses_258 : decode cL_refuses 258 = .ok (.aload_n 0, 1) := by decide +kernel
theorem dL_refuses_259 : decode cL_refuses 259 = .ok (.bipush 8, 2) := by decide +kernel
theorem dL_refuses_261 : decode cL_refuses 261 = .ok (.iload 4, 2) := by decide +kernel
theorem dL_refuses_263 : decode cL_refuses 263 = .ok (.iconst 0, 1) := by decide +kernel
theorem dL_refuses_264 : decode cL_refuses 264 = .ok (.iconst 0, 1) := by decide +kernel
theorem dL_refuses_265 : decode cL_refuses 265 = .ok (.invokestatic 162, 3) := by decide +kernel
theorem dL_refuses_268 : decode cL_refuses 268 = .ok (.ldc 15, 2) := by decide +kernel
theorem dL_refuses_270 : decode cL_refuses 270 = .ok (.if_icmp .ne 406, 3) := by decide +kernel
theorem dL_refuses_273 : decode cL_refuses 273 = .ok (.aload_n 0, 1) := by decide +kernel
theorem dL_refuses_274 : decode cL_refuses 274 = .ok (.bipush 9, 2) := by decide +kernel
theorem dL_refuses_276 : decode cL_refuses 276 = .ok (.iload 4, 2) := by decide +kernel
theorem dL_refuses_278 : decode cL_refuses 278 = .ok (.iconst 0, 1) := by decide +kernel
theorem dL_refuses_279 : decode cL_refuses 279 = .ok (.iconst 0, 1) := by decide +kernel
theorem dL_refuses_280 : decode cL_refuses 280 = .ok (.invokestatic 162, 3) := by decide +kernel
theorem dL_refuses_283 : decode cL_refuses 283 = .ok (.ldc 15, 2) := by decide +kernel
theorem dL_refuses_285 : decode cL_refuses 285 = .ok (.if_icmp .ne 391, 3) := by decide +kernel
theorem dL_refuses_288 : decode cL_refuses 288 = .ok (.aload_n 0, 1) := by decide +kernel
theorem dL_refuses_289 : decode cL_refuses 289 = .ok (.bipush 9, 2) := by decide +kernel
theorem dL_refuses_291 : decode cL_refuses 291 = .ok (.iload 5, 2) := by decide +kernel
theorem dL_refuses_293 : decode cL_refuses 293 = .ok (.iconst 0, 1) := by decide +kernel
theorem dL_refuses_294 : decode cL_refuses 294 = .ok (.iconst 0, 1) := by decide +kernel
theorem dL_refuses_295 : decode cL_refuses 295 = .ok (.invokestatic 162, 3) := by decide +kernel
theorem dL_refuses_298 : decode cL_refuses 298 = .ok (.ldc 18, 2) := by decide +kernel
theorem dL_refuses_300 : decode cL_refuses 300 = .ok (.if_icmp .ne 376, 3) := by decide +kernel
theorem dL_refuses_303 : decode cL_refuses 303 = .ok (.aload_n 0, 1) := by decide +kernel
theorem dL_refuses_304 : decode cL_refuses 304 = .ok (.bipush 9, 2) := by decide +kernel
theorem dL_refuses_306 : decode cL_refuses 306 = .ok (.iload 5, 2) := by decide +kernel
theorem dL_refuses_308 : decode cL_refuses 308 = .ok (.iconst 1, 1) := by decide +kernel
theorem dL_refuses_309 : decode cL_refuses 309 = .ok (.iload_n 2, 1) := by decide +kernel
theorem dL_refuses_310 : decode cL_refuses 310 = .ok (.ishl, 1) := by decide +kernel
theorem dL_refuses_311 : decode cL_refuses 311 = .ok (.iconst 1, 1) := by decide +kernel
theorem dL_refuses_312 : decode cL_refuses 312 = .ok (.iload 5, 2) := by decide +kernel
theorem dL_refuses_314 : decode cL_refuses 314 = .ok (.ishl, 1) := by decide +kernel
theorem dL_refuses_315 : decode cL_refuses 315 = .ok (.iadd, 1) := by decide +kernel
theorem dL_refuses_316 : decode cL_refuses 316 = .ok (.iconst 0, 1) := by decide +kernel
theorem dL_refuses_317 : decode cL_refuses 317 = .ok (.invokestatic 162, 3) := by decide +kernel
theorem dL_refuses_320 : decode cL_refuses 320 = .ok (.ldc 18, 2) := by decide +kernel
theorem dL_refuses_322 : decode cL_refuses 322 = .ok (.if_icmp .ne 354, 3) := by decide +kernel
theorem dL_refuses_325 : decode cL_refuses 325 = .ok (.aload_n 0, 1) := by decide +kernel
theorem dL_refuses_326 : decode cL_refuses 326 = .ok (.bipush 9, 2) := by decide +kernel
theorem dL_refuses_328 : decode cL_refuses 328 = .ok (.iload 5, 2) := by decide +kernel
theorem dL_refuses_330 : decode cL_refuses 330 = .ok (.iconst (-1), 1) := by decide +kernel
theorem dL_refuses_331 : decode cL_refuses 331 = .ok (.iload_n 1, 1) := by decide +kernel
theorem dL_refuses_332 : decode cL_refuses 332 = .ok (.bipush 99, 2) := by decide +kernel
theorem dL_refuses_334 : decode cL_refuses 334 = .ok (.irem, 1) := by decide +kernel
theorem dL_refuses_335 : decode cL_refuses 335 = .ok (.isub, 1) := by decide +kernel
theorem dL_refuses_336 : decode cL_refuses 336 = .ok (.iconst 0, 1) := by decide +kernel
theorem dL_refuses_337 : decode cL_refuses 337 = .ok (.invokestatic 162, 3) := by decide +kernel
theorem dL_refuses_340 : decode cL_refuses 340 = .ok (.ldc 18, 2) := by decide +kernel
theorem dL_refuses_342 : decode cL_refuses 342 = .ok (.if_icmp .ne 334, 3) := by decide +kernel
theorem dL_refuses_345 : decode cL_refuses 345 = .ok (.aload_n 0, 1) := by decide +kernel
theorem dL_refuses_346 : decode cL_refuses 346 = .ok (.iload 4, 2) := by decide +kernel
theorem dL_refuses_348 : decode cL_refuses 348 = .ok (.iload 4, 2) := by decide +kernel
theorem dL_refuses_350 : decode cL_refuses 350 = .ok (.iconst 1, 1) := by decide +kernel
theorem dL_refuses_351 : decode cL_refuses 351 = .ok (.invokestatic 165, 3) := by decide +kernel
theorem dL_refuses_354 : decode cL_refuses 354 = .ok (.ldc 15, 2) := by decide +kernel
theorem dL_refuses_356 : decode cL_refuses 356 = .ok (.if_icmp .ne 320, 3) := by decide +kernel
theorem dL_refuses_359 : decode cL_refuses 359 = .ok (.aload_n 0, 1) := by decide +kernel
theorem dL_refuses_360 : decode cL_refuses 360 = .ok (.iload 5, 2) := by decide +kernel
theorem dL_refuses_362 : decode cL_refuses 362 = .ok (.iload 5, 2) := by decide +kernel
theorem dL_refuses_364 : decode cL_refuses 364 = .ok (.iconst 1, 1) := by decide +kernel
theorem dL_refuses_365 : decode cL_refuses 365 = .ok (.invokestatic 165, 3) := by decide +kernel
theorem dL_refuses_368 : decode cL_refuses 368 = .ok (.ldc 18, 2) := by decide +kernel
theorem dL_refuses_370 : decode cL_refuses 370 = .ok (.if_icmp .ne 306, 3) := by decide +kernel
theorem dL_refuses_373 : decode cL_refuses 373 = .ok (.aload_n 0, 1) := by decide +kernel
theorem dL_refuses_374 : decode cL_refuses 374 = .ok (.bipush 10, 2) := by decide +kernel
theorem dL_refuses_376 : decode cL_refuses 376 = .ok (.iload 4, 2) := by decide +kernel
theorem dL_refuses_378 : decode cL_refuses 378 = .ok (.iconst 0, 1) := by decide +kernel
theorem dL_refuses_379 : decode cL_refuses 379 = .ok (.iconst 0, 1) := by decide +kernel
theorem dL_refuses_380 : decode cL_refuses 380 = .ok (.invokestatic 162, 3) := by decide +kernel
theorem dL_refuses_383 : decode cL_refuses 383 = .ok (.ldc 15, 2) := by decide +kernel
theorem dL_refuses_385 : decode cL_refuses 385 = .ok (.if_icmp .ne 291, 3) := by decide +kernel
theorem dL_refuses_388 : decode cL_refuses 388 = .ok (.aload_n 0, 1) := by decide +kernel
theorem dL_refuses_389 : decode cL_refuses 389 = .ok (.bipush 11, 2) := by decide +kernel
theorem dL_refuses_391 : decode cL_refuses 391 = .ok (.iload 4, 2) := by decide +kernel
theorem dL_refuses_393 : decode cL_refuses 393 = .ok (.iconst 0, 1) := by decide +kernel
theorem dL_refuses_394 : decode cL_refuses 394 = .ok (.iconst 0, 1) := by decide +kernel
theorem dL_refuses_395 : decode cL_refuses 395 = .ok (.invokestatic 162, 3) := by decide +kernel
theorem dL_refuses_398 : decode cL_refuses 398 = .ok (.ldc 15, 2) := by decide +kernel
theorem dL_refuses_400 : decode cL_refuses 400 = .ok (.if_icmp .ne 276, 3) := by decide +kernel
theorem dL_refuses_403 : decode cL_refuses 403 = .ok (.aload_n 0, 1) := by decide +kernel
theorem dL_refuses_404 : decode cL_refuses 404 = .ok (.bipush 12, 2) := by decide +kernel
theorem dL_refuses_406 : decode cL_refuses 406 = .ok (.iload_n 1, 1) := by decide +kernel
theorem dL_refuses_407 : decode cL_refuses 407 = .ok (.iconst 2, 1) := by decide +kernel
theorem dL_refuses_408 : decode cL_refuses 408 = .ok (.irem, 1) := by decide +kernel
theorem dL_refuses_409 : decode cL_refuses 409 = .ok (.ifCond .ne 12, 3) := by decide +kernel
theorem dL_refuses_412 : decode cL_refuses 412 = .ok (.iconst (-1), 1) := by decide +kernel
theorem dL_refuses_413 : decode cL_refuses 413 = .ok (.iload_n 1, 1) := by decide +kernel
theorem dL_refuses_414 : decode cL_refuses 414 = .ok (.bipush 9, 2) := by decide +kernel
theorem dL_refuses_416 : decode cL_refuses 416 = .ok (.irem, 1) := by decide +kernel
theorem dL_refuses_417 : decode cL_refuses 417 = .ok (.isub, 1) := by decide +kernel
theorem dL_refuses_418 : decode cL_refuses 418 = .ok (.goto 10, 3) := by decide +kernel
theorem dL_refuses_421 : decode cL_refuses 421 = .ok (.bipush 41, 2) := by decide +kernel
theorem dL_refuses_423 : decode cL_refuses 423 = .ok (.iload_n 1, 1) := by decide +kernel
theorem dL_refuses_424 : decode cL_refuses 424 = .ok (.bipush 9, 2) := by decide +kernel
theorem dL_refuses_426 : decode cL_refuses 426 = .ok (.irem, 1) := by decide +kernel
theorem dL_refuses_427 : decode cL_refuses 427 = .ok (.iadd, 1) := by decide +kernel
theorem dL_refuses_428 : decode cL_refuses 428 = .ok (.iconst 0, 1) := by decide +kernel
theorem dL_refuses_429 : decode cL_refuses 429 = .ok (.iconst 0, 1) := by decide +kernel
theorem dL_refuses_430 : decode cL_refuses 430 = .ok (.invokestatic 162, 3) := by decide +kernel
theorem dL_refuses_433 : decode cL_refuses 433 = .ok (.ldc 18, 2) := by decide +kernel
theorem dL_refuses_435 : decode cL_refuses 435 = .ok (.if_icmp .ne 241, 3) := by decide +kernel
theorem dL_refuses_438 : decode cL_refuses 438 = .ok (.aload_n 0, 1) := by decide +kernel
theorem dL_refuses_439 : decode cL_refuses 439 = .ok (.bipush 13, 2) := by decide +kernel
theorem dL_refuses_441 : decode cL_refuses 441 = .ok (.iload_n 1, 1) := by decide +kernel
theorem dL_refuses_442 : decode cL_refuses 442 = .ok (.iconst 2, 1) := by decide +kernel
theorem dL_refuses_443 : decode cL_refuses 443 = .ok (.irem, 1) := by decide +kernel
theorem dL_refuses_444 : decode cL_refuses 444 = .ok (.ifCond .ne 7, 3) := by decide +kernel
theorem dL_refuses_447 : decode cL_refuses 447 = .ok (.iconst 0, 1) := by decide +kernel
theorem dL_refuses_448 : decode cL_refuses 448 = .ok (.goto 10, 3) := by decide +kernel
theorem dL_refuses_451 : decode cL_refuses 451 = .ok (.bipush 61, 2) := by decide +kernel
theorem dL_refuses_453 : decode cL_refuses 453 = .ok (.iload_n 1, 1) := by decide +kernel
theorem dL_refuses_454 : decode cL_refuses 454 = .ok (.bipush 9, 2) := by decide +kernel
theorem dL_refuses_456 : decode cL_refuses 456 = .ok (.irem, 1) := by decide +kernel
theorem dL_refuses_457 : decode cL_refuses 457 = .ok (.iadd, 1) := by decide +kernel
theorem dL_refuses_458 : decode cL_refuses 458 = .ok (.iconst 0, 1) := by decide +kernel
theorem dL_refuses_459 : decode cL_refuses 459 = .ok (.iconst 0, 1) := by decide +kernel
theorem dL_refuses_460 : decode cL_refuses 460 = .ok (.invokestatic 162, 3) := by decide +kernel
theorem dL_refuses_463 : decode cL_refuses 463 = .ok (.ldc 18, 2) := by decide +kernel
theorem dL_refuses_465 : decode cL_refuses 465 = .ok (.if_icmp .ne 211, 3) := by decide +kernel
theorem dL_refuses_468 : decode cL_refuses 468 = .ok (.aload_n 0, 1) := by decide +kernel
theorem dL_refuses_469 : decode cL_refuses 469 = .ok (.bipush 15, 2) := by decide +kernel
theorem dL_refuses_471 : decode cL_refuses 471 = .ok (.iload 4, 2) := by decide +kernel
theorem dL_refuses_473 : decode cL_refuses 473 = .ok (.iconst 1, 1) := by decide +kernel
theorem dL_refuses_474 : decode cL_refuses 474 = .ok (.bipush 9, 2) := by decide +kernel
theorem dL_refuses_476 : decode cL_refuses 476 = .ok (.invokestatic 162, 3) := by decide +kernel
theorem dL_refuses_479 : decode cL_refuses 479 = .ok (.ldc 15, 2) := by decide +kernel
theorem dL_refuses_481 : decode cL_refuses 481 = .ok (.if_icmp .ne 195, 3) := by decide +kernel
theorem dL_refuses_484 : decode cL_refuses 484 = .ok (.aload_n 0, 1) := by decide +kernel
theorem dL_refuses_485 : decode cL_refuses 485 = .ok (.bipush 15, 2) := by decide +kernel
theorem dL_refuses_487 : decode cL_refuses 487 = .ok (.iload 5, 2) := by decide +kernel
theorem dL_refuses_489 : decode cL_refuses 489 = .ok (.iconst 1, 1) := by decide +kernel
theorem dL_refuses_490 : decode cL_refuses 490 = .ok (.iload 5, 2) := by decide +kernel
theorem dL_refuses_492 : decode cL_refuses 492 = .ok (.ishl, 1) := by decide +kernel
theorem dL_refuses_493 : decode cL_refuses 493 = .ok (.iconst 2, 1) := by decide +kernel
theorem dL_refuses_494 : decode cL_refuses 494 = .ok (.iload_n 1, 1) := by decide +kernel
theorem dL_refuses_495 : decode cL_refuses 495 = .ok (.bipush 9, 2) := by decide +kernel
theorem dL_refuses_497 : decode cL_refuses 497 = .ok (.irem, 1) := by decide +kernel
theorem dL_refuses_498 : decode cL_refuses 498 = .ok (.iadd, 1) := by decide +kernel
theorem dL_refuses_499 : decode cL_refuses 499 = .ok (.invokestatic 162, 3) := by decide +kernel
theorem dL_refuses_502 : decode cL_refuses 502 = .ok (.ldc 18, 2) := by decide +kernel
theorem dL_refuses_504 : decode cL_refuses 504 = .ok (.if_icmp .ne 172, 3) := by decide +kernel
theorem dL_refuses_507 : decode cL_refuses 507 = .ok (.aload_n 0, 1) := by decide +kernel
theorem dL_refuses_508 : decode cL_refuses 508 = .ok (.bipush 15, 2) := by decide +kernel
theorem dL_refuses_510 : decode cL_refuses 510 = .ok (.iload 5, 2) := by decide +kernel
theorem dL_refuses_512 : decode cL_refuses 512 = .ok (.iconst 0, 1) := by decide +kernel
theorem dL_refuses_513 : decode cL_refuses 513 = .ok (.iconst 0, 1) := by decide +kernel
theorem dL_refuses_514 : decode cL_refuses 514 = .ok (.invokestatic 162, 3) := by decide +kernel
theorem dL_refuses_517 : decode cL_refuses 517 = .ok (.ldc 18, 2) := by decide +kernel
theorem dL_refuses_519 : decode cL_refuses 519 = .ok (.if_icmp .ne 157, 3) := by decide +kernel
theorem dL_refuses_522 : decode cL_refuses 522 = .ok (.aload_n 0, 1) := by decide +kernel
theorem dL_refuses_523 : decode cL_refuses 523 = .ok (.bipush 16, 2) := by decide +kernel
theorem dL_refuses_525 : decode cL_refuses 525 = .ok (.iload 4, 2) := by decide +kernel
theorem dL_refuses_527 : decode cL_refuses 527 = .ok (.iconst 0, 1) := by decide +kernel
theorem dL_refuses_528 : decode cL_refuses 528 = .ok (.bipush 9, 2) := by decide +kernel
theorem dL_refuses_530 : decode cL_refuses 530 = .ok (.invokestatic 162, 3) := by decide +kernel
theorem dL_refuses_533 : decode cL_refuses 533 = .ok (.ldc 15, 2) := by decide +kernel
theorem dL_refuses_535 : decode cL_refuses 535 = .ok (.if_icmp .ne 141, 3) := by decide +kernel
theorem dL_refuses_538 : decode cL_refuses 538 = .ok (.aload_n 0, 1) := by decide +kernel
theorem dL_refuses_539 : decode cL_refuses 539 = .ok (.bipush 16, 2) := by decide +kernel
theorem dL_refuses_541 : decode cL_refuses 541 = .ok (.iconst 0, 1) := by decide +kernel
theorem dL_refuses_542 : decode cL_refuses 542 = .ok (.iload 4, 2) := by decide +kernel
theorem dL_refuses_544 : decode cL_refuses 544 = .ok (.bipush 9, 2) := by decide +kernel
theorem dL_refuses_546 : decode cL_refuses 546 = .ok (.invokestatic 162, 3) := by decide +kernel
theorem dL_refuses_549 : decode cL_refuses 549 = .ok (.ldc 15, 2) := by decide +kernel
theorem dL_refuses_551 : decode cL_refuses 551 = .ok (.if_icmp .ne 125, 3) := by decide +kernel
theorem dL_refuses_554 : decode cL_refuses 554 = .ok (.aload_n 0, 1) := by decide +kernel
theorem dL_refuses_555 : decode cL_refuses 555 = .ok (.bipush 16, 2) := by decide +kernel
theorem dL_refuses_557 : decode cL_refuses 557 = .ok (.iload 5, 2) := by decide +kernel
theorem dL_refuses_559 : decode cL_refuses 559 = .ok (.iconst 0, 1) := by decide +kernel
theorem dL_refuses_560 : decode cL_refuses 560 = .ok (.iconst 2, 1) := by decide +kernel
theorem dL_refuses_561 : decode cL_refuses 561 = .ok (.iload_n 1, 1) := by decide +kernel
theorem dL_refuses_562 : decode cL_refuses 562 = .ok (.bipush 9, 2) := by decide +kernel
theorem dL_refuses_564 : decode cL_refuses 564 = .ok (.irem, 1) := by decide +kernel
theorem dL_refuses_565 : decode cL_refuses 565 = .ok (.iadd, 1) := by decide +kernel
theorem dL_refuses_566 : decode cL_refuses 566 = .ok (.invokestatic 162, 3) := by decide +kernel
theorem dL_refuses_569 : decode cL_refuses 569 = .ok (.ldc 18, 2) := by decide +kernel
theorem dL_refuses_571 : decode cL_refuses 571 = .ok (.if_icmp .ne 105, 3) := by decide +kernel
theorem dL_refuses_574 : decode cL_refuses 574 = .ok (.aload_n 0, 1) := by decide +kernel
theorem dL_refuses_575 : decode cL_refuses 575 = .ok (.bipush 17, 2) := by decide +kernel
theorem dL_refuses_577 : decode cL_refuses 577 = .ok (.iload 4, 2) := by decide +kernel
theorem dL_refuses_579 : decode cL_refuses 579 = .ok (.iconst 0, 1) := by decide +kernel
theorem dL_refuses_580 : decode cL_refuses 580 = .ok (.iconst 0, 1) := by decide +kernel
theorem dL_refuses_581 : decode cL_refuses 581 = .ok (.invokestatic 162, 3) := by decide +kernel
theorem dL_refuses_584 : decode cL_refuses 584 = .ok (.ldc 15, 2) := by decide +kernel
theorem dL_refuses_586 : decode cL_refuses 586 = .ok (.if_icmp .ne 90, 3) := by decide +kernel
theorem dL_refuses_589 : decode cL_refuses 589 = .ok (.aload_n 0, 1) := by decide +kernel
theorem dL_refuses_590 : decode cL_refuses 590 = .ok (.bipush 18, 2) := by decide +kernel
theorem dL_refuses_592 : decode cL_refuses 592 = .ok (.iconst 2, 1) := by decide +kernel
theorem dL_refuses_593 : decode cL_refuses 593 = .ok (.iload_n 1, 1) := by decide +kernel
theorem dL_refuses_594 : decode cL_refuses 594 = .ok (.bipush 50, 2) := by decide +kernel
theorem dL_refuses_596 : decode cL_refuses 596 = .ok (.irem, 1) := by decide +kernel
theorem dL_refuses_597 : decode cL_refuses 597 = .ok (.iadd, 1) := by decide +kernel
theorem dL_refuses_598 : decode cL_refuses 598 = .ok (.iconst 0, 1) := by decide +kernel
theorem dL_refuses_599 : decode cL_refuses 599 = .ok (.iconst 0, 1) := by decide +kernel
theorem dL_refuses_600 : decode cL_refuses 600 = .ok (.invokestatic 162, 3) := by decide +kernel
theorem dL_refuses_603 : decode cL_refuses 603 = .ok (.ldc 15, 2) := by decide +kernel
theorem dL_refuses_605 : decode cL_refuses 605 = .ok (.if_icmp .ne 71, 3) := by decide +kernel
theorem dL_refuses_608 : decode cL_refuses 608 = .ok (.aload_n 0, 1) := by decide +kernel
theorem dL_refuses_609 : decode cL_refuses 609 = .ok (.bipush 19, 2) := by decide +kernel
theorem dL_refuses_611 : decode cL_refuses 611 = .ok (.iconst (-1), 1) := by decide +kernel
theorem dL_refuses_612 : decode cL_refuses 612 = .ok (.iload_n 1, 1) := by decide +kernel
theorem dL_refuses_613 : decode cL_refuses 613 = .ok (.bipush 9, 2) := by decide +kernel
theorem dL_refuses_615 : decode cL_refuses 615 = .ok (.irem, 1) := by decide +kernel
theorem dL_refuses_616 : decode cL_refuses 616 = .ok (.isub, 1) := by decide +kernel
theorem dL_refuses_617 : decode cL_refuses 617 = .ok (.iconst 0, 1) := by decide +kernel
theorem dL_refuses_618 : decode cL_refuses 618 = .ok (.iconst 0, 1) := by decide +kernel
theorem dL_refuses_619 : decode cL_refuses 619 = .ok (.invokestatic 162, 3) := by decide +kernel
theorem dL_refuses_622 : decode cL_refuses 622 = .ok (.ldc 15, 2) := by decide +kernel
theorem dL_refuses_624 : decode cL_refuses 624 = .ok (.if_icmp .ne 52, 3) := by decide +kernel
theorem dL_refuses_627 : decode cL_refuses 627 = .ok (.aload_n 0, 1) := by decide +kernel
theorem dL_refuses_628 : decode cL_refuses 628 = .ok (.iconst 0, 1) := by decide +kernel
theorem dL_refuses_629 : decode cL_refuses 629 = .ok (.lconst 0, 1) := by decide +kernel
theorem dL_refuses_630 : decode cL_refuses 630 = .ok (.invokestatic 169, 3) := by decide +kernel
theorem dL_refuses_633 : decode cL_refuses 633 = .ok (.ldc 18, 2) := by decide +kernel
theorem dL_refuses_635 : decode cL_refuses 635 = .ok (.if_icmp .ne 41, 3) := by decide +kernel
theorem dL_refuses_638 : decode cL_refuses 638 = .ok (.aload_n 0, 1) := by decide +kernel
theorem dL_refuses_639 : decode cL_refuses 639 = .ok (.iconst 1, 1) := by decide +kernel
theorem dL_refuses_640 : decode cL_refuses 640 = .ok (.ldc2_w 173, 3) := by decide +kernel
theorem dL_refuses_643 : decode cL_refuses 643 = .ok (.iload_n 1, 1) := by decide +kernel
theorem dL_refuses_644 : decode cL_refuses 644 = .ok (.i2l, 1) := by decide +kernel
theorem dL_refuses_645 : decode cL_refuses 645 = .ok (.ladd, 1) := by decide +kernel
theorem dL_refuses_646 : decode cL_refuses 646 = .ok (.invokestatic 169, 3) := by decide +kernel
theorem dL_refuses_649 : decode cL_refuses 649 = .ok (.ldc 18, 2) := by decide +kernel
theorem dL_refuses_651 : decode cL_refuses 651 = .ok (.if_icmp .ne 25, 3) := by decide +kernel
theorem dL_refuses_654 : decode cL_refuses 654 = .ok (.aload_n 0, 1) := by decide +kernel
theorem dL_refuses_655 : decode cL_refuses 655 = .ok (.iload_n 1, 1) := by decide +kernel
theorem dL_refuses_656 : decode cL_refuses 656 = .ok (.i2l, 1) := by decide +kernel
theorem dL_refuses_657 : decode cL_refuses 657 = .ok (.bipush 61, 2) := by decide +kernel
theorem dL_refuses_659 : decode cL_refuses 659 = .ok (.iload_n 1, 1) := by decide +kernel
theorem dL_refuses_660 : decode cL_refuses 660 = .ok (.bipush 9, 2) := by decide +kernel
theorem dL_refuses_662 : decode cL_refuses 662 = .ok (.irem, 1) := by decide +kernel
theorem dL_refuses_663 : decode cL_refuses 663 = .ok (.iadd, 1) := by decide +kernel
theorem dL_refuses_664 : decode cL_refuses 664 = .ok (.invokestatic 175, 3) := by decide +kernel
theorem dL_refuses_667 : decode cL_refuses 667 = .ok (.ldc 18, 2) := by decide +kernel
theorem dL_refuses_669 : decode cL_refuses 669 = .ok (.if_icmp .ne 7, 3) := by decide +kernel
theorem dL_refuses_672 : decode cL_refuses 672 = .ok (.iconst 1, 1) := by decide +kernel
theorem dL_refuses_673 : decode cL_refuses 673 = .ok (.goto 4, 3) := by decide +kernel
theorem dL_refuses_676 : decode cL_refuses 676 = .ok (.iconst 0, 1) := by decide +kernel
theorem dL_refuses_677 : decode cL_refuses 677 = .ok (.istore 6, 2) := by decide +kernel
theorem dL_refuses_679 : decode cL_refuses 679 = .ok (.aload_n 0, 1) := by decide +kernel
theorem dL_refuses_680 : decode cL_refuses 680 = .ok (.iconst 3, 1) := by decide +kernel
theorem dL_refuses_681 : decode cL_refuses 681 = .ok (.iload 5, 2) := by decide +kernel
theorem dL_refuses_683 : decode cL_refuses 683 = .ok (.iconst 1, 1) := by decide +kernel
theorem dL_refuses_684 : decode cL_refuses 684 = .ok (.iconst 0, 1) := by decide +kernel
theorem dL_refuses_685 : decode cL_refuses 685 = .ok (.invokestatic 162, 3) := by decide +kernel
theorem dL_refuses_688 : decode cL_refuses 688 = .ok (.iconst 2, 1) := by decide +kernel
theorem dL_refuses_689 : decode cL_refuses 689 = .ok (.if_icmp .ne 7, 3) := by decide +kernel
theorem dL_refuses_692 : decode cL_refuses 692 = .ok (.iconst 1, 1) := by decide +kernel
theorem dL_refuses_693 : decode cL_refuses 693 = .ok (.goto 4, 3) := by decide +kernel
theorem dL_refuses_696 : decode cL_refuses 696 = .ok (.iconst 0, 1) := by decide +kernel
theorem dL_refuses_697 : decode cL_refuses 697 = .ok (.istore 7, 2) := by decide +kernel
theorem dL_refuses_699 : decode cL_refuses 699 = .ok (.iload 6, 2) := by decide +kernel
theorem dL_refuses_701 : decode cL_refuses 701 = .ok (.ifCond .eq 95, 3) := by decide +kernel
theorem dL_refuses_704 : decode cL_refuses 704 = .ok (.iload 7, 2) := by decide +kernel
theorem dL_refuses_706 : decode cL_refuses 706 = .ok (.ifCond .eq 71, 3) := by decide +kernel
theorem dL_refuses_709 : decode cL_refuses 709 = .ok (.aload_n 0, 1) := by decide +kernel
theorem dL_refuses_710 : decode cL_refuses 710 = .ok (.bipush 8, 2) := by decide +kernel
theorem dL_refuses_712 : decode cL_refuses 712 = .ok (.iload 5, 2) := by decide +kernel
theorem dL_refuses_714 : decode cL_refuses 714 = .ok (.iconst 0, 1) := by decide +kernel
theorem dL_refuses_715 : decode cL_refuses 715 = .ok (.iconst 0, 1) := by decide +kernel
theorem dL_refuses_716 : decode cL_refuses 716 = .ok (.invokestatic 162, 3) := by decide +kernel
theorem dL_refuses_719 : decode cL_refuses 719 = .ok (.ldc 33, 2) := by decide +kernel
theorem dL_refuses_721 : decode cL_refuses 721 = .ok (.if_icmp .ne 75, 3) := by decide +kernel
theorem dL_refuses_724 : decode cL_refuses 724 = .ok (.aload_n 0, 1) := by decide +kernel
theorem dL_refuses_725 : decode cL_refuses 725 = .ok (.bipush 9, 2) := by decide +kernel
theorem dL_refuses_727 : decode cL_refuses 727 = .ok (.iload 5, 2) := by decide +kernel
theorem dL_refuses_729 : decode cL_refuses 729 = .ok (.iconst 1, 1) := by decide +kernel
theorem dL_refuses_730 : decode cL_refuses 730 = .ok (.iload 5, 2) := by decide +kernel
theorem dL_refuses_732 : decode cL_refuses 732 = .ok (.ishl, 1) := by decide +kernel
theorem dL_refuses_733 : decode cL_refuses 733 = .ok (.iconst 0, 1) := by decide +kernel
theorem dL_refuses_734 : decode cL_refuses 734 = .ok (.invokestatic 162, 3) := by decide +kernel
theorem dL_refuses_737 : decode cL_refuses 737 = .ok (.ldc 33, 2) := by decide +kernel
theorem dL_refuses_739 : decode cL_refuses 739 = .ok (.if_icmp .ne 57, 3) := by decide +kernel
theorem dL_refuses_742 : decode cL_refuses 742 = .ok (.aload_n 0, 1) := by decide +kernel
theorem dL_refuses_743 : decode cL_refuses 743 = .ok (.bipush 10, 2) := by decide +kernel
theorem dL_refuses_745 : decode cL_refuses 745 = .ok (.iload 5, 2) := by decide +kernel
theorem dL_refuses_747 : decode cL_refuses 747 = .ok (.iconst 0, 1) := by decide +kernel
theorem dL_refuses_748 : decode cL_refuses 748 = .ok (.iconst 0, 1) := by decide +kernel
theorem dL_refuses_749 : decode cL_refuses 749 = .ok (.invokestatic 162, 3) := by decide +kernel
theorem dL_refuses_752 : decode cL_refuses 752 = .ok (.ldc 33, 2) := by decide +kernel
theorem dL_refuses_754 : decode cL_refuses 754 = .ok (.if_icmp .ne 42, 3) := by decide +kernel
theorem dL_refuses_757 : decode cL_refuses 757 = .ok (.aload_n 0, 1) := by decide +kernel
theorem dL_refuses_758 : decode cL_refuses 758 = .ok (.bipush 15, 2) := by decide +kernel
theorem dL_refuses_760 : decode cL_refuses 760 = .ok (.iload 5, 2) := by decide +kernel
theorem dL_refuses_762 : decode cL_refuses 762 = .ok (.iconst 1, 1) := by decide +kernel
theorem dL_refuses_763 : decode cL_refuses 763 = .ok (.iload 5, 2) := by decide +kernel
theorem dL_refuses_765 : decode cL_refuses 765 = .ok (.ishl, 1) := by decide +kernel
theorem dL_refuses_766 : decode cL_refuses 766 = .ok (.iconst 0, 1) := by decide +kernel
theorem dL_refuses_767 : decode cL_refuses 767 = .ok (.invokestatic 162, 3) := by decide +kernel
theorem dL_refuses_770 : decode cL_refuses 770 = .ok (.iconst (-1), 1) := by decide +kernel
theorem dL_refuses_771 : decode cL_refuses 771 = .ok (.if_icmp .ne 25, 3) := by decide +kernel
theorem dL_refuses_774 : decode cL_refuses 774 = .ok (.goto 18, 3) := by decide +kernel
theorem dL_refuses_777 : decode cL_refuses 777 = .ok (.aload_n 0, 1) := by decide +kernel
theorem dL_refuses_778 : decode cL_refuses 778 = .ok (.bipush 11, 2) := by decide +kernel
theorem dL_refuses_780 : decode cL_refuses 780 = .ok (.iload 5, 2) := by decide +kernel
theorem dL_refuses_782 : decode cL_refuses 782 = .ok (.iconst 0, 1) := by decide +kernel
theorem dL_refuses_783 : decode cL_refuses 783 = .ok (.iconst 0, 1) := by decide +kernel
theorem dL_refuses_784 : decode cL_refuses 784 = .ok (.invokestatic 162, 3) := by decide +kernel
theorem dL_refuses_787 : decode cL_refuses 787 = .ok (.ldc 33, 2) := by decide +kernel
theorem dL_refuses_789 : decode cL_refuses 789 = .ok (.if_icmp .ne 7, 3) := by decide +kernel
theorem dL_refuses_792 : decode cL_refuses 792 = .ok (.iconst 1, 1) := by decide +kernel
theorem dL_refuses_793 : decode cL_refuses 793 = .ok (.goto 4, 3) := by decide +kernel
theorem dL_refuses_796 : decode cL_refuses 796 = .ok (.iconst 0, 1) := by decide +kernel
theorem dL_refuses_797 : decode cL_refuses 797 = .ok (.istore 6, 2) := by decide +kernel
theorem dL_refuses_799 : decode cL_refuses 799 = .ok (.iload 6, 2) := by decide +kernel
theorem dL_refuses_801 : decode cL_refuses 801 = .ok (.ifCond .eq 50, 3) := by decide +kernel
theorem dL_refuses_804 : decode cL_refuses 804 = .ok (.iload_n 3, 1) := by decide +kernel
theorem dL_refuses_805 : decode cL_refuses 805 = .ok (.ifCond .eq 22, 3) := by decide +kernel
theorem dL_refuses_808 : decode cL_refuses 808 = .ok (.aload_n 0, 1) := by decide +kernel
theorem dL_refuses_809 : decode cL_refuses 809 = .ok (.iconst 5, 1) := by decide +kernel
theorem dL_refuses_810 : decode cL_refuses 810 = .ok (.iconst 0, 1) := by decide +kernel
theorem dL_refuses_811 : decode cL_refuses 811 = .ok (.bipush 6, 2) := by decide +kernel
theorem dL_refuses_813 : decode cL_refuses 813 = .ok (.iload_n 1, 1) := by decide +kernel
theorem dL_refuses_814 : decode cL_refuses 814 = .ok (.bipush 9, 2) := by decide +kernel
theorem dL_refuses_816 : decode cL_refuses 816 = .ok (.irem, 1) := by decide +kernel
theorem dL_refuses_817 : decode cL_refuses 817 = .ok (.iadd, 1) := by decide +kernel
theorem dL_refuses_818 : decode cL_refuses 818 = .ok (.iconst 0, 1) := by decide +kernel
theorem dL_refuses_819 : decode cL_refuses 819 = .ok (.invokestatic 162, 3) := by decide +kernel
theorem dL_refuses_822 : decode cL_refuses 822 = .ok (.ldc 18, 2) := by decide +kernel
theorem dL_refuses_824 : decode cL_refuses 824 = .ok (.if_icmp .ne 27, 3) := by decide +kernel
theorem dL_refuses_827 : decode cL_refuses 827 = .ok (.iload_n 2, 1) := by decide +kernel
theorem dL_refuses_828 : decode cL_refuses 828 = .ok (.bipush 6, 2) := by decide +kernel
theorem dL_refuses_830 : decode cL_refuses 830 = .ok (.if_icmp .lt 17, 3) := by decide +kernel
theorem dL_refuses_833 : decode cL_refuses 833 = .ok (.aload_n 0, 1) := by decide +kernel
theorem dL_refuses_834 : decode cL_refuses 834 = .ok (.bipush 7, 2) := by decide +kernel
theorem dL_refuses_836 : decode cL_refuses 836 = .ok (.iconst 3, 1) := by decide +kernel
theorem dL_refuses_837 : decode cL_refuses 837 = .ok (.iconst 0, 1) := by decide +kernel
theorem dL_refuses_838 : decode cL_refuses 838 = .ok (.iconst 0, 1) := by decide +kernel
theorem dL_refuses_839 : decode cL_refuses 839 = .ok (.invokestatic 162, 3) := by decide +kernel
theorem dL_refuses_842 : decode cL_refuses 842 = .ok (.ldc 33, 2) := by decide +kernel
theorem dL_refuses_844 : decode cL_refuses 844 = .ok (.if_icmp .ne 7, 3) := by decide +kernel
theorem dL_refuses_847 : decode cL_refuses 847 = .ok (.iconst 1, 1) := by decide +kernel
theorem dL_refuses_848 : decode cL_refuses 848 = .ok (.goto 4, 3) := by decide +kernel
theorem dL_refuses_851 : decode cL_refuses 851 = .ok (.iconst 0, 1) := by decide +kernel
theorem dL_refuses_852 : decode cL_refuses 852 = .ok (.ireturn, 1) := by decide +kernel
theorem dL_bits_0 : decode cL_bits 0 = .ok (.iconst 0, 1) := by decide +kernel
theorem dL_bits_1 : decode cL_bits 1 = .ok (.istore_n 1, 1) := by decide +kernel
theorem dL_bits_2 : decode cL_bits 2 = .ok (.iload_n 0, 1) := by decide +kernel
theorem dL_bits_3 : decode cL_bits 3 = .ok (.istore_n 2, 1) := by decide +kernel
theorem dL_bits_4 : decode cL_bits 4 = .ok (.iload_n 2, 1) := by decide +kernel
theorem dL_bits_5 : decode cL_bits 5 = .ok (.ifCond .le 15, 3) := by decide +kernel
theorem dL_bits_8 : decode cL_bits 8 = .ok (.iinc 1 1, 3) := by decide +kernel
theorem dL_bits_11 : decode cL_bits 11 = .ok (.iload_n 2, 1) := by decide +kernel
theorem dL_bits_12 : decode cL_bits 12 = .ok (.iload_n 2, 1) := by decide +kernel
theorem dL_bits_13 : decode cL_bits 13 = .ok (.iconst 1, 1) := by decide +kernel
theorem dL_bits_14 : decode cL_bits 14 = .ok (.isub, 1) := by decide +kernel
theorem dL_bits_15 : decode cL_bits 15 = .ok (.iand, 1) := by decide +kernel
theorem dL_bits_16 : decode cL_bits 16 = .ok (.istore_n 2, 1) := by decide +kernel
theorem dL_bits_17 : decode cL_bits 17 = .ok (.goto (-13), 3) := by decide +kernel
theorem dL_bits_20 : decode cL_bits 20 = .ok (.iload_n 1, 1) := by decide +kernel
theorem dL_bits_21 : decode cL_bits 21 = .ok (.ireturn, 1) := by decide +kernel
theorem dL_rollBehind_0 : decode cL_rollBehind 0 = .ok (.iload_n 2, 1) := by decide +kernel
theorem dL_rollBehind_1 : decode cL_rollBehind 1 = .ok (.iconst 1, 1) := by decide +kernel
theorem dL_rollBehind_2 : decode cL_rollBehind 2 = .ok (.iadd, 1) := by decide +kernel
theorem dL_rollBehind_3 : decode cL_rollBehind 3 = .ok (.aload_n 0, 1) := by decide +kernel
theorem dL_rollBehind_4 : decode cL_rollBehind 4 = .ok (.iconst 3, 1) := by decide +kernel
theorem dL_rollBehind_5 : decode cL_rollBehind 5 = .ok (.iload_n 1, 1) := by decide +kernel
theorem dL_rollBehind_6 : decode cL_rollBehind 6 = .ok (.bipush 11, 2) := by decide +kernel
theorem dL_rollBehind_8 : decode cL_rollBehind 8 = .ok (.iconst 0, 1) := by decide +kernel
theorem dL_rollBehind_9 : decode cL_rollBehind 9 = .ok (.invokestatic 162, 3) := by decide +kernel
theorem dL_rollBehind_12 : decode cL_rollBehind 12 = .ok (.if_icmp .ne 7, 3) := by decide +kernel
theorem dL_rollBehind_15 : decode cL_rollBehind 15 = .ok (.iconst 1, 1) := by decide +kernel
theorem dL_rollBehind_16 : decode cL_rollBehind 16 = .ok (.goto 4, 3) := by decide +kernel
theorem dL_rollBehind_19 : decode cL_rollBehind 19 = .ok (.iconst 0, 1) := by decide +kernel
theorem dL_rollBehind_20 : decode cL_rollBehind 20 = .ok (.istore_n 3, 1) := by decide +kernel
theorem dL_rollBehind_21 : decode cL_rollBehind 21 = .ok (.iload_n 3, 1) := by decide +kernel
theorem dL_rollBehind_22 : decode cL_rollBehind 22 = .ok (.ifCond .eq 14, 3) := by decide +kernel
theorem dL_rollBehind_25 : decode cL_rollBehind 25 = .ok (.aload_n 0, 1) := by decide +kernel
theorem dL_rollBehind_26 : decode cL_rollBehind 26 = .ok (.iconst 3, 1) := by decide +kernel
theorem dL_rollBehind_27 : decode cL_rollBehind 27 = .ok (.iload_n 1, 1) := by decide +kernel
theorem dL_rollBehind_28 : decode cL_rollBehind 28 = .ok (.iconst 2, 1) := by decide +kernel
theorem dL_rollBehind_29 : decode cL_rollBehind 29 = .ok (.iconst 0, 1) := by decide +kernel
theorem dL_rollBehind_30 : decode cL_rollBehind 30 = .ok (.invokestatic 162, 3) := by decide +kernel
theorem dL_rollBehind_33 : decode cL_rollBehind 33 = .ok (.goto 13, 3) := by decide +kernel
theorem dL_rollBehind_36 : decode cL_rollBehind 36 = .ok (.aload_n 0, 1) := by decide +kernel
theorem dL_rollBehind_37 : decode cL_rollBehind 37 = .ok (.iconst 4, 1) := by decide +kernel
theorem dL_rollBehind_38 : decode cL_rollBehind 38 = .ok (.iload_n 1, 1) := by decide +kernel
theorem dL_rollBehind_39 : decode cL_rollBehind 39 = .ok (.iload_n 2, 1) := by decide +kernel
theorem dL_rollBehind_40 : decode cL_rollBehind 40 = .ok (.iconst 1, 1) := by decide +kernel
theorem dL_rollBehind_41 : decode cL_rollBehind 41 = .ok (.iadd, 1) := by decide +kernel
theorem dL_rollBehind_42 : decode cL_rollBehind 42 = .ok (.iconst 0, 1) := by decide +kernel
theorem dL_rollBehind_43 : decode cL_rollBehind 43 = .ok (.invokestatic 162, 3) := by decide +kernel
theorem dL_rollBehind_46 : decode cL_rollBehind 46 = .ok (.istore 4, 2) := by decide +kernel
theorem dL_rollBehind_48 : decode cL_rollBehind 48 = .ok (.bipush 10, 2) := by decide +kernel
theorem dL_rollBehind_50 : decode cL_rollBehind 50 = .ok (.iload 4, 2) := by decide +kernel
theorem dL_rollBehind_52 : decode cL_rollBehind 52 = .ok (.imul, 1) := by decide +kernel
theorem dL_rollBehind_53 : decode cL_rollBehind 53 = .ok (.iload_n 3, 1) := by decide +kernel
theorem dL_rollBehind_54 : decode cL_rollBehind 54 = .ok (.ifCond .eq 14, 3) := by decide +kernel
theorem dL_rollBehind_57 : decode cL_rollBehind 57 = .ok (.aload_n 0, 1) := by decide +kernel
theorem dL_rollBehind_58 : decode cL_rollBehind 58 = .ok (.iconst 3, 1) := by decide +kernel
theorem dL_rollBehind_59 : decode cL_rollBehind 59 = .ok (.iload_n 1, 1) := by decide +kernel
theorem dL_rollBehind_60 : decode cL_rollBehind 60 = .ok (.iconst 3, 1) := by decide +kernel
theorem dL_rollBehind_61 : decode cL_rollBehind 61 = .ok (.iconst 0, 1) := by decide +kernel
theorem dL_rollBehind_62 : decode cL_rollBehind 62 = .ok (.invokestatic 162, 3) := by decide +kernel
theorem dL_rollBehind_65 : decode cL_rollBehind 65 = .ok (.goto 13, 3) := by decide +kernel
theorem dL_rollBehind_68 : decode cL_rollBehind 68 = .ok (.aload_n 0, 1) := by decide +kernel
theorem dL_rollBehind_69 : decode cL_rollBehind 69 = .ok (.iconst 4, 1) := by decide +kernel
theorem dL_rollBehind_70 : decode cL_rollBehind 70 = .ok (.iload_n 1, 1) := by decide +kernel
theorem dL_rollBehind_71 : decode cL_rollBehind 71 = .ok (.iload_n 2, 1) := by decide +kernel
theorem dL_rollBehind_72 : decode cL_rollBehind 72 = .ok (.iconst 1, 1) := by decide +kernel
theorem dL_rollBehind_73 : decode cL_rollBehind 73 = .ok (.iadd, 1) := by decide +kernel
theorem dL_rollBehind_74 : decode cL_rollBehind 74 = .ok (.iconst 1, 1) := by decide +kernel
theorem dL_rollBehind_75 : decode cL_rollBehind 75 = .ok (.invokestatic 162, 3) := by decide +kernel
theorem dL_rollBehind_78 : decode cL_rollBehind 78 = .ok (.iadd, 1) := by decide +kernel
theorem dL_rollBehind_79 : decode cL_rollBehind 79 = .ok (.ireturn, 1) := by decide +kernel
theorem dL_together_0 : decode cL_together 0 = .ok (.iconst 1, 1) := by decide +kernel
theorem dL_together_1 : decode cL_together 1 = .ok (.istore_n 3, 1) := by decide +kernel
theorem dL_together_2 : decode cL_together 2 = .ok (.iconst 0, 1) := by decide +kernel
theorem dL_together_3 : decode cL_together 3 = .ok (.istore 4, 2) := by decide +kernel
theorem dL_together_5 : decode cL_together 5 = .ok (.iload 4, 2) := by decide +kernel
theorem dL_together_7 : decode cL_together 7 = .ok (.aload_n 0, 1) := by decide +kernel
theorem dL_together_8 : decode cL_together 8 = .ok (.iconst 3, 1) := by decide +kernel
theorem dL_together_9 : decode cL_together 9 = .ok (.iload_n 1, 1) := by decide +kernel
theorem dL_together_10 : decode cL_together 10 = .ok (.bipush 11, 2) := by decide +kernel
theorem dL_together_12 : decode cL_together 12 = .ok (.iconst 0, 1) := by decide +kernel
theorem dL_together_13 : decode cL_together 13 = .ok (.invokestatic 162, 3) := by decide +kernel
theorem dL_together_16 : decode cL_together 16 = .ok (.if_icmp .ge 138, 3) := by decide +kernel
theorem dL_together_19 : decode cL_together 19 = .ok (.iload_n 3, 1) := by decide +kernel
theorem dL_together_20 : decode cL_together 20 = .ok (.ifCond .eq 134, 3) := by decide +kernel
theorem dL_together_23 : decode cL_together 23 = .ok (.iconst 0, 1) := by decide +kernel
theorem dL_together_24 : decode cL_together 24 = .ok (.istore 5, 2) := by decide +kernel
theorem dL_together_26 : decode cL_together 26 = .ok (.iload 5, 2) := by decide +kernel
theorem dL_together_28 : decode cL_together 28 = .ok (.aload_n 0, 1) := by decide +kernel
theorem dL_together_29 : decode cL_together 29 = .ok (.iconst 3, 1) := by decide +kernel
theorem dL_together_30 : decode cL_together 30 = .ok (.iload_n 2, 1) := by decide +kernel
theorem dL_together_31 : decode cL_together 31 = .ok (.bipush 11, 2) := by decide +kernel
theorem dL_together_33 : decode cL_together 33 = .ok (.iconst 0, 1) := by decide +kernel
theorem dL_together_34 : decode cL_together 34 = .ok (.invokestatic 162, 3) := by decide +kernel
theorem dL_together_37 : decode cL_together 37 = .ok (.if_icmp .ge 111, 3) := by decide +kernel
theorem dL_together_40 : decode cL_together 40 = .ok (.iload_n 3, 1) := by decide +kernel
theorem dL_together_41 : decode cL_together 41 = .ok (.ifCond .eq 107, 3) := by decide +kernel
theorem dL_together_44 : decode cL_together 44 = .ok (.aload_n 0, 1) := by decide +kernel
theorem dL_together_45 : decode cL_together 45 = .ok (.iconst 4, 1) := by decide +kernel
theorem dL_together_46 : decode cL_together 46 = .ok (.iload_n 1, 1) := by decide +kernel
theorem dL_together_47 : decode cL_together 47 = .ok (.iload 4, 2) := by decide +kernel
theorem dL_together_49 : decode cL_together 49 = .ok (.iconst 0, 1) := by decide +kernel
theorem dL_together_50 : decode cL_together 50 = .ok (.invokestatic 162, 3) := by decide +kernel
theorem dL_together_53 : decode cL_together 53 = .ok (.aload_n 0, 1) := by decide +kernel
theorem dL_together_54 : decode cL_together 54 = .ok (.iconst 4, 1) := by decide +kernel
theorem dL_together_55 : decode cL_together 55 = .ok (.iload_n 2, 1) := by decide +kernel
theorem dL_together_56 : decode cL_together 56 = .ok (.iload 5, 2) := by decide +kernel
theorem dL_together_58 : decode cL_together 58 = .ok (.iconst 0, 1) := by decide +kernel
theorem dL_together_59 : decode cL_together 59 = .ok (.invokestatic 162, 3) := by decide +kernel
theorem dL_together_62 : decode cL_together 62 = .ok (.if_icmp .ne 45, 3) := by decide +kernel
theorem dL_together_65 : decode cL_together 65 = .ok (.aload_n 0, 1) := by decide +kernel
theorem dL_together_66 : decode cL_together 66 = .ok (.iconst 4, 1) := by decide +kernel
theorem dL_together_67 : decode cL_together 67 = .ok (.iload_n 1, 1) := by decide +kernel
theorem dL_together_68 : decode cL_together 68 = .ok (.iload 4, 2) := by decide +kernel
theorem dL_together_70 : decode cL_together 70 = .ok (.iconst 1, 1) := by decide +kernel
theorem dL_together_71 : decode cL_together 71 = .ok (.invokestatic 162, 3) := by decide +kernel
theorem dL_together_74 : decode cL_together 74 = .ok (.aload_n 0, 1) := by decide +kernel
theorem dL_together_75 : decode cL_together 75 = .ok (.iconst 4, 1) := by decide +kernel
theorem dL_together_76 : decode cL_together 76 = .ok (.iload_n 2, 1) := by decide +kernel
theorem dL_together_77 : decode cL_together 77 = .ok (.iload 5, 2) := by decide +kernel
theorem dL_together_79 : decode cL_together 79 = .ok (.iconst 1, 1) := by decide +kernel
theorem dL_together_80 : decode cL_together 80 = .ok (.invokestatic 162, 3) := by decide +kernel
theorem dL_together_83 : decode cL_together 83 = .ok (.if_icmp .ne 24, 3) := by decide +kernel
theorem dL_together_86 : decode cL_together 86 = .ok (.aload_n 0, 1) := by decide +kernel
theorem dL_together_87 : decode cL_together 87 = .ok (.iload_n 1, 1) := by decide +kernel
theorem dL_together_88 : decode cL_together 88 = .ok (.iload 4, 2) := by decide +kernel
theorem dL_together_90 : decode cL_together 90 = .ok (.invokestatic 179, 3) := by decide +kernel
theorem dL_together_93 : decode cL_together 93 = .ok (.aload_n 0, 1) := by decide +kernel
theorem dL_together_94 : decode cL_together 94 = .ok (.iload_n 2, 1) := by decide +kernel
theorem dL_together_95 : decode cL_together 95 = .ok (.iload 5, 2) := by decide +kernel
theorem dL_together_97 : decode cL_together 97 = .ok (.invokestatic 179, 3) := by decide +kernel
theorem dL_together_100 : decode cL_together 100 = .ok (.if_icmp .ne 7, 3) := by decide +kernel
theorem dL_together_103 : decode cL_together 103 = .ok (.iconst 1, 1) := by decide +kernel
theorem dL_together_104 : decode cL_together 104 = .ok (.goto 4, 3) := by decide +kernel
theorem dL_together_107 : decode cL_together 107 = .ok (.iconst 0, 1) := by decide +kernel
theorem dL_together_108 : decode cL_together 108 = .ok (.istore 6, 2) := by decide +kernel
theorem dL_together_110 : decode cL_together 110 = .ok (.iload 6, 2) := by decide +kernel
theorem dL_together_112 : decode cL_together 112 = .ok (.ifCond .eq 24, 3) := by decide +kernel
theorem dL_together_115 : decode cL_together 115 = .ok (.aload_n 0, 1) := by decide +kernel
theorem dL_together_116 : decode cL_together 116 = .ok (.iconst 4, 1) := by decide +kernel
theorem dL_together_117 : decode cL_together 117 = .ok (.iload_n 1, 1) := by decide +kernel
theorem dL_together_118 : decode cL_together 118 = .ok (.iload 4, 2) := by decide +kernel
theorem dL_together_120 : decode cL_together 120 = .ok (.iconst 2, 1) := by decide +kernel
theorem dL_together_121 : decode cL_together 121 = .ok (.invokestatic 162, 3) := by decide +kernel
theorem dL_together_124 : decode cL_together 124 = .ok (.aload_n 0, 1) := by decide +kernel
theorem dL_together_125 : decode cL_together 125 = .ok (.iconst 4, 1) := by decide +kernel
theorem dL_together_126 : decode cL_together 126 = .ok (.iload_n 2, 1) := by decide +kernel
theorem dL_together_127 : decode cL_together 127 = .ok (.iload 5, 2) := by decide +kernel
theorem dL_together_129 : decode cL_together 129 = .ok (.iconst 2, 1) := by decide +kernel
theorem dL_together_130 : decode cL_together 130 = .ok (.invokestatic 162, 3) := by decide +kernel
theorem dL_together_133 : decode cL_together 133 = .ok (.if_icmp .ne 7, 3) := by decide +kernel
theorem dL_together_136 : decode cL_together 136 = .ok (.iconst 1, 1) := by decide +kernel
theorem dL_together_137 : decode cL_together 137 = .ok (.goto 4, 3) := by decide +kernel
theorem dL_together_140 : decode cL_together 140 = .ok (.iconst 0, 1) := by decide +kernel
theorem dL_together_141 : decode cL_together 141 = .ok (.istore_n 3, 1) := by decide +kernel
theorem dL_together_142 : decode cL_together 142 = .ok (.iinc 5 1, 3) := by decide +kernel
theorem dL_together_145 : decode cL_together 145 = .ok (.goto (-119), 3) := by decide +kernel
theorem dL_together_148 : decode cL_together 148 = .ok (.iinc 4 1, 3) := by decide +kernel
theorem dL_together_151 : decode cL_together 151 = .ok (.goto (-146), 3) := by decide +kernel
theorem dL_together_154 : decode cL_together 154 = .ok (.iload_n 3, 1) := by decide +kernel
theorem dL_together_155 : decode cL_together 155 = .ok (.ireturn, 1) := by decide +kernel
theorem dL_holds_0 : decode cL_holds 0 = .ok (.aload_n 0, 1) := by decide +kernel
theorem dL_holds_1 : decode cL_holds 1 = .ok (.iconst 2, 1) := by decide +kernel
theorem dL_holds_2 : decode cL_holds 2 = .ok (.iconst 0, 1) := by decide +kernel
theorem dL_holds_3 : decode cL_holds 3 = .ok (.iconst 0, 1) := by decide +kernel
theorem dL_holds_4 : decode cL_holds 4 = .ok (.iconst 0, 1) := by decide +kernel
theorem dL_holds_5 : decode cL_holds 5 = .ok (.invokestatic 162, 3) := by decide +kernel
theorem dL_holds_8 : decode cL_holds 8 = .ok (.istore_n 2, 1) := by decide +kernel
theorem dL_holds_9 : decode cL_holds 9 = .ok (.aload_n 0, 1) := by decide +kernel
theorem dL_holds_10 : decode cL_holds 10 = .ok (.iconst 2, 1) := by decide +kernel
theorem dL_holds_11 : decode cL_holds 11 = .ok (.iconst 2, 1) := by decide +kernel
theorem dL_holds_12 : decode cL_holds 12 = .ok (.iconst 0, 1) := by decide +kernel
theorem dL_holds_13 : decode cL_holds 13 = .ok (.iconst 0, 1) := by decide +kernel
theorem dL_holds_14 : decode cL_holds 14 = .ok (.invokestatic 162, 3) := by decide +kernel
theorem dL_holds_17 : decode cL_holds 17 = .ok (.istore_n 3, 1) := by decide +kernel
theorem dL_holds_18 : decode cL_holds 18 = .ok (.aload_n 0, 1) := by decide +kernel
theorem dL_holds_19 : decode cL_holds 19 = .ok (.iconst 2, 1) := by decide +kernel
theorem dL_holds_20 : decode cL_holds 20 = .ok (.iconst 1, 1) := by decide +kernel
theorem dL_holds_21 : decode cL_holds 21 = .ok (.iconst 0, 1) := by decide +kernel
theorem dL_holds_22 : decode cL_holds 22 = .ok (.iconst 0, 1) := by decide +kernel
theorem dL_holds_23 : decode cL_holds 23 = .ok (.invokestatic 162, 3) := by decide +kernel
theorem dL_holds_26 : decode cL_holds 26 = .ok (.istore 4, 2) := by decide +kernel
theorem dL_holds_28 : decode cL_holds 28 = .ok (.iconst 0, 1) := by decide +kernel
theorem dL_holds_29 : decode cL_holds 29 = .ok (.istore 5, 2) := by decide +kernel
theorem dL_holds_31 : decode cL_holds 31 = .ok (.iconst 0, 1) := by decide +kernel
theorem dL_holds_32 : decode cL_holds 32 = .ok (.istore 6, 2) := by decide +kernel
theorem dL_holds_34 : decode cL_holds 34 = .ok (.iconst 0, 1) := by decide +kernel
theorem dL_holds_35 : decode cL_holds 35 = .ok (.istore 7, 2) := by decide +kernel
theorem dL_holds_37 : decode cL_holds 37 = .ok (.iload_n 2, 1) := by decide +kernel
theorem dL_holds_38 : decode cL_holds 38 = .ok (.bipush 6, 2) := by decide +kernel
theorem dL_holds_40 : decode cL_holds 40 = .ok (.if_icmp .gt 14, 3) := by decide +kernel
theorem dL_holds_43 : decode cL_holds 43 = .ok (.iload_n 3, 1) := by decide +kernel
theorem dL_holds_44 : decode cL_holds 44 = .ok (.sipush 150, 3) := by decide +kernel
theorem dL_holds_47 : decode cL_holds 47 = .ok (.if_icmp .gt 7, 3) := by decide +kernel
theorem dL_holds_50 : decode cL_holds 50 = .ok (.iconst 1, 1) := by decide +kernel
theorem dL_holds_51 : decode cL_holds 51 = .ok (.goto 4, 3) := by decide +kernel
theorem dL_holds_54 : decode cL_holds 54 = .ok (.iconst 0, 1) := by decide +kernel
theorem dL_holds_55 : decode cL_holds 55 = .ok (.istore 8, 2) := by decide +kernel
theorem dL_holds_57 : decode cL_holds 57 = .ok (.iconst 0, 1) := by decide +kernel
theorem dL_holds_58 : decode cL_holds 58 = .ok (.istore 9, 2) := by decide +kernel
theorem dL_holds_60 : decode cL_holds 60 = .ok (.iload 9, 2) := by decide +kernel
theorem dL_holds_62 : decode cL_holds 62 = .ok (.iload_n 2, 1) := by decide +kernel
theorem dL_holds_63 : decode cL_holds 63 = .ok (.if_icmp .ge 608, 3) := by decide +kernel
theorem dL_holds_66 : decode cL_holds 66 = .ok (.iload 8, 2) := by decide +kernel
theorem dL_holds_68 : decode cL_holds 68 = .ok (.ifCond .eq 603, 3) := by decide +kernel
theorem dL_holds_71 : decode cL_holds 71 = .ok (.aload_n 0, 1) := by decide +kernel
theorem dL_holds_72 : decode cL_holds 72 = .ok (.iconst 3, 1) := by decide +kernel
theorem dL_holds_73 : decode cL_holds 73 = .ok (.iload 9, 2) := by decide +kernel
theorem dL_holds_75 : decode cL_holds 75 = .ok (.iconst 1, 1) := by decide +kernel
theorem dL_holds_76 : decode cL_holds 76 = .ok (.iconst 0, 1) := by decide +kernel
theorem dL_holds_77 : decode cL_holds 77 = .ok (.invokestatic 162, 3) := by decide +kernel
theorem dL_holds_80 : decode cL_holds 80 = .ok (.istore 10, 2) := by decide +kernel
theorem dL_holds_82 : decode cL_holds 82 = .ok (.aload_n 0, 1) := by decide +kernel
theorem dL_holds_83 : decode cL_holds 83 = .ok (.iconst 3, 1) := by decide +kernel
theorem dL_holds_84 : decode cL_holds 84 = .ok (.iload 9, 2) := by decide +kernel
theorem dL_holds_86 : decode cL_holds 86 = .ok (.iconst 4, 1) := by decide +kernel
theorem dL_holds_87 : decode cL_holds 87 = .ok (.iconst 0, 1) := by decide +kernel
theorem dL_holds_88 : decode cL_holds 88 = .ok (.invokestatic 162, 3) := by decide +kernel
theorem dL_holds_91 : decode cL_holds 91 = .ok (.istore 11, 2) := by decide +kernel
theorem dL_holds_93 : decode cL_holds 93 = .ok (.aload_n 0, 1) := by decide +kernel
theorem dL_holds_94 : decode cL_holds 94 = .ok (.iconst 3, 1) := by decide +kernel
theorem dL_holds_95 : decode cL_holds 95 = .ok (.iload 9, 2) := by decide +kernel
theorem dL_holds_97 : decode cL_holds 97 = .ok (.iconst 5, 1) := by decide +kernel
theorem dL_holds_98 : decode cL_holds 98 = .ok (.iconst 0, 1) := by decide +kernel
theorem dL_holds_99 : decode cL_holds 99 = .ok (.invokestatic 162, 3) := by decide +kernel
theorem dL_holds_102 : decode cL_holds 102 = .ok (.istore 12, 2) := by decide +kernel

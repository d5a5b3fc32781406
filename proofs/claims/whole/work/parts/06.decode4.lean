theorem dX7_lacks_53 : decode cX7_lacks 53 = .ok (.getfield 13, 3) := by decide +kernel
theorem dX7_lacks_56 : decode cX7_lacks 56 = .ok (.iload_n 3, 1) := by decide +kernel
theorem dX7_lacks_57 : decode cX7_lacks 57 = .ok (.iconst 5, 1) := by decide +kernel
theorem dX7_lacks_58 : decode cX7_lacks 58 = .ok (.invokestatic 44, 3) := by decide +kernel
theorem dX7_lacks_61 : decode cX7_lacks 61 = .ok (.goto 4, 3) := by decide +kernel
theorem dX7_lacks_64 : decode cX7_lacks 64 = .ok (.iconst 0, 1) := by decide +kernel
theorem dX7_lacks_65 : decode cX7_lacks 65 = .ok (.ior, 1) := by decide +kernel
theorem dX7_lacks_66 : decode cX7_lacks 66 = .ok (.istore_n 2, 1) := by decide +kernel
theorem dX7_lacks_67 : decode cX7_lacks 67 = .ok (.iinc 3 1, 3) := by decide +kernel
theorem dX7_lacks_70 : decode cX7_lacks 70 = .ok (.goto (-41), 3) := by decide +kernel
theorem dX7_lacks_73 : decode cX7_lacks 73 = .ok (.iload_n 2, 1) := by decide +kernel
theorem dX7_lacks_74 : decode cX7_lacks 74 = .ok (.aload_n 0, 1) := by decide +kernel
theorem dX7_lacks_75 : decode cX7_lacks 75 = .ok (.getfield 13, 3) := by decide +kernel
theorem dX7_lacks_78 : decode cX7_lacks 78 = .ok (.iload_n 1, 1) := by decide +kernel
theorem dX7_lacks_79 : decode cX7_lacks 79 = .ok (.iconst 5, 1) := by decide +kernel
theorem dX7_lacks_80 : decode cX7_lacks 80 = .ok (.invokestatic 44, 3) := by decide +kernel
theorem dX7_lacks_83 : decode cX7_lacks 83 = .ok (.iconst (-1), 1) := by decide +kernel
theorem dX7_lacks_84 : decode cX7_lacks 84 = .ok (.ixor, 1) := by decide +kernel
theorem dX7_lacks_85 : decode cX7_lacks 85 = .ok (.iand, 1) := by decide +kernel
theorem dX7_lacks_86 : decode cX7_lacks 86 = .ok (.invokestatic 120, 3) := by decide +kernel
theorem dX7_lacks_89 : decode cX7_lacks 89 = .ok (.ireturn, 1) := by decide +kernel
theorem dX7_together_0 : decode cX7_together 0 = .ok (.aload_n 0, 1) := by decide +kernel
theorem dX7_together_1 : decode cX7_together 1 = .ok (.iconst 0, 1) := by decide +kernel
theorem dX7_together_2 : decode cX7_together 2 = .ok (.putfield 36, 3) := by decide +kernel
theorem dX7_together_5 : decode cX7_together 5 = .ok (.iconst 0, 1) := by decide +kernel
theorem dX7_together_6 : decode cX7_together 6 = .ok (.istore_n 1, 1) := by decide +kernel
theorem dX7_together_7 : decode cX7_together 7 = .ok (.iconst 0, 1) := by decide +kernel
theorem dX7_together_8 : decode cX7_together 8 = .ok (.istore_n 2, 1) := by decide +kernel
theorem dX7_together_9 : decode cX7_together 9 = .ok (.iload_n 2, 1) := by decide +kernel
theorem dX7_together_10 : decode cX7_together 10 = .ok (.aload_n 0, 1) := by decide +kernel
theorem dX7_together_11 : decode cX7_together 11 = .ok (.getfield 13, 3) := by decide +kernel
theorem dX7_together_14 : decode cX7_together 14 = .ok (.iconst 0, 1) := by decide +kernel
theorem dX7_together_15 : decode cX7_together 15 = .ok (.iaload, 1) := by decide +kernel
theorem dX7_together_16 : decode cX7_together 16 = .ok (.if_icmp .ge 95, 3) := by decide +kernel
theorem dX7_together_19 : decode cX7_together 19 = .ok (.iconst 0, 1) := by decide +kernel
theorem dX7_together_20 : decode cX7_together 20 = .ok (.istore_n 3, 1) := by decide +kernel
theorem dX7_together_21 : decode cX7_together 21 = .ok (.iconst 0, 1) := by decide +kernel
theorem dX7_together_22 : decode cX7_together 22 = .ok (.istore 4, 2) := by decide +kernel
theorem dX7_together_24 : decode cX7_together 24 = .ok (.iload 4, 2) := by decide +kernel
theorem dX7_together_26 : decode cX7_together 26 = .ok (.aload_n 0, 1) := by decide +kernel
theorem dX7_together_27 : decode cX7_together 27 = .ok (.getfield 13, 3) := by decide +kernel
theorem dX7_together_30 : decode cX7_together 30 = .ok (.iconst 0, 1) := by decide +kernel
theorem dX7_together_31 : decode cX7_together 31 = .ok (.iaload, 1) := by decide +kernel
theorem dX7_together_32 : decode cX7_together 32 = .ok (.if_icmp .ge 56, 3) := by decide +kernel
theorem dX7_together_35 : decode cX7_together 35 = .ok (.iload_n 3, 1) := by decide +kernel
theorem dX7_together_36 : decode cX7_together 36 = .ok (.aload_n 0, 1) := by decide +kernel
theorem dX7_together_37 : decode cX7_together 37 = .ok (.getfield 13, 3) := by decide +kernel
theorem dX7_together_40 : decode cX7_together 40 = .ok (.iload_n 2, 1) := by decide +kernel
theorem dX7_together_41 : decode cX7_together 41 = .ok (.invokestatic 169, 3) := by decide +kernel
theorem dX7_together_44 : decode cX7_together 44 = .ok (.ifCond .ne 35, 3) := by decide +kernel
theorem dX7_together_47 : decode cX7_together 47 = .ok (.aload_n 0, 1) := by decide +kernel
theorem dX7_together_48 : decode cX7_together 48 = .ok (.getfield 13, 3) := by decide +kernel
theorem dX7_together_51 : decode cX7_together 51 = .ok (.iload 4, 2) := by decide +kernel
theorem dX7_together_53 : decode cX7_together 53 = .ok (.invokestatic 169, 3) := by decide +kernel
theorem dX7_together_56 : decode cX7_together 56 = .ok (.ifCond .ne 23, 3) := by decide +kernel
theorem dX7_together_59 : decode cX7_together 59 = .ok (.aload_n 0, 1) := by decide +kernel
theorem dX7_together_60 : decode cX7_together 60 = .ok (.getfield 13, 3) := by decide +kernel
theorem dX7_together_63 : decode cX7_together 63 = .ok (.iload_n 2, 1) := by decide +kernel
theorem dX7_together_64 : decode cX7_together 64 = .ok (.iload 4, 2) := by decide +kernel
theorem dX7_together_66 : decode cX7_together 66 = .ok (.invokestatic 223, 3) := by decide +kernel
theorem dX7_together_69 : decode cX7_together 69 = .ok (.ifCond .eq 10, 3) := by decide +kernel
theorem dX7_together_72 : decode cX7_together 72 = .ok (.iconst 1, 1) := by decide +kernel
theorem dX7_together_73 : decode cX7_together 73 = .ok (.iload 4, 2) := by decide +kernel
theorem dX7_together_75 : decode cX7_together 75 = .ok (.ishl, 1) := by decide +kernel
theorem dX7_together_76 : decode cX7_together 76 = .ok (.goto 4, 3) := by decide +kernel
theorem dX7_together_79 : decode cX7_together 79 = .ok (.iconst 0, 1) := by decide +kernel
theorem dX7_together_80 : decode cX7_together 80 = .ok (.ior, 1) := by decide +kernel
theorem dX7_together_81 : decode cX7_together 81 = .ok (.istore_n 3, 1) := by decide +kernel
theorem dX7_together_82 : decode cX7_together 82 = .ok (.iinc 4 1, 3) := by decide +kernel
theorem dX7_together_85 : decode cX7_together 85 = .ok (.goto (-61), 3) := by decide +kernel
theorem dX7_together_88 : decode cX7_together 88 = .ok (.iload_n 3, 1) := by decide +kernel
theorem dX7_together_89 : decode cX7_together 89 = .ok (.invokestatic 120, 3) := by decide +kernel
theorem dX7_together_92 : decode cX7_together 92 = .ok (.iload_n 1, 1) := by decide +kernel
theorem dX7_together_93 : decode cX7_together 93 = .ok (.invokestatic 120, 3) := by decide +kernel
theorem dX7_together_96 : decode cX7_together 96 = .ok (.if_icmp .le 7, 3) := by decide +kernel
theorem dX7_together_99 : decode cX7_together 99 = .ok (.iload_n 3, 1) := by decide +kernel
theorem dX7_together_100 : decode cX7_together 100 = .ok (.goto 4, 3) := by decide +kernel
theorem dX7_together_103 : decode cX7_together 103 = .ok (.iload_n 1, 1) := by decide +kernel
theorem dX7_together_104 : decode cX7_together 104 = .ok (.istore_n 1, 1) := by decide +kernel
theorem dX7_together_105 : decode cX7_together 105 = .ok (.iinc 2 1, 3) := by decide +kernel
theorem dX7_together_108 : decode cX7_together 108 = .ok (.goto (-99), 3) := by decide +kernel
theorem dX7_together_111 : decode cX7_together 111 = .ok (.iload_n 1, 1) := by decide +kernel
theorem dX7_together_112 : decode cX7_together 112 = .ok (.ireturn, 1) := by decide +kernel
theorem dX7_command_0 : decode cX7_command 0 = .ok (.iload_n 2, 1) := by decide +kernel
theorem dX7_command_1 : decode cX7_command 1 = .ok (.sipush 1000, 3) := by decide +kernel
theorem dX7_command_4 : decode cX7_command 4 = .ok (.idiv, 1) := by decide +kernel
theorem dX7_command_5 : decode cX7_command 5 = .ok (.istore_n 3, 1) := by decide +kernel
theorem dX7_command_6 : decode cX7_command 6 = .ok (.iload_n 2, 1) := by decide +kernel
theorem dX7_command_7 : decode cX7_command 7 = .ok (.sipush 1000, 3) := by decide +kernel
theorem dX7_command_10 : decode cX7_command 10 = .ok (.irem, 1) := by decide +kernel
theorem dX7_command_11 : decode cX7_command 11 = .ok (.istore 4, 2) := by decide +kernel
theorem dX7_command_13 : decode cX7_command 13 = .ok (.iload 4, 2) := by decide +kernel
theorem dX7_command_15 : decode cX7_command 15 = .ok (.bipush 100, 2) := by decide +kernel
theorem dX7_command_17 : decode cX7_command 17 = .ok (.idiv, 1) := by decide +kernel
theorem dX7_command_18 : decode cX7_command 18 = .ok (.istore 5, 2) := by decide +kernel
theorem dX7_command_20 : decode cX7_command 20 = .ok (.iload_n 2, 1) := by decide +kernel
theorem dX7_command_21 : decode cX7_command 21 = .ok (.bipush 10, 2) := by decide +kernel
theorem dX7_command_23 : decode cX7_command 23 = .ok (.idiv, 1) := by decide +kernel
theorem dX7_command_24 : decode cX7_command 24 = .ok (.bipush 10, 2) := by decide +kernel
theorem dX7_command_26 : decode cX7_command 26 = .ok (.irem, 1) := by decide +kernel
theorem dX7_command_27 : decode cX7_command 27 = .ok (.istore 6, 2) := by decide +kernel
theorem dX7_command_29 : decode cX7_command 29 = .ok (.iload_n 2, 1) := by decide +kernel
theorem dX7_command_30 : decode cX7_command 30 = .ok (.bipush 10, 2) := by decide +kernel
theorem dX7_command_32 : decode cX7_command 32 = .ok (.irem, 1) := by decide +kernel
theorem dX7_command_33 : decode cX7_command 33 = .ok (.istore 7, 2) := by decide +kernel
theorem dX7_command_35 : decode cX7_command 35 = .ok (.iload_n 2, 1) := by decide +kernel
theorem dX7_command_36 : decode cX7_command 36 = .ok (.bipush 100, 2) := by decide +kernel
theorem dX7_command_38 : decode cX7_command 38 = .ok (.irem, 1) := by decide +kernel
theorem dX7_command_39 : decode cX7_command 39 = .ok (.istore 8, 2) := by decide +kernel
theorem dX7_command_41 : decode cX7_command 41 = .ok (.iload_n 1, 1) := by decide +kernel
theorem dX7_command_42 : decode cX7_command 42 = .ok (.tableswitch 462 1 9 #[50, 83, 122, 192, 265, 295, 333, 371, 412], 50) := by decide +kernel
theorem dX7_command_92 : decode cX7_command 92 = .ok (.iload 4, 2) := by decide +kernel
theorem dX7_command_94 : decode cX7_command 94 = .ok (.ifCond .ne 29, 3) := by decide +kernel
theorem dX7_command_97 : decode cX7_command 97 = .ok (.aload_n 0, 1) := by decide +kernel
theorem dX7_command_98 : decode cX7_command 98 = .ok (.getfield 16, 3) := by decide +kernel
theorem dX7_command_101 : decode cX7_command 101 = .ok (.iload_n 3, 1) := by decide +kernel
theorem dX7_command_102 : decode cX7_command 102 = .ok (.invokestatic 156, 3) := by decide +kernel
theorem dX7_command_105 : decode cX7_command 105 = .ok (.ifCond .eq 18, 3) := by decide +kernel
theorem dX7_command_108 : decode cX7_command 108 = .ok (.aload_n 0, 1) := by decide +kernel
theorem dX7_command_109 : decode cX7_command 109 = .ok (.getfield 16, 3) := by decide +kernel
theorem dX7_command_112 : decode cX7_command 112 = .ok (.iload_n 3, 1) := by decide +kernel
theorem dX7_command_113 : decode cX7_command 113 = .ok (.invokestatic 159, 3) := by decide +kernel
theorem dX7_command_116 : decode cX7_command 116 = .ok (.ifCond .lt 7, 3) := by decide +kernel
theorem dX7_command_119 : decode cX7_command 119 = .ok (.iconst 1, 1) := by decide +kernel
theorem dX7_command_120 : decode cX7_command 120 = .ok (.goto 4, 3) := by decide +kernel
theorem dX7_command_123 : decode cX7_command 123 = .ok (.iconst 0, 1) := by decide +kernel
theorem dX7_command_124 : decode cX7_command 124 = .ok (.ireturn, 1) := by decide +kernel
theorem dX7_command_125 : decode cX7_command 125 = .ok (.iload 4, 2) := by decide +kernel
theorem dX7_command_127 : decode cX7_command 127 = .ok (.bipush 100, 2) := by decide +kernel
theorem dX7_command_129 : decode cX7_command 129 = .ok (.if_icmp .ge 33, 3) := by decide +kernel
theorem dX7_command_132 : decode cX7_command 132 = .ok (.aload_n 0, 1) := by decide +kernel
theorem dX7_command_133 : decode cX7_command 133 = .ok (.getfield 16, 3) := by decide +kernel
theorem dX7_command_136 : decode cX7_command 136 = .ok (.iload_n 3, 1) := by decide +kernel
theorem dX7_command_137 : decode cX7_command 137 = .ok (.iload 8, 2) := by decide +kernel
theorem dX7_command_139 : decode cX7_command 139 = .ok (.invokestatic 162, 3) := by decide +kernel
theorem dX7_command_142 : decode cX7_command 142 = .ok (.ifCond .eq 20, 3) := by decide +kernel
theorem dX7_command_145 : decode cX7_command 145 = .ok (.aload_n 0, 1) := by decide +kernel
theorem dX7_command_146 : decode cX7_command 146 = .ok (.getfield 16, 3) := by decide +kernel
theorem dX7_command_149 : decode cX7_command 149 = .ok (.iload_n 3, 1) := by decide +kernel
theorem dX7_command_150 : decode cX7_command 150 = .ok (.iload 8, 2) := by decide +kernel
theorem dX7_command_152 : decode cX7_command 152 = .ok (.invokestatic 106, 3) := by decide +kernel
theorem dX7_command_155 : decode cX7_command 155 = .ok (.ifCond .le 7, 3) := by decide +kernel
theorem dX7_command_158 : decode cX7_command 158 = .ok (.iconst 1, 1) := by decide +kernel
theorem dX7_command_159 : decode cX7_command 159 = .ok (.goto 4, 3) := by decide +kernel
theorem dX7_command_162 : decode cX7_command 162 = .ok (.iconst 0, 1) := by decide +kernel
theorem dX7_command_163 : decode cX7_command 163 = .ok (.ireturn, 1) := by decide +kernel
theorem dX7_command_164 : decode cX7_command 164 = .ok (.iload 7, 2) := by decide +kernel
theorem dX7_command_166 : decode cX7_command 166 = .ok (.ifCond .ne 66, 3) := by decide +kernel
theorem dX7_command_169 : decode cX7_command 169 = .ok (.iload 6, 2) := by decide +kernel
theorem dX7_command_171 : decode cX7_command 171 = .ok (.iconst 2, 1) := by decide +kernel
theorem dX7_command_172 : decode cX7_command 172 = .ok (.if_icmp .ge 60, 3) := by decide +kernel
theorem dX7_command_175 : decode cX7_command 175 = .ok (.iload_n 3, 1) := by decide +kernel
theorem dX7_command_176 : decode cX7_command 176 = .ok (.iload 5, 2) := by decide +kernel
theorem dX7_command_178 : decode cX7_command 178 = .ok (.if_icmp .eq 54, 3) := by decide +kernel
theorem dX7_command_181 : decode cX7_command 181 = .ok (.aload_n 0, 1) := by decide +kernel
theorem dX7_command_182 : decode cX7_command 182 = .ok (.getfield 16, 3) := by decide +kernel
theorem dX7_command_185 : decode cX7_command 185 = .ok (.iload_n 3, 1) := by decide +kernel
theorem dX7_command_186 : decode cX7_command 186 = .ok (.invokestatic 112, 3) := by decide +kernel
theorem dX7_command_189 : decode cX7_command 189 = .ok (.ifCond .eq 43, 3) := by decide +kernel
theorem dX7_command_192 : decode cX7_command 192 = .ok (.aload_n 0, 1) := by decide +kernel
theorem dX7_command_193 : decode cX7_command 193 = .ok (.getfield 16, 3) := by decide +kernel
theorem dX7_command_196 : decode cX7_command 196 = .ok (.iload 5, 2) := by decide +kernel
theorem dX7_command_198 : decode cX7_command 198 = .ok (.invokestatic 112, 3) := by decide +kernel
theorem dX7_command_201 : decode cX7_command 201 = .ok (.ifCond .eq 31, 3) := by decide +kernel
theorem dX7_command_204 : decode cX7_command 204 = .ok (.aload_n 0, 1) := by decide +kernel
theorem dX7_command_205 : decode cX7_command 205 = .ok (.getfield 16, 3) := by decide +kernel
theorem dX7_command_208 : decode cX7_command 208 = .ok (.iload_n 3, 1) := by decide +kernel
theorem dX7_command_209 : decode cX7_command 209 = .ok (.iload 5, 2) := by decide +kernel
theorem dX7_command_211 : decode cX7_command 211 = .ok (.iload 6, 2) := by decide +kernel
theorem dX7_command_213 : decode cX7_command 213 = .ok (.iconst 1, 1) := by decide +kernel
theorem dX7_command_214 : decode cX7_command 214 = .ok (.if_icmp .ne 7, 3) := by decide +kernel
theorem dX7_command_217 : decode cX7_command 217 = .ok (.iconst 1, 1) := by decide +kernel
theorem dX7_command_218 : decode cX7_command 218 = .ok (.goto 4, 3) := by decide +kernel
theorem dX7_command_221 : decode cX7_command 221 = .ok (.iconst 0, 1) := by decide +kernel
theorem dX7_command_222 : decode cX7_command 222 = .ok (.invokestatic 165, 3) := by decide +kernel
theorem dX7_command_225 : decode cX7_command 225 = .ok (.ifCond .lt 7, 3) := by decide +kernel
theorem dX7_command_228 : decode cX7_command 228 = .ok (.iconst 1, 1) := by decide +kernel
theorem dX7_command_229 : decode cX7_command 229 = .ok (.goto 4, 3) := by decide +kernel
theorem dX7_command_232 : decode cX7_command 232 = .ok (.iconst 0, 1) := by decide +kernel
theorem dX7_command_233 : decode cX7_command 233 = .ok (.ireturn, 1) := by decide +kernel
theorem dX7_command_234 : decode cX7_command 234 = .ok (.iload 4, 2) := by decide +kernel
theorem dX7_command_236 : decode cX7_command 236 = .ok (.iconst 2, 1) := by decide +kernel
theorem dX7_command_237 : decode cX7_command 237 = .ok (.if_icmp .ge 68, 3) := by decide +kernel
theorem dX7_command_240 : decode cX7_command 240 = .ok (.aload_n 0, 1) := by decide +kernel
theorem dX7_command_241 : decode cX7_command 241 = .ok (.getfield 16, 3) := by decide +kernel
theorem dX7_command_244 : decode cX7_command 244 = .ok (.iload_n 3, 1) := by decide +kernel
theorem dX7_command_245 : decode cX7_command 245 = .ok (.invokestatic 112, 3) := by decide +kernel
theorem dX7_command_248 : decode cX7_command 248 = .ok (.ifCond .eq 57, 3) := by decide +kernel
theorem dX7_command_251 : decode cX7_command 251 = .ok (.aload_n 0, 1) := by decide +kernel
theorem dX7_command_252 : decode cX7_command 252 = .ok (.getfield 16, 3) := by decide +kernel
theorem dX7_command_255 : decode cX7_command 255 = .ok (.iload_n 3, 1) := by decide +kernel
theorem dX7_command_256 : decode cX7_command 256 = .ok (.invokestatic 169, 3) := by decide +kernel
theorem dX7_command_259 : decode cX7_command 259 = .ok (.iload 7, 2) := by decide +kernel
theorem dX7_command_261 : decode cX7_command 261 = .ok (.iconst 1, 1) := by decide +kernel
theorem dX7_command_262 : decode cX7_command 262 = .ok (.if_icmp .ne 7, 3) := by decide +kernel
theorem dX7_command_265 : decode cX7_command 265 = .ok (.iconst 1, 1) := by decide +kernel
theorem dX7_command_266 : decode cX7_command 266 = .ok (.goto 4, 3) := by decide +kernel
theorem dX7_command_269 : decode cX7_command 269 = .ok (.iconst 0, 1) := by decide +kernel
theorem dX7_command_270 : decode cX7_command 270 = .ok (.if_icmp .ne 35, 3) := by decide +kernel
theorem dX7_command_273 : decode cX7_command 273 = .ok (.iload 7, 2) := by decide +kernel
theorem dX7_command_275 : decode cX7_command 275 = .ok (.iconst 1, 1) := by decide +kernel
theorem dX7_command_276 : decode cX7_command 276 = .ok (.if_icmp .ne 14, 3) := by decide +kernel
theorem dX7_command_279 : decode cX7_command 279 = .ok (.aload_n 0, 1) := by decide +kernel
theorem dX7_command_280 : decode cX7_command 280 = .ok (.getfield 16, 3) := by decide +kernel
theorem dX7_command_283 : decode cX7_command 283 = .ok (.iload_n 3, 1) := by decide +kernel
theorem dX7_command_284 : decode cX7_command 284 = .ok (.invokestatic 175, 3) := by decide +kernel
theorem dX7_command_287 : decode cX7_command 287 = .ok (.goto 11, 3) := by decide +kernel
theorem dX7_command_290 : decode cX7_command 290 = .ok (.aload_n 0, 1) := by decide +kernel
theorem dX7_command_291 : decode cX7_command 291 = .ok (.getfield 16, 3) := by decide +kernel
theorem dX7_command_294 : decode cX7_command 294 = .ok (.iload_n 3, 1) := by decide +kernel
theorem dX7_command_295 : decode cX7_command 295 = .ok (.invokestatic 172, 3) := by decide +kernel
theorem dX7_command_298 : decode cX7_command 298 = .ok (.ifCond .lt 7, 3) := by decide +kernel
theorem dX7_command_301 : decode cX7_command 301 = .ok (.iconst 1, 1) := by decide +kernel
theorem dX7_command_302 : decode cX7_command 302 = .ok (.goto 4, 3) := by decide +kernel
theorem dX7_command_305 : decode cX7_command 305 = .ok (.iconst 0, 1) := by decide +kernel
theorem dX7_command_306 : decode cX7_command 306 = .ok (.ireturn, 1) := by decide +kernel
theorem dX7_command_307 : decode cX7_command 307 = .ok (.iload_n 2, 1) := by decide +kernel
theorem dX7_command_308 : decode cX7_command 308 = .ok (.i2l, 1) := by decide +kernel
theorem dX7_command_309 : decode cX7_command 309 = .ok (.lconst 1, 1) := by decide +kernel
theorem dX7_command_310 : decode cX7_command 310 = .ok (.ldc2_w 210, 3) := by decide +kernel
theorem dX7_command_313 : decode cX7_command 313 = .ok (.invokestatic 40, 3) := by decide +kernel
theorem dX7_command_316 : decode cX7_command 316 = .ok (.ifCond .eq 19, 3) := by decide +kernel
theorem dX7_command_319 : decode cX7_command 319 = .ok (.aload_n 0, 1) := by decide +kernel
theorem dX7_command_320 : decode cX7_command 320 = .ok (.aload_n 0, 1) := by decide +kernel
theorem dX7_command_321 : decode cX7_command 321 = .ok (.getfield 16, 3) := by decide +kernel
theorem dX7_command_324 : decode cX7_command 324 = .ok (.iload_n 2, 1) := by decide +kernel
theorem dX7_command_325 : decode cX7_command 325 = .ok (.invokevirtual 178, 3) := by decide +kernel
theorem dX7_command_328 : decode cX7_command 328 = .ok (.ifCond .lt 7, 3) := by decide +kernel
theorem dX7_command_331 : decode cX7_command 331 = .ok (.iconst 1, 1) := by decide +kernel
theorem dX7_command_332 : decode cX7_command 332 = .ok (.goto 4, 3) := by decide +kernel
theorem dX7_command_335 : decode cX7_command 335 = .ok (.iconst 0, 1) := by decide +kernel
theorem dX7_command_336 : decode cX7_command 336 = .ok (.ireturn, 1) := by decide +kernel
theorem dX7_command_337 : decode cX7_command 337 = .ok (.iload 4, 2) := by decide +kernel
theorem dX7_command_339 : decode cX7_command 339 = .ok (.bipush 100, 2) := by decide +kernel
theorem dX7_command_341 : decode cX7_command 341 = .ok (.if_icmp .ge 32, 3) := by decide +kernel
theorem dX7_command_344 : decode cX7_command 344 = .ok (.aload_n 0, 1) := by decide +kernel
theorem dX7_command_345 : decode cX7_command 345 = .ok (.getfield 16, 3) := by decide +kernel
theorem dX7_command_348 : decode cX7_command 348 = .ok (.iload_n 3, 1) := by decide +kernel
theorem dX7_command_349 : decode cX7_command 349 = .ok (.invokestatic 112, 3) := by decide +kernel
theorem dX7_command_352 : decode cX7_command 352 = .ok (.ifCond .eq 21, 3) := by decide +kernel
theorem dX7_command_355 : decode cX7_command 355 = .ok (.aload_n 0, 1) := by decide +kernel
theorem dX7_command_356 : decode cX7_command 356 = .ok (.getfield 16, 3) := by decide +kernel
theorem dX7_command_359 : decode cX7_command 359 = .ok (.iload_n 3, 1) := by decide +kernel
theorem dX7_command_360 : decode cX7_command 360 = .ok (.iconst 2, 1) := by decide +kernel
theorem dX7_command_361 : decode cX7_command 361 = .ok (.invokestatic 44, 3) := by decide +kernel
theorem dX7_command_364 : decode cX7_command 364 = .ok (.iload 8, 2) := by decide +kernel
theorem dX7_command_366 : decode cX7_command 366 = .ok (.if_icmp .lt 7, 3) := by decide +kernel
theorem dX7_command_369 : decode cX7_command 369 = .ok (.iconst 1, 1) := by decide +kernel
theorem dX7_command_370 : decode cX7_command 370 = .ok (.goto 4, 3) := by decide +kernel
theorem dX7_command_373 : decode cX7_command 373 = .ok (.iconst 0, 1) := by decide +kernel
theorem dX7_command_374 : decode cX7_command 374 = .ok (.ireturn, 1) := by decide +kernel
theorem dX7_command_375 : decode cX7_command 375 = .ok (.iload 4, 2) := by decide +kernel
theorem dX7_command_377 : decode cX7_command 377 = .ok (.bipush 10, 2) := by decide +kernel
theorem dX7_command_379 : decode cX7_command 379 = .ok (.if_icmp .ge 32, 3) := by decide +kernel
theorem dX7_command_382 : decode cX7_command 382 = .ok (.aload_n 0, 1) := by decide +kernel
theorem dX7_command_383 : decode cX7_command 383 = .ok (.getfield 16, 3) := by decide +kernel
theorem dX7_command_386 : decode cX7_command 386 = .ok (.iload_n 3, 1) := by decide +kernel
theorem dX7_command_387 : decode cX7_command 387 = .ok (.invokestatic 112, 3) := by decide +kernel
theorem dX7_command_390 : decode cX7_command 390 = .ok (.ifCond .eq 21, 3) := by decide +kernel
theorem dX7_command_393 : decode cX7_command 393 = .ok (.aload_n 0, 1) := by decide +kernel
theorem dX7_command_394 : decode cX7_command 394 = .ok (.getfield 16, 3) := by decide +kernel
theorem dX7_command_397 : decode cX7_command 397 = .ok (.iload_n 3, 1) := by decide +kernel
theorem dX7_command_398 : decode cX7_command 398 = .ok (.iconst 1, 1) := by decide +kernel
theorem dX7_command_399 : decode cX7_command 399 = .ok (.invokestatic 44, 3) := by decide +kernel
theorem dX7_command_402 : decode cX7_command 402 = .ok (.iload 7, 2) := by decide +kernel
theorem dX7_command_404 : decode cX7_command 404 = .ok (.if_icmp .ne 7, 3) := by decide +kernel
theorem dX7_command_407 : decode cX7_command 407 = .ok (.iconst 1, 1) := by decide +kernel
theorem dX7_command_408 : decode cX7_command 408 = .ok (.goto 4, 3) := by decide +kernel
theorem dX7_command_411 : decode cX7_command 411 = .ok (.iconst 0, 1) := by decide +kernel
theorem dX7_command_412 : decode cX7_command 412 = .ok (.ireturn, 1) := by decide +kernel
theorem dX7_command_413 : decode cX7_command 413 = .ok (.iload 4, 2) := by decide +kernel
theorem dX7_command_415 : decode cX7_command 415 = .ok (.bipush 100, 2) := by decide +kernel
theorem dX7_command_417 : decode cX7_command 417 = .ok (.if_icmp .ge 35, 3) := by decide +kernel
theorem dX7_command_420 : decode cX7_command 420 = .ok (.aload_n 0, 1) := by decide +kernel
theorem dX7_command_421 : decode cX7_command 421 = .ok (.getfield 16, 3) := by decide +kernel
theorem dX7_command_424 : decode cX7_command 424 = .ok (.iload_n 3, 1) := by decide +kernel
theorem dX7_command_425 : decode cX7_command 425 = .ok (.invokestatic 112, 3) := by decide +kernel
theorem dX7_command_428 : decode cX7_command 428 = .ok (.ifCond .eq 24, 3) := by decide +kernel
theorem dX7_command_431 : decode cX7_command 431 = .ok (.aload_n 0, 1) := by decide +kernel
theorem dX7_command_432 : decode cX7_command 432 = .ok (.getfield 16, 3) := by decide +kernel
theorem dX7_command_435 : decode cX7_command 435 = .ok (.iload_n 3, 1) := by decide +kernel
theorem dX7_command_436 : decode cX7_command 436 = .ok (.iconst 5, 1) := by decide +kernel
theorem dX7_command_437 : decode cX7_command 437 = .ok (.invokestatic 44, 3) := by decide +kernel
theorem dX7_command_440 : decode cX7_command 440 = .ok (.invokestatic 120, 3) := by decide +kernel
theorem dX7_command_443 : decode cX7_command 443 = .ok (.iload 8, 2) := by decide +kernel
theorem dX7_command_445 : decode cX7_command 445 = .ok (.if_icmp .lt 7, 3) := by decide +kernel
theorem dX7_command_448 : decode cX7_command 448 = .ok (.iconst 1, 1) := by decide +kernel
theorem dX7_command_449 : decode cX7_command 449 = .ok (.goto 4, 3) := by decide +kernel
theorem dX7_command_452 : decode cX7_command 452 = .ok (.iconst 0, 1) := by decide +kernel
theorem dX7_command_453 : decode cX7_command 453 = .ok (.ireturn, 1) := by decide +kernel
theorem dX7_command_454 : decode cX7_command 454 = .ok (.iload 6, 2) := by decide +kernel
theorem dX7_command_456 : decode cX7_command 456 = .ok (.ifCond .ne 46, 3) := by decide +kernel
theorem dX7_command_459 : decode cX7_command 459 = .ok (.aload_n 0, 1) := by decide +kernel
theorem dX7_command_460 : decode cX7_command 460 = .ok (.getfield 16, 3) := by decide +kernel
theorem dX7_command_463 : decode cX7_command 463 = .ok (.iload_n 3, 1) := by decide +kernel
theorem dX7_command_464 : decode cX7_command 464 = .ok (.invokestatic 112, 3) := by decide +kernel
theorem dX7_command_467 : decode cX7_command 467 = .ok (.ifCond .eq 35, 3) := by decide +kernel
theorem dX7_command_470 : decode cX7_command 470 = .ok (.aload_n 0, 1) := by decide +kernel
theorem dX7_command_471 : decode cX7_command 471 = .ok (.getfield 16, 3) := by decide +kernel
theorem dX7_command_474 : decode cX7_command 474 = .ok (.iload 5, 2) := by decide +kernel
theorem dX7_command_476 : decode cX7_command 476 = .ok (.invokestatic 112, 3) := by decide +kernel
theorem dX7_command_479 : decode cX7_command 479 = .ok (.ifCond .eq 23, 3) := by decide +kernel
theorem dX7_command_482 : decode cX7_command 482 = .ok (.aload_n 0, 1) := by decide +kernel
theorem dX7_command_483 : decode cX7_command 483 = .ok (.getfield 16, 3) := by decide +kernel
theorem dX7_command_486 : decode cX7_command 486 = .ok (.iload_n 3, 1) := by decide +kernel
theorem dX7_command_487 : decode cX7_command 487 = .ok (.iload 5, 2) := by decide +kernel
theorem dX7_command_489 : decode cX7_command 489 = .ok (.iconst 1, 1) := by decide +kernel
theorem dX7_command_490 : decode cX7_command 490 = .ok (.invokestatic 219, 3) := by decide +kernel
theorem dX7_command_493 : decode cX7_command 493 = .ok (.iload 7, 2) := by decide +kernel
theorem dX7_command_495 : decode cX7_command 495 = .ok (.if_icmp .gt 7, 3) := by decide +kernel
theorem dX7_command_498 : decode cX7_command 498 = .ok (.iconst 1, 1) := by decide +kernel
theorem dX7_command_499 : decode cX7_command 499 = .ok (.goto 4, 3) := by decide +kernel
theorem dX7_command_502 : decode cX7_command 502 = .ok (.iconst 0, 1) := by decide +kernel
theorem dX7_command_503 : decode cX7_command 503 = .ok (.ireturn, 1) := by decide +kernel
theorem dX7_command_504 : decode cX7_command 504 = .ok (.iconst 0, 1) := by decide +kernel
theorem dX7_command_505 : decode cX7_command 505 = .ok (.ireturn, 1) := by decide +kernel
theorem dX7_runScript_0 : decode cX7_runScript 0 = .ok (.lconst 1, 1) := by decide +kernel
theorem dX7_runScript_1 : decode cX7_runScript 1 = .ok (.lstore 4, 2) := by decide +kernel
theorem dX7_runScript_3 : decode cX7_runScript 3 = .ok (.iconst 0, 1) := by decide +kernel
theorem dX7_runScript_4 : decode cX7_runScript 4 = .ok (.istore 6, 2) := by decide +kernel
theorem dX7_runScript_6 : decode cX7_runScript 6 = .ok (.iload 6, 2) := by decide +kernel
theorem dX7_runScript_8 : decode cX7_runScript 8 = .ok (.iload_n 1, 1) := by decide +kernel
theorem dX7_runScript_9 : decode cX7_runScript 9 = .ok (.if_icmp .ge 23, 3) := by decide +kernel
theorem dX7_runScript_12 : decode cX7_runScript 12 = .ok (.iload 6, 2) := by decide +kernel
theorem dX7_runScript_14 : decode cX7_runScript 14 = .ok (.iconst 3, 1) := by decide +kernel
theorem dX7_runScript_15 : decode cX7_runScript 15 = .ok (.if_icmp .ge 17, 3) := by decide +kernel
theorem dX7_runScript_18 : decode cX7_runScript 18 = .ok (.lload 4, 2) := by decide +kernel
theorem dX7_runScript_20 : decode cX7_runScript 20 = .ok (.ldc2_w 226, 3) := by decide +kernel
theorem dX7_runScript_23 : decode cX7_runScript 23 = .ok (.lmul, 1) := by decide +kernel
theorem dX7_runScript_24 : decode cX7_runScript 24 = .ok (.lstore 4, 2) := by decide +kernel
theorem dX7_runScript_26 : decode cX7_runScript 26 = .ok (.iinc 6 1, 3) := by decide +kernel
theorem dX7_runScript_29 : decode cX7_runScript 29 = .ok (.goto (-23), 3) := by decide +kernel
theorem dX7_runScript_32 : decode cX7_runScript 32 = .ok (.aload_n 0, 1) := by decide +kernel
theorem dX7_runScript_33 : decode cX7_runScript 33 = .ok (.iload_n 1, 1) := by decide +kernel
theorem dX7_runScript_34 : decode cX7_runScript 34 = .ok (.i2l, 1) := by decide +kernel
theorem dX7_runScript_35 : decode cX7_runScript 35 = .ok (.lconst 1, 1) := by decide +kernel
theorem dX7_runScript_36 : decode cX7_runScript 36 = .ok (.ldc2_w 228, 3) := by decide +kernel
theorem dX7_runScript_39 : decode cX7_runScript 39 = .ok (.invokestatic 40, 3) := by decide +kernel
theorem dX7_runScript_42 : decode cX7_runScript 42 = .ok (.ifCond .eq 19, 3) := by decide +kernel
theorem dX7_runScript_45 : decode cX7_runScript 45 = .ok (.lload_n 2, 1) := by decide +kernel
theorem dX7_runScript_46 : decode cX7_runScript 46 = .ok (.lconst 0, 1) := by decide +kernel
theorem dX7_runScript_47 : decode cX7_runScript 47 = .ok (.lload 4, 2) := by decide +kernel
theorem dX7_runScript_49 : decode cX7_runScript 49 = .ok (.lconst 1, 1) := by decide +kernel
theorem dX7_runScript_50 : decode cX7_runScript 50 = .ok (.lsub, 1) := by decide +kernel
theorem dX7_runScript_51 : decode cX7_runScript 51 = .ok (.invokestatic 40, 3) := by decide +kernel
theorem dX7_runScript_54 : decode cX7_runScript 54 = .ok (.ifCond .eq 7, 3) := by decide +kernel
theorem dX7_runScript_57 : decode cX7_runScript 57 = .ok (.iconst 0, 1) := by decide +kernel
theorem dX7_runScript_58 : decode cX7_runScript 58 = .ok (.goto 4, 3) := by decide +kernel
theorem dX7_runScript_61 : decode cX7_runScript 61 = .ok (.iconst 1, 1) := by decide +kernel
theorem dX7_runScript_62 : decode cX7_runScript 62 = .ok (.invokevirtual 129, 3) := by decide +kernel
theorem dX7_runScript_65 : decode cX7_runScript 65 = .ok (.ifCond .eq 5, 3) := by decide +kernel
theorem dX7_runScript_68 : decode cX7_runScript 68 = .ok (.iconst 0, 1) := by decide +kernel
theorem dX7_runScript_69 : decode cX7_runScript 69 = .ok (.ireturn, 1) := by decide +kernel
theorem dX7_runScript_70 : decode cX7_runScript 70 = .ok (.aload_n 0, 1) := by decide +kernel
theorem dX7_runScript_71 : decode cX7_runScript 71 = .ok (.getfield 13, 3) := by decide +kernel
theorem dX7_runScript_74 : decode cX7_runScript 74 = .ok (.iconst 0, 1) := by decide +kernel
theorem dX7_runScript_75 : decode cX7_runScript 75 = .ok (.aload_n 0, 1) := by decide +kernel
theorem dX7_runScript_76 : decode cX7_runScript 76 = .ok (.getfield 16, 3) := by decide +kernel
theorem dX7_runScript_79 : decode cX7_runScript 79 = .ok (.iconst 0, 1) := by decide +kernel
theorem dX7_runScript_80 : decode cX7_runScript 80 = .ok (.invokestatic 189, 3) := by decide +kernel
theorem dX7_runScript_83 : decode cX7_runScript 83 = .ok (.iconst 0, 1) := by decide +kernel
theorem dX7_runScript_84 : decode cX7_runScript 84 = .ok (.istore 6, 2) := by decide +kernel
theorem dX7_runScript_86 : decode cX7_runScript 86 = .ok (.iload 6, 2) := by decide +kernel
theorem dX7_runScript_88 : decode cX7_runScript 88 = .ok (.iload_n 1, 1) := by decide +kernel
theorem dX7_runScript_89 : decode cX7_runScript 89 = .ok (.if_icmp .ge 50, 3) := by decide +kernel
theorem dX7_runScript_92 : decode cX7_runScript 92 = .ok (.lload 4, 2) := by decide +kernel
theorem dX7_runScript_94 : decode cX7_runScript 94 = .ok (.ldc2_w 226, 3) := by decide +kernel
theorem dX7_runScript_97 : decode cX7_runScript 97 = .ok (.ldiv, 1) := by decide +kernel
theorem dX7_runScript_98 : decode cX7_runScript 98 = .ok (.lstore 4, 2) := by decide +kernel
theorem dX7_runScript_100 : decode cX7_runScript 100 = .ok (.lload_n 2, 1) := by decide +kernel
theorem dX7_runScript_101 : decode cX7_runScript 101 = .ok (.lload 4, 2) := by decide +kernel
theorem dX7_runScript_103 : decode cX7_runScript 103 = .ok (.ldiv, 1) := by decide +kernel
theorem dX7_runScript_104 : decode cX7_runScript 104 = .ok (.ldc2_w 226, 3) := by decide +kernel
theorem dX7_runScript_107 : decode cX7_runScript 107 = .ok (.lrem, 1) := by decide +kernel
theorem dX7_runScript_108 : decode cX7_runScript 108 = .ok (.l2i, 1) := by decide +kernel
theorem dX7_runScript_109 : decode cX7_runScript 109 = .ok (.istore 7, 2) := by decide +kernel
theorem dX7_runScript_111 : decode cX7_runScript 111 = .ok (.aload_n 0, 1) := by decide +kernel
theorem dX7_runScript_112 : decode cX7_runScript 112 = .ok (.iload 7, 2) := by decide +kernel
theorem dX7_runScript_114 : decode cX7_runScript 114 = .ok (.sipush 10000, 3) := by decide +kernel
theorem dX7_runScript_117 : decode cX7_runScript 117 = .ok (.idiv, 1) := by decide +kernel
theorem dX7_runScript_118 : decode cX7_runScript 118 = .ok (.iload 7, 2) := by decide +kernel
theorem dX7_runScript_120 : decode cX7_runScript 120 = .ok (.sipush 10000, 3) := by decide +kernel
theorem dX7_runScript_123 : decode cX7_runScript 123 = .ok (.irem, 1) := by decide +kernel
theorem dX7_runScript_124 : decode cX7_runScript 124 = .ok (.invokevirtual 230, 3) := by decide +kernel
theorem dX7_runScript_127 : decode cX7_runScript 127 = .ok (.ifCond .ne 6, 3) := by decide +kernel
theorem dX7_runScript_130 : decode cX7_runScript 130 = .ok (.iload 6, 2) := by decide +kernel
theorem dX7_runScript_132 : decode cX7_runScript 132 = .ok (.ireturn, 1) := by decide +kernel
theorem dX7_runScript_133 : decode cX7_runScript 133 = .ok (.iinc 6 1, 3) := by decide +kernel
theorem dX7_runScript_136 : decode cX7_runScript 136 = .ok (.goto (-50), 3) := by decide +kernel
theorem dX7_runScript_139 : decode cX7_runScript 139 = .ok (.iconst (-1), 1) := by decide +kernel
theorem dX7_runScript_140 : decode cX7_runScript 140 = .ok (.ireturn, 1) := by decide +kernel
theorem dX7_turn_0 : decode cX7_turn 0 = .ok (.iload_n 1, 1) := by decide +kernel
theorem dX7_turn_1 : decode cX7_turn 1 = .ok (.bipush 16, 2) := by decide +kernel
theorem dX7_turn_3 : decode cX7_turn 3 = .ok (.idiv, 1) := by decide +kernel
theorem dX7_turn_4 : decode cX7_turn 4 = .ok (.istore_n 2, 1) := by decide +kernel
theorem dX7_turn_5 : decode cX7_turn 5 = .ok (.iload_n 2, 1) := by decide +kernel
theorem dX7_turn_6 : decode cX7_turn 6 = .ok (.bipush 6, 2) := by decide +kernel
theorem dX7_turn_8 : decode cX7_turn 8 = .ok (.irem, 1) := by decide +kernel
theorem dX7_turn_9 : decode cX7_turn 9 = .ok (.istore_n 3, 1) := by decide +kernel
theorem dX7_turn_10 : decode cX7_turn 10 = .ok (.iload_n 1, 1) := by decide +kernel
theorem dX7_turn_11 : decode cX7_turn 11 = .ok (.bipush 16, 2) := by decide +kernel
theorem dX7_turn_13 : decode cX7_turn 13 = .ok (.irem, 1) := by decide +kernel
theorem dX7_turn_14 : decode cX7_turn 14 = .ok (.istore 4, 2) := by decide +kernel
theorem dX7_turn_16 : decode cX7_turn 16 = .ok (.iload 4, 2) := by decide +kernel
theorem dX7_turn_18 : decode cX7_turn 18 = .ok (.ifCond .ne 29, 3) := by decide +kernel
theorem dX7_turn_21 : decode cX7_turn 21 = .ok (.aload_n 0, 1) := by decide +kernel
theorem dX7_turn_22 : decode cX7_turn 22 = .ok (.getfield 16, 3) := by decide +kernel
theorem dX7_turn_25 : decode cX7_turn 25 = .ok (.iconst 0, 1) := by decide +kernel
theorem dX7_turn_26 : decode cX7_turn 26 = .ok (.iaload, 1) := by decide +kernel
theorem dX7_turn_27 : decode cX7_turn 27 = .ok (.bipush 6, 2) := by decide +kernel
theorem dX7_turn_29 : decode cX7_turn 29 = .ok (.if_icmp .ge 244, 3) := by decide +kernel
theorem dX7_turn_32 : decode cX7_turn 32 = .ok (.aload_n 0, 1) := by decide +kernel
theorem dX7_turn_33 : decode cX7_turn 33 = .ok (.getfield 16, 3) := by decide +kernel
theorem dX7_turn_36 : decode cX7_turn 36 = .ok (.iload_n 2, 1) := by decide +kernel
theorem dX7_turn_37 : decode cX7_turn 37 = .ok (.bipush 10, 2) := by decide +kernel
theorem dX7_turn_39 : decode cX7_turn 39 = .ok (.irem, 1) := by decide +kernel
theorem dX7_turn_40 : decode cX7_turn 40 = .ok (.invokestatic 145, 3) := by decide +kernel
theorem dX7_turn_43 : decode cX7_turn 43 = .ok (.pop, 1) := by decide +kernel
theorem dX7_turn_44 : decode cX7_turn 44 = .ok (.goto 229, 3) := by decide +kernel
theorem dX7_turn_47 : decode cX7_turn 47 = .ok (.iload 4, 2) := by decide +kernel
theorem dX7_turn_49 : decode cX7_turn 49 = .ok (.bipush 6, 2) := by decide +kernel
theorem dX7_turn_51 : decode cX7_turn 51 = .ok (.if_icmp .ge 26, 3) := by decide +kernel
theorem dX7_turn_54 : decode cX7_turn 54 = .ok (.aload_n 0, 1) := by decide +kernel
theorem dX7_turn_55 : decode cX7_turn 55 = .ok (.getfield 16, 3) := by decide +kernel
theorem dX7_turn_58 : decode cX7_turn 58 = .ok (.iload_n 3, 1) := by decide +kernel
theorem dX7_turn_59 : decode cX7_turn 59 = .ok (.invokestatic 156, 3) := by decide +kernel
theorem dX7_turn_62 : decode cX7_turn 62 = .ok (.ifCond .eq 211, 3) := by decide +kernel
theorem dX7_turn_65 : decode cX7_turn 65 = .ok (.aload_n 0, 1) := by decide +kernel
theorem dX7_turn_66 : decode cX7_turn 66 = .ok (.getfield 16, 3) := by decide +kernel
theorem dX7_turn_69 : decode cX7_turn 69 = .ok (.iload_n 3, 1) := by decide +kernel
theorem dX7_turn_70 : decode cX7_turn 70 = .ok (.invokestatic 159, 3) := by decide +kernel
theorem dX7_turn_73 : decode cX7_turn 73 = .ok (.pop, 1) := by decide +kernel
theorem dX7_turn_74 : decode cX7_turn 74 = .ok (.goto 199, 3) := by decide +kernel
theorem dX7_turn_77 : decode cX7_turn 77 = .ok (.iload 4, 2) := by decide +kernel
theorem dX7_turn_79 : decode cX7_turn 79 = .ok (.bipush 8, 2) := by decide +kernel
theorem dX7_turn_81 : decode cX7_turn 81 = .ok (.if_icmp .ge 54, 3) := by decide +kernel
theorem dX7_turn_84 : decode cX7_turn 84 = .ok (.iload_n 2, 1) := by decide +kernel
theorem dX7_turn_85 : decode cX7_turn 85 = .ok (.bipush 8, 2) := by decide +kernel
theorem dX7_turn_87 : decode cX7_turn 87 = .ok (.idiv, 1) := by decide +kernel
theorem dX7_turn_88 : decode cX7_turn 88 = .ok (.bipush 64, 2) := by decide +kernel
theorem dX7_turn_90 : decode cX7_turn 90 = .ok (.irem, 1) := by decide +kernel
theorem dX7_turn_91 : decode cX7_turn 91 = .ok (.iconst 1, 1) := by decide +kernel
theorem dX7_turn_92 : decode cX7_turn 92 = .ok (.iload_n 3, 1) := by decide +kernel
theorem dX7_turn_93 : decode cX7_turn 93 = .ok (.ishl, 1) := by decide +kernel
theorem dX7_turn_94 : decode cX7_turn 94 = .ok (.ior, 1) := by decide +kernel
theorem dX7_turn_95 : decode cX7_turn 95 = .ok (.iconst 1, 1) := by decide +kernel
theorem dX7_turn_96 : decode cX7_turn 96 = .ok (.aload_n 0, 1) := by decide +kernel
theorem dX7_turn_97 : decode cX7_turn 97 = .ok (.getfield 16, 3) := by decide +kernel
theorem dX7_turn_100 : decode cX7_turn 100 = .ok (.iconst 0, 1) := by decide +kernel
theorem dX7_turn_101 : decode cX7_turn 101 = .ok (.iaload, 1) := by decide +kernel
theorem dX7_turn_102 : decode cX7_turn 102 = .ok (.ishl, 1) := by decide +kernel
theorem dX7_turn_103 : decode cX7_turn 103 = .ok (.iconst 1, 1) := by decide +kernel
theorem dX7_turn_104 : decode cX7_turn 104 = .ok (.isub, 1) := by decide +kernel
theorem dX7_turn_105 : decode cX7_turn 105 = .ok (.iand, 1) := by decide +kernel
theorem dX7_turn_106 : decode cX7_turn 106 = .ok (.istore 5, 2) := by decide +kernel
theorem dX7_turn_108 : decode cX7_turn 108 = .ok (.aload_n 0, 1) := by decide +kernel
theorem dX7_turn_109 : decode cX7_turn 109 = .ok (.getfield 16, 3) := by decide +kernel
theorem dX7_turn_112 : decode cX7_turn 112 = .ok (.iload_n 3, 1) := by decide +kernel
theorem dX7_turn_113 : decode cX7_turn 113 = .ok (.iload 5, 2) := by decide +kernel
theorem dX7_turn_115 : decode cX7_turn 115 = .ok (.invokestatic 162, 3) := by decide +kernel
theorem dX7_turn_118 : decode cX7_turn 118 = .ok (.ifCond .eq 14, 3) := by decide +kernel
theorem dX7_turn_121 : decode cX7_turn 121 = .ok (.aload_n 0, 1) := by decide +kernel
theorem dX7_turn_122 : decode cX7_turn 122 = .ok (.getfield 16, 3) := by decide +kernel
theorem dX7_turn_125 : decode cX7_turn 125 = .ok (.iload_n 3, 1) := by decide +kernel
theorem dX7_turn_126 : decode cX7_turn 126 = .ok (.iload 5, 2) := by decide +kernel
theorem dX7_turn_128 : decode cX7_turn 128 = .ok (.invokestatic 106, 3) := by decide +kernel
theorem dX7_turn_131 : decode cX7_turn 131 = .ok (.pop, 1) := by decide +kernel
theorem dX7_turn_132 : decode cX7_turn 132 = .ok (.goto 141, 3) := by decide +kernel
theorem dX7_turn_135 : decode cX7_turn 135 = .ok (.iload 4, 2) := by decide +kernel
theorem dX7_turn_137 : decode cX7_turn 137 = .ok (.bipush 8, 2) := by decide +kernel
theorem dX7_turn_139 : decode cX7_turn 139 = .ok (.if_icmp .ne 69, 3) := by decide +kernel
theorem dX7_turn_142 : decode cX7_turn 142 = .ok (.iload_n 2, 1) := by decide +kernel
theorem dX7_turn_143 : decode cX7_turn 143 = .ok (.bipush 6, 2) := by decide +kernel
theorem dX7_turn_145 : decode cX7_turn 145 = .ok (.idiv, 1) := by decide +kernel
theorem dX7_turn_146 : decode cX7_turn 146 = .ok (.bipush 6, 2) := by decide +kernel
theorem dX7_turn_148 : decode cX7_turn 148 = .ok (.irem, 1) := by decide +kernel
theorem dX7_turn_149 : decode cX7_turn 149 = .ok (.istore 5, 2) := by decide +kernel
theorem dX7_turn_151 : decode cX7_turn 151 = .ok (.aload_n 0, 1) := by decide +kernel
theorem dX7_turn_152 : decode cX7_turn 152 = .ok (.getfield 16, 3) := by decide +kernel
theorem dX7_turn_155 : decode cX7_turn 155 = .ok (.iload_n 3, 1) := by decide +kernel
theorem dX7_turn_156 : decode cX7_turn 156 = .ok (.invokestatic 112, 3) := by decide +kernel
theorem dX7_turn_159 : decode cX7_turn 159 = .ok (.ifCond .eq 46, 3) := by decide +kernel
theorem dX7_turn_162 : decode cX7_turn 162 = .ok (.aload_n 0, 1) := by decide +kernel
theorem dX7_turn_163 : decode cX7_turn 163 = .ok (.getfield 16, 3) := by decide +kernel
theorem dX7_turn_166 : decode cX7_turn 166 = .ok (.iload 5, 2) := by decide +kernel
theorem dX7_turn_168 : decode cX7_turn 168 = .ok (.invokestatic 112, 3) := by decide +kernel
theorem dX7_turn_171 : decode cX7_turn 171 = .ok (.ifCond .eq 34, 3) := by decide +kernel
theorem dX7_turn_174 : decode cX7_turn 174 = .ok (.iload_n 3, 1) := by decide +kernel
theorem dX7_turn_175 : decode cX7_turn 175 = .ok (.iload 5, 2) := by decide +kernel
theorem dX7_turn_177 : decode cX7_turn 177 = .ok (.if_icmp .eq 28, 3) := by decide +kernel
theorem dX7_turn_180 : decode cX7_turn 180 = .ok (.aload_n 0, 1) := by decide +kernel
theorem dX7_turn_181 : decode cX7_turn 181 = .ok (.getfield 16, 3) := by decide +kernel
theorem dX7_turn_184 : decode cX7_turn 184 = .ok (.iload_n 3, 1) := by decide +kernel
theorem dX7_turn_185 : decode cX7_turn 185 = .ok (.iload 5, 2) := by decide +kernel
theorem dX7_turn_187 : decode cX7_turn 187 = .ok (.iload_n 2, 1) := by decide +kernel
theorem dX7_turn_188 : decode cX7_turn 188 = .ok (.bipush 64, 2) := by decide +kernel
theorem dX7_turn_190 : decode cX7_turn 190 = .ok (.idiv, 1) := by decide +kernel
theorem dX7_turn_191 : decode cX7_turn 191 = .ok (.iconst 3, 1) := by decide +kernel
theorem dX7_turn_192 : decode cX7_turn 192 = .ok (.irem, 1) := by decide +kernel
theorem dX7_turn_193 : decode cX7_turn 193 = .ok (.ifCond .ne 7, 3) := by decide +kernel
theorem dX7_turn_196 : decode cX7_turn 196 = .ok (.iconst 1, 1) := by decide +kernel
theorem dX7_turn_197 : decode cX7_turn 197 = .ok (.goto 4, 3) := by decide +kernel
theorem dX7_turn_200 : decode cX7_turn 200 = .ok (.iconst 0, 1) := by decide +kernel
theorem dX7_turn_201 : decode cX7_turn 201 = .ok (.invokestatic 165, 3) := by decide +kernel
theorem dX7_turn_204 : decode cX7_turn 204 = .ok (.pop, 1) := by decide +kernel
theorem dX7_turn_205 : decode cX7_turn 205 = .ok (.goto 68, 3) := by decide +kernel
theorem dX7_turn_208 : decode cX7_turn 208 = .ok (.iload 4, 2) := by decide +kernel
theorem dX7_turn_210 : decode cX7_turn 210 = .ok (.bipush 9, 2) := by decide +kernel
theorem dX7_turn_212 : decode cX7_turn 212 = .ok (.if_icmp .ne 25, 3) := by decide +kernel
theorem dX7_turn_215 : decode cX7_turn 215 = .ok (.aload_n 0, 1) := by decide +kernel
theorem dX7_turn_216 : decode cX7_turn 216 = .ok (.iload_n 3, 1) := by decide +kernel
theorem dX7_turn_217 : decode cX7_turn 217 = .ok (.iload_n 2, 1) := by decide +kernel
theorem dX7_turn_218 : decode cX7_turn 218 = .ok (.bipush 8, 2) := by decide +kernel
theorem dX7_turn_220 : decode cX7_turn 220 = .ok (.idiv, 1) := by decide +kernel
theorem dX7_turn_221 : decode cX7_turn 221 = .ok (.iconst 3, 1) := by decide +kernel
theorem dX7_turn_222 : decode cX7_turn 222 = .ok (.irem, 1) := by decide +kernel
theorem dX7_turn_223 : decode cX7_turn 223 = .ok (.ifCond .ne 7, 3) := by decide +kernel
theorem dX7_turn_226 : decode cX7_turn 226 = .ok (.iconst 1, 1) := by decide +kernel
theorem dX7_turn_227 : decode cX7_turn 227 = .ok (.goto 4, 3) := by decide +kernel
theorem dX7_turn_230 : decode cX7_turn 230 = .ok (.iconst 0, 1) := by decide +kernel
theorem dX7_turn_231 : decode cX7_turn 231 = .ok (.invokevirtual 233, 3) := by decide +kernel
theorem dX7_turn_234 : decode cX7_turn 234 = .ok (.goto 39, 3) := by decide +kernel
theorem dX7_turn_237 : decode cX7_turn 237 = .ok (.iload 4, 2) := by decide +kernel
theorem dX7_turn_239 : decode cX7_turn 239 = .ok (.bipush 10, 2) := by decide +kernel
theorem dX7_turn_241 : decode cX7_turn 241 = .ok (.if_icmp .ne 17, 3) := by decide +kernel
theorem dX7_turn_244 : decode cX7_turn 244 = .ok (.aload_n 0, 1) := by decide +kernel
theorem dX7_turn_245 : decode cX7_turn 245 = .ok (.getfield 16, 3) := by decide +kernel
theorem dX7_turn_248 : decode cX7_turn 248 = .ok (.bipush 7, 2) := by decide +kernel
theorem dX7_turn_250 : decode cX7_turn 250 = .ok (.iload_n 2, 1) := by decide +kernel
theorem dX7_turn_251 : decode cX7_turn 251 = .ok (.bipush 41, 2) := by decide +kernel
theorem dX7_turn_253 : decode cX7_turn 253 = .ok (.irem, 1) := by decide +kernel
theorem dX7_turn_254 : decode cX7_turn 254 = .ok (.iastore, 1) := by decide +kernel
theorem dX7_turn_255 : decode cX7_turn 255 = .ok (.goto 18, 3) := by decide +kernel
theorem dX7_turn_258 : decode cX7_turn 258 = .ok (.aload_n 0, 1) := by decide +kernel
theorem dX7_turn_259 : decode cX7_turn 259 = .ok (.aload_n 0, 1) := by decide +kernel
theorem dX7_turn_260 : decode cX7_turn 260 = .ok (.getfield 16, 3) := by decide +kernel
theorem dX7_turn_263 : decode cX7_turn 263 = .ok (.iconst 1, 1) := by decide +kernel
theorem dX7_turn_264 : decode cX7_turn 264 = .ok (.iload_n 2, 1) := by decide +kernel
theorem dX7_turn_265 : decode cX7_turn 265 = .ok (.bipush 8, 2) := by decide +kernel
theorem dX7_turn_267 : decode cX7_turn 267 = .ok (.irem, 1) := by decide +kernel
theorem dX7_turn_268 : decode cX7_turn 268 = .ok (.iadd, 1) := by decide +kernel
theorem dX7_turn_269 : decode cX7_turn 269 = .ok (.invokevirtual 178, 3) := by decide +kernel
theorem dX7_turn_272 : decode cX7_turn 272 = .ok (.pop, 1) := by decide +kernel
theorem dX7_turn_273 : decode cX7_turn 273 = .ok (.return_, 1) := by decide +kernel
theorem dX7_turnGoing_0 : decode cX7_turnGoing 0 = .ok (.iload_n 2, 1) := by decide +kernel
theorem dX7_turnGoing_1 : decode cX7_turnGoing 1 = .ok (.ifCond .eq 37, 3) := by decide +kernel
theorem dX7_turnGoing_4 : decode cX7_turnGoing 4 = .ok (.aload_n 0, 1) := by decide +kernel
theorem dX7_turnGoing_5 : decode cX7_turnGoing 5 = .ok (.getfield 16, 3) := by decide +kernel
theorem dX7_turnGoing_8 : decode cX7_turnGoing 8 = .ok (.iload_n 1, 1) := by decide +kernel
theorem dX7_turnGoing_9 : decode cX7_turnGoing 9 = .ok (.invokestatic 112, 3) := by decide +kernel
theorem dX7_turnGoing_12 : decode cX7_turnGoing 12 = .ok (.ifCond .eq 26, 3) := by decide +kernel
theorem dX7_turnGoing_15 : decode cX7_turnGoing 15 = .ok (.aload_n 0, 1) := by decide +kernel
theorem dX7_turnGoing_16 : decode cX7_turnGoing 16 = .ok (.getfield 16, 3) := by decide +kernel
theorem dX7_turnGoing_19 : decode cX7_turnGoing 19 = .ok (.iload_n 1, 1) := by decide +kernel
theorem dX7_turnGoing_20 : decode cX7_turnGoing 20 = .ok (.invokestatic 169, 3) := by decide +kernel
theorem dX7_turnGoing_23 : decode cX7_turnGoing 23 = .ok (.ifCond .ne 15, 3) := by decide +kernel
theorem dX7_turnGoing_26 : decode cX7_turnGoing 26 = .ok (.aload_n 0, 1) := by decide +kernel
theorem dX7_turnGoing_27 : decode cX7_turnGoing 27 = .ok (.getfield 16, 3) := by decide +kernel
theorem dX7_turnGoing_30 : decode cX7_turnGoing 30 = .ok (.iload_n 1, 1) := by decide +kernel
theorem dX7_turnGoing_31 : decode cX7_turnGoing 31 = .ok (.invokestatic 172, 3) := by decide +kernel
theorem dX7_turnGoing_34 : decode cX7_turnGoing 34 = .ok (.pop, 1) := by decide +kernel
theorem dX7_turnGoing_35 : decode cX7_turnGoing 35 = .ok (.goto 27, 3) := by decide +kernel
theorem dX7_turnGoing_38 : decode cX7_turnGoing 38 = .ok (.iload_n 2, 1) := by decide +kernel
theorem dX7_turnGoing_39 : decode cX7_turnGoing 39 = .ok (.ifCond .ne 23, 3) := by decide +kernel
theorem dX7_turnGoing_42 : decode cX7_turnGoing 42 = .ok (.aload_n 0, 1) := by decide +kernel
theorem dX7_turnGoing_43 : decode cX7_turnGoing 43 = .ok (.getfield 16, 3) := by decide +kernel
theorem dX7_turnGoing_46 : decode cX7_turnGoing 46 = .ok (.iload_n 1, 1) := by decide +kernel
theorem dX7_turnGoing_47 : decode cX7_turnGoing 47 = .ok (.invokestatic 169, 3) := by decide +kernel
theorem dX7_turnGoing_50 : decode cX7_turnGoing 50 = .ok (.ifCond .eq 12, 3) := by decide +kernel
theorem dX7_turnGoing_53 : decode cX7_turnGoing 53 = .ok (.aload_n 0, 1) := by decide +kernel
theorem dX7_turnGoing_54 : decode cX7_turnGoing 54 = .ok (.getfield 16, 3) := by decide +kernel
theorem dX7_turnGoing_57 : decode cX7_turnGoing 57 = .ok (.iload_n 1, 1) := by decide +kernel
theorem dX7_turnGoing_58 : decode cX7_turnGoing 58 = .ok (.invokestatic 175, 3) := by decide +kernel
theorem dX7_turnGoing_61 : decode cX7_turnGoing 61 = .ok (.pop, 1) := by decide +kernel
theorem dX7_turnGoing_62 : decode cX7_turnGoing 62 = .ok (.return_, 1) := by decide +kernel
theorem dX7_simulate_0 : decode cX7_simulate 0 = .ok (.aload_n 0, 1) := by decide +kernel
theorem dX7_simulate_1 : decode cX7_simulate 1 = .ok (.iload_n 3, 1) := by decide +kernel
theorem dX7_simulate_2 : decode cX7_simulate 2 = .ok (.i2l, 1) := by decide +kernel
theorem dX7_simulate_3 : decode cX7_simulate 3 = .ok (.lconst 1, 1) := by decide +kernel
theorem dX7_simulate_4 : decode cX7_simulate 4 = .ok (.ldc2_w 210, 3) := by decide +kernel
theorem dX7_simulate_7 : decode cX7_simulate 7 = .ok (.invokestatic 40, 3) := by decide +kernel
theorem dX7_simulate_10 : decode cX7_simulate 10 = .ok (.ifCond .eq 7, 3) := by decide +kernel
theorem dX7_simulate_13 : decode cX7_simulate 13 = .ok (.iconst 0, 1) := by decide +kernel
theorem dX7_simulate_14 : decode cX7_simulate 14 = .ok (.goto 4, 3) := by decide +kernel
theorem dX7_simulate_17 : decode cX7_simulate 17 = .ok (.iconst 1, 1) := by decide +kernel
theorem dX7_simulate_18 : decode cX7_simulate 18 = .ok (.invokevirtual 129, 3) := by decide +kernel
theorem dX7_simulate_21 : decode cX7_simulate 21 = .ok (.ifCond .eq 5, 3) := by decide +kernel
theorem dX7_simulate_24 : decode cX7_simulate 24 = .ok (.iconst 0, 1) := by decide +kernel
theorem dX7_simulate_25 : decode cX7_simulate 25 = .ok (.ireturn, 1) := by decide +kernel
theorem dX7_simulate_26 : decode cX7_simulate 26 = .ok (.aload_n 0, 1) := by decide +kernel
theorem dX7_simulate_27 : decode cX7_simulate 27 = .ok (.getfield 13, 3) := by decide +kernel
theorem dX7_simulate_30 : decode cX7_simulate 30 = .ok (.iconst 0, 1) := by decide +kernel
theorem dX7_simulate_31 : decode cX7_simulate 31 = .ok (.aload_n 0, 1) := by decide +kernel
theorem dX7_simulate_32 : decode cX7_simulate 32 = .ok (.getfield 16, 3) := by decide +kernel
theorem dX7_simulate_35 : decode cX7_simulate 35 = .ok (.iconst 0, 1) := by decide +kernel
theorem dX7_simulate_36 : decode cX7_simulate 36 = .ok (.invokestatic 189, 3) := by decide +kernel
theorem dX7_simulate_39 : decode cX7_simulate 39 = .ok (.lload_n 1, 1) := by decide +kernel
theorem dX7_simulate_40 : decode cX7_simulate 40 = .ok (.lstore 4, 2) := by decide +kernel
theorem dX7_simulate_42 : decode cX7_simulate 42 = .ok (.iconst 0, 1) := by decide +kernel
theorem dX7_simulate_43 : decode cX7_simulate 43 = .ok (.istore 6, 2) := by decide +kernel
theorem dX7_simulate_45 : decode cX7_simulate 45 = .ok (.iload 6, 2) := by decide +kernel
theorem dX7_simulate_47 : decode cX7_simulate 47 = .ok (.iload_n 3, 1) := by decide +kernel
theorem dX7_simulate_48 : decode cX7_simulate 48 = .ok (.if_icmp .ge 31, 3) := by decide +kernel
theorem dX7_simulate_51 : decode cX7_simulate 51 = .ok (.lload 4, 2) := by decide +kernel
theorem dX7_simulate_53 : decode cX7_simulate 53 = .ok (.ldc2_w 237, 3) := by decide +kernel
theorem dX7_simulate_56 : decode cX7_simulate 56 = .ok (.lmul, 1) := by decide +kernel
theorem dX7_simulate_57 : decode cX7_simulate 57 = .ok (.ldc2_w 239, 3) := by decide +kernel
theorem dX7_simulate_60 : decode cX7_simulate 60 = .ok (.ladd, 1) := by decide +kernel
theorem dX7_simulate_61 : decode cX7_simulate 61 = .ok (.lstore 4, 2) := by decide +kernel
theorem dX7_simulate_63 : decode cX7_simulate 63 = .ok (.aload_n 0, 1) := by decide +kernel
theorem dX7_simulate_64 : decode cX7_simulate 64 = .ok (.lload 4, 2) := by decide +kernel
theorem dX7_simulate_66 : decode cX7_simulate 66 = .ok (.bipush 33, 2) := by decide +kernel
theorem dX7_simulate_68 : decode cX7_simulate 68 = .ok (.lushr, 1) := by decide +kernel
theorem dX7_simulate_69 : decode cX7_simulate 69 = .ok (.l2i, 1) := by decide +kernel
theorem dX7_simulate_70 : decode cX7_simulate 70 = .ok (.invokevirtual 241, 3) := by decide +kernel
theorem dX7_simulate_73 : decode cX7_simulate 73 = .ok (.iinc 6 1, 3) := by decide +kernel
theorem dX7_simulate_76 : decode cX7_simulate 76 = .ok (.goto (-31), 3) := by decide +kernel
theorem dX7_simulate_79 : decode cX7_simulate 79 = .ok (.aload_n 0, 1) := by decide +kernel
theorem dX7_simulate_80 : decode cX7_simulate 80 = .ok (.getfield 16, 3) := by decide +kernel
theorem dX7_simulate_83 : decode cX7_simulate 83 = .ok (.iconst 5, 1) := by decide +kernel
theorem dX7_simulate_84 : decode cX7_simulate 84 = .ok (.iaload, 1) := by decide +kernel
theorem dX7_simulate_85 : decode cX7_simulate 85 = .ok (.aload_n 0, 1) := by decide +kernel
theorem dX7_simulate_86 : decode cX7_simulate 86 = .ok (.getfield 13, 3) := by decide +kernel
theorem dX7_simulate_89 : decode cX7_simulate 89 = .ok (.iconst 5, 1) := by decide +kernel
theorem dX7_simulate_90 : decode cX7_simulate 90 = .ok (.iaload, 1) := by decide +kernel
theorem dX7_simulate_91 : decode cX7_simulate 91 = .ok (.isub, 1) := by decide +kernel
theorem dX7_simulate_92 : decode cX7_simulate 92 = .ok (.istore 6, 2) := by decide +kernel
theorem dX7_simulate_94 : decode cX7_simulate 94 = .ok (.sipush 10000, 3) := by decide +kernel
theorem dX7_simulate_97 : decode cX7_simulate 97 = .ok (.aload_n 0, 1) := by decide +kernel
theorem dX7_simulate_98 : decode cX7_simulate 98 = .ok (.getfield 16, 3) := by decide +kernel
theorem dX7_simulate_101 : decode cX7_simulate 101 = .ok (.bipush 6, 2) := by decide +kernel
theorem dX7_simulate_103 : decode cX7_simulate 103 = .ok (.iaload, 1) := by decide +kernel
theorem dX7_simulate_104 : decode cX7_simulate 104 = .ok (.aload_n 0, 1) := by decide +kernel
theorem dX7_simulate_105 : decode cX7_simulate 105 = .ok (.getfield 13, 3) := by decide +kernel
theorem dX7_simulate_108 : decode cX7_simulate 108 = .ok (.bipush 6, 2) := by decide +kernel
theorem dX7_simulate_110 : decode cX7_simulate 110 = .ok (.iaload, 1) := by decide +kernel
theorem dX7_simulate_111 : decode cX7_simulate 111 = .ok (.isub, 1) := by decide +kernel
theorem dX7_simulate_112 : decode cX7_simulate 112 = .ok (.imul, 1) := by decide +kernel
theorem dX7_simulate_113 : decode cX7_simulate 113 = .ok (.bipush 100, 2) := by decide +kernel
theorem dX7_simulate_115 : decode cX7_simulate 115 = .ok (.aload_n 0, 1) := by decide +kernel
theorem dX7_simulate_116 : decode cX7_simulate 116 = .ok (.getfield 16, 3) := by decide +kernel
theorem dX7_simulate_119 : decode cX7_simulate 119 = .ok (.iconst 4, 1) := by decide +kernel
theorem dX7_simulate_120 : decode cX7_simulate 120 = .ok (.iaload, 1) := by decide +kernel
theorem dX7_simulate_121 : decode cX7_simulate 121 = .ok (.aload_n 0, 1) := by decide +kernel
theorem dX7_simulate_122 : decode cX7_simulate 122 = .ok (.getfield 13, 3) := by decide +kernel
theorem dX7_simulate_125 : decode cX7_simulate 125 = .ok (.iconst 4, 1) := by decide +kernel
theorem dX7_simulate_126 : decode cX7_simulate 126 = .ok (.iaload, 1) := by decide +kernel
theorem dX7_simulate_127 : decode cX7_simulate 127 = .ok (.isub, 1) := by decide +kernel
theorem dX7_simulate_128 : decode cX7_simulate 128 = .ok (.imul, 1) := by decide +kernel
theorem dX7_simulate_129 : decode cX7_simulate 129 = .ok (.iadd, 1) := by decide +kernel
theorem dX7_simulate_130 : decode cX7_simulate 130 = .ok (.iload 6, 2) := by decide +kernel
theorem dX7_simulate_132 : decode cX7_simulate 132 = .ok (.bipush 99, 2) := by decide +kernel
theorem dX7_simulate_134 : decode cX7_simulate 134 = .ok (.if_icmp .le 8, 3) := by decide +kernel
theorem dX7_simulate_137 : decode cX7_simulate 137 = .ok (.bipush 99, 2) := by decide +kernel
theorem dX7_simulate_139 : decode cX7_simulate 139 = .ok (.goto 5, 3) := by decide +kernel
theorem dX7_simulate_142 : decode cX7_simulate 142 = .ok (.iload 6, 2) := by decide +kernel
theorem dX7_simulate_144 : decode cX7_simulate 144 = .ok (.iadd, 1) := by decide +kernel
theorem dX7_simulate_145 : decode cX7_simulate 145 = .ok (.ireturn, 1) := by decide +kernel
theorem dX7_save_0 : decode cX7_save 0 = .ok (.aload_n 0, 1) := by decide +kernel
theorem dX7_save_1 : decode cX7_save 1 = .ok (.iload_n 1, 1) := by decide +kernel
theorem dX7_save_2 : decode cX7_save 2 = .ok (.i2l, 1) := by decide +kernel
theorem dX7_save_3 : decode cX7_save 3 = .ok (.lconst 0, 1) := by decide +kernel
theorem dX7_save_4 : decode cX7_save 4 = .ok (.lconst 1, 1) := by decide +kernel
theorem dX7_save_5 : decode cX7_save 5 = .ok (.invokestatic 40, 3) := by decide +kernel
theorem dX7_save_8 : decode cX7_save 8 = .ok (.ifCond .eq 7, 3) := by decide +kernel
theorem dX7_save_11 : decode cX7_save 11 = .ok (.iconst 0, 1) := by decide +kernel
theorem dX7_save_12 : decode cX7_save 12 = .ok (.goto 4, 3) := by decide +kernel
theorem dX7_save_15 : decode cX7_save 15 = .ok (.iconst 1, 1) := by decide +kernel
theorem dX7_save_16 : decode cX7_save 16 = .ok (.invokevirtual 129, 3) := by decide +kernel
theorem dX7_save_19 : decode cX7_save 19 = .ok (.ifCond .eq 5, 3) := by decide +kernel
theorem dX7_save_22 : decode cX7_save 22 = .ok (.iconst 0, 1) := by decide +kernel
theorem dX7_save_23 : decode cX7_save 23 = .ok (.ireturn, 1) := by decide +kernel
theorem dX7_save_24 : decode cX7_save 24 = .ok (.aload_n 0, 1) := by decide +kernel
theorem dX7_save_25 : decode cX7_save 25 = .ok (.getfield 13, 3) := by decide +kernel
theorem dX7_save_28 : decode cX7_save 28 = .ok (.iconst 0, 1) := by decide +kernel
theorem dX7_save_29 : decode cX7_save 29 = .ok (.aload_n 0, 1) := by decide +kernel
theorem dX7_save_30 : decode cX7_save 30 = .ok (.getfield 22, 3) := by decide +kernel
theorem dX7_save_33 : decode cX7_save 33 = .ok (.sipush 2012, 3) := by decide +kernel
theorem dX7_save_36 : decode cX7_save 36 = .ok (.iload_n 1, 1) := by decide +kernel
theorem dX7_save_37 : decode cX7_save 37 = .ok (.imul, 1) := by decide +kernel
theorem dX7_save_38 : decode cX7_save 38 = .ok (.invokestatic 189, 3) := by decide +kernel
theorem dX7_save_41 : decode cX7_save 41 = .ok (.aload_n 0, 1) := by decide +kernel
theorem dX7_save_42 : decode cX7_save 42 = .ok (.getfield 25, 3) := by decide +kernel
theorem dX7_save_45 : decode cX7_save 45 = .ok (.iload_n 1, 1) := by decide +kernel
theorem dX7_save_46 : decode cX7_save 46 = .ok (.iconst 1, 1) := by decide +kernel
theorem dX7_save_47 : decode cX7_save 47 = .ok (.bastore, 1) := by decide +kernel
theorem dX7_save_48 : decode cX7_save 48 = .ok (.aload_n 0, 1) := by decide +kernel
theorem dX7_save_49 : decode cX7_save 49 = .ok (.getfield 13, 3) := by decide +kernel
theorem dX7_save_52 : decode cX7_save 52 = .ok (.iconst 1, 1) := by decide +kernel
theorem dX7_save_53 : decode cX7_save 53 = .ok (.iaload, 1) := by decide +kernel
theorem dX7_save_54 : decode cX7_save 54 = .ok (.ireturn, 1) := by decide +kernel
theorem dX7_restore_0 : decode cX7_restore 0 = .ok (.aload_n 0, 1) := by decide +kernel
theorem dX7_restore_1 : decode cX7_restore 1 = .ok (.iload_n 1, 1) := by decide +kernel
theorem dX7_restore_2 : decode cX7_restore 2 = .ok (.i2l, 1) := by decide +kernel
theorem dX7_restore_3 : decode cX7_restore 3 = .ok (.lconst 0, 1) := by decide +kernel
theorem dX7_restore_4 : decode cX7_restore 4 = .ok (.lconst 1, 1) := by decide +kernel
theorem dX7_restore_5 : decode cX7_restore 5 = .ok (.invokestatic 40, 3) := by decide +kernel
theorem dX7_restore_8 : decode cX7_restore 8 = .ok (.ifCond .ne 7, 3) := by decide +kernel
theorem dX7_restore_11 : decode cX7_restore 11 = .ok (.iconst 1, 1) := by decide +kernel
theorem dX7_restore_12 : decode cX7_restore 12 = .ok (.goto 17, 3) := by decide +kernel
theorem dX7_restore_15 : decode cX7_restore 15 = .ok (.aload_n 0, 1) := by decide +kernel
theorem dX7_restore_16 : decode cX7_restore 16 = .ok (.getfield 25, 3) := by decide +kernel
theorem dX7_restore_19 : decode cX7_restore 19 = .ok (.iload_n 1, 1) := by decide +kernel
theorem dX7_restore_20 : decode cX7_restore 20 = .ok (.baload, 1) := by decide +kernel
theorem dX7_restore_21 : decode cX7_restore 21 = .ok (.ifCond .ne 7, 3) := by decide +kernel
theorem dX7_restore_24 : decode cX7_restore 24 = .ok (.iconst 2, 1) := by decide +kernel
theorem dX7_restore_25 : decode cX7_restore 25 = .ok (.goto 4, 3) := by decide +kernel
theorem dX7_restore_28 : decode cX7_restore 28 = .ok (.iconst 0, 1) := by decide +kernel
theorem dX7_restore_29 : decode cX7_restore 29 = .ok (.invokevirtual 129, 3) := by decide +kernel
theorem dX7_restore_32 : decode cX7_restore 32 = .ok (.ifCond .eq 5, 3) := by decide +kernel
theorem dX7_restore_35 : decode cX7_restore 35 = .ok (.iconst 0, 1) := by decide +kernel
theorem dX7_restore_36 : decode cX7_restore 36 = .ok (.ireturn, 1) := by decide +kernel
theorem dX7_restore_37 : decode cX7_restore 37 = .ok (.aload_n 0, 1) := by decide +kernel
theorem dX7_restore_38 : decode cX7_restore 38 = .ok (.getfield 22, 3) := by decide +kernel
theorem dX7_restore_41 : decode cX7_restore 41 = .ok (.sipush 2012, 3) := by decide +kernel
theorem dX7_restore_44 : decode cX7_restore 44 = .ok (.iload_n 1, 1) := by decide +kernel
theorem dX7_restore_45 : decode cX7_restore 45 = .ok (.imul, 1) := by decide +kernel
theorem dX7_restore_46 : decode cX7_restore 46 = .ok (.aload_n 0, 1) := by decide +kernel
theorem dX7_restore_47 : decode cX7_restore 47 = .ok (.getfield 13, 3) := by decide +kernel
theorem dX7_restore_50 : decode cX7_restore 50 = .ok (.iconst 0, 1) := by decide +kernel
theorem dX7_restore_51 : decode cX7_restore 51 = .ok (.invokestatic 189, 3) := by decide +kernel
theorem dX7_restore_54 : decode cX7_restore 54 = .ok (.aload_n 0, 1) := by decide +kernel
theorem dX7_restore_55 : decode cX7_restore 55 = .ok (.iconst 0, 1) := by decide +kernel
theorem dX7_restore_56 : decode cX7_restore 56 = .ok (.putfield 193, 3) := by decide +kernel
theorem dX7_restore_59 : decode cX7_restore 59 = .ok (.aload_n 0, 1) := by decide +kernel
theorem dX7_restore_60 : decode cX7_restore 60 = .ok (.getfield 13, 3) := by decide +kernel
theorem dX7_restore_63 : decode cX7_restore 63 = .ok (.iconst 1, 1) := by decide +kernel
theorem dX7_restore_64 : decode cX7_restore 64 = .ok (.iaload, 1) := by decide +kernel
theorem dX7_restore_65 : decode cX7_restore 65 = .ok (.ireturn, 1) := by decide +kernel
theorem dL_append_0 : decode cL_append 0 = .ok (.aload_n 2, 1) := by decide +kernel
theorem dL_append_1 : decode cL_append 1 = .ok (.iconst 0, 1) := by decide +kernel
theorem dL_append_2 : decode cL_append 2 = .ok (.aload_n 0, 1) := by decide +kernel
theorem dL_append_3 : decode cL_append 3 = .ok (.iload_n 1, 1) := by decide +kernel
theorem dL_append_4 : decode cL_append 4 = .ok (.invokevirtual 7, 3) := by decide +kernel
theorem dL_append_7 : decode cL_append 7 = .ok (.i2l, 1) := by decide +kernel
theorem dL_append_8 : decode cL_append 8 = .ok (.lastore, 1) := by decide +kernel
theorem dL_append_9 : decode cL_append 9 = .ok (.goto 9, 3) := by decide +kernel
theorem dL_append_12 : decode cL_append 12 = .ok (.astore_n 3, 1) := by decide +kernel
theorem dL_append_13 : decode cL_append 13 = .ok (.iconst 1, 1) := by decide +kernel
theorem dL_append_14 : decode cL_append 14 = .ok (.ireturn, 1) := by decide +kernel
theorem dL_append_15 : decode cL_append 15 = .ok (.astore_n 3, 1) := by decide +kernel
theorem dL_append_16 : decode cL_append 16 = .ok (.iconst 2, 1) := by decide +kernel
theorem dL_append_17 : decode cL_append 17 = .ok (.ireturn, 1) := by decide +kernel
theorem dL_append_18 : decode cL_append 18 = .ok (.iconst 0, 1) := by decide +kernel
theorem dL_append_19 : decode cL_append 19 = .ok (.ireturn, 1) := by decide +kernel
theorem dL_load_0 : decode cL_load 0 = .ok (.aload_n 1, 1) := by decide +kernel
theorem dL_load_1 : decode cL_load 1 = .ok (.iconst 0, 1) := by decide +kernel
theorem dL_load_2 : decode cL_load 2 = .ok (.aload_n 0, 1) := by decide +kernel
theorem dL_load_3 : decode cL_load 3 = .ok (.invokevirtual 17, 3) := by decide +kernel
theorem dL_load_6 : decode cL_load 6 = .ok (.i2l, 1) := by decide +kernel
theorem dL_load_7 : decode cL_load 7 = .ok (.lastore, 1) := by decide +kernel
theorem dL_load_8 : decode cL_load 8 = .ok (.goto 6, 3) := by decide +kernel
theorem dL_load_11 : decode cL_load 11 = .ok (.astore_n 2, 1) := by decide +kernel
theorem dL_load_12 : decode cL_load 12 = .ok (.iconst 1, 1) := by decide +kernel
theorem dL_load_13 : decode cL_load 13 = .ok (.ireturn, 1) := by decide +kernel
theorem dL_load_14 : decode cL_load 14 = .ok (.iconst 0, 1) := by decide +kernel
theorem dL_load_15 : decode cL_load 15 = .ok (.ireturn, 1) := by decide +kernel
theorem dL_about_0 : decode cL_about 0 = .ok (.aload_n 2, 1) := by decide +kernel
theorem dL_about_1 : decode cL_about 1 = .ok (.iconst 0, 1) := by decide +kernel
theorem dL_about_2 : decode cL_about 2 = .ok (.aload_n 0, 1) := by decide +kernel
theorem dL_about_3 : decode cL_about 3 = .ok (.iload_n 1, 1) := by decide +kernel
theorem dL_about_4 : decode cL_about 4 = .ok (.invokevirtual 21, 3) := by decide +kernel
theorem dL_about_7 : decode cL_about 7 = .ok (.i2l, 1) := by decide +kernel
theorem dL_about_8 : decode cL_about 8 = .ok (.lastore, 1) := by decide +kernel
theorem dL_about_9 : decode cL_about 9 = .ok (.goto 6, 3) := by decide +kernel
theorem dL_about_12 : decode cL_about 12 = .ok (.astore_n 3, 1) := by decide +kernel
theorem dL_about_13 : decode cL_about 13 = .ok (.iconst 1, 1) := by decide +kernel
theorem dL_about_14 : decode cL_about 14 = .ok (.ireturn, 1) := by decide +kernel
theorem dL_about_15 : decode cL_about 15 = .ok (.iconst 0, 1) := by decide +kernel
theorem dL_about_16 : decode cL_about 16 = .ok (.ireturn, 1) := by decide +kernel
theorem dL_memberOf_0 : decode cL_memberOf 0 = .ok (.aload_n 3, 1) := by decide +kernel
theorem dL_memberOf_1 : decode cL_memberOf 1 = .ok (.iconst 0, 1) := by decide +kernel
theorem dL_memberOf_2 : decode cL_memberOf 2 = .ok (.aload_n 0, 1) := by decide +kernel
theorem dL_memberOf_3 : decode cL_memberOf 3 = .ok (.iload_n 1, 1) := by decide +kernel
theorem dL_memberOf_4 : decode cL_memberOf 4 = .ok (.iload_n 2, 1) := by decide +kernel
theorem dL_memberOf_5 : decode cL_memberOf 5 = .ok (.invokevirtual 24, 3) := by decide +kernel
theorem dL_memberOf_8 : decode cL_memberOf 8 = .ok (.i2l, 1) := by decide +kernel
theorem dL_memberOf_9 : decode cL_memberOf 9 = .ok (.lastore, 1) := by decide +kernel
theorem dL_memberOf_10 : decode cL_memberOf 10 = .ok (.goto 11, 3) := by decide +kernel
theorem dL_memberOf_13 : decode cL_memberOf 13 = .ok (.astore 4, 2) := by decide +kernel
theorem dL_memberOf_15 : decode cL_memberOf 15 = .ok (.iconst 1, 1) := by decide +kernel
theorem dL_memberOf_16 : decode cL_memberOf 16 = .ok (.ireturn, 1) := by decide +kernel
theorem dL_memberOf_17 : decode cL_memberOf 17 = .ok (.astore 4, 2) := by decide +kernel
theorem dL_memberOf_19 : decode cL_memberOf 19 = .ok (.iconst 2, 1) := by decide +kernel
theorem dL_memberOf_20 : decode cL_memberOf 20 = .ok (.ireturn, 1) := by decide +kernel
theorem dL_memberOf_21 : decode cL_memberOf 21 = .ok (.iconst 0, 1) := by decide +kernel
theorem dL_memberOf_22 : decode cL_memberOf 22 = .ok (.ireturn, 1) := by decide +kernel
theorem dL_session_0 : decode cL_session 0 = .ok (.aload 4, 2) := by decide +kernel
theorem dL_session_2 : decode cL_session 2 = .ok (.iconst 0, 1) := by decide +kernel
theorem dL_session_3 : decode cL_session 3 = .ok (.aload_n 0, 1) := by decide +kernel
theorem dL_session_4 : decode cL_session 4 = .ok (.iload_n 1, 1) := by decide +kernel
theorem dL_session_5 : decode cL_session 5 = .ok (.iload_n 2, 1) := by decide +kernel
theorem dL_session_6 : decode cL_session 6 = .ok (.iload_n 3, 1) := by decide +kernel
theorem dL_session_7 : decode cL_session 7 = .ok (.invokevirtual 30, 3) := by decide +kernel
theorem dL_session_10 : decode cL_session 10 = .ok (.i2l, 1) := by decide +kernel
theorem dL_session_11 : decode cL_session 11 = .ok (.lastore, 1) := by decide +kernel
theorem dL_session_12 : decode cL_session 12 = .ok (.goto 11, 3) := by decide +kernel
theorem dL_session_15 : decode cL_session 15 = .ok (.astore 5, 2) := by decide +kernel
theorem dL_session_17 : decode cL_session 17 = .ok (.iconst 1, 1) := by decide +kernel
theorem dL_session_18 : decode cL_session 18 = .ok (.ireturn, 1) := by decide +kernel
theorem dL_session_19 : decode cL_session 19 = .ok (.astore 5, 2) := by decide +kernel
theorem dL_session_21 : decode cL_session 21 = .ok (.iconst 2, 1) := by decide +kernel
theorem dL_session_22 : decode cL_session 22 = .ok (.ireturn, 1) := by decide +kernel
theorem dL_session_23 : decode cL_session 23 = .ok (.iconst 0, 1) := by decide +kernel
theorem dL_session_24 : decode cL_session 24 = .ok (.ireturn, 1) := by decide +kernel
theorem dL_note_0 : decode cL_note 0 = .ok (.aload_n 3, 1) := by decide +kernel
theorem dL_note_1 : decode cL_note 1 = .ok (.iconst 0, 1) := by decide +kernel
theorem dL_note_2 : decode cL_note 2 = .ok (.aload_n 0, 1) := by decide +kernel
theorem dL_note_3 : decode cL_note 3 = .ok (.iload_n 1, 1) := by decide +kernel
theorem dL_note_4 : decode cL_note 4 = .ok (.iload_n 2, 1) := by decide +kernel
theorem dL_note_5 : decode cL_note 5 = .ok (.invokevirtual 34, 3) := by decide +kernel
theorem dL_note_8 : decode cL_note 8 = .ok (.i2l, 1) := by decide +kernel
theorem dL_note_9 : decode cL_note 9 = .ok (.lastore, 1) := by decide +kernel
theorem dL_note_10 : decode cL_note 10 = .ok (.goto 11, 3) := by decide +kernel
theorem dL_note_13 : decode cL_note 13 = .ok (.astore 4, 2) := by decide +kernel
theorem dL_note_15 : decode cL_note 15 = .ok (.iconst 1, 1) := by decide +kernel
theorem dL_note_16 : decode cL_note 16 = .ok (.ireturn, 1) := by decide +kernel
theorem dL_note_17 : decode cL_note 17 = .ok (.astore 4, 2) := by decide +kernel
theorem dL_note_19 : decode cL_note 19 = .ok (.iconst 2, 1) := by decide +kernel
theorem dL_note_20 : decode cL_note 20 = .ok (.ireturn, 1) := by decide +kernel
theorem dL_note_21 : decode cL_note 21 = .ok (.iconst 0, 1) := by decide +kernel
theorem dL_note_22 : decode cL_note 22 = .ok (.ireturn, 1) := by decide +kernel
theorem dL_isCut_0 : decode cL_isCut 0 = .ok (.aload_n 3, 1) := by decide +kernel
theorem dL_isCut_1 : decode cL_isCut 1 = .ok (.iconst 0, 1) := by decide +kernel
theorem dL_isCut_2 : decode cL_isCut 2 = .ok (.aload_n 0, 1) := by decide +kernel
theorem dL_isCut_3 : decode cL_isCut 3 = .ok (.iload_n 1, 1) := by decide +kernel
theorem dL_isCut_4 : decode cL_isCut 4 = .ok (.iload_n 2, 1) := by decide +kernel
theorem dL_isCut_5 : decode cL_isCut 5 = .ok (.invokevirtual 37, 3) := by decide +kernel
theorem dL_isCut_8 : decode cL_isCut 8 = .ok (.i2l, 1) := by decide +kernel
theorem dL_isCut_9 : decode cL_isCut 9 = .ok (.lastore, 1) := by decide +kernel
theorem dL_isCut_10 : decode cL_isCut 10 = .ok (.goto 7, 3) := by decide +kernel
theorem dL_isCut_13 : decode cL_isCut 13 = .ok (.astore 4, 2) := by decide +kernel
theorem dL_isCut_15 : decode cL_isCut 15 = .ok (.iconst 1, 1) := by decide +kernel
theorem dL_isCut_16 : decode cL_isCut 16 = .ok (.ireturn, 1) := by decide +kernel
theorem dL_isCut_17 : decode cL_isCut 17 = .ok (.iconst 0, 1) := by decide +kernel
theorem dL_isCut_18 : decode cL_isCut 18 = .ok (.ireturn, 1) := by decide +kernel
theorem dL_member_0 : decode cL_member 0 = .ok (.aload_n 2, 1) := by decide +kernel
theorem dL_member_1 : decode cL_member 1 = .ok (.iconst 0, 1) := by decide +kernel
theorem dL_member_2 : decode cL_member 2 = .ok (.aload_n 0, 1) := by decide +kernel
theorem dL_member_3 : decode cL_member 3 = .ok (.iload_n 1, 1) := by decide +kernel
theorem dL_member_4 : decode cL_member 4 = .ok (.invokevirtual 40, 3) := by decide +kernel
theorem dL_member_7 : decode cL_member 7 = .ok (.i2l, 1) := by decide +kernel
theorem dL_member_8 : decode cL_member 8 = .ok (.lastore, 1) := by decide +kernel
theorem dL_member_9 : decode cL_member 9 = .ok (.goto 9, 3) := by decide +kernel
theorem dL_member_12 : decode cL_member 12 = .ok (.astore_n 3, 1) := by decide +kernel
theorem dL_member_13 : decode cL_member 13 = .ok (.iconst 1, 1) := by decide +kernel
theorem dL_member_14 : decode cL_member 14 = .ok (.ireturn, 1) := by decide +kernel
theorem dL_member_15 : decode cL_member 15 = .ok (.astore_n 3, 1) := by decide +kernel
theorem dL_member_16 : decode cL_member 16 = .ok (.iconst 2, 1) := by decide +kernel
theorem dL_member_17 : decode cL_member 17 = .ok (.ireturn, 1) := by decide +kernel
theorem dL_member_18 : decode cL_member 18 = .ok (.iconst 0, 1) := by decide +kernel
theorem dL_member_19 : decode cL_member 19 = .ok (.ireturn, 1) := by decide +kernel
theorem dL_say_0 : decode cL_say 0 = .ok (.aload_n 2, 1) := by decide +kernel
theorem dL_say_1 : decode cL_say 1 = .ok (.iconst 0, 1) := by decide +kernel
theorem dL_say_2 : decode cL_say 2 = .ok (.aload_n 0, 1) := by decide +kernel
theorem dL_say_3 : decode cL_say 3 = .ok (.iload_n 1, 1) := by decide +kernel
theorem dL_say_4 : decode cL_say 4 = .ok (.invokevirtual 43, 3) := by decide +kernel
theorem dL_say_7 : decode cL_say 7 = .ok (.i2l, 1) := by decide +kernel
theorem dL_say_8 : decode cL_say 8 = .ok (.lastore, 1) := by decide +kernel
theorem dL_say_9 : decode cL_say 9 = .ok (.goto 9, 3) := by decide +kernel
theorem dL_say_12 : decode cL_say 12 = .ok (.astore_n 3, 1) := by decide +kernel
theorem dL_say_13 : decode cL_say 13 = .ok (.iconst 1, 1) := by decide +kernel
theorem dL_say_14 : decode cL_say 14 = .ok (.ireturn, 1) := by decide +kernel
theorem dL_say_15 : decode cL_say 15 = .ok (.astore_n 3, 1) := by decide +kernel
theorem dL_say_16 : decode cL_say 16 = .ok (.iconst 2, 1) := by decide +kernel
theorem dL_say_17 : decode cL_say 17 = .ok (.ireturn, 1) := by decide +kernel
theorem dL_say_18 : decode cL_say 18 = .ok (.iconst 0, 1) := by decide +kernel
theorem dL_say_19 : decode cL_say 19 = .ok (.ireturn, 1) := by decide +kernel
theorem dL_call_0 : decode cL_call 0 = .ok (.aload_n 3, 1) := by decide +kernel
theorem dL_call_1 : decode cL_call 1 = .ok (.iconst 0, 1) := by decide +kernel
theorem dL_call_2 : decode cL_call 2 = .ok (.aload_n 0, 1) := by decide +kernel
theorem dL_call_3 : decode cL_call 3 = .ok (.iload_n 1, 1) := by decide +kernel
theorem dL_call_4 : decode cL_call 4 = .ok (.iload_n 2, 1) := by decide +kernel
theorem dL_call_5 : decode cL_call 5 = .ok (.invokevirtual 46, 3) := by decide +kernel
theorem dL_call_8 : decode cL_call 8 = .ok (.i2l, 1) := by decide +kernel
theorem dL_call_9 : decode cL_call 9 = .ok (.lastore, 1) := by decide +kernel
theorem dL_call_10 : decode cL_call 10 = .ok (.goto 15, 3) := by decide +kernel
theorem dL_call_13 : decode cL_call 13 = .ok (.astore 4, 2) := by decide +kernel
theorem dL_call_15 : decode cL_call 15 = .ok (.iconst 1, 1) := by decide +kernel
theorem dL_call_16 : decode cL_call 16 = .ok (.ireturn, 1) := by decide +kernel
theorem dL_call_17 : decode cL_call 17 = .ok (.astore 4, 2) := by decide +kernel
theorem dL_call_19 : decode cL_call 19 = .ok (.iconst 2, 1) := by decide +kernel
theorem dL_call_20 : decode cL_call 20 = .ok (.ireturn, 1) := by decide +kernel
theorem dL_call_21 : decode cL_call 21 = .ok (.astore 4, 2) := by decide +kernel
theorem dL_call_23 : decode cL_call 23 = .ok (.iconst 3, 1) := by decide +kernel
theorem dL_call_24 : decode cL_call 24 = .ok (.ireturn, 1) := by decide +kernel
theorem dL_call_25 : decode cL_call 25 = .ok (.iconst 0, 1) := by decide +kernel
theorem dL_call_26 : decode cL_call 26 = .ok (.ireturn, 1) := by decide +kernel
theorem dL_cut_0 : decode cL_cut 0 = .ok (.aload 4, 2) := by decide +kernel
theorem dL_cut_2 : decode cL_cut 2 = .ok (.iconst 0, 1) := by decide +kernel
theorem dL_cut_3 : decode cL_cut 3 = .ok (.aload_n 0, 1) := by decide +kernel
theorem dL_cut_4 : decode cL_cut 4 = .ok (.iload_n 1, 1) := by decide +kernel
theorem dL_cut_5 : decode cL_cut 5 = .ok (.iload_n 2, 1) := by decide +kernel
theorem dL_cut_6 : decode cL_cut 6 = .ok (.iload_n 3, 1) := by decide +kernel
theorem dL_cut_7 : decode cL_cut 7 = .ok (.invokevirtual 49, 3) := by decide +kernel
theorem dL_cut_10 : decode cL_cut 10 = .ok (.i2l, 1) := by decide +kernel
theorem dL_cut_11 : decode cL_cut 11 = .ok (.lastore, 1) := by decide +kernel
theorem dL_cut_12 : decode cL_cut 12 = .ok (.goto 11, 3) := by decide +kernel
theorem dL_cut_15 : decode cL_cut 15 = .ok (.astore 5, 2) := by decide +kernel
theorem dL_cut_17 : decode cL_cut 17 = .ok (.iconst 1, 1) := by decide +kernel
theorem dL_cut_18 : decode cL_cut 18 = .ok (.ireturn, 1) := by decide +kernel
theorem dL_cut_19 : decode cL_cut 19 = .ok (.astore 5, 2) := by decide +kernel
theorem dL_cut_21 : decode cL_cut 21 = .ok (.iconst 2, 1) := by decide +kernel
theorem dL_cut_22 : decode cL_cut 22 = .ok (.ireturn, 1) := by decide +kernel
theorem dL_cut_23 : decode cL_cut 23 = .ok (.iconst 0, 1) := by decide +kernel
theorem dL_cut_24 : decode cL_cut 24 = .ok (.ireturn, 1) := by decide +kernel
theorem dL_leave_0 : decode cL_leave 0 = .ok (.aload_n 2, 1) := by decide +kernel
theorem dL_leave_1 : decode cL_leave 1 = .ok (.iconst 0, 1) := by decide +kernel
theorem dL_leave_2 : decode cL_leave 2 = .ok (.aload_n 0, 1) := by decide +kernel
theorem dL_leave_3 : decode cL_leave 3 = .ok (.iload_n 1, 1) := by decide +kernel
theorem dL_leave_4 : decode cL_leave 4 = .ok (.invokevirtual 53, 3) := by decide +kernel
theorem dL_leave_7 : decode cL_leave 7 = .ok (.i2l, 1) := by decide +kernel
theorem dL_leave_8 : decode cL_leave 8 = .ok (.lastore, 1) := by decide +kernel
theorem dL_leave_9 : decode cL_leave 9 = .ok (.goto 9, 3) := by decide +kernel
theorem dL_leave_12 : decode cL_leave 12 = .ok (.astore_n 3, 1) := by decide +kernel
theorem dL_leave_13 : decode cL_leave 13 = .ok (.iconst 1, 1) := by decide +kernel
theorem dL_leave_14 : decode cL_leave 14 = .ok (.ireturn, 1) := by decide +kernel
theorem dL_leave_15 : decode cL_leave 15 = .ok (.astore_n 3, 1) := by decide +kernel
theorem dL_leave_16 : decode cL_leave 16 = .ok (.iconst 2, 1) := by decide +kernel
theorem dL_leave_17 : decode cL_leave 17 = .ok (.ireturn, 1) := by decide +kernel
theorem dL_leave_18 : decode cL_leave 18 = .ok (.iconst 0, 1) := by decide +kernel
theorem dL_leave_19 : decode cL_leave 19 = .ok (.ireturn, 1) := by decide +kernel
theorem dL_back_0 : decode cL_back 0 = .ok (.aload_n 2, 1) := by decide +kernel
theorem dL_back_1 : decode cL_back 1 = .ok (.iconst 0, 1) := by decide +kernel
theorem dL_back_2 : decode cL_back 2 = .ok (.aload_n 0, 1) := by decide +kernel
theorem dL_back_3 : decode cL_back 3 = .ok (.iload_n 1, 1) := by decide +kernel
theorem dL_back_4 : decode cL_back 4 = .ok (.invokevirtual 56, 3) := by decide +kernel
theorem dL_back_7 : decode cL_back 7 = .ok (.i2l, 1) := by decide +kernel
theorem dL_back_8 : decode cL_back 8 = .ok (.lastore, 1) := by decide +kernel
theorem dL_back_9 : decode cL_back 9 = .ok (.goto 9, 3) := by decide +kernel
theorem dL_back_12 : decode cL_back 12 = .ok (.astore_n 3, 1) := by decide +kernel
theorem dL_back_13 : decode cL_back 13 = .ok (.iconst 1, 1) := by decide +kernel
theorem dL_back_14 : decode cL_back 14 = .ok (.ireturn, 1) := by decide +kernel
theorem dL_back_15 : decode cL_back 15 = .ok (.astore_n 3, 1) := by decide +kernel
theorem dL_back_16 : decode cL_back 16 = .ok (.iconst 2, 1) := by decide +kernel
theorem dL_back_17 : decode cL_back 17 = .ok (.ireturn, 1) := by decide +kernel
theorem dL_back_18 : decode cL_back 18 = .ok (.iconst 0, 1) := by decide +kernel
theorem dL_back_19 : decode cL_back 19 = .ok (.ireturn, 1) := by decide +kernel
theorem dL_set_0 : decode cL_set 0 = .ok (.aload_n 2, 1) := by decide +kernel
theorem dL_set_1 : decode cL_set 1 = .ok (.iconst 0, 1) := by decide +kernel
theorem dL_set_2 : decode cL_set 2 = .ok (.aload_n 0, 1) := by decide +kernel
theorem dL_set_3 : decode cL_set 3 = .ok (.iload_n 1, 1) := by decide +kernel
theorem dL_set_4 : decode cL_set 4 = .ok (.invokevirtual 59, 3) := by decide +kernel
theorem dL_set_7 : decode cL_set 7 = .ok (.i2l, 1) := by decide +kernel
theorem dL_set_8 : decode cL_set 8 = .ok (.lastore, 1) := by decide +kernel
theorem dL_set_9 : decode cL_set 9 = .ok (.goto 6, 3) := by decide +kernel
theorem dL_set_12 : decode cL_set 12 = .ok (.astore_n 3, 1) := by decide +kernel
theorem dL_set_13 : decode cL_set 13 = .ok (.iconst 1, 1) := by decide +kernel
theorem dL_set_14 : decode cL_set 14 = .ok (.ireturn, 1) := by decide +kernel
theorem dL_set_15 : decode cL_set 15 = .ok (.iconst 0, 1) := by decide +kernel
theorem dL_set_16 : decode cL_set 16 = .ok (.ireturn, 1) := by decide +kernel
theorem dL_ticks_0 : decode cL_ticks 0 = .ok (.aload_n 2, 1) := by decide +kernel
theorem dL_ticks_1 : decode cL_ticks 1 = .ok (.iconst 0, 1) := by decide +kernel
theorem dL_ticks_2 : decode cL_ticks 2 = .ok (.aload_n 0, 1) := by decide +kernel
theorem dL_ticks_3 : decode cL_ticks 3 = .ok (.iload_n 1, 1) := by decide +kernel
theorem dL_ticks_4 : decode cL_ticks 4 = .ok (.invokevirtual 62, 3) := by decide +kernel
theorem dL_ticks_7 : decode cL_ticks 7 = .ok (.i2l, 1) := by decide +kernel
theorem dL_ticks_8 : decode cL_ticks 8 = .ok (.lastore, 1) := by decide +kernel
theorem dL_ticks_9 : decode cL_ticks 9 = .ok (.goto 6, 3) := by decide +kernel
theorem dL_ticks_12 : decode cL_ticks 12 = .ok (.astore_n 3, 1) := by decide +kernel
theorem dL_ticks_13 : decode cL_ticks 13 = .ok (.iconst 1, 1) := by decide +kernel
theorem dL_ticks_14 : decode cL_ticks 14 = .ok (.ireturn, 1) := by decide +kernel
theorem dL_ticks_15 : decode cL_ticks 15 = .ok (.iconst 0, 1) := by decide +kernel
theorem dL_ticks_16 : decode cL_ticks 16 = .ok (.ireturn, 1) := by decide +kernel
theorem dL_undo_0 : decode cL_undo 0 = .ok (.aload_n 1, 1) := by decide +kernel
theorem dL_undo_1 : decode cL_undo 1 = .ok (.iconst 0, 1) := by decide +kernel
theorem dL_undo_2 : decode cL_undo 2 = .ok (.aload_n 0, 1) := by decide +kernel
theorem dL_undo_3 : decode cL_undo 3 = .ok (.invokevirtual 65, 3) := by decide +kernel
theorem dL_undo_6 : decode cL_undo 6 = .ok (.i2l, 1) := by decide +kernel
theorem dL_undo_7 : decode cL_undo 7 = .ok (.lastore, 1) := by decide +kernel
theorem dL_undo_8 : decode cL_undo 8 = .ok (.goto 6, 3) := by decide +kernel
theorem dL_undo_11 : decode cL_undo 11 = .ok (.astore_n 2, 1) := by decide +kernel
theorem dL_undo_12 : decode cL_undo 12 = .ok (.iconst 1, 1) := by decide +kernel
theorem dL_undo_13 : decode cL_undo 13 = .ok (.ireturn, 1) := by decide +kernel
theorem dL_undo_14 : decode cL_undo 14 = .ok (.iconst 0, 1) := by decide +kernel
theorem dL_undo_15 : decode cL_undo 15 = .ok (.ireturn, 1) := by decide +kernel
theorem dL_standsIn_0 : decode cL_standsIn 0 = .ok (.aload 4, 2) := by decide +kernel
theorem dL_standsIn_2 : decode cL_standsIn 2 = .ok (.iconst 0, 1) := by decide +kernel
theorem dL_standsIn_3 : decode cL_standsIn 3 = .ok (.aload_n 0, 1) := by decide +kernel
theorem dL_standsIn_4 : decode cL_standsIn 4 = .ok (.iload_n 1, 1) := by decide +kernel
theorem dL_standsIn_5 : decode cL_standsIn 5 = .ok (.iload_n 2, 1) := by decide +kernel
theorem dL_standsIn_6 : decode cL_standsIn 6 = .ok (.iload_n 3, 1) := by decide +kernel
theorem dL_standsIn_7 : decode cL_standsIn 7 = .ok (.invokevirtual 68, 3) := by decide +kernel
theorem dL_standsIn_10 : decode cL_standsIn 10 = .ok (.i2l, 1) := by decide +kernel
theorem dL_standsIn_11 : decode cL_standsIn 11 = .ok (.lastore, 1) := by decide +kernel
theorem dL_standsIn_12 : decode cL_standsIn 12 = .ok (.goto 11, 3) := by decide +kernel
theorem dL_standsIn_15 : decode cL_standsIn 15 = .ok (.astore 5, 2) := by decide +kernel
theorem dL_standsIn_17 : decode cL_standsIn 17 = .ok (.iconst 1, 1) := by decide +kernel
theorem dL_standsIn_18 : decode cL_standsIn 18 = .ok (.ireturn, 1) := by decide +kernel
theorem dL_standsIn_19 : decode cL_standsIn 19 = .ok (.astore 5, 2) := by decide +kernel
theorem dL_standsIn_21 : decode cL_standsIn 21 = .ok (.iconst 2, 1) := by decide +kernel
theorem dL_standsIn_22 : decode cL_standsIn 22 = .ok (.ireturn, 1) := by decide +kernel
theorem dL_standsIn_23 : decode cL_standsIn 23 = .ok (.iconst 0, 1) := by decide +kernel
theorem dL_standsIn_24 : decode cL_standsIn 24 = .ok (.ireturn, 1) := by decide +kernel
theorem dL_compare_0 : decode cL_compare 0 = .ok (.aload 4, 2) := by decide +kernel
theorem dL_compare_2 : decode cL_compare 2 = .ok (.iconst 0, 1) := by decide +kernel
theorem dL_compare_3 : decode cL_compare 3 = .ok (.aload_n 0, 1) := by decide +kernel
theorem dL_compare_4 : decode cL_compare 4 = .ok (.iload_n 1, 1) := by decide +kernel
theorem dL_compare_5 : decode cL_compare 5 = .ok (.iload_n 2, 1) := by decide +kernel
theorem dL_compare_6 : decode cL_compare 6 = .ok (.iload_n 3, 1) := by decide +kernel
theorem dL_compare_7 : decode cL_compare 7 = .ok (.invokevirtual 71, 3) := by decide +kernel
theorem dL_compare_10 : decode cL_compare 10 = .ok (.i2l, 1) := by decide +kernel
theorem dL_compare_11 : decode cL_compare 11 = .ok (.lastore, 1) := by decide +kernel
theorem dL_compare_12 : decode cL_compare 12 = .ok (.goto 11, 3) := by decide +kernel
theorem dL_compare_15 : decode cL_compare 15 = .ok (.astore 5, 2) := by decide +kernel
theorem dL_compare_17 : decode cL_compare 17 = .ok (.iconst 1, 1) := by decide +kernel
theorem dL_compare_18 : decode cL_compare 18 = .ok (.ireturn, 1) := by decide +kernel
theorem dL_compare_19 : decode cL_compare 19 = .ok (.astore 5, 2) := by decide +kernel
theorem dL_compare_21 : decode cL_compare 21 = .ok (.iconst 2, 1) := by decide +kernel
theorem dL_compare_22 : decode cL_compare 22 = .ok (.ireturn, 1) := by decide +kernel
theorem dL_compare_23 : decode cL_compare 23 = .ok (.iconst 0, 1) := by decide +kernel
theorem dL_compare_24 : decode cL_compare 24 = .ok (.ireturn, 1) := by decide +kernel
theorem dL_lacks_0 : decode cL_lacks 0 = .ok (.aload_n 2, 1) := by decide +kernel
theorem dL_lacks_1 : decode cL_lacks 1 = .ok (.iconst 0, 1) := by decide +kernel
theorem dL_lacks_2 : decode cL_lacks 2 = .ok (.aload_n 0, 1) := by decide +kernel
theorem dL_lacks_3 : decode cL_lacks 3 = .ok (.iload_n 1, 1) := by decide +kernel
theorem dL_lacks_4 : decode cL_lacks 4 = .ok (.invokevirtual 74, 3) := by decide +kernel
theorem dL_lacks_7 : decode cL_lacks 7 = .ok (.i2l, 1) := by decide +kernel
theorem dL_lacks_8 : decode cL_lacks 8 = .ok (.lastore, 1) := by decide +kernel
theorem dL_lacks_9 : decode cL_lacks 9 = .ok (.goto 6, 3) := by decide +kernel
theorem dL_lacks_12 : decode cL_lacks 12 = .ok (.astore_n 3, 1) := by decide +kernel
theorem dL_lacks_13 : decode cL_lacks 13 = .ok (.iconst 1, 1) := by decide +kernel
theorem dL_lacks_14 : decode cL_lacks 14 = .ok (.ireturn, 1) := by decide +kernel
theorem dL_lacks_15 : decode cL_lacks 15 = .ok (.iconst 0, 1) := by decide +kernel
theorem dL_lacks_16 : decode cL_lacks 16 = .ok (.ireturn, 1) := by decide +kernel
theorem dL_runScript_0 : decode cL_runScript 0 = .ok (.aload 4, 2) := by decide +kernel
theorem dL_runScript_2 : decode cL_runScript 2 = .ok (.iconst 0, 1) := by decide +kernel
theorem dL_runScript_3 : decode cL_runScript 3 = .ok (.aload_n 0, 1) := by decide +kernel
theorem dL_runScript_4 : decode cL_runScript 4 = .ok (.iload_n 1, 1) := by decide +kernel
theorem dL_runScript_5 : decode cL_runScript 5 = .ok (.lload_n 2, 1) := by decide +kernel
theorem dL_runScript_6 : decode cL_runScript 6 = .ok (.invokevirtual 77, 3) := by decide +kernel
theorem dL_runScript_9 : decode cL_runScript 9 = .ok (.i2l, 1) := by decide +kernel
theorem dL_runScript_10 : decode cL_runScript 10 = .ok (.lastore, 1) := by decide +kernel
theorem dL_runScript_11 : decode cL_runScript 11 = .ok (.goto 7, 3) := by decide +kernel
theorem dL_runScript_14 : decode cL_runScript 14 = .ok (.astore 5, 2) := by decide +kernel
theorem dL_runScript_16 : decode cL_runScript 16 = .ok (.iconst 1, 1) := by decide +kernel
theorem dL_runScript_17 : decode cL_runScript 17 = .ok (.ireturn, 1) := by decide +kernel
theorem dL_runScript_18 : decode cL_runScript 18 = .ok (.iconst 0, 1) := by decide +kernel
theorem dL_runScript_19 : decode cL_runScript 19 = .ok (.ireturn, 1) := by decide +kernel
theorem dL_simulate_0 : decode cL_simulate 0 = .ok (.aload 4, 2) := by decide +kernel
theorem dL_simulate_2 : decode cL_simulate 2 = .ok (.iconst 0, 1) := by decide +kernel
theorem dL_simulate_3 : decode cL_simulate 3 = .ok (.aload_n 0, 1) := by decide +kernel
theorem dL_simulate_4 : decode cL_simulate 4 = .ok (.lload_n 1, 1) := by decide +kernel
theorem dL_simulate_5 : decode cL_simulate 5 = .ok (.iload_n 3, 1) := by decide +kernel
theorem dL_simulate_6 : decode cL_simulate 6 = .ok (.invokevirtual 81, 3) := by decide +kernel
theorem dL_simulate_9 : decode cL_simulate 9 = .ok (.i2l, 1) := by decide +kernel
theorem dL_simulate_10 : decode cL_simulate 10 = .ok (.lastore, 1) := by decide +kernel
theorem dL_simulate_11 : decode cL_simulate 11 = .ok (.goto 7, 3) := by decide +kernel
theorem dL_simulate_14 : decode cL_simulate 14 = .ok (.astore 5, 2) := by decide +kernel
theorem dL_simulate_16 : decode cL_simulate 16 = .ok (.iconst 1, 1) := by decide +kernel
theorem dL_simulate_17 : decode cL_simulate 17 = .ok (.ireturn, 1) := by decide +kernel
theorem dL_simulate_18 : decode cL_simulate 18 = .ok (.iconst 0, 1) := by decide +kernel
theorem dL_simulate_19 : decode cL_simulate 19 = .ok (.ireturn, 1) := by decide +kernel
theorem dL_save_0 : decode cL_save 0 = .ok (.aload_n 2, 1) := by decide +kernel
theorem dL_save_1 : decode cL_save 1 = .ok (.iconst 0, 1) := by decide +kernel
theorem dL_save_2 : decode cL_save 2 = .ok (.aload_n 0, 1) := by decide +kernel
theorem dL_save_3 : decode cL_save 3 = .ok (.iload_n 1, 1) := by decide +kernel
theorem dL_save_4 : decode cL_save 4 = .ok (.invokevirtual 85, 3) := by decide +kernel
theorem dL_save_7 : decode cL_save 7 = .ok (.i2l, 1) := by decide +kernel
theorem dL_save_8 : decode cL_save 8 = .ok (.lastore, 1) := by decide +kernel
theorem dL_save_9 : decode cL_save 9 = .ok (.goto 6, 3) := by decide +kernel
theorem dL_save_12 : decode cL_save 12 = .ok (.astore_n 3, 1) := by decide +kernel
theorem dL_save_13 : decode cL_save 13 = .ok (.iconst 1, 1) := by decide +kernel
theorem dL_save_14 : decode cL_save 14 = .ok (.ireturn, 1) := by decide +kernel
theorem dL_save_15 : decode cL_save 15 = .ok (.iconst 0, 1) := by decide +kernel
theorem dL_save_16 : decode cL_save 16 = .ok (.ireturn, 1) := by decide +kernel
theorem dL_restore_0 : decode cL_restore 0 = .ok (.aload_n 2, 1) := by decide +kernel
theorem dL_restore_1 : decode cL_restore 1 = .ok (.iconst 0, 1) := by decide +kernel
theorem dL_restore_2 : decode cL_restore 2 = .ok (.aload_n 0, 1) := by decide +kernel
theorem dL_restore_3 : decode cL_restore 3 = .ok (.iload_n 1, 1) := by decide +kernel
theorem dL_restore_4 : decode cL_restore 4 = .ok (.invokevirtual 88, 3) := by decide +kernel
theorem dL_restore_7 : decode cL_restore 7 = .ok (.i2l, 1) := by decide +kernel
theorem dL_restore_8 : decode cL_restore 8 = .ok (.lastore, 1) := by decide +kernel
theorem dL_restore_9 : decode cL_restore 9 = .ok (.goto 9, 3) := by decide +kernel
theorem dL_restore_12 : decode cL_restore 12 = .ok (.astore_n 3, 1) := by decide +kernel
theorem dL_restore_13 : decode cL_restore 13 = .ok (.iconst 1, 1) := by decide +kernel
theorem dL_restore_14 : decode cL_restore 14 = .ok (.ireturn, 1) := by decide +kernel
theorem dL_restore_15 : decode cL_restore 15 = .ok (.astore_n 3, 1) := by decide +kernel
theorem dL_restore_16 : decode cL_restore 16 = .ok (.iconst 2, 1) := by decide +kernel
theorem dL_restore_17 : decode cL_restore 17 = .ok (.ireturn, 1) := by decide +kernel
theorem dL_restore_18 : decode cL_restore 18 = .ok (.iconst 0, 1) := by decide +kernel
theorem dL_restore_19 : decode cL_restore 19 = .ok (.ireturn, 1) := by decide +kernel
theorem dL_law_0 : decode cL_law 0 = .ok (.new 8, 3) := by decide +kernel
theorem dL_law_3 : decode cL_law 3 = .ok (.dup, 1) := by decide +kernel
theorem dL_law_4 : decode cL_law 4 = .ok (.invokespecial 91, 3) := by decide +kernel
theorem dL_law_7 : decode cL_law 7 = .ok (.astore_n 1, 1) := by decide +kernel
theorem dL_law_8 : decode cL_law 8 = .ok (.new 92, 3) := by decide +kernel
theorem dL_law_11 : decode cL_law 11 = .ok (.dup, 1) := by decide +kernel
theorem dL_law_12 : decode cL_law 12 = .ok (.invokespecial 94, 3) := by decide +kernel
theorem dL_law_15 : decode cL_law 15 = .ok (.astore_n 2, 1) := by decide +kernel
theorem dL_law_16 : decode cL_law 16 = .ok (.iconst 1, 1) := by decide +kernel
theorem dL_law_17 : decode cL_law 17 = .ok (.newarray .long, 2) := by decide +kernel
theorem dL_law_19 : decode cL_law 19 = .ok (.astore_n 3, 1) := by decide +kernel
theorem dL_law_20 : decode cL_law 20 = .ok (.iconst 0, 1) := by decide +kernel
theorem dL_law_21 : decode cL_law 21 = .ok (.istore 4, 2) := by decide +kernel
theorem dL_law_23 : decode cL_law 23 = .ok (.iload 4, 2) := by decide +kernel
theorem dL_law_25 : decode cL_law 25 = .ok (.aload_n 0, 1) := by decide +kernel
theorem dL_law_26 : decode cL_law 26 = .ok (.arraylength, 1) := by decide +kernel
theorem dL_law_27 : decode cL_law 27 = .ok (.iconst 4, 1) := by decide +kernel
theorem dL_law_28 : decode cL_law 28 = .ok (.isub, 1) := by decide +kernel
theorem dL_law_29 : decode cL_law 29 = .ok (.if_icmp .gt 1684, 3) := by decide +kernel
theorem dL_law_32 : decode cL_law 32 = .ok (.aload_n 0, 1) := by decide +kernel
theorem dL_law_33 : decode cL_law 33 = .ok (.iload 4, 2) := by decide +kernel
theorem dL_law_35 : decode cL_law 35 = .ok (.iaload, 1) := by decide +kernel
theorem dL_law_36 : decode cL_law 36 = .ok (.bipush 31, 2) := by decide +kernel
theorem dL_law_38 : decode cL_law 38 = .ok (.iand, 1) := by decide +kernel
theorem dL_law_39 : decode cL_law 39 = .ok (.tableswitch 1668 0 25 #[117, 173, 186, 199, 243, 299, 367, 447, 515, 583, 639, 695, 763, 859, 915, 971, 1027, 1083, 1127, 1207, 1287, 1343, 1356, 1456, 1556, 1612], 117) := by decide +kernel
theorem dL_law_156 : decode cL_law 156 = .ok (.aload_n 1, 1) := by decide +kernel
theorem dL_law_157 : decode cL_law 157 = .ok (.aload_n 0, 1) := by decide +kernel
theorem dL_law_158 : decode cL_law 158 = .ok (.iload 4, 2) := by decide +kernel
theorem dL_law_160 : decode cL_law 160 = .ok (.iconst 1, 1) := by decide +kernel
theorem dL_law_161 : decode cL_law 161 = .ok (.iadd, 1) := by decide +kernel
theorem dL_law_162 : decode cL_law 162 = .ok (.iaload, 1) := by decide +kernel
theorem dL_law_163 : decode cL_law 163 = .ok (.aload_n 3, 1) := by decide +kernel
theorem dL_law_164 : decode cL_law 164 = .ok (.invokestatic 95, 3) := by decide +kernel
theorem dL_law_167 : decode cL_law 167 = .ok (.istore 5, 2) := by decide +kernel
theorem dL_law_169 : decode cL_law 169 = .ok (.aload_n 2, 1) := by decide +kernel
theorem dL_law_170 : decode cL_law 170 = .ok (.aload_n 0, 1) := by decide +kernel
theorem dL_law_171 : decode cL_law 171 = .ok (.iload 4, 2) := by decide +kernel
theorem dL_law_173 : decode cL_law 173 = .ok (.iconst 1, 1) := by decide +kernel
theorem dL_law_174 : decode cL_law 174 = .ok (.iadd, 1) := by decide +kernel
theorem dL_law_175 : decode cL_law 175 = .ok (.iaload, 1) := by decide +kernel
theorem dL_law_176 : decode cL_law 176 = .ok (.invokevirtual 100, 3) := by decide +kernel
theorem dL_law_179 : decode cL_law 179 = .ok (.istore 6, 2) := by decide +kernel
theorem dL_law_181 : decode cL_law 181 = .ok (.aload_n 2, 1) := by decide +kernel
theorem dL_law_182 : decode cL_law 182 = .ok (.invokevirtual 101, 3) := by decide +kernel
theorem dL_law_185 : decode cL_law 185 = .ok (.iload 5, 2) := by decide +kernel
theorem dL_law_187 : decode cL_law 187 = .ok (.if_icmp .eq 5, 3) := by decide +kernel
theorem dL_law_190 : decode cL_law 190 = .ok (.iconst 0, 1) := by decide +kernel
theorem dL_law_191 : decode cL_law 191 = .ok (.ireturn, 1) := by decide +kernel
theorem dL_law_192 : decode cL_law 192 = .ok (.iload 5, 2) := by decide +kernel
theorem dL_law_194 : decode cL_law 194 = .ok (.ifCond .ne 15, 3) := by decide +kernel
theorem dL_law_197 : decode cL_law 197 = .ok (.aload_n 3, 1) := by decide +kernel
theorem dL_law_198 : decode cL_law 198 = .ok (.iconst 0, 1) := by decide +kernel
theorem dL_law_199 : decode cL_law 199 = .ok (.laload, 1) := by decide +kernel
theorem dL_law_200 : decode cL_law 200 = .ok (.iload 6, 2) := by decide +kernel
theorem dL_law_202 : decode cL_law 202 = .ok (.i2l, 1) := by decide +kernel
theorem dL_law_203 : decode cL_law 203 = .ok (.lcmp, 1) := by decide +kernel
theorem dL_law_204 : decode cL_law 204 = .ok (.ifCond .eq 5, 3) := by decide +kernel
theorem dL_law_207 : decode cL_law 207 = .ok (.iconst 0, 1) := by decide +kernel
theorem dL_law_208 : decode cL_law 208 = .ok (.ireturn, 1) := by decide +kernel
theorem dL_law_209 : decode cL_law 209 = .ok (.goto 1498, 3) := by decide +kernel
theorem dL_law_212 : decode cL_law 212 = .ok (.aload_n 1, 1) := by decide +kernel
theorem dL_law_213 : decode cL_law 213 = .ok (.invokevirtual 104, 3) := by decide +kernel
theorem dL_law_216 : decode cL_law 216 = .ok (.aload_n 2, 1) := by decide +kernel
theorem dL_law_217 : decode cL_law 217 = .ok (.invokevirtual 107, 3) := by decide +kernel
theorem dL_law_220 : decode cL_law 220 = .ok (.if_icmp .eq 1487, 3) := by decide +kernel
theorem dL_law_223 : decode cL_law 223 = .ok (.iconst 0, 1) := by decide +kernel
theorem dL_law_224 : decode cL_law 224 = .ok (.ireturn, 1) := by decide +kernel
theorem dL_law_225 : decode cL_law 225 = .ok (.aload_n 1, 1) := by decide +kernel
theorem dL_law_226 : decode cL_law 226 = .ok (.invokevirtual 108, 3) := by decide +kernel
theorem dL_law_229 : decode cL_law 229 = .ok (.aload_n 2, 1) := by decide +kernel
theorem dL_law_230 : decode cL_law 230 = .ok (.invokevirtual 111, 3) := by decide +kernel
theorem dL_law_233 : decode cL_law 233 = .ok (.if_icmp .eq 1474, 3) := by decide +kernel
theorem dL_law_236 : decode cL_law 236 = .ok (.iconst 0, 1) := by decide +kernel
theorem dL_law_237 : decode cL_law 237 = .ok (.ireturn, 1) := by decide +kernel
theorem dL_law_238 : decode cL_law 238 = .ok (.aload_n 1, 1) := by decide +kernel
theorem dL_law_239 : decode cL_law 239 = .ok (.aload_n 3, 1) := by decide +kernel
theorem dL_law_240 : decode cL_law 240 = .ok (.invokestatic 112, 3) := by decide +kernel
theorem dL_law_243 : decode cL_law 243 = .ok (.istore 5, 2) := by decide +kernel
theorem dL_law_245 : decode cL_law 245 = .ok (.aload_n 2, 1) := by decide +kernel
theorem dL_law_246 : decode cL_law 246 = .ok (.invokevirtual 115, 3) := by decide +kernel
theorem dL_law_249 : decode cL_law 249 = .ok (.istore 6, 2) := by decide +kernel
theorem dL_law_251 : decode cL_law 251 = .ok (.aload_n 2, 1) := by decide +kernel
theorem dL_law_252 : decode cL_law 252 = .ok (.invokevirtual 101, 3) := by decide +kernel
theorem dL_law_255 : decode cL_law 255 = .ok (.iload 5, 2) := by decide +kernel
theorem dL_law_257 : decode cL_law 257 = .ok (.if_icmp .eq 5, 3) := by decide +kernel
theorem dL_law_260 : decode cL_law 260 = .ok (.iconst 0, 1) := by decide +kernel
theorem dL_law_261 : decode cL_law 261 = .ok (.ireturn, 1) := by decide +kernel
theorem dL_law_262 : decode cL_law 262 = .ok (.iload 5, 2) := by decide +kernel
theorem dL_law_264 : decode cL_law 264 = .ok (.ifCond .ne 15, 3) := by decide +kernel
theorem dL_law_267 : decode cL_law 267 = .ok (.aload_n 3, 1) := by decide +kernel
theorem dL_law_268 : decode cL_law 268 = .ok (.iconst 0, 1) := by decide +kernel
theorem dL_law_269 : decode cL_law 269 = .ok (.laload, 1) := by decide +kernel
theorem dL_law_270 : decode cL_law 270 = .ok (.iload 6, 2) := by decide +kernel
theorem dL_law_272 : decode cL_law 272 = .ok (.i2l, 1) := by decide +kernel
theorem dL_law_273 : decode cL_law 273 = .ok (.lcmp, 1) := by decide +kernel
theorem dL_law_274 : decode cL_law 274 = .ok (.ifCond .eq 5, 3) := by decide +kernel
theorem dL_law_277 : decode cL_law 277 = .ok (.iconst 0, 1) := by decide +kernel
theorem dL_law_278 : decode cL_law 278 = .ok (.ireturn, 1) := by decide +kernel
theorem dL_law_279 : decode cL_law 279 = .ok (.goto 1428, 3) := by decide +kernel
theorem dL_law_282 : decode cL_law 282 = .ok (.aload_n 1, 1) := by decide +kernel
theorem dL_law_283 : decode cL_law 283 = .ok (.aload_n 0, 1) := by decide +kernel
theorem dL_law_284 : decode cL_law 284 = .ok (.iload 4, 2) := by decide +kernel
theorem dL_law_286 : decode cL_law 286 = .ok (.iconst 1, 1) := by decide +kernel
theorem dL_law_287 : decode cL_law 287 = .ok (.iadd, 1) := by decide +kernel
theorem dL_law_288 : decode cL_law 288 = .ok (.iaload, 1) := by decide +kernel
theorem dL_law_289 : decode cL_law 289 = .ok (.aload_n 3, 1) := by decide +kernel
theorem dL_law_290 : decode cL_law 290 = .ok (.invokestatic 116, 3) := by decide +kernel
theorem dL_law_293 : decode cL_law 293 = .ok (.istore 5, 2) := by decide +kernel
theorem dL_law_295 : decode cL_law 295 = .ok (.aload_n 2, 1) := by decide +kernel
theorem dL_law_296 : decode cL_law 296 = .ok (.aload_n 0, 1) := by decide +kernel
theorem dL_law_297 : decode cL_law 297 = .ok (.iload 4, 2) := by decide +kernel
theorem dL_law_299 : decode cL_law 299 = .ok (.iconst 1, 1) := by decide +kernel
theorem dL_law_300 : decode cL_law 300 = .ok (.iadd, 1) := by decide +kernel
theorem dL_law_301 : decode cL_law 301 = .ok (.iaload, 1) := by decide +kernel
theorem dL_law_302 : decode cL_law 302 = .ok (.invokevirtual 118, 3) := by decide +kernel
theorem dL_law_305 : decode cL_law 305 = .ok (.istore 6, 2) := by decide +kernel
theorem dL_law_307 : decode cL_law 307 = .ok (.aload_n 2, 1) := by decide +kernel
theorem dL_law_308 : decode cL_law 308 = .ok (.invokevirtual 101, 3) := by decide +kernel
theorem dL_law_311 : decode cL_law 311 = .ok (.iload 5, 2) := by decide +kernel
theorem dL_law_313 : decode cL_law 313 = .ok (.if_icmp .eq 5, 3) := by decide +kernel
theorem dL_law_316 : decode cL_law 316 = .ok (.iconst 0, 1) := by decide +kernel
theorem dL_law_317 : decode cL_law 317 = .ok (.ireturn, 1) := by decide +kernel
theorem dL_law_318 : decode cL_law 318 = .ok (.iload 5, 2) := by decide +kernel
theorem dL_law_320 : decode cL_law 320 = .ok (.ifCond .ne 15, 3) := by decide +kernel
theorem dL_law_323 : decode cL_law 323 = .ok (.aload_n 3, 1) := by decide +kernel
theorem dL_law_324 : decode cL_law 324 = .ok (.iconst 0, 1) := by decide +kernel
theorem dL_law_325 : decode cL_law 325 = .ok (.laload, 1) := by decide +kernel
theorem dL_law_326 : decode cL_law 326 = .ok (.iload 6, 2) := by decide +kernel
theorem dL_law_328 : decode cL_law 328 = .ok (.i2l, 1) := by decide +kernel
theorem dL_law_329 : decode cL_law 329 = .ok (.lcmp, 1) := by decide +kernel
theorem dL_law_330 : decode cL_law 330 = .ok (.ifCond .eq 5, 3) := by decide +kernel
theorem dL_law_333 : decode cL_law 333 = .ok (.iconst 0, 1) := by decide +kernel
theorem dL_law_334 : decode cL_law 334 = .ok (.ireturn, 1) := by decide +kernel
theorem dL_law_335 : decode cL_law 335 = .ok (.goto 1372, 3) := by decide +kernel
theorem dL_law_338 : decode cL_law 338 = .ok (.aload_n 1, 1) := by decide +kernel
theorem dL_law_339 : decode cL_law 339 = .ok (.aload_n 0, 1) := by decide +kernel
theorem dL_law_340 : decode cL_law 340 = .ok (.iload 4, 2) := by decide +kernel
theorem dL_law_342 : decode cL_law 342 = .ok (.iconst 1, 1) := by decide +kernel
theorem dL_law_343 : decode cL_law 343 = .ok (.iadd, 1) := by decide +kernel
theorem dL_law_344 : decode cL_law 344 = .ok (.iaload, 1) := by decide +kernel
theorem dL_law_345 : decode cL_law 345 = .ok (.aload_n 0, 1) := by decide +kernel
theorem dL_law_346 : decode cL_law 346 = .ok (.iload 4, 2) := by decide +kernel
theorem dL_law_348 : decode cL_law 348 = .ok (.iconst 2, 1) := by decide +kernel
theorem dL_law_349 : decode cL_law 349 = .ok (.iadd, 1) := by decide +kernel
theorem dL_law_350 : decode cL_law 350 = .ok (.iaload, 1) := by decide +kernel
theorem dL_law_351 : decode cL_law 351 = .ok (.aload_n 3, 1) := by decide +kernel
theorem dL_law_352 : decode cL_law 352 = .ok (.invokestatic 119, 3) := by decide +kernel
theorem dL_law_355 : decode cL_law 355 = .ok (.istore 5, 2) := by decide +kernel
theorem dL_law_357 : decode cL_law 357 = .ok (.aload_n 2, 1) := by decide +kernel
theorem dL_law_358 : decode cL_law 358 = .ok (.aload_n 0, 1) := by decide +kernel
theorem dL_law_359 : decode cL_law 359 = .ok (.iload 4, 2) := by decide +kernel
theorem dL_law_361 : decode cL_law 361 = .ok (.iconst 1, 1) := by decide +kernel
theorem dL_law_362 : decode cL_law 362 = .ok (.iadd, 1) := by decide +kernel
theorem dL_law_363 : decode cL_law 363 = .ok (.iaload, 1) := by decide +kernel
theorem dL_law_364 : decode cL_law 364 = .ok (.aload_n 0, 1) := by decide +kernel
theorem dL_law_365 : decode cL_law 365 = .ok (.iload 4, 2) := by decide +kernel
theorem dL_law_367 : decode cL_law 367 = .ok (.iconst 2, 1) := by decide +kernel
theorem dL_law_368 : decode cL_law 368 = .ok (.iadd, 1) := by decide +kernel
theorem dL_law_369 : decode cL_law 369 = .ok (.iaload, 1) := by decide +kernel
theorem dL_law_370 : decode cL_law 370 = .ok (.invokevirtual 122, 3) := by decide +kernel
theorem dL_law_373 : decode cL_law 373 = .ok (.istore 6, 2) := by decide +kernel
theorem dL_law_375 : decode cL_law 375 = .ok (.aload_n 2, 1) := by decide +kernel
theorem dL_law_376 : decode cL_law 376 = .ok (.invokevirtual 101, 3) := by decide +kernel
theorem dL_law_379 : decode cL_law 379 = .ok (.iload 5, 2) := by decide +kernel
theorem dL_law_381 : decode cL_law 381 = .ok (.if_icmp .eq 5, 3) := by decide +kernel
theorem dL_law_384 : decode cL_law 384 = .ok (.iconst 0, 1) := by decide +kernel
theorem dL_law_385 : decode cL_law 385 = .ok (.ireturn, 1) := by decide +kernel
theorem dL_law_386 : decode cL_law 386 = .ok (.iload 5, 2) := by decide +kernel
theorem dL_law_388 : decode cL_law 388 = .ok (.ifCond .ne 15, 3) := by decide +kernel
theorem dL_law_391 : decode cL_law 391 = .ok (.aload_n 3, 1) := by decide +kernel
theorem dL_law_392 : decode cL_law 392 = .ok (.iconst 0, 1) := by decide +kernel
theorem dL_law_393 : decode cL_law 393 = .ok (.laload, 1) := by decide +kernel
theorem dL_law_394 : decode cL_law 394 = .ok (.iload 6, 2) := by decide +kernel
theorem dL_law_396 : decode cL_law 396 = .ok (.i2l, 1) := by decide +kernel
theorem dL_law_397 : decode cL_law 397 = .ok (.lcmp, 1) := by decide +kernel
theorem dL_law_398 : decode cL_law 398 = .ok (.ifCond .eq 5, 3) := by decide +kernel
theorem dL_law_401 : decode cL_law 401 = .ok (.iconst 0, 1) := by decide +kernel
theorem dL_law_402 : decode cL_law 402 = .ok (.ireturn, 1) := by decide +kernel
theorem dL_law_403 : decode cL_law 403 = .ok (.goto 1304, 3) := by decide +kernel
theorem dL_law_406 : decode cL_law 406 = .ok (.aload_n 1, 1) := by decide +kernel
theorem dL_law_407 : decode cL_law 407 = .ok (.aload_n 0, 1) := by decide +kernel
theorem dL_law_408 : decode cL_law 408 = .ok (.iload 4, 2) := by decide +kernel
theorem dL_law_410 : decode cL_law 410 = .ok (.iconst 1, 1) := by decide +kernel
theorem dL_law_411 : decode cL_law 411 = .ok (.iadd, 1) := by decide +kernel
theorem dL_law_412 : decode cL_law 412 = .ok (.iaload, 1) := by decide +kernel
theorem dL_law_413 : decode cL_law 413 = .ok (.aload_n 0, 1) := by decide +kernel
theorem dL_law_414 : decode cL_law 414 = .ok (.iload 4, 2) := by decide +kernel
theorem dL_law_416 : decode cL_law 416 = .ok (.iconst 2, 1) := by decide +kernel
theorem dL_law_417 : decode cL_law 417 = .ok (.iadd, 1) := by decide +kernel
theorem dL_law_418 : decode cL_law 418 = .ok (.iaload, 1) := by decide +kernel
theorem dL_law_419 : decode cL_law 419 = .ok (.aload_n 0, 1) := by decide +kernel
theorem dL_law_420 : decode cL_law 420 = .ok (.iload 4, 2) := by decide +kernel
theorem dL_law_422 : decode cL_law 422 = .ok (.iconst 3, 1) := by decide +kernel
theorem dL_law_423 : decode cL_law 423 = .ok (.iadd, 1) := by decide +kernel
theorem dL_law_424 : decode cL_law 424 = .ok (.iaload, 1) := by decide +kernel
theorem dL_law_425 : decode cL_law 425 = .ok (.aload_n 3, 1) := by decide +kernel
theorem dL_law_426 : decode cL_law 426 = .ok (.invokestatic 123, 3) := by decide +kernel
theorem dL_law_429 : decode cL_law 429 = .ok (.istore 5, 2) := by decide +kernel
theorem dL_law_431 : decode cL_law 431 = .ok (.aload_n 2, 1) := by decide +kernel
theorem dL_law_432 : decode cL_law 432 = .ok (.aload_n 0, 1) := by decide +kernel
theorem dL_law_433 : decode cL_law 433 = .ok (.iload 4, 2) := by decide +kernel
theorem dL_law_435 : decode cL_law 435 = .ok (.iconst 1, 1) := by decide +kernel
theorem dL_law_436 : decode cL_law 436 = .ok (.iadd, 1) := by decide +kernel
theorem dL_law_437 : decode cL_law 437 = .ok (.iaload, 1) := by decide +kernel
theorem dL_law_438 : decode cL_law 438 = .ok (.aload_n 0, 1) := by decide +kernel
theorem dL_law_439 : decode cL_law 439 = .ok (.iload 4, 2) := by decide +kernel
theorem dL_law_441 : decode cL_law 441 = .ok (.iconst 2, 1) := by decide +kernel
theorem dL_law_442 : decode cL_law 442 = .ok (.iadd, 1) := by decide +kernel
theorem dL_law_443 : decode cL_law 443 = .ok (.iaload, 1) := by decide +kernel
theorem dL_law_444 : decode cL_law 444 = .ok (.aload_n 0, 1) := by decide +kernel
theorem dL_law_445 : decode cL_law 445 = .ok (.iload 4, 2) := by decide +kernel
theorem dL_law_447 : decode cL_law 447 = .ok (.iconst 3, 1) := by decide +kernel
theorem dL_law_448 : decode cL_law 448 = .ok (.iadd, 1) := by decide +kernel
theorem dL_law_449 : decode cL_law 449 = .ok (.iaload, 1) := by decide +kernel
theorem dL_law_450 : decode cL_law 450 = .ok (.invokevirtual 126, 3) := by decide +kernel
theorem dL_law_453 : decode cL_law 453 = .ok (.istore 6, 2) := by decide +kernel
theorem dL_law_455 : decode cL_law 455 = .ok (.aload_n 2, 1) := by decide +kernel
theorem dL_law_456 : decode cL_law 456 = .ok (.invokevirtual 101, 3) := by decide +kernel
theorem dL_law_459 : decode cL_law 459 = .ok (.iload 5, 2) := by decide +kernel
theorem dL_law_461 : decode cL_law 461 = .ok (.if_icmp .eq 5, 3) := by decide +kernel
theorem dL_law_464 : decode cL_law 464 = .ok (.iconst 0, 1) := by decide +kernel
theorem dL_law_465 : decode cL_law 465 = .ok (.ireturn, 1) := by decide +kernel
theorem dL_law_466 : decode cL_law 466 = .ok (.iload 5, 2) := by decide +kernel
theorem dL_law_468 : decode cL_law 468 = .ok (.ifCond .ne 15, 3) := by decide +kernel
theorem dL_law_471 : decode cL_law 471 = .ok (.aload_n 3, 1) := by decide +kernel
theorem dL_law_472 : decode cL_law 472 = .ok (.iconst 0, 1) := by decide +kernel
theorem dL_law_473 : decode cL_law 473 = .ok (.laload, 1) := by decide +kernel
theorem dL_law_474 : decode cL_law 474 = .ok (.iload 6, 2) := by decide +kernel
theorem dL_law_476 : decode cL_law 476 = .ok (.i2l, 1) := by decide +kernel
theorem dL_law_477 : decode cL_law 477 = .ok (.lcmp, 1) := by decide +kernel
theorem dL_law_478 : decode cL_law 478 = .ok (.ifCond .eq 5, 3) := by decide +kernel
theorem dL_law_481 : decode cL_law 481 = .ok (.iconst 0, 1) := by decide +kernel
theorem dL_law_482 : decode cL_law 482 = .ok (.ireturn, 1) := by decide +kernel
theorem dL_law_483 : decode cL_law 483 = .ok (.goto 1224, 3) := by decide +kernel
theorem dL_law_486 : decode cL_law 486 = .ok (.aload_n 1, 1) := by decide +kernel
theorem dL_law_487 : decode cL_law 487 = .ok (.aload_n 0, 1) := by decide +kernel
theorem dL_law_488 : decode cL_law 488 = .ok (.iload 4, 2) := by decide +kernel
theorem dL_law_490 : decode cL_law 490 = .ok (.iconst 1, 1) := by decide +kernel
theorem dL_law_491 : decode cL_law 491 = .ok (.iadd, 1) := by decide +kernel
theorem dL_law_492 : decode cL_law 492 = .ok (.iaload, 1) := by decide +kernel
theorem dL_law_493 : decode cL_law 493 = .ok (.aload_n 0, 1) := by decide +kernel
theorem dL_law_494 : decode cL_law 494 = .ok (.iload 4, 2) := by decide +kernel
theorem dL_law_496 : decode cL_law 496 = .ok (.iconst 2, 1) := by decide +kernel
theorem dL_law_497 : decode cL_law 497 = .ok (.iadd, 1) := by decide +kernel
theorem dL_law_498 : decode cL_law 498 = .ok (.iaload, 1) := by decide +kernel
theorem dL_law_499 : decode cL_law 499 = .ok (.aload_n 3, 1) := by decide +kernel
theorem dL_law_500 : decode cL_law 500 = .ok (.invokestatic 127, 3) := by decide +kernel
theorem dL_law_503 : decode cL_law 503 = .ok (.istore 5, 2) := by decide +kernel
theorem dL_law_505 : decode cL_law 505 = .ok (.aload_n 2, 1) := by decide +kernel
theorem dL_law_506 : decode cL_law 506 = .ok (.aload_n 0, 1) := by decide +kernel
theorem dL_law_507 : decode cL_law 507 = .ok (.iload 4, 2) := by decide +kernel
theorem dL_law_509 : decode cL_law 509 = .ok (.iconst 1, 1) := by decide +kernel
theorem dL_law_510 : decode cL_law 510 = .ok (.iadd, 1) := by decide +kernel
theorem dL_law_511 : decode cL_law 511 = .ok (.iaload, 1) := by decide +kernel
theorem dL_law_512 : decode cL_law 512 = .ok (.aload_n 0, 1) := by decide +kernel
theorem dL_law_513 : decode cL_law 513 = .ok (.iload 4, 2) := by decide +kernel
theorem dL_law_515 : decode cL_law 515 = .ok (.iconst 2, 1) := by decide +kernel
theorem dL_law_516 : decode cL_law 516 = .ok (.iadd, 1) := by decide +kernel
theorem dL_law_517 : decode cL_law 517 = .ok (.iaload, 1) := by decide +kernel
theorem dL_law_518 : decode cL_law 518 = .ok (.invokevirtual 129, 3) := by decide +kernel
theorem dL_law_521 : decode cL_law 521 = .ok (.istore 6, 2) := by decide +kernel
theorem dL_law_523 : decode cL_law 523 = .ok (.aload_n 2, 1) := by decide +kernel
theorem dL_law_524 : decode cL_law 524 = .ok (.invokevirtual 101, 3) := by decide +kernel
theorem dL_law_527 : decode cL_law 527 = .ok (.iload 5, 2) := by decide +kernel
theorem dL_law_529 : decode cL_law 529 = .ok (.if_icmp .eq 5, 3) := by decide +kernel
theorem dL_law_532 : decode cL_law 532 = .ok (.iconst 0, 1) := by decide +kernel
theorem dL_law_533 : decode cL_law 533 = .ok (.ireturn, 1) := by decide +kernel
theorem dL_law_534 : decode cL_law 534 = .ok (.iload 5, 2) := by decide +kernel
theorem dL_law_536 : decode cL_law 536 = .ok (.ifCond .ne 15, 3) := by decide +kernel
theorem dL_law_539 : decode cL_law 539 = .ok (.aload_n 3, 1) := by decide +kernel
theorem dL_law_540 : decode cL_law 540 = .ok (.iconst 0, 1) := by decide +kernel
theorem dL_law_541 : decode cL_law 541 = .ok (.laload, 1) := by decide +kernel
theorem dL_law_542 : decode cL_law 542 = .ok (.iload 6, 2) := by decide +kernel
theorem dL_law_544 : decode cL_law 544 = .ok (.i2l, 1) := by decide +kernel
theorem dL_law_545 : decode cL_law 545 = .ok (.lcmp, 1) := by decide +kernel
theorem dL_law_546 : decode cL_law 546 = .ok (.ifCond .eq 5, 3) := by decide +kernel
theorem dL_law_549 : decode cL_law 549 = .ok (.iconst 0, 1) := by decide +kernel
theorem dL_law_550 : decode cL_law 550 = .ok (.ireturn, 1) := by decide +kernel
theorem dL_law_551 : decode cL_law 551 = .ok (.goto 1156, 3) := by decide +kernel
theorem dL_law_554 : decode cL_law 554 = .ok (.aload_n 1, 1) := by decide +kernel
theorem dL_law_555 : decode cL_law 555 = .ok (.aload_n 0, 1) := by decide +kernel
theorem dL_law_556 : decode cL_law 556 = .ok (.iload 4, 2) := by decide +kernel
theorem dL_law_558 : decode cL_law 558 = .ok (.iconst 1, 1) := by decide +kernel
theorem dL_law_559 : decode cL_law 559 = .ok (.iadd, 1) := by decide +kernel
theorem dL_law_560 : decode cL_law 560 = .ok (.iaload, 1) := by decide +kernel
theorem dL_law_561 : decode cL_law 561 = .ok (.aload_n 0, 1) := by decide +kernel
theorem dL_law_562 : decode cL_law 562 = .ok (.iload 4, 2) := by decide +kernel
theorem dL_law_564 : decode cL_law 564 = .ok (.iconst 2, 1) := by decide +kernel
theorem dL_law_565 : decode cL_law 565 = .ok (.iadd, 1) := by decide +kernel
theorem dL_law_566 : decode cL_law 566 = .ok (.iaload, 1) := by decide +kernel
theorem dL_law_567 : decode cL_law 567 = .ok (.aload_n 3, 1) := by decide +kernel
theorem dL_law_568 : decode cL_law 568 = .ok (.invokestatic 130, 3) := by decide +kernel
theorem dL_law_571 : decode cL_law 571 = .ok (.istore 5, 2) := by decide +kernel
theorem dL_law_573 : decode cL_law 573 = .ok (.aload_n 2, 1) := by decide +kernel
theorem dL_law_574 : decode cL_law 574 = .ok (.aload_n 0, 1) := by decide +kernel
theorem dL_law_575 : decode cL_law 575 = .ok (.iload 4, 2) := by decide +kernel
theorem dL_law_577 : decode cL_law 577 = .ok (.iconst 1, 1) := by decide +kernel
theorem dL_law_578 : decode cL_law 578 = .ok (.iadd, 1) := by decide +kernel
theorem dL_law_579 : decode cL_law 579 = .ok (.iaload, 1) := by decide +kernel
theorem dL_law_580 : decode cL_law 580 = .ok (.aload_n 0, 1) := by decide +kernel
theorem dL_law_581 : decode cL_law 581 = .ok (.iload 4, 2) := by decide +kernel
theorem dL_law_583 : decode cL_law 583 = .ok (.iconst 2, 1) := by decide +kernel
theorem dL_law_584 : decode cL_law 584 = .ok (.iadd, 1) := by decide +kernel
theorem dL_law_585 : decode cL_law 585 = .ok (.iaload, 1) := by decide +kernel
theorem dL_law_586 : decode cL_law 586 = .ok (.invokevirtual 132, 3) := by decide +kernel
theorem dL_law_589 : decode cL_law 589 = .ok (.istore 6, 2) := by decide +kernel
theorem dL_law_591 : decode cL_law 591 = .ok (.aload_n 2, 1) := by decide +kernel
theorem dL_law_592 : decode cL_law 592 = .ok (.invokevirtual 101, 3) := by decide +kernel
theorem dL_law_595 : decode cL_law 595 = .ok (.iload 5, 2) := by decide +kernel
theorem dL_law_597 : decode cL_law 597 = .ok (.if_icmp .eq 5, 3) := by decide +kernel
theorem dL_law_600 : decode cL_law 600 = .ok (.iconst 0, 1) := by decide +kernel
theorem dL_law_601 : decode cL_law 601 = .ok (.ireturn, 1) := by decide +kernel
theorem dL_law_602 : decode cL_law 602 = .ok (.iload 5, 2) := by decide +kernel
theorem dL_law_604 : decode cL_law 604 = .ok (.ifCond .ne 15, 3) := by decide +kernel
theorem dL_law_607 : decode cL_law 607 = .ok (.aload_n 3, 1) := by decide +kernel
theorem dL_law_608 : decode cL_law 608 = .ok (.iconst 0, 1) := by decide +kernel
theorem dL_law_609 : decode cL_law 609 = .ok (.laload, 1) := by decide +kernel
theorem dL_law_610 : decode cL_law 610 = .ok (.iload 6, 2) := by decide +kernel
theorem dL_law_612 : decode cL_law 612 = .ok (.i2l, 1) := by decide +kernel
theorem dL_law_613 : decode cL_law 613 = .ok (.lcmp, 1) := by decide +kernel
theorem dL_law_614 : decode cL_law 614 = .ok (.ifCond .eq 5, 3) := by decide +kernel
theorem dL_law_617 : decode cL_law 617 = .ok (.iconst 0, 1) := by decide +kernel
theorem dL_law_618 : decode cL_law 618 = .ok (.ireturn, 1) := by decide +kernel
theorem dL_law_619 : decode cL_law 619 = .ok (.goto 1088, 3) := by decide +kernel
theorem dL_law_622 : decode cL_law 622 = .ok (.aload_n 1, 1) := by decide +kernel
theorem dL_law_623 : decode cL_law 623 = .ok (.aload_n 0, 1) := by decide +kernel
theorem dL_law_624 : decode cL_law 624 = .ok (.iload 4, 2) := by decide +kernel
theorem dL_law_626 : decode cL_law 626 = .ok (.iconst 1, 1) := by decide +kernel
theorem dL_law_627 : decode cL_law 627 = .ok (.iadd, 1) := by decide +kernel
theorem dL_law_628 : decode cL_law 628 = .ok (.iaload, 1) := by decide +kernel
theorem dL_law_629 : decode cL_law 629 = .ok (.aload_n 3, 1) := by decide +kernel
theorem dL_law_630 : decode cL_law 630 = .ok (.invokestatic 133, 3) := by decide +kernel
theorem dL_law_633 : decode cL_law 633 = .ok (.istore 5, 2) := by decide +kernel
theorem dL_law_635 : decode cL_law 635 = .ok (.aload_n 2, 1) := by decide +kernel
theorem dL_law_636 : decode cL_law 636 = .ok (.aload_n 0, 1) := by decide +kernel
theorem dL_law_637 : decode cL_law 637 = .ok (.iload 4, 2) := by decide +kernel
theorem dL_law_639 : decode cL_law 639 = .ok (.iconst 1, 1) := by decide +kernel
theorem dL_law_640 : decode cL_law 640 = .ok (.iadd, 1) := by decide +kernel
theorem dL_law_641 : decode cL_law 641 = .ok (.iaload, 1) := by decide +kernel
theorem dL_law_642 : decode cL_law 642 = .ok (.invokevirtual 135, 3) := by decide +kernel
theorem dL_law_645 : decode cL_law 645 = .ok (.istore 6, 2) := by decide +kernel
theorem dL_law_647 : decode cL_law 647 = .ok (.aload_n 2, 1) := by decide +kernel
theorem dL_law_648 : decode cL_law 648 = .ok (.invokevirtual 101, 3) := by decide +kernel
theorem dL_law_651 : decode cL_law 651 = .ok (.iload 5, 2) := by decide +kernel
theorem dL_law_653 : decode cL_law 653 = .ok (.if_icmp .eq 5, 3) := by decide +kernel
theorem dL_law_656 : decode cL_law 656 = .ok (.iconst 0, 1) := by decide +kernel
theorem dL_law_657 : decode cL_law 657 = .ok (.ireturn, 1) := by decide +kernel
theorem dL_law_658 : decode cL_law 658 = .ok (.iload 5, 2) := by decide +kernel
theorem dL_law_660 : decode cL_law 660 = .ok (.ifCond .ne 15, 3) := by decide +kernel
theorem dL_law_663 : decode cL_law 663 = .ok (.aload_n 3, 1) := by decide +kernel
theorem dL_law_664 : decode cL_law 664 = .ok (.iconst 0, 1) := by decide +kernel
theorem dL_law_665 : decode cL_law 665 = .ok (.laload, 1) := by decide +kernel
theorem dL_law_666 : decode cL_law 666 = .ok (.iload 6, 2) := by decide +kernel
theorem dL_law_668 : decode cL_law 668 = .ok (.i2l, 1) := by decide +kernel
theorem dL_law_669 : decode cL_law 669 = .ok (.lcmp, 1) := by decide +kernel
theorem dL_law_670 : decode cL_law 670 = .ok (.ifCond .eq 5, 3) := by decide +kernel
theorem dL_law_673 : decode cL_law 673 = .ok (.iconst 0, 1) := by decide +kernel
theorem dL_law_674 : decode cL_law 674 = .ok (.ireturn, 1) := by decide +kernel
theorem dL_law_675 : decode cL_law 675 = .ok (.goto 1032, 3) := by decide +kernel
theorem dL_law_678 : decode cL_law 678 = .ok (.aload_n 1, 1) := by decide +kernel
theorem dL_law_679 : decode cL_law 679 = .ok (.aload_n 0, 1) := by decide +kernel
theorem dL_law_680 : decode cL_law 680 = .ok (.iload 4, 2) := by decide +kernel
theorem dL_law_682 : decode cL_law 682 = .ok (.iconst 1, 1) := by decide +kernel
theorem dL_law_683 : decode cL_law 683 = .ok (.iadd, 1) := by decide +kernel
theorem dL_law_684 : decode cL_law 684 = .ok (.iaload, 1) := by decide +kernel
theorem dL_law_685 : decode cL_law 685 = .ok (.aload_n 3, 1) := by decide +kernel
theorem dL_law_686 : decode cL_law 686 = .ok (.invokestatic 136, 3) := by decide +kernel
theorem dL_law_689 : decode cL_law 689 = .ok (.istore 5, 2) := by decide +kernel
theorem dL_law_691 : decode cL_law 691 = .ok (.aload_n 2, 1) := by decide +kernel
theorem dL_law_692 : decode cL_law 692 = .ok (.aload_n 0, 1) := by decide +kernel
theorem dL_law_693 : decode cL_law 693 = .ok (.iload 4, 2) := by decide +kernel
theorem dL_law_695 : decode cL_law 695 = .ok (.iconst 1, 1) := by decide +kernel
theorem dL_law_696 : decode cL_law 696 = .ok (.iadd, 1) := by decide +kernel
theorem dL_law_697 : decode cL_law 697 = .ok (.iaload, 1) := by decide +kernel
theorem dL_law_698 : decode cL_law 698 = .ok (.invokevirtual 138, 3) := by decide +kernel
theorem dL_law_701 : decode cL_law 701 = .ok (.istore 6, 2) := by decide +kernel
theorem dL_law_703 : decode cL_law 703 = .ok (.aload_n 2, 1) := by decide +kernel
theorem dL_law_704 : decode cL_law 704 = .ok (.invokevirtual 101, 3) := by decide +kernel
theorem dL_law_707 : decode cL_law 707 = .ok (.iload 5, 2) := by decide +kernel
theorem dL_law_709 : decode cL_law 709 = .ok (.if_icmp .eq 5, 3) := by decide +kernel
theorem dL_law_712 : decode cL_law 712 = .ok (.iconst 0, 1) := by decide +kernel
theorem dL_law_713 : decode cL_law 713 = .ok (.ireturn, 1) := by decide +kernel
theorem dL_law_714 : decode cL_law 714 = .ok (.iload 5, 2) := by decide +kernel
theorem dL_law_716 : decode cL_law 716 = .ok (.ifCond .ne 15, 3) := by decide +kernel
theorem dL_law_719 : decode cL_law 719 = .ok (.aload_n 3, 1) := by decide +kernel
theorem dL_law_720 : decode cL_law 720 = .ok (.iconst 0, 1) := by decide +kernel
theorem dL_law_721 : decode cL_law 721 = .ok (.laload, 1) := by decide +kernel
theorem dL_law_722 : decode cL_law 722 = .ok (.iload 6, 2) := by decide +kernel
theorem dL_law_724 : decode cL_law 724 = .ok (.i2l, 1) := by decide +kernel
theorem dL_law_725 : decode cL_law 725 = .ok (.lcmp, 1) := by decide +kernel
theorem dL_law_726 : decode cL_law 726 = .ok (.ifCond .eq 5, 3) := by decide +kernel
theorem dL_law_729 : decode cL_law 729 = .ok (.iconst 0, 1) := by decide +kernel
theorem dL_law_730 : decode cL_law 730 = .ok (.ireturn, 1) := by decide +kernel
theorem dL_law_731 : decode cL_law 731 = .ok (.goto 976, 3) := by decide +kernel
theorem dL_law_734 : decode cL_law 734 = .ok (.aload_n 1, 1) := by decide +kernel
theorem dL_law_735 : decode cL_law 735 = .ok (.aload_n 0, 1) := by decide +kernel
theorem dL_law_736 : decode cL_law 736 = .ok (.iload 4, 2) := by decide +kernel
theorem dL_law_738 : decode cL_law 738 = .ok (.iconst 1, 1) := by decide +kernel
theorem dL_law_739 : decode cL_law 739 = .ok (.iadd, 1) := by decide +kernel
theorem dL_law_740 : decode cL_law 740 = .ok (.iaload, 1) := by decide +kernel
theorem dL_law_741 : decode cL_law 741 = .ok (.aload_n 0, 1) := by decide +kernel
theorem dL_law_742 : decode cL_law 742 = .ok (.iload 4, 2) := by decide +kernel
theorem dL_law_744 : decode cL_law 744 = .ok (.iconst 2, 1) := by decide +kernel
theorem dL_law_745 : decode cL_law 745 = .ok (.iadd, 1) := by decide +kernel
theorem dL_law_746 : decode cL_law 746 = .ok (.iaload, 1) := by decide +kernel
theorem dL_law_747 : decode cL_law 747 = .ok (.aload_n 3, 1) := by decide +kernel
theorem dL_law_748 : decode cL_law 748 = .ok (.invokestatic 139, 3) := by decide +kernel
theorem dL_law_751 : decode cL_law 751 = .ok (.istore 5, 2) := by decide +kernel
theorem dL_law_753 : decode cL_law 753 = .ok (.aload_n 2, 1) := by decide +kernel
theorem dL_law_754 : decode cL_law 754 = .ok (.aload_n 0, 1) := by decide +kernel
theorem dL_law_755 : decode cL_law 755 = .ok (.iload 4, 2) := by decide +kernel
theorem dL_law_757 : decode cL_law 757 = .ok (.iconst 1, 1) := by decide +kernel
theorem dL_law_758 : decode cL_law 758 = .ok (.iadd, 1) := by decide +kernel
theorem dL_law_759 : decode cL_law 759 = .ok (.iaload, 1) := by decide +kernel
theorem dL_law_760 : decode cL_law 760 = .ok (.aload_n 0, 1) := by decide +kernel
theorem dL_law_761 : decode cL_law 761 = .ok (.iload 4, 2) := by decide +kernel
theorem dL_law_763 : decode cL_law 763 = .ok (.iconst 2, 1) := by decide +kernel
theorem dL_law_764 : decode cL_law 764 = .ok (.iadd, 1) := by decide +kernel
theorem dL_law_765 : decode cL_law 765 = .ok (.iaload, 1) := by decide +kernel
theorem dL_law_766 : decode cL_law 766 = .ok (.invokevirtual 141, 3) := by decide +kernel
theorem dL_law_769 : decode cL_law 769 = .ok (.istore 6, 2) := by decide +kernel
theorem dL_law_771 : decode cL_law 771 = .ok (.aload_n 2, 1) := by decide +kernel
theorem dL_law_772 : decode cL_law 772 = .ok (.invokevirtual 101, 3) := by decide +kernel
theorem dL_law_775 : decode cL_law 775 = .ok (.iload 5, 2) := by decide +kernel
theorem dL_law_777 : decode cL_law 777 = .ok (.if_icmp .eq 5, 3) := by decide +kernel
theorem dL_law_780 : decode cL_law 780 = .ok (.iconst 0, 1) := by decide +kernel
theorem dL_law_781 : decode cL_law 781 = .ok (.ireturn, 1) := by decide +kernel
theorem dL_law_782 : decode cL_law 782 = .ok (.iload 5, 2) := by decide +kernel
theorem dL_law_784 : decode cL_law 784 = .ok (.ifCond .ne 15, 3) := by decide +kernel
theorem dL_law_787 : decode cL_law 787 = .ok (.aload_n 3, 1) := by decide +kernel
theorem dL_law_788 : decode cL_law 788 = .ok (.iconst 0, 1) := by decide +kernel
theorem dL_law_789 : decode cL_law 789 = .ok (.laload, 1) := by decide +kernel
theorem dL_law_790 : decode cL_law 790 = .ok (.iload 6, 2) := by decide +kernel
theorem dL_law_792 : decode cL_law 792 = .ok (.i2l, 1) := by decide +kernel
theorem dL_law_793 : decode cL_law 793 = .ok (.lcmp, 1) := by decide +kernel
theorem dL_law_794 : decode cL_law 794 = .ok (.ifCond .eq 5, 3) := by decide +kernel
theorem dL_law_797 : decode cL_law 797 = .ok (.iconst 0, 1) := by decide +kernel
theorem dL_law_798 : decode cL_law 798 = .ok (.ireturn, 1) := by decide +kernel
theorem dL_law_799 : decode cL_law 799 = .ok (.goto 908, 3) := by decide +kernel
theorem dL_law_802 : decode cL_law 802 = .ok (.aload_n 1, 1) := by decide +kernel
theorem dL_law_803 : decode cL_law 803 = .ok (.aload_n 0, 1) := by decide +kernel
theorem dL_law_804 : decode cL_law 804 = .ok (.iload 4, 2) := by decide +kernel
theorem dL_law_806 : decode cL_law 806 = .ok (.iconst 1, 1) := by decide +kernel
theorem dL_law_807 : decode cL_law 807 = .ok (.iadd, 1) := by decide +kernel
theorem dL_law_808 : decode cL_law 808 = .ok (.iaload, 1) := by decide +kernel
theorem dL_law_809 : decode cL_law 809 = .ok (.aload_n 0, 1) := by decide +kernel
theorem dL_law_810 : decode cL_law 810 = .ok (.iload 4, 2) := by decide +kernel
theorem dL_law_812 : decode cL_law 812 = .ok (.iconst 2, 1) := by decide +kernel
theorem dL_law_813 : decode cL_law 813 = .ok (.iadd, 1) := by decide +kernel
theorem dL_law_814 : decode cL_law 814 = .ok (.iaload, 1) := by decide +kernel
theorem dL_law_815 : decode cL_law 815 = .ok (.aload_n 0, 1) := by decide +kernel
theorem dL_law_816 : decode cL_law 816 = .ok (.iload 4, 2) := by decide +kernel
theorem dL_law_818 : decode cL_law 818 = .ok (.iconst 3, 1) := by decide +kernel
theorem dL_law_819 : decode cL_law 819 = .ok (.iadd, 1) := by decide +kernel
theorem dL_law_820 : decode cL_law 820 = .ok (.iaload, 1) := by decide +kernel
theorem dL_law_821 : decode cL_law 821 = .ok (.ifCond .eq 7, 3) := by decide +kernel
theorem dL_law_824 : decode cL_law 824 = .ok (.iconst 1, 1) := by decide +kernel
theorem dL_law_825 : decode cL_law 825 = .ok (.goto 4, 3) := by decide +kernel
theorem dL_law_828 : decode cL_law 828 = .ok (.iconst 0, 1) := by decide +kernel
theorem dL_law_829 : decode cL_law 829 = .ok (.aload_n 3, 1) := by decide +kernel
theorem dL_law_830 : decode cL_law 830 = .ok (.invokestatic 142, 3) := by decide +kernel
theorem dL_law_833 : decode cL_law 833 = .ok (.istore 5, 2) := by decide +kernel
theorem dL_law_835 : decode cL_law 835 = .ok (.aload_n 2, 1) := by decide +kernel
theorem dL_law_836 : decode cL_law 836 = .ok (.aload_n 0, 1) := by decide +kernel
theorem dL_law_837 : decode cL_law 837 = .ok (.iload 4, 2) := by decide +kernel
theorem dL_law_839 : decode cL_law 839 = .ok (.iconst 1, 1) := by decide +kernel
theorem dL_law_840 : decode cL_law 840 = .ok (.iadd, 1) := by decide +kernel
theorem dL_law_841 : decode cL_law 841 = .ok (.iaload, 1) := by decide +kernel
theorem dL_law_842 : decode cL_law 842 = .ok (.aload_n 0, 1) := by decide +kernel
theorem dL_law_843 : decode cL_law 843 = .ok (.iload 4, 2) := by decide +kernel
theorem dL_law_845 : decode cL_law 845 = .ok (.iconst 2, 1) := by decide +kernel
theorem dL_law_846 : decode cL_law 846 = .ok (.iadd, 1) := by decide +kernel
theorem dL_law_847 : decode cL_law 847 = .ok (.iaload, 1) := by decide +kernel
theorem dL_law_848 : decode cL_law 848 = .ok (.aload_n 0, 1) := by decide +kernel
theorem dL_law_849 : decode cL_law 849 = .ok (.iload 4, 2) := by decide +kernel
theorem dL_law_851 : decode cL_law 851 = .ok (.iconst 3, 1) := by decide +kernel
theorem dL_law_852 : decode cL_law 852 = .ok (.iadd, 1) := by decide +kernel
theorem dL_law_853 : decode cL_law 853 = .ok (.iaload, 1) := by decide +kernel
theorem dL_law_854 : decode cL_law 854 = .ok (.ifCond .eq 7, 3) := by decide +kernel
theorem dL_law_857 : decode cL_law 857 = .ok (.iconst 1, 1) := by decide +kernel
theorem dL_law_858 : decode cL_law 858 = .ok (.goto 4, 3) := by decide +kernel
theorem dL_law_861 : decode cL_law 861 = .ok (.iconst 0, 1) := by decide +kernel
theorem dL_law_862 : decode cL_law 862 = .ok (.invokevirtual 145, 3) := by decide +kernel
theorem dL_law_865 : decode cL_law 865 = .ok (.istore 6, 2) := by decide +kernel
theorem dL_law_867 : decode cL_law 867 = .ok (.aload_n 2, 1) := by decide +kernel
theorem dL_law_868 : decode cL_law 868 = .ok (.invokevirtual 101, 3) := by decide +kernel
theorem dL_law_871 : decode cL_law 871 = .ok (.iload 5, 2) := by decide +kernel
theorem dL_law_873 : decode cL_law 873 = .ok (.if_icmp .eq 5, 3) := by decide +kernel
theorem dL_law_876 : decode cL_law 876 = .ok (.iconst 0, 1) := by decide +kernel
theorem dL_law_877 : decode cL_law 877 = .ok (.ireturn, 1) := by decide +kernel
theorem dL_law_878 : decode cL_law 878 = .ok (.iload 5, 2) := by decide +kernel
theorem dL_law_880 : decode cL_law 880 = .ok (.ifCond .ne 15, 3) := by decide +kernel
theorem dL_law_883 : decode cL_law 883 = .ok (.aload_n 3, 1) := by decide +kernel
theorem dL_law_884 : decode cL_law 884 = .ok (.iconst 0, 1) := by decide +kernel
theorem dL_law_885 : decode cL_law 885 = .ok (.laload, 1) := by decide +kernel
theorem dL_law_886 : decode cL_law 886 = .ok (.iload 6, 2) := by decide +kernel
theorem dL_law_888 : decode cL_law 888 = .ok (.i2l, 1) := by decide +kernel
theorem dL_law_889 : decode cL_law 889 = .ok (.lcmp, 1) := by decide +kernel
theorem dL_law_890 : decode cL_law 890 = .ok (.ifCond .eq 5, 3) := by decide +kernel
theorem dL_law_893 : decode cL_law 893 = .ok (.iconst 0, 1) := by decide +kernel
theorem dL_law_894 : decode cL_law 894 = .ok (.ireturn, 1) := by decide +kernel
theorem dL_law_895 : decode cL_law 895 = .ok (.goto 812, 3) := by decide +kernel
theorem dL_law_898 : decode cL_law 898 = .ok (.aload_n 1, 1) := by decide +kernel
theorem dL_law_899 : decode cL_law 899 = .ok (.aload_n 0, 1) := by decide +kernel
theorem dL_law_900 : decode cL_law 900 = .ok (.iload 4, 2) := by decide +kernel
theorem dL_law_902 : decode cL_law 902 = .ok (.iconst 1, 1) := by decide +kernel
theorem dL_law_903 : decode cL_law 903 = .ok (.iadd, 1) := by decide +kernel
theorem dL_law_904 : decode cL_law 904 = .ok (.iaload, 1) := by decide +kernel
theorem dL_law_905 : decode cL_law 905 = .ok (.aload_n 3, 1) := by decide +kernel
theorem dL_law_906 : decode cL_law 906 = .ok (.invokestatic 146, 3) := by decide +kernel
theorem dL_law_909 : decode cL_law 909 = .ok (.istore 5, 2) := by decide +kernel
theorem dL_law_911 : decode cL_law 911 = .ok (.aload_n 2, 1) := by decide +kernel
theorem dL_law_912 : decode cL_law 912 = .ok (.aload_n 0, 1) := by decide +kernel
theorem dL_law_913 : decode cL_law 913 = .ok (.iload 4, 2) := by decide +kernel
theorem dL_law_915 : decode cL_law 915 = .ok (.iconst 1, 1) := by decide +kernel
theorem dL_law_916 : decode cL_law 916 = .ok (.iadd, 1) := by decide +kernel
theorem dL_law_917 : decode cL_law 917 = .ok (.iaload, 1) := by decide +kernel
theorem dL_law_918 : decode cL_law 918 = .ok (.invokevirtual 148, 3) := by decide +kernel
theorem dL_law_921 : decode cL_law 921 = .ok (.istore 6, 2) := by decide +kernel
theorem dL_law_923 : decode cL_law 923 = .ok (.aload_n 2, 1) := by decide +kernel
theorem dL_law_924 : decode cL_law 924 = .ok (.invokevirtual 101, 3) := by decide +kernel
theorem dL_law_927 : decode cL_law 927 = .ok (.iload 5, 2) := by decide +kernel
theorem dL_law_929 : decode cL_law 929 = .ok (.if_icmp .eq 5, 3) := by decide +kernel
theorem dL_law_932 : decode cL_law 932 = .ok (.iconst 0, 1) := by decide +kernel
theorem dL_law_933 : decode cL_law 933 = .ok (.ireturn, 1) := by decide +kernel
theorem dL_law_934 : decode cL_law 934 = .ok (.iload 5, 2) := by decide +kernel
theorem dL_law_936 : decode cL_law 936 = .ok (.ifCond .ne 15, 3) := by decide +kernel
theorem dL_law_939 : decode cL_law 939 = .ok (.aload_n 3, 1) := by decide +kernel
theorem dL_law_940 : decode cL_law 940 = .ok (.iconst 0, 1) := by decide +kernel
theorem dL_law_941 : decode cL_law 941 = .ok (.laload, 1) := by decide +kernel
theorem dL_law_942 : decode cL_law 942 = .ok (.iload 6, 2) := by decide +kernel
theorem dL_law_944 : decode cL_law 944 = .ok (.i2l, 1) := by decide +kernel
theorem dL_law_945 : decode cL_law 945 = .ok (.lcmp, 1) := by decide +kernel
theorem dL_law_946 : decode cL_law 946 = .ok (.ifCond .eq 5, 3) := by decide +kernel
theorem dL_law_949 : decode cL_law 949 = .ok (.iconst 0, 1) := by decide +kernel
theorem dL_law_950 : decode cL_law 950 = .ok (.ireturn, 1) := by decide +kernel
theorem dL_law_951 : decode cL_law 951 = .ok (.goto 756, 3) := by decide +kernel
theorem dL_law_954 : decode cL_law 954 = .ok (.aload_n 1, 1) := by decide +kernel
theorem dL_law_955 : decode cL_law 955 = .ok (.aload_n 0, 1) := by decide +kernel
theorem dL_law_956 : decode cL_law 956 = .ok (.iload 4, 2) := by decide +kernel
theorem dL_law_958 : decode cL_law 958 = .ok (.iconst 1, 1) := by decide +kernel
theorem dL_law_959 : decode cL_law 959 = .ok (.iadd, 1) := by decide +kernel
theorem dL_law_960 : decode cL_law 960 = .ok (.iaload, 1) := by decide +kernel
theorem dL_law_961 : decode cL_law 961 = .ok (.aload_n 3, 1) := by decide +kernel
theorem dL_law_962 : decode cL_law 962 = .ok (.invokestatic 149, 3) := by decide +kernel
theorem dL_law_965 : decode cL_law 965 = .ok (.istore 5, 2) := by decide +kernel
theorem dL_law_967 : decode cL_law 967 = .ok (.aload_n 2, 1) := by decide +kernel
theorem dL_law_968 : decode cL_law 968 = .ok (.aload_n 0, 1) := by decide +kernel
theorem dL_law_969 : decode cL_law 969 = .ok (.iload 4, 2) := by decide +kernel
theorem dL_law_971 : decode cL_law 971 = .ok (.iconst 1, 1) := by decide +kernel
theorem dL_law_972 : decode cL_law 972 = .ok (.iadd, 1) := by decide +kernel
theorem dL_law_973 : decode cL_law 973 = .ok (.iaload, 1) := by decide +kernel
theorem dL_law_974 : decode cL_law 974 = .ok (.invokevirtual 151, 3) := by decide +kernel
theorem dL_law_977 : decode cL_law 977 = .ok (.istore 6, 2) := by decide +kernel
theorem dL_law_979 : decode cL_law 979 = .ok (.aload_n 2, 1) := by decide +kernel
theorem dL_law_980 : decode cL_law 980 = .ok (.invokevirtual 101, 3) := by decide +kernel
theorem dL_law_983 : decode cL_law 983 = .ok (.iload 5, 2) := by decide +kernel
theorem dL_law_985 : decode cL_law 985 = .ok (.if_icmp .eq 5, 3) := by decide +kernel
theorem dL_law_988 : decode cL_law 988 = .ok (.iconst 0, 1) := by decide +kernel
theorem dL_law_989 : decode cL_law 989 = .ok (.ireturn, 1) := by decide +kernel
theorem dL_law_990 : decode cL_law 990 = .ok (.iload 5, 2) := by decide +kernel
theorem dL_law_992 : decode cL_law 992 = .ok (.ifCond .ne 15, 3) := by decide +kernel
theorem dL_law_995 : decode cL_law 995 = .ok (.aload_n 3, 1) := by decide +kernel
theorem dL_law_996 : decode cL_law 996 = .ok (.iconst 0, 1) := by decide +kernel
theorem dL_law_997 : decode cL_law 997 = .ok (.laload, 1) := by decide +kernel
theorem dL_law_998 : decode cL_law 998 = .ok (.iload 6, 2) := by decide +kernel
theorem dL_law_1000 : decode cL_law 1000 = .ok (.i2l, 1) := by decide +kernel
theorem dL_law_1001 : decode cL_law 1001 = .ok (.lcmp, 1) := by decide +kernel
theorem dL_law_1002 : decode cL_law 1002 = .ok (.ifCond .eq 5, 3) := by decide +kernel
theorem dL_law_1005 : decode cL_law 1005 = .ok (.iconst 0, 1) := by decide +kernel
theorem dL_law_1006 : decode cL_law 1006 = .ok (.ireturn, 1) := by decide +kernel
theorem dL_law_1007 : decode cL_law 1007 = .ok (.goto 700, 3) := by decide +kernel
theorem dL_law_1010 : decode cL_law 1010 = .ok (.aload_n 1, 1) := by decide +kernel
theorem dL_law_1011 : decode cL_law 1011 = .ok (.aload_n 0, 1) := by decide +kernel
theorem dL_law_1012 : decode cL_law 1012 = .ok (.iload 4, 2) := by decide +kernel
theorem dL_law_1014 : decode cL_law 1014 = .ok (.iconst 1, 1) := by decide +kernel
theorem dL_law_1015 : decode cL_law 1015 = .ok (.iadd, 1) := by decide +kernel
theorem dL_law_1016 : decode cL_law 1016 = .ok (.iaload, 1) := by decide +kernel
theorem dL_law_1017 : decode cL_law 1017 = .ok (.aload_n 3, 1) := by decide +kernel
theorem dL_law_1018 : decode cL_law 1018 = .ok (.invokestatic 152, 3) := by decide +kernel
theorem dL_law_1021 : decode cL_law 1021 = .ok (.istore 5, 2) := by decide +kernel
theorem dL_law_1023 : decode cL_law 1023 = .ok (.aload_n 2, 1) := by decide +kernel
theorem dL_law_1024 : decode cL_law 1024 = .ok (.aload_n 0, 1) := by decide +kernel
theorem dL_law_1025 : decode cL_law 1025 = .ok (.iload 4, 2) := by decide +kernel
theorem dL_law_1027 : decode cL_law 1027 = .ok (.iconst 1, 1) := by decide +kernel
theorem dL_law_1028 : decode cL_law 1028 = .ok (.iadd, 1) := by decide +kernel
theorem dL_law_1029 : decode cL_law 1029 = .ok (.iaload, 1) := by decide +kernel
theorem dL_law_1030 : decode cL_law 1030 = .ok (.invokevirtual 154, 3) := by decide +kernel
theorem dL_law_1033 : decode cL_law 1033 = .ok (.istore 6, 2) := by decide +kernel
theorem dL_law_1035 : decode cL_law 1035 = .ok (.aload_n 2, 1) := by decide +kernel
theorem dL_law_1036 : decode cL_law 1036 = .ok (.invokevirtual 101, 3) := by decide +kernel
theorem dL_law_1039 : decode cL_law 1039 = .ok (.iload 5, 2) := by decide +kernel
theorem dL_law_1041 : decode cL_law 1041 = .ok (.if_icmp .eq 5, 3) := by decide +kernel
theorem dL_law_1044 : decode cL_law 1044 = .ok (.iconst 0, 1) := by decide +kernel
theorem dL_law_1045 : decode cL_law 1045 = .ok (.ireturn, 1) := by decide +kernel
theorem dL_law_1046 : decode cL_law 1046 = .ok (.iload 5, 2) := by decide +kernel
theorem dL_law_1048 : decode cL_law 1048 = .ok (.ifCond .ne 15, 3) := by decide +kernel
theorem dL_law_1051 : decode cL_law 1051 = .ok (.aload_n 3, 1) := by decide +kernel
theorem dL_law_1052 : decode cL_law 1052 = .ok (.iconst 0, 1) := by decide +kernel
theorem dL_law_1053 : decode cL_law 1053 = .ok (.laload, 1) := by decide +kernel
theorem dL_law_1054 : decode cL_law 1054 = .ok (.iload 6, 2) := by decide +kernel
theorem dL_law_1056 : decode cL_law 1056 = .ok (.i2l, 1) := by decide +kernel
theorem dL_law_1057 : decode cL_law 1057 = .ok (.lcmp, 1) := by decide +kernel
theorem dL_law_1058 : decode cL_law 1058 = .ok (.ifCond .eq 5, 3) := by decide +kernel
theorem dL_law_1061 : decode cL_law 1061 = .ok (.iconst 0, 1) := by decide +kernel
theorem dL_law_1062 : decode cL_law 1062 = .ok (.ireturn, 1) := by decide +kernel
theorem dL_law_1063 : decode cL_law 1063 = .ok (.goto 644, 3) := by decide +kernel
theorem dL_law_1066 : decode cL_law 1066 = .ok (.aload_n 1, 1) := by decide +kernel
theorem dL_law_1067 : decode cL_law 1067 = .ok (.aload_n 0, 1) := by decide +kernel
theorem dL_law_1068 : decode cL_law 1068 = .ok (.iload 4, 2) := by decide +kernel
theorem dL_law_1070 : decode cL_law 1070 = .ok (.iconst 1, 1) := by decide +kernel
theorem dL_law_1071 : decode cL_law 1071 = .ok (.iadd, 1) := by decide +kernel
theorem dL_law_1072 : decode cL_law 1072 = .ok (.iaload, 1) := by decide +kernel
theorem dL_law_1073 : decode cL_law 1073 = .ok (.aload_n 3, 1) := by decide +kernel
theorem dL_law_1074 : decode cL_law 1074 = .ok (.invokestatic 155, 3) := by decide +kernel
theorem dL_law_1077 : decode cL_law 1077 = .ok (.istore 5, 2) := by decide +kernel
theorem dL_law_1079 : decode cL_law 1079 = .ok (.aload_n 2, 1) := by decide +kernel
theorem dL_law_1080 : decode cL_law 1080 = .ok (.aload_n 0, 1) := by decide +kernel
theorem dL_law_1081 : decode cL_law 1081 = .ok (.iload 4, 2) := by decide +kernel
theorem dL_law_1083 : decode cL_law 1083 = .ok (.iconst 1, 1) := by decide +kernel
theorem dL_law_1084 : decode cL_law 1084 = .ok (.iadd, 1) := by decide +kernel
theorem dL_law_1085 : decode cL_law 1085 = .ok (.iaload, 1) := by decide +kernel
theorem dL_law_1086 : decode cL_law 1086 = .ok (.invokevirtual 157, 3) := by decide +kernel
theorem dL_law_1089 : decode cL_law 1089 = .ok (.istore 6, 2) := by decide +kernel
theorem dL_law_1091 : decode cL_law 1091 = .ok (.aload_n 2, 1) := by decide +kernel
theorem dL_law_1092 : decode cL_law 1092 = .ok (.invokevirtual 101, 3) := by decide +kernel
theorem dL_law_1095 : decode cL_law 1095 = .ok (.iload 5, 2) := by decide +kernel
theorem dL_law_1097 : decode cL_law 1097 = .ok (.if_icmp .eq 5, 3) := by decide +kernel
theorem dL_law_1100 : decode cL_law 1100 = .ok (.iconst 0, 1) := by decide +kernel
theorem dL_law_1101 : decode cL_law 1101 = .ok (.ireturn, 1) := by decide +kernel
theorem dL_law_1102 : decode cL_law 1102 = .ok (.iload 5, 2) := by decide +kernel
theorem dL_law_1104 : decode cL_law 1104 = .ok (.ifCond .ne 15, 3) := by decide +kernel
theorem dL_law_1107 : decode cL_law 1107 = .ok (.aload_n 3, 1) := by decide +kernel
theorem dL_law_1108 : decode cL_law 1108 = .ok (.iconst 0, 1) := by decide +kernel
theorem dL_law_1109 : decode cL_law 1109 = .ok (.laload, 1) := by decide +kernel
theorem dL_law_1110 : decode cL_law 1110 = .ok (.iload 6, 2) := by decide +kernel
theorem dL_law_1112 : decode cL_law 1112 = .ok (.i2l, 1) := by decide +kernel
theorem dL_law_1113 : decode cL_law 1113 = .ok (.lcmp, 1) := by decide +kernel
theorem dL_law_1114 : decode cL_law 1114 = .ok (.ifCond .eq 5, 3) := by decide +kernel
theorem dL_law_1117 : decode cL_law 1117 = .ok (.iconst 0, 1) := by decide +kernel
theorem dL_law_1118 : decode cL_law 1118 = .ok (.ireturn, 1) := by decide +kernel
theorem dL_law_1119 : decode cL_law 1119 = .ok (.goto 588, 3) := by decide +kernel
theorem dL_law_1122 : decode cL_law 1122 = .ok (.aload_n 1, 1) := by decide +kernel
theorem dL_law_1123 : decode cL_law 1123 = .ok (.aload_n 3, 1) := by decide +kernel
theorem dL_law_1124 : decode cL_law 1124 = .ok (.invokestatic 158, 3) := by decide +kernel
theorem dL_law_1127 : decode cL_law 1127 = .ok (.istore 5, 2) := by decide +kernel
theorem dL_law_1129 : decode cL_law 1129 = .ok (.aload_n 2, 1) := by decide +kernel
theorem dL_law_1130 : decode cL_law 1130 = .ok (.invokevirtual 160, 3) := by decide +kernel
theorem dL_law_1133 : decode cL_law 1133 = .ok (.istore 6, 2) := by decide +kernel
theorem dL_law_1135 : decode cL_law 1135 = .ok (.aload_n 2, 1) := by decide +kernel
theorem dL_law_1136 : decode cL_law 1136 = .ok (.invokevirtual 101, 3) := by decide +kernel
theorem dL_law_1139 : decode cL_law 1139 = .ok (.iload 5, 2) := by decide +kernel
theorem dL_law_1141 : decode cL_law 1141 = .ok (.if_icmp .eq 5, 3) := by decide +kernel
theorem dL_law_1144 : decode cL_law 1144 = .ok (.iconst 0, 1) := by decide +kernel
theorem dL_law_1145 : decode cL_law 1145 = .ok (.ireturn, 1) := by decide +kernel
theorem dL_law_1146 : decode cL_law 1146 = .ok (.iload 5, 2) := by decide +kernel
theorem dL_law_1148 : decode cL_law 1148 = .ok (.ifCond .ne 15, 3) := by decide +kernel
theorem dL_law_1151 : decode cL_law 1151 = .ok (.aload_n 3, 1) := by decide +kernel
theorem dL_law_1152 : decode cL_law 1152 = .ok (.iconst 0, 1) := by decide +kernel
theorem dL_law_1153 : decode cL_law 1153 = .ok (.laload, 1) := by decide +kernel
theorem dL_law_1154 : decode cL_law 1154 = .ok (.iload 6, 2) := by decide +kernel
theorem dL_law_1156 : decode cL_law 1156 = .ok (.i2l, 1) := by decide +kernel
theorem dL_law_1157 : decode cL_law 1157 = .ok (.lcmp, 1) := by decide +kernel
theorem dL_law_1158 : decode cL_law 1158 = .ok (.ifCond .eq 5, 3) := by decide +kernel
theorem dL_law_1161 : decode cL_law 1161 = .ok (.iconst 0, 1) := by decide +kernel
theorem dL_law_1162 : decode cL_law 1162 = .ok (.ireturn, 1) := by decide +kernel
theorem dL_law_1163 : decode cL_law 1163 = .ok (.goto 544, 3) := by decide +kernel
theorem dL_law_1166 : decode cL_law 1166 = .ok (.aload_n 1, 1) := by decide +kernel
theorem dL_law_1167 : decode cL_law 1167 = .ok (.aload_n 0, 1) := by decide +kernel
theorem dL_law_1168 : decode cL_law 1168 = .ok (.iload 4, 2) := by decide +kernel
theorem dL_law_1170 : decode cL_law 1170 = .ok (.iconst 1, 1) := by decide +kernel
theorem dL_law_1171 : decode cL_law 1171 = .ok (.iadd, 1) := by decide +kernel
theorem dL_law_1172 : decode cL_law 1172 = .ok (.iaload, 1) := by decide +kernel
theorem dL_law_1173 : decode cL_law 1173 = .ok (.aload_n 0, 1) := by decide +kernel
theorem dL_law_1174 : decode cL_law 1174 = .ok (.iload 4, 2) := by decide +kernel
theorem dL_law_1176 : decode cL_law 1176 = .ok (.iconst 2, 1) := by decide +kernel
theorem dL_law_1177 : decode cL_law 1177 = .ok (.iadd, 1) := by decide +kernel
theorem dL_law_1178 : decode cL_law 1178 = .ok (.iaload, 1) := by decide +kernel
theorem dL_law_1179 : decode cL_law 1179 = .ok (.aload_n 0, 1) := by decide +kernel
theorem dL_law_1180 : decode cL_law 1180 = .ok (.iload 4, 2) := by decide +kernel
theorem dL_law_1182 : decode cL_law 1182 = .ok (.iconst 3, 1) := by decide +kernel
theorem dL_law_1183 : decode cL_law 1183 = .ok (.iadd, 1) := by decide +kernel
theorem dL_law_1184 : decode cL_law 1184 = .ok (.iaload, 1) := by decide +kernel
theorem dL_law_1185 : decode cL_law 1185 = .ok (.aload_n 3, 1) := by decide +kernel
theorem dL_law_1186 : decode cL_law 1186 = .ok (.invokestatic 161, 3) := by decide +kernel
theorem dL_law_1189 : decode cL_law 1189 = .ok (.istore 5, 2) := by decide +kernel
theorem dL_law_1191 : decode cL_law 1191 = .ok (.aload_n 2, 1) := by decide +kernel
theorem dL_law_1192 : decode cL_law 1192 = .ok (.aload_n 0, 1) := by decide +kernel
theorem dL_law_1193 : decode cL_law 1193 = .ok (.iload 4, 2) := by decide +kernel
theorem dL_law_1195 : decode cL_law 1195 = .ok (.iconst 1, 1) := by decide +kernel
theorem dL_law_1196 : decode cL_law 1196 = .ok (.iadd, 1) := by decide +kernel
theorem dL_law_1197 : decode cL_law 1197 = .ok (.iaload, 1) := by decide +kernel
theorem dL_law_1198 : decode cL_law 1198 = .ok (.aload_n 0, 1) := by decide +kernel
theorem dL_law_1199 : decode cL_law 1199 = .ok (.iload 4, 2) := by decide +kernel
theorem dL_law_1201 : decode cL_law 1201 = .ok (.iconst 2, 1) := by decide +kernel
theorem dL_law_1202 : decode cL_law 1202 = .ok (.iadd, 1) := by decide +kernel
theorem dL_law_1203 : decode cL_law 1203 = .ok (.iaload, 1) := by decide +kernel
theorem dL_law_1204 : decode cL_law 1204 = .ok (.aload_n 0, 1) := by decide +kernel
theorem dL_law_1205 : decode cL_law 1205 = .ok (.iload 4, 2) := by decide +kernel
theorem dL_law_1207 : decode cL_law 1207 = .ok (.iconst 3, 1) := by decide +kernel
theorem dL_law_1208 : decode cL_law 1208 = .ok (.iadd, 1) := by decide +kernel
theorem dL_law_1209 : decode cL_law 1209 = .ok (.iaload, 1) := by decide +kernel
theorem dL_law_1210 : decode cL_law 1210 = .ok (.invokevirtual 163, 3) := by decide +kernel
theorem dL_law_1213 : decode cL_law 1213 = .ok (.istore 6, 2) := by decide +kernel
theorem dL_law_1215 : decode cL_law 1215 = .ok (.aload_n 2, 1) := by decide +kernel
theorem dL_law_1216 : decode cL_law 1216 = .ok (.invokevirtual 101, 3) := by decide +kernel
theorem dL_law_1219 : decode cL_law 1219 = .ok (.iload 5, 2) := by decide +kernel
theorem dL_law_1221 : decode cL_law 1221 = .ok (.if_icmp .eq 5, 3) := by decide +kernel
theorem dL_law_1224 : decode cL_law 1224 = .ok (.iconst 0, 1) := by decide +kernel
theorem dL_law_1225 : decode cL_law 1225 = .ok (.ireturn, 1) := by decide +kernel
theorem dL_law_1226 : decode cL_law 1226 = .ok (.iload 5, 2) := by decide +kernel
theorem dL_law_1228 : decode cL_law 1228 = .ok (.ifCond .ne 15, 3) := by decide +kernel
theorem dL_law_1231 : decode cL_law 1231 = .ok (.aload_n 3, 1) := by decide +kernel
theorem dL_law_1232 : decode cL_law 1232 = .ok (.iconst 0, 1) := by decide +kernel
theorem dL_law_1233 : decode cL_law 1233 = .ok (.laload, 1) := by decide +kernel
theorem dL_law_1234 : decode cL_law 1234 = .ok (.iload 6, 2) := by decide +kernel
theorem dL_law_1236 : decode cL_law 1236 = .ok (.i2l, 1) := by decide +kernel
theorem dL_law_1237 : decode cL_law 1237 = .ok (.lcmp, 1) := by decide +kernel
theorem dL_law_1238 : decode cL_law 1238 = .ok (.ifCond .eq 5, 3) := by decide +kernel
theorem dL_law_1241 : decode cL_law 1241 = .ok (.iconst 0, 1) := by decide +kernel
theorem dL_law_1242 : decode cL_law 1242 = .ok (.ireturn, 1) := by decide +kernel
theorem dL_law_1243 : decode cL_law 1243 = .ok (.goto 464, 3) := by decide +kernel
theorem dL_law_1246 : decode cL_law 1246 = .ok (.aload_n 1, 1) := by decide +kernel
theorem dL_law_1247 : decode cL_law 1247 = .ok (.aload_n 0, 1) := by decide +kernel
theorem dL_law_1248 : decode cL_law 1248 = .ok (.iload 4, 2) := by decide +kernel
theorem dL_law_1250 : decode cL_law 1250 = .ok (.iconst 1, 1) := by decide +kernel
theorem dL_law_1251 : decode cL_law 1251 = .ok (.iadd, 1) := by decide +kernel
theorem dL_law_1252 : decode cL_law 1252 = .ok (.iaload, 1) := by decide +kernel
theorem dL_law_1253 : decode cL_law 1253 = .ok (.aload_n 0, 1) := by decide +kernel
theorem dL_law_1254 : decode cL_law 1254 = .ok (.iload 4, 2) := by decide +kernel
theorem dL_law_1256 : decode cL_law 1256 = .ok (.iconst 2, 1) := by decide +kernel
theorem dL_law_1257 : decode cL_law 1257 = .ok (.iadd, 1) := by decide +kernel
theorem dL_law_1258 : decode cL_law 1258 = .ok (.iaload, 1) := by decide +kernel
theorem dL_law_1259 : decode cL_law 1259 = .ok (.aload_n 0, 1) := by decide +kernel
theorem dL_law_1260 : decode cL_law 1260 = .ok (.iload 4, 2) := by decide +kernel
theorem dL_law_1262 : decode cL_law 1262 = .ok (.iconst 3, 1) := by decide +kernel
theorem dL_law_1263 : decode cL_law 1263 = .ok (.iadd, 1) := by decide +kernel
theorem dL_law_1264 : decode cL_law 1264 = .ok (.iaload, 1) := by decide +kernel
theorem dL_law_1265 : decode cL_law 1265 = .ok (.aload_n 3, 1) := by decide +kernel
theorem dL_law_1266 : decode cL_law 1266 = .ok (.invokestatic 164, 3) := by decide +kernel
theorem dL_law_1269 : decode cL_law 1269 = .ok (.istore 5, 2) := by decide +kernel
theorem dL_law_1271 : decode cL_law 1271 = .ok (.aload_n 2, 1) := by decide +kernel
theorem dL_law_1272 : decode cL_law 1272 = .ok (.aload_n 0, 1) := by decide +kernel
theorem dL_law_1273 : decode cL_law 1273 = .ok (.iload 4, 2) := by decide +kernel
theorem dL_law_1275 : decode cL_law 1275 = .ok (.iconst 1, 1) := by decide +kernel
theorem dL_law_1276 : decode cL_law 1276 = .ok (.iadd, 1) := by decide +kernel
theorem dL_law_1277 : decode cL_law 1277 = .ok (.iaload, 1) := by decide +kernel
theorem dL_law_1278 : decode cL_law 1278 = .ok (.aload_n 0, 1) := by decide +kernel
theorem dL_law_1279 : decode cL_law 1279 = .ok (.iload 4, 2) := by decide +kernel
theorem dL_law_1281 : decode cL_law 1281 = .ok (.iconst 2, 1) := by decide +kernel
theorem dL_law_1282 : decode cL_law 1282 = .ok (.iadd, 1) := by decide +kernel
theorem dL_law_1283 : decode cL_law 1283 = .ok (.iaload, 1) := by decide +kernel
theorem dL_law_1284 : decode cL_law 1284 = .ok (.aload_n 0, 1) := by decide +kernel
theorem dL_law_1285 : decode cL_law 1285 = .ok (.iload 4, 2) := by decide +kernel
theorem dL_law_1287 : decode cL_law 1287 = .ok (.iconst 3, 1) := by decide +kernel
theorem dL_law_1288 : decode cL_law 1288 = .ok (.iadd, 1) := by decide +kernel
theorem dL_law_1289 : decode cL_law 1289 = .ok (.iaload, 1) := by decide +kernel
theorem dL_law_1290 : decode cL_law 1290 = .ok (.invokevirtual 166, 3) := by decide +kernel
theorem dL_law_1293 : decode cL_law 1293 = .ok (.istore 6, 2) := by decide +kernel
theorem dL_law_1295 : decode cL_law 1295 = .ok (.aload_n 2, 1) := by decide +kernel
theorem dL_law_1296 : decode cL_law 1296 = .ok (.invokevirtual 101, 3) := by decide +kernel
theorem dL_law_1299 : decode cL_law 1299 = .ok (.iload 5, 2) := by decide +kernel
theorem dL_law_1301 : decode cL_law 1301 = .ok (.if_icmp .eq 5, 3) := by decide +kernel
theorem dL_law_1304 : decode cL_law 1304 = .ok (.iconst 0, 1) := by decide +kernel
theorem dL_law_1305 : decode cL_law 1305 = .ok (.ireturn, 1) := by decide +kernel
theorem dL_law_1306 : decode cL_law 1306 = .ok (.iload 5, 2) := by decide +kernel
theorem dL_law_1308 : decode cL_law 1308 = .ok (.ifCond .ne 15, 3) := by decide +kernel
theorem dL_law_1311 : decode cL_law 1311 = .ok (.aload_n 3, 1) := by decide +kernel
theorem dL_law_1312 : decode cL_law 1312 = .ok (.iconst 0, 1) := by decide +kernel
theorem dL_law_1313 : decode cL_law 1313 = .ok (.laload, 1) := by decide +kernel
theorem dL_law_1314 : decode cL_law 1314 = .ok (.iload 6, 2) := by decide +kernel
theorem dL_law_1316 : decode cL_law 1316 = .ok (.i2l, 1) := by decide +kernel
theorem dL_law_1317 : decode cL_law 1317 = .ok (.lcmp, 1) := by decide +kernel
theorem dL_law_1318 : decode cL_law 1318 = .ok (.ifCond .eq 5, 3) := by decide +kernel
theorem dL_law_1321 : decode cL_law 1321 = .ok (.iconst 0, 1) := by decide +kernel
theorem dL_law_1322 : decode cL_law 1322 = .ok (.ireturn, 1) := by decide +kernel
theorem dL_law_1323 : decode cL_law 1323 = .ok (.goto 384, 3) := by decide +kernel
theorem dL_law_1326 : decode cL_law 1326 = .ok (.aload_n 1, 1) := by decide +kernel
theorem dL_law_1327 : decode cL_law 1327 = .ok (.aload_n 0, 1) := by decide +kernel
theorem dL_law_1328 : decode cL_law 1328 = .ok (.iload 4, 2) := by decide +kernel
theorem dL_law_1330 : decode cL_law 1330 = .ok (.iconst 1, 1) := by decide +kernel
theorem dL_law_1331 : decode cL_law 1331 = .ok (.iadd, 1) := by decide +kernel
theorem dL_law_1332 : decode cL_law 1332 = .ok (.iaload, 1) := by decide +kernel
theorem dL_law_1333 : decode cL_law 1333 = .ok (.aload_n 3, 1) := by decide +kernel
theorem dL_law_1334 : decode cL_law 1334 = .ok (.invokestatic 167, 3) := by decide +kernel
theorem dL_law_1337 : decode cL_law 1337 = .ok (.istore 5, 2) := by decide +kernel
theorem dL_law_1339 : decode cL_law 1339 = .ok (.aload_n 2, 1) := by decide +kernel
theorem dL_law_1340 : decode cL_law 1340 = .ok (.aload_n 0, 1) := by decide +kernel
theorem dL_law_1341 : decode cL_law 1341 = .ok (.iload 4, 2) := by decide +kernel
theorem dL_law_1343 : decode cL_law 1343 = .ok (.iconst 1, 1) := by decide +kernel
theorem dL_law_1344 : decode cL_law 1344 = .ok (.iadd, 1) := by decide +kernel
theorem dL_law_1345 : decode cL_law 1345 = .ok (.iaload, 1) := by decide +kernel
theorem dL_law_1346 : decode cL_law 1346 = .ok (.invokevirtual 169, 3) := by decide +kernel
theorem dL_law_1349 : decode cL_law 1349 = .ok (.istore 6, 2) := by decide +kernel
theorem dL_law_1351 : decode cL_law 1351 = .ok (.aload_n 2, 1) := by decide +kernel
theorem dL_law_1352 : decode cL_law 1352 = .ok (.invokevirtual 101, 3) := by decide +kernel
theorem dL_law_1355 : decode cL_law 1355 = .ok (.iload 5, 2) := by decide +kernel
theorem dL_law_1357 : decode cL_law 1357 = .ok (.if_icmp .eq 5, 3) := by decide +kernel
theorem dL_law_1360 : decode cL_law 1360 = .ok (.iconst 0, 1) := by decide +kernel
theorem dL_law_1361 : decode cL_law 1361 = .ok (.ireturn, 1) := by decide +kernel
theorem dL_law_1362 : decode cL_law 1362 = .ok (.iload 5, 2) := by decide +kernel
theorem dL_law_1364 : decode cL_law 1364 = .ok (.ifCond .ne 15, 3) := by decide +kernel
theorem dL_law_1367 : decode cL_law 1367 = .ok (.aload_n 3, 1) := by decide +kernel
theorem dL_law_1368 : decode cL_law 1368 = .ok (.iconst 0, 1) := by decide +kernel
theorem dL_law_1369 : decode cL_law 1369 = .ok (.laload, 1) := by decide +kernel
theorem dL_law_1370 : decode cL_law 1370 = .ok (.iload 6, 2) := by decide +kernel
theorem dL_law_1372 : decode cL_law 1372 = .ok (.i2l, 1) := by decide +kernel
theorem dL_law_1373 : decode cL_law 1373 = .ok (.lcmp, 1) := by decide +kernel
theorem dL_law_1374 : decode cL_law 1374 = .ok (.ifCond .eq 5, 3) := by decide +kernel
theorem dL_law_1377 : decode cL_law 1377 = .ok (.iconst 0, 1) := by decide +kernel
theorem dL_law_1378 : decode cL_law 1378 = .ok (.ireturn, 1) := by decide +kernel
theorem dL_law_1379 : decode cL_law 1379 = .ok (.goto 328, 3) := by decide +kernel
theorem dL_law_1382 : decode cL_law 1382 = .ok (.aload_n 1, 1) := by decide +kernel
theorem dL_law_1383 : decode cL_law 1383 = .ok (.invokevirtual 170, 3) := by decide +kernel
theorem dL_law_1386 : decode cL_law 1386 = .ok (.aload_n 2, 1) := by decide +kernel
theorem dL_law_1387 : decode cL_law 1387 = .ok (.invokevirtual 173, 3) := by decide +kernel
theorem dL_law_1390 : decode cL_law 1390 = .ok (.if_icmp .eq 317, 3) := by decide +kernel
theorem dL_law_1393 : decode cL_law 1393 = .ok (.iconst 0, 1) := by decide +kernel
theorem dL_law_1394 : decode cL_law 1394 = .ok (.ireturn, 1) := by decide +kernel
theorem dL_law_1395 : decode cL_law 1395 = .ok (.aload_n 1, 1) := by decide +kernel
theorem dL_law_1396 : decode cL_law 1396 = .ok (.aload_n 0, 1) := by decide +kernel
theorem dL_law_1397 : decode cL_law 1397 = .ok (.iload 4, 2) := by decide +kernel
theorem dL_law_1399 : decode cL_law 1399 = .ok (.iconst 1, 1) := by decide +kernel
theorem dL_law_1400 : decode cL_law 1400 = .ok (.iadd, 1) := by decide +kernel
theorem dL_law_1401 : decode cL_law 1401 = .ok (.iaload, 1) := by decide +kernel
theorem dL_law_1402 : decode cL_law 1402 = .ok (.aload_n 0, 1) := by decide +kernel
theorem dL_law_1403 : decode cL_law 1403 = .ok (.iload 4, 2) := by decide +kernel
theorem dL_law_1405 : decode cL_law 1405 = .ok (.iconst 2, 1) := by decide +kernel
theorem dL_law_1406 : decode cL_law 1406 = .ok (.iadd, 1) := by decide +kernel
theorem dL_law_1407 : decode cL_law 1407 = .ok (.iaload, 1) := by decide +kernel
theorem dL_law_1408 : decode cL_law 1408 = .ok (.i2l, 1) := by decide +kernel
theorem dL_law_1409 : decode cL_law 1409 = .ok (.bipush 32, 2) := by decide +kernel
theorem dL_law_1411 : decode cL_law 1411 = .ok (.lshl, 1) := by decide +kernel
theorem dL_law_1412 : decode cL_law 1412 = .ok (.aload_n 0, 1) := by decide +kernel
theorem dL_law_1413 : decode cL_law 1413 = .ok (.iload 4, 2) := by decide +kernel
theorem dL_law_1415 : decode cL_law 1415 = .ok (.iconst 3, 1) := by decide +kernel
theorem dL_law_1416 : decode cL_law 1416 = .ok (.iadd, 1) := by decide +kernel
theorem dL_law_1417 : decode cL_law 1417 = .ok (.iaload, 1) := by decide +kernel
theorem dL_law_1418 : decode cL_law 1418 = .ok (.i2l, 1) := by decide +kernel
theorem dL_law_1419 : decode cL_law 1419 = .ok (.ldc2_w 174, 3) := by decide +kernel
theorem dL_law_1422 : decode cL_law 1422 = .ok (.land, 1) := by decide +kernel
theorem dL_law_1423 : decode cL_law 1423 = .ok (.lor, 1) := by decide +kernel
theorem dL_law_1424 : decode cL_law 1424 = .ok (.aload_n 3, 1) := by decide +kernel
theorem dL_law_1425 : decode cL_law 1425 = .ok (.invokestatic 176, 3) := by decide +kernel
theorem dL_law_1428 : decode cL_law 1428 = .ok (.istore 5, 2) := by decide +kernel
theorem dL_law_1430 : decode cL_law 1430 = .ok (.aload_n 2, 1) := by decide +kernel
theorem dL_law_1431 : decode cL_law 1431 = .ok (.aload_n 0, 1) := by decide +kernel
theorem dL_law_1432 : decode cL_law 1432 = .ok (.iload 4, 2) := by decide +kernel
theorem dL_law_1434 : decode cL_law 1434 = .ok (.iconst 1, 1) := by decide +kernel
theorem dL_law_1435 : decode cL_law 1435 = .ok (.iadd, 1) := by decide +kernel
theorem dL_law_1436 : decode cL_law 1436 = .ok (.iaload, 1) := by decide +kernel
theorem dL_law_1437 : decode cL_law 1437 = .ok (.aload_n 0, 1) := by decide +kernel
theorem dL_law_1438 : decode cL_law 1438 = .ok (.iload 4, 2) := by decide +kernel
theorem dL_law_1440 : decode cL_law 1440 = .ok (.iconst 2, 1) := by decide +kernel
theorem dL_law_1441 : decode cL_law 1441 = .ok (.iadd, 1) := by decide +kernel
theorem dL_law_1442 : decode cL_law 1442 = .ok (.iaload, 1) := by decide +kernel
theorem dL_law_1443 : decode cL_law 1443 = .ok (.i2l, 1) := by decide +kernel
theorem dL_law_1444 : decode cL_law 1444 = .ok (.bipush 32, 2) := by decide +kernel
theorem dL_law_1446 : decode cL_law 1446 = .ok (.lshl, 1) := by decide +kernel
theorem dL_law_1447 : decode cL_law 1447 = .ok (.aload_n 0, 1) := by decide +kernel
theorem dL_law_1448 : decode cL_law 1448 = .ok (.iload 4, 2) := by decide +kernel
theorem dL_law_1450 : decode cL_law 1450 = .ok (.iconst 3, 1) := by decide +kernel
theorem dL_law_1451 : decode cL_law 1451 = .ok (.iadd, 1) := by decide +kernel
theorem dL_law_1452 : decode cL_law 1452 = .ok (.iaload, 1) := by decide +kernel
theorem dL_law_1453 : decode cL_law 1453 = .ok (.i2l, 1) := by decide +kernel
theorem dL_law_1454 : decode cL_law 1454 = .ok (.ldc2_w 174, 3) := by decide +kernel
theorem dL_law_1457 : decode cL_law 1457 = .ok (.land, 1) := by decide +kernel
theorem dL_law_1458 : decode cL_law 1458 = .ok (.lor, 1) := by decide +kernel
theorem dL_law_1459 : decode cL_law 1459 = .ok (.invokevirtual 179, 3) := by decide +kernel
theorem dL_law_1462 : decode cL_law 1462 = .ok (.istore 6, 2) := by decide +kernel
theorem dL_law_1464 : decode cL_law 1464 = .ok (.aload_n 2, 1) := by decide +kernel
theorem dL_law_1465 : decode cL_law 1465 = .ok (.invokevirtual 101, 3) := by decide +kernel
theorem dL_law_1468 : decode cL_law 1468 = .ok (.iload 5, 2) := by decide +kernel
theorem dL_law_1470 : decode cL_law 1470 = .ok (.if_icmp .eq 5, 3) := by decide +kernel
theorem dL_law_1473 : decode cL_law 1473 = .ok (.iconst 0, 1) := by decide +kernel
theorem dL_law_1474 : decode cL_law 1474 = .ok (.ireturn, 1) := by decide +kernel
theorem dL_law_1475 : decode cL_law 1475 = .ok (.iload 5, 2) := by decide +kernel
theorem dL_law_1477 : decode cL_law 1477 = .ok (.ifCond .ne 15, 3) := by decide +kernel
theorem dL_law_1480 : decode cL_law 1480 = .ok (.aload_n 3, 1) := by decide +kernel
theorem dL_law_1481 : decode cL_law 1481 = .ok (.iconst 0, 1) := by decide +kernel
theorem dL_law_1482 : decode cL_law 1482 = .ok (.laload, 1) := by decide +kernel
theorem dL_law_1483 : decode cL_law 1483 = .ok (.iload 6, 2) := by decide +kernel
theorem dL_law_1485 : decode cL_law 1485 = .ok (.i2l, 1) := by decide +kernel
theorem dL_law_1486 : decode cL_law 1486 = .ok (.lcmp, 1) := by decide +kernel
theorem dL_law_1487 : decode cL_law 1487 = .ok (.ifCond .eq 5, 3) := by decide +kernel
theorem dL_law_1490 : decode cL_law 1490 = .ok (.iconst 0, 1) := by decide +kernel
theorem dL_law_1491 : decode cL_law 1491 = .ok (.ireturn, 1) := by decide +kernel
theorem dL_law_1492 : decode cL_law 1492 = .ok (.goto 215, 3) := by decide +kernel
theorem dL_law_1495 : decode cL_law 1495 = .ok (.aload_n 1, 1) := by decide +kernel
theorem dL_law_1496 : decode cL_law 1496 = .ok (.aload_n 0, 1) := by decide +kernel
theorem dL_law_1497 : decode cL_law 1497 = .ok (.iload 4, 2) := by decide +kernel
theorem dL_law_1499 : decode cL_law 1499 = .ok (.iconst 1, 1) := by decide +kernel
theorem dL_law_1500 : decode cL_law 1500 = .ok (.iadd, 1) := by decide +kernel
theorem dL_law_1501 : decode cL_law 1501 = .ok (.iaload, 1) := by decide +kernel
theorem dL_law_1502 : decode cL_law 1502 = .ok (.i2l, 1) := by decide +kernel
theorem dL_law_1503 : decode cL_law 1503 = .ok (.bipush 32, 2) := by decide +kernel
theorem dL_law_1505 : decode cL_law 1505 = .ok (.lshl, 1) := by decide +kernel
theorem dL_law_1506 : decode cL_law 1506 = .ok (.aload_n 0, 1) := by decide +kernel
theorem dL_law_1507 : decode cL_law 1507 = .ok (.iload 4, 2) := by decide +kernel
theorem dL_law_1509 : decode cL_law 1509 = .ok (.iconst 2, 1) := by decide +kernel
theorem dL_law_1510 : decode cL_law 1510 = .ok (.iadd, 1) := by decide +kernel
theorem dL_law_1511 : decode cL_law 1511 = .ok (.iaload, 1) := by decide +kernel
theorem dL_law_1512 : decode cL_law 1512 = .ok (.i2l, 1) := by decide +kernel
theorem dL_law_1513 : decode cL_law 1513 = .ok (.ldc2_w 174, 3) := by decide +kernel
theorem dL_law_1516 : decode cL_law 1516 = .ok (.land, 1) := by decide +kernel
theorem dL_law_1517 : decode cL_law 1517 = .ok (.lor, 1) := by decide +kernel
theorem dL_law_1518 : decode cL_law 1518 = .ok (.aload_n 0, 1) := by decide +kernel
theorem dL_law_1519 : decode cL_law 1519 = .ok (.iload 4, 2) := by decide +kernel
theorem dL_law_1521 : decode cL_law 1521 = .ok (.iconst 3, 1) := by decide +kernel
theorem dL_law_1522 : decode cL_law 1522 = .ok (.iadd, 1) := by decide +kernel
theorem dL_law_1523 : decode cL_law 1523 = .ok (.iaload, 1) := by decide +kernel
theorem dL_law_1524 : decode cL_law 1524 = .ok (.aload_n 3, 1) := by decide +kernel
theorem dL_law_1525 : decode cL_law 1525 = .ok (.invokestatic 180, 3) := by decide +kernel
theorem dL_law_1528 : decode cL_law 1528 = .ok (.istore 5, 2) := by decide +kernel
theorem dL_law_1530 : decode cL_law 1530 = .ok (.aload_n 2, 1) := by decide +kernel
theorem dL_law_1531 : decode cL_law 1531 = .ok (.aload_n 0, 1) := by decide +kernel
theorem dL_law_1532 : decode cL_law 1532 = .ok (.iload 4, 2) := by decide +kernel
theorem dL_law_1534 : decode cL_law 1534 = .ok (.iconst 1, 1) := by decide +kernel
theorem dL_law_1535 : decode cL_law 1535 = .ok (.iadd, 1) := by decide +kernel
theorem dL_law_1536 : decode cL_law 1536 = .ok (.iaload, 1) := by decide +kernel
theorem dL_law_1537 : decode cL_law 1537 = .ok (.i2l, 1) := by decide +kernel
theorem dL_law_1538 : decode cL_law 1538 = .ok (.bipush 32, 2) := by decide +kernel
theorem dL_law_1540 : decode cL_law 1540 = .ok (.lshl, 1) := by decide +kernel
theorem dL_law_1541 : decode cL_law 1541 = .ok (.aload_n 0, 1) := by decide +kernel
theorem dL_law_1542 : decode cL_law 1542 = .ok (.iload 4, 2) := by decide +kernel
theorem dL_law_1544 : decode cL_law 1544 = .ok (.iconst 2, 1) := by decide +kernel
theorem dL_law_1545 : decode cL_law 1545 = .ok (.iadd, 1) := by decide +kernel
theorem dL_law_1546 : decode cL_law 1546 = .ok (.iaload, 1) := by decide +kernel
theorem dL_law_1547 : decode cL_law 1547 = .ok (.i2l, 1) := by decide +kernel
theorem dL_law_1548 : decode cL_law 1548 = .ok (.ldc2_w 174, 3) := by decide +kernel
theorem dL_law_1551 : decode cL_law 1551 = .ok (.land, 1) := by decide +kernel
theorem dL_law_1552 : decode cL_law 1552 = .ok (.lor, 1) := by decide +kernel
theorem dL_law_1553 : decode cL_law 1553 = .ok (.aload_n 0, 1) := by decide +kernel
theorem dL_law_1554 : decode cL_law 1554 = .ok (.iload 4, 2) := by decide +kernel
theorem dL_law_1556 : decode cL_law 1556 = .ok (.iconst 3, 1) := by decide +kernel
theorem dL_law_1557 : decode cL_law 1557 = .ok (.iadd, 1) := by decide +kernel
theorem dL_law_1558 : decode cL_law 1558 = .ok (.iaload, 1) := by decide +kernel
theorem dL_law_1559 : decode cL_law 1559 = .ok (.invokevirtual 183, 3) := by decide +kernel
theorem dL_law_1562 : decode cL_law 1562 = .ok (.istore 6, 2) := by decide +kernel
theorem dL_law_1564 : decode cL_law 1564 = .ok (.aload_n 2, 1) := by decide +kernel
theorem dL_law_1565 : decode cL_law 1565 = .ok (.invokevirtual 101, 3) := by decide +kernel
theorem dL_law_1568 : decode cL_law 1568 = .ok (.iload 5, 2) := by decide +kernel
theorem dL_law_1570 : decode cL_law 1570 = .ok (.if_icmp .eq 5, 3) := by decide +kernel
theorem dL_law_1573 : decode cL_law 1573 = .ok (.iconst 0, 1) := by decide +kernel
theorem dL_law_1574 : decode cL_law 1574 = .ok (.ireturn, 1) := by decide +kernel
theorem dL_law_1575 : decode cL_law 1575 = .ok (.iload 5, 2) := by decide +kernel
theorem dL_law_1577 : decode cL_law 1577 = .ok (.ifCond .ne 15, 3) := by decide +kernel
theorem dL_law_1580 : decode cL_law 1580 = .ok (.aload_n 3, 1) := by decide +kernel
theorem dL_law_1581 : decode cL_law 1581 = .ok (.iconst 0, 1) := by decide +kernel
theorem dL_law_1582 : decode cL_law 1582 = .ok (.laload, 1) := by decide +kernel
theorem dL_law_1583 : decode cL_law 1583 = .ok (.iload 6, 2) := by decide +kernel
theorem dL_law_1585 : decode cL_law 1585 = .ok (.i2l, 1) := by decide +kernel
theorem dL_law_1586 : decode cL_law 1586 = .ok (.lcmp, 1) := by decide +kernel
theorem dL_law_1587 : decode cL_law 1587 = .ok (.ifCond .eq 5, 3) := by decide +kernel
theorem dL_law_1590 : decode cL_law 1590 = .ok (.iconst 0, 1) := by decide +kernel
theorem dL_law_1591 : decode cL_law 1591 = .ok (.ireturn, 1) := by decide +kernel
theorem dL_law_1592 : decode cL_law 1592 = .ok (.goto 115, 3) := by decide +kernel
theorem dL_law_1595 : decode cL_law 1595 = .ok (.aload_n 1, 1) := by decide +kernel
theorem dL_law_1596 : decode cL_law 1596 = .ok (.aload_n 0, 1) := by decide +kernel
theorem dL_law_1597 : decode cL_law 1597 = .ok (.iload 4, 2) := by decide +kernel
theorem dL_law_1599 : decode cL_law 1599 = .ok (.iconst 1, 1) := by decide +kernel
theorem dL_law_1600 : decode cL_law 1600 = .ok (.iadd, 1) := by decide +kernel
theorem dL_law_1601 : decode cL_law 1601 = .ok (.iaload, 1) := by decide +kernel
theorem dL_law_1602 : decode cL_law 1602 = .ok (.aload_n 3, 1) := by decide +kernel
theorem dL_law_1603 : decode cL_law 1603 = .ok (.invokestatic 184, 3) := by decide +kernel
theorem dL_law_1606 : decode cL_law 1606 = .ok (.istore 5, 2) := by decide +kernel
theorem dL_law_1608 : decode cL_law 1608 = .ok (.aload_n 2, 1) := by decide +kernel
theorem dL_law_1609 : decode cL_law 1609 = .ok (.aload_n 0, 1) := by decide +kernel
theorem dL_law_1610 : decode cL_law 1610 = .ok (.iload 4, 2) := by decide +kernel
theorem dL_law_1612 : decode cL_law 1612 = .ok (.iconst 1, 1) := by decide +kernel
theorem dL_law_1613 : decode cL_law 1613 = .ok (.iadd, 1) := by decide +kernel
theorem dL_law_1614 : decode cL_law 1614 = .ok (.iaload, 1) := by decide +kernel
theorem dL_law_1615 : decode cL_law 1615 = .ok (.invokevirtual 186, 3) := by decide +kernel
theorem dL_law_1618 : decode cL_law 1618 = .ok (.istore 6, 2) := by decide +kernel
theorem dL_law_1620 : decode cL_law 1620 = .ok (.aload_n 2, 1) := by decide +kernel
theorem dL_law_1621 : decode cL_law 1621 = .ok (.invokevirtual 101, 3) := by decide +kernel
theorem dL_law_1624 : decode cL_law 1624 = .ok (.iload 5, 2) := by decide +kernel
theorem dL_law_1626 : decode cL_law 1626 = .ok (.if_icmp .eq 5, 3) := by decide +kernel
theorem dL_law_1629 : decode cL_law 1629 = .ok (.iconst 0, 1) := by decide +kernel
theorem dL_law_1630 : decode cL_law 1630 = .ok (.ireturn, 1) := by decide +kernel
theorem dL_law_1631 : decode cL_law 1631 = .ok (.iload 5, 2) := by decide +kernel
theorem dL_law_1633 : decode cL_law 1633 = .ok (.ifCond .ne 15, 3) := by decide +kernel
theorem dL_law_1636 : decode cL_law 1636 = .ok (.aload_n 3, 1) := by decide +kernel
theorem dL_law_1637 : decode cL_law 1637 = .ok (.iconst 0, 1) := by decide +kernel
theorem dL_law_1638 : decode cL_law 1638 = .ok (.laload, 1) := by decide +kernel
theorem dL_law_1639 : decode cL_law 1639 = .ok (.iload 6, 2) := by decide +kernel
theorem dL_law_1641 : decode cL_law 1641 = .ok (.i2l, 1) := by decide +kernel
theorem dL_law_1642 : decode cL_law 1642 = .ok (.lcmp, 1) := by decide +kernel
theorem dL_law_1643 : decode cL_law 1643 = .ok (.ifCond .eq 5, 3) := by decide +kernel
theorem dL_law_1646 : decode cL_law 1646 = .ok (.iconst 0, 1) := by decide +kernel
theorem dL_law_1647 : decode cL_law 1647 = .ok (.ireturn, 1) := by decide +kernel
theorem dL_law_1648 : decode cL_law 1648 = .ok (.goto 59, 3) := by decide +kernel
theorem dL_law_1651 : decode cL_law 1651 = .ok (.aload_n 1, 1) := by decide +kernel
theorem dL_law_1652 : decode cL_law 1652 = .ok (.aload_n 0, 1) := by decide +kernel
theorem dL_law_1653 : decode cL_law 1653 = .ok (.iload 4, 2) := by decide +kernel
theorem dL_law_1655 : decode cL_law 1655 = .ok (.iconst 1, 1) := by decide +kernel
theorem dL_law_1656 : decode cL_law 1656 = .ok (.iadd, 1) := by decide +kernel
theorem dL_law_1657 : decode cL_law 1657 = .ok (.iaload, 1) := by decide +kernel
theorem dL_law_1658 : decode cL_law 1658 = .ok (.aload_n 3, 1) := by decide +kernel
theorem dL_law_1659 : decode cL_law 1659 = .ok (.invokestatic 187, 3) := by decide +kernel
theorem dL_law_1662 : decode cL_law 1662 = .ok (.istore 5, 2) := by decide +kernel
theorem dL_law_1664 : decode cL_law 1664 = .ok (.aload_n 2, 1) := by decide +kernel
theorem dL_law_1665 : decode cL_law 1665 = .ok (.aload_n 0, 1) := by decide +kernel
theorem dL_law_1666 : decode cL_law 1666 = .ok (.iload 4, 2) := by decide +kernel
theorem dL_law_1668 : decode cL_law 1668 = .ok (.iconst 1, 1) := by decide +kernel
theorem dL_law_1669 : decode cL_law 1669 = .ok (.iadd, 1) := by decide +kernel
theorem dL_law_1670 : decode cL_law 1670 = .ok (.iaload, 1) := by decide +kernel
theorem dL_law_1671 : decode cL_law 1671 = .ok (.invokevirtual 189, 3) := by decide +kernel
theorem dL_law_1674 : decode cL_law 1674 = .ok (.istore 6, 2) := by decide +kernel
theorem dL_law_1676 : decode cL_law 1676 = .ok (.aload_n 2, 1) := by decide +kernel
theorem dL_law_1677 : decode cL_law 1677 = .ok (.invokevirtual 101, 3) := by decide +kernel
theorem dL_law_1680 : decode cL_law 1680 = .ok (.iload 5, 2) := by decide +kernel
theorem dL_law_1682 : decode cL_law 1682 = .ok (.if_icmp .eq 5, 3) := by decide +kernel
theorem dL_law_1685 : decode cL_law 1685 = .ok (.iconst 0, 1) := by decide +kernel
theorem dL_law_1686 : decode cL_law 1686 = .ok (.ireturn, 1) := by decide +kernel
theorem dL_law_1687 : decode cL_law 1687 = .ok (.iload 5, 2) := by decide +kernel
theorem dL_law_1689 : decode cL_law 1689 = .ok (.ifCond .ne 15, 3) := by decide +kernel
theorem dL_law_1692 : decode cL_law 1692 = .ok (.aload_n 3, 1) := by decide +kernel
theorem dL_law_1693 : decode cL_law 1693 = .ok (.iconst 0, 1) := by decide +kernel
theorem dL_law_1694 : decode cL_law 1694 = .ok (.laload, 1) := by decide +kernel
theorem dL_law_1695 : decode cL_law 1695 = .ok (.iload 6, 2) := by decide +kernel
theorem dL_law_1697 : decode cL_law 1697 = .ok (.i2l, 1) := by decide +kernel
theorem dL_law_1698 : decode cL_law 1698 = .ok (.lcmp, 1) := by decide +kernel
theorem dL_law_1699 : decode cL_law 1699 = .ok (.ifCond .eq 5, 3) := by decide +kernel
theorem dL_law_1702 : decode cL_law 1702 = .ok (.iconst 0, 1) := by decide +kernel
theorem dL_law_1703 : decode cL_law 1703 = .ok (.ireturn, 1) := by decide +kernel
theorem dL_law_1704 : decode cL_law 1704 = .ok (.goto 3, 3) := by decide +kernel
theorem dL_law_1707 : decode cL_law 1707 = .ok (.iinc 4 4, 3) := by decide +kernel
theorem dL_law_1710 : decode cL_law 1710 = .ok (.goto (-1687), 3) := by decide +kernel
theorem dL_law_1713 : decode cL_law 1713 = .ok (.iconst 1, 1) := by decide +kernel
theorem dL_law_1714 : decode cL_law 1714 = .ok (.ireturn, 1) := by decide +kernel

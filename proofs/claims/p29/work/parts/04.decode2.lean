theorem dX3_send_199 : decode cX3_send 199 = .ok (.iload 9, 2) := by decide +kernel
theorem dX3_send_201 : decode cX3_send 201 = .ok (.bipush 6, 2) := by decide +kernel
theorem dX3_send_203 : decode cX3_send 203 = .ok (.iadd, 1) := by decide +kernel
theorem dX3_send_204 : decode cX3_send 204 = .ok (.aload_n 2, 1) := by decide +kernel
theorem dX3_send_205 : decode cX3_send 205 = .ok (.getfield 52, 3) := by decide +kernel
theorem dX3_send_208 : decode cX3_send 208 = .ok (.iastore, 1) := by decide +kernel
theorem dX3_send_209 : decode cX3_send 209 = .ok (.aload_n 0, 1) := by decide +kernel
theorem dX3_send_210 : decode cX3_send 210 = .ok (.getfield 15, 3) := by decide +kernel
theorem dX3_send_213 : decode cX3_send 213 = .ok (.iload 9, 2) := by decide +kernel
theorem dX3_send_215 : decode cX3_send 215 = .ok (.bipush 7, 2) := by decide +kernel
theorem dX3_send_217 : decode cX3_send 217 = .ok (.iadd, 1) := by decide +kernel
theorem dX3_send_218 : decode cX3_send 218 = .ok (.aload_n 2, 1) := by decide +kernel
theorem dX3_send_219 : decode cX3_send 219 = .ok (.getfield 55, 3) := by decide +kernel
theorem dX3_send_222 : decode cX3_send 222 = .ok (.iastore, 1) := by decide +kernel
theorem dX3_send_223 : decode cX3_send 223 = .ok (.aload_n 0, 1) := by decide +kernel
theorem dX3_send_224 : decode cX3_send 224 = .ok (.getfield 15, 3) := by decide +kernel
theorem dX3_send_227 : decode cX3_send 227 = .ok (.iload 9, 2) := by decide +kernel
theorem dX3_send_229 : decode cX3_send 229 = .ok (.bipush 8, 2) := by decide +kernel
theorem dX3_send_231 : decode cX3_send 231 = .ok (.iadd, 1) := by decide +kernel
theorem dX3_send_232 : decode cX3_send 232 = .ok (.aload_n 2, 1) := by decide +kernel
theorem dX3_send_233 : decode cX3_send 233 = .ok (.getfield 58, 3) := by decide +kernel
theorem dX3_send_236 : decode cX3_send 236 = .ok (.iastore, 1) := by decide +kernel
theorem dX3_send_237 : decode cX3_send 237 = .ok (.aload_n 0, 1) := by decide +kernel
theorem dX3_send_238 : decode cX3_send 238 = .ok (.dup, 1) := by decide +kernel
theorem dX3_send_239 : decode cX3_send 239 = .ok (.getfield 24, 3) := by decide +kernel
theorem dX3_send_242 : decode cX3_send 242 = .ok (.iconst 1, 1) := by decide +kernel
theorem dX3_send_243 : decode cX3_send 243 = .ok (.iadd, 1) := by decide +kernel
theorem dX3_send_244 : decode cX3_send 244 = .ok (.putfield 24, 3) := by decide +kernel
theorem dX3_send_247 : decode cX3_send 247 = .ok (.return_, 1) := by decide +kernel
theorem dX3_isDue_0 : decode cX3_isDue 0 = .ok (.aload_n 0, 1) := by decide +kernel
theorem dX3_isDue_1 : decode cX3_isDue 1 = .ok (.getfield 24, 3) := by decide +kernel
theorem dX3_isDue_4 : decode cX3_isDue 4 = .ok (.ifCond .le 17, 3) := by decide +kernel
theorem dX3_isDue_7 : decode cX3_isDue 7 = .ok (.aload_n 0, 1) := by decide +kernel
theorem dX3_isDue_8 : decode cX3_isDue 8 = .ok (.getfield 15, 3) := by decide +kernel
theorem dX3_isDue_11 : decode cX3_isDue 11 = .ok (.iconst 3, 1) := by decide +kernel
theorem dX3_isDue_12 : decode cX3_isDue 12 = .ok (.iaload, 1) := by decide +kernel
theorem dX3_isDue_13 : decode cX3_isDue 13 = .ok (.iload_n 1, 1) := by decide +kernel
theorem dX3_isDue_14 : decode cX3_isDue 14 = .ok (.if_icmp .gt 7, 3) := by decide +kernel
theorem dX3_isDue_17 : decode cX3_isDue 17 = .ok (.iconst 1, 1) := by decide +kernel
theorem dX3_isDue_18 : decode cX3_isDue 18 = .ok (.goto 4, 3) := by decide +kernel
theorem dX3_isDue_21 : decode cX3_isDue 21 = .ok (.iconst 0, 1) := by decide +kernel
theorem dX3_isDue_22 : decode cX3_isDue 22 = .ok (.ireturn, 1) := by decide +kernel
theorem dX3_takeFirst_0 : decode cX3_takeFirst 0 = .ok (.aload_n 0, 1) := by decide +kernel
theorem dX3_takeFirst_1 : decode cX3_takeFirst 1 = .ok (.getfield 24, 3) := by decide +kernel
theorem dX3_takeFirst_4 : decode cX3_takeFirst 4 = .ok (.ifCond .le 46, 3) := by decide +kernel
theorem dX3_takeFirst_7 : decode cX3_takeFirst 7 = .ok (.aload_n 0, 1) := by decide +kernel
theorem dX3_takeFirst_8 : decode cX3_takeFirst 8 = .ok (.dup, 1) := by decide +kernel
theorem dX3_takeFirst_9 : decode cX3_takeFirst 9 = .ok (.getfield 24, 3) := by decide +kernel
theorem dX3_takeFirst_12 : decode cX3_takeFirst 12 = .ok (.iconst 1, 1) := by decide +kernel
theorem dX3_takeFirst_13 : decode cX3_takeFirst 13 = .ok (.isub, 1) := by decide +kernel
theorem dX3_takeFirst_14 : decode cX3_takeFirst 14 = .ok (.putfield 24, 3) := by decide +kernel
theorem dX3_takeFirst_17 : decode cX3_takeFirst 17 = .ok (.aload_n 0, 1) := by decide +kernel
theorem dX3_takeFirst_18 : decode cX3_takeFirst 18 = .ok (.getfield 15, 3) := by decide +kernel
theorem dX3_takeFirst_21 : decode cX3_takeFirst 21 = .ok (.iconst 0, 1) := by decide +kernel
theorem dX3_takeFirst_22 : decode cX3_takeFirst 22 = .ok (.aload_n 1, 1) := by decide +kernel
theorem dX3_takeFirst_23 : decode cX3_takeFirst 23 = .ok (.iconst 0, 1) := by decide +kernel
theorem dX3_takeFirst_24 : decode cX3_takeFirst 24 = .ok (.bipush 9, 2) := by decide +kernel
theorem dX3_takeFirst_26 : decode cX3_takeFirst 26 = .ok (.invokestatic 18, 3) := by decide +kernel
theorem dX3_takeFirst_29 : decode cX3_takeFirst 29 = .ok (.aload_n 0, 1) := by decide +kernel
theorem dX3_takeFirst_30 : decode cX3_takeFirst 30 = .ok (.getfield 15, 3) := by decide +kernel
theorem dX3_takeFirst_33 : decode cX3_takeFirst 33 = .ok (.bipush 9, 2) := by decide +kernel
theorem dX3_takeFirst_35 : decode cX3_takeFirst 35 = .ok (.aload_n 0, 1) := by decide +kernel
theorem dX3_takeFirst_36 : decode cX3_takeFirst 36 = .ok (.getfield 15, 3) := by decide +kernel
theorem dX3_takeFirst_39 : decode cX3_takeFirst 39 = .ok (.iconst 0, 1) := by decide +kernel
theorem dX3_takeFirst_40 : decode cX3_takeFirst 40 = .ok (.aload_n 0, 1) := by decide +kernel
theorem dX3_takeFirst_41 : decode cX3_takeFirst 41 = .ok (.getfield 24, 3) := by decide +kernel
theorem dX3_takeFirst_44 : decode cX3_takeFirst 44 = .ok (.bipush 9, 2) := by decide +kernel
theorem dX3_takeFirst_46 : decode cX3_takeFirst 46 = .ok (.imul, 1) := by decide +kernel
theorem dX3_takeFirst_47 : decode cX3_takeFirst 47 = .ok (.invokestatic 18, 3) := by decide +kernel
theorem dX3_takeFirst_50 : decode cX3_takeFirst 50 = .ok (.return_, 1) := by decide +kernel
theorem dX4_init_0 : decode cX4_init 0 = .ok (.aload_n 0, 1) := by decide +kernel
theorem dX4_init_1 : decode cX4_init 1 = .ok (.invokespecial 1, 3) := by decide +kernel
theorem dX4_init_4 : decode cX4_init 4 = .ok (.aload_n 0, 1) := by decide +kernel
theorem dX4_init_5 : decode cX4_init 5 = .ok (.iload_n 1, 1) := by decide +kernel
theorem dX4_init_6 : decode cX4_init 6 = .ok (.newarray .int, 2) := by decide +kernel
theorem dX4_init_8 : decode cX4_init 8 = .ok (.putfield 7, 3) := by decide +kernel
theorem dX4_init_11 : decode cX4_init 11 = .ok (.aload_n 0, 1) := by decide +kernel
theorem dX4_init_12 : decode cX4_init 12 = .ok (.iload_n 1, 1) := by decide +kernel
theorem dX4_init_13 : decode cX4_init 13 = .ok (.newarray .int, 2) := by decide +kernel
theorem dX4_init_15 : decode cX4_init 15 = .ok (.putfield 13, 3) := by decide +kernel
theorem dX4_init_18 : decode cX4_init 18 = .ok (.aload_n 0, 1) := by decide +kernel
theorem dX4_init_19 : decode cX4_init 19 = .ok (.iload_n 1, 1) := by decide +kernel
theorem dX4_init_20 : decode cX4_init 20 = .ok (.newarray .int, 2) := by decide +kernel
theorem dX4_init_22 : decode cX4_init 22 = .ok (.putfield 16, 3) := by decide +kernel
theorem dX4_init_25 : decode cX4_init 25 = .ok (.return_, 1) := by decide +kernel
theorem dX4_copyFrom_0 : decode cX4_copyFrom 0 = .ok (.aload_n 0, 1) := by decide +kernel
theorem dX4_copyFrom_1 : decode cX4_copyFrom 1 = .ok (.getfield 7, 3) := by decide +kernel
theorem dX4_copyFrom_4 : decode cX4_copyFrom 4 = .ok (.arraylength, 1) := by decide +kernel
theorem dX4_copyFrom_5 : decode cX4_copyFrom 5 = .ok (.aload_n 1, 1) := by decide +kernel
theorem dX4_copyFrom_6 : decode cX4_copyFrom 6 = .ok (.getfield 7, 3) := by decide +kernel
theorem dX4_copyFrom_9 : decode cX4_copyFrom 9 = .ok (.arraylength, 1) := by decide +kernel
theorem dX4_copyFrom_10 : decode cX4_copyFrom 10 = .ok (.invokestatic 19, 3) := by decide +kernel
theorem dX4_copyFrom_13 : decode cX4_copyFrom 13 = .ok (.istore_n 2, 1) := by decide +kernel
theorem dX4_copyFrom_14 : decode cX4_copyFrom 14 = .ok (.aload_n 1, 1) := by decide +kernel
theorem dX4_copyFrom_15 : decode cX4_copyFrom 15 = .ok (.getfield 7, 3) := by decide +kernel
theorem dX4_copyFrom_18 : decode cX4_copyFrom 18 = .ok (.iconst 0, 1) := by decide +kernel
theorem dX4_copyFrom_19 : decode cX4_copyFrom 19 = .ok (.aload_n 0, 1) := by decide +kernel
theorem dX4_copyFrom_20 : decode cX4_copyFrom 20 = .ok (.getfield 7, 3) := by decide +kernel
theorem dX4_copyFrom_23 : decode cX4_copyFrom 23 = .ok (.iconst 0, 1) := by decide +kernel
theorem dX4_copyFrom_24 : decode cX4_copyFrom 24 = .ok (.iload_n 2, 1) := by decide +kernel
theorem dX4_copyFrom_25 : decode cX4_copyFrom 25 = .ok (.invokestatic 25, 3) := by decide +kernel
theorem dX4_copyFrom_28 : decode cX4_copyFrom 28 = .ok (.aload_n 1, 1) := by decide +kernel
theorem dX4_copyFrom_29 : decode cX4_copyFrom 29 = .ok (.getfield 13, 3) := by decide +kernel
theorem dX4_copyFrom_32 : decode cX4_copyFrom 32 = .ok (.iconst 0, 1) := by decide +kernel
theorem dX4_copyFrom_33 : decode cX4_copyFrom 33 = .ok (.aload_n 0, 1) := by decide +kernel
theorem dX4_copyFrom_34 : decode cX4_copyFrom 34 = .ok (.getfield 13, 3) := by decide +kernel
theorem dX4_copyFrom_37 : decode cX4_copyFrom 37 = .ok (.iconst 0, 1) := by decide +kernel
theorem dX4_copyFrom_38 : decode cX4_copyFrom 38 = .ok (.iload_n 2, 1) := by decide +kernel
theorem dX4_copyFrom_39 : decode cX4_copyFrom 39 = .ok (.invokestatic 25, 3) := by decide +kernel
theorem dX4_copyFrom_42 : decode cX4_copyFrom 42 = .ok (.aload_n 1, 1) := by decide +kernel
theorem dX4_copyFrom_43 : decode cX4_copyFrom 43 = .ok (.getfield 16, 3) := by decide +kernel
theorem dX4_copyFrom_46 : decode cX4_copyFrom 46 = .ok (.iconst 0, 1) := by decide +kernel
theorem dX4_copyFrom_47 : decode cX4_copyFrom 47 = .ok (.aload_n 0, 1) := by decide +kernel
theorem dX4_copyFrom_48 : decode cX4_copyFrom 48 = .ok (.getfield 16, 3) := by decide +kernel
theorem dX4_copyFrom_51 : decode cX4_copyFrom 51 = .ok (.iconst 0, 1) := by decide +kernel
theorem dX4_copyFrom_52 : decode cX4_copyFrom 52 = .ok (.iload_n 2, 1) := by decide +kernel
theorem dX4_copyFrom_53 : decode cX4_copyFrom 53 = .ok (.invokestatic 25, 3) := by decide +kernel
theorem dX4_copyFrom_56 : decode cX4_copyFrom 56 = .ok (.aload_n 0, 1) := by decide +kernel
theorem dX4_copyFrom_57 : decode cX4_copyFrom 57 = .ok (.aload_n 1, 1) := by decide +kernel
theorem dX4_copyFrom_58 : decode cX4_copyFrom 58 = .ok (.getfield 31, 3) := by decide +kernel
theorem dX4_copyFrom_61 : decode cX4_copyFrom 61 = .ok (.putfield 31, 3) := by decide +kernel
theorem dX4_copyFrom_64 : decode cX4_copyFrom 64 = .ok (.return_, 1) := by decide +kernel
theorem dX4_isFull_0 : decode cX4_isFull 0 = .ok (.aload_n 0, 1) := by decide +kernel
theorem dX4_isFull_1 : decode cX4_isFull 1 = .ok (.getfield 31, 3) := by decide +kernel
theorem dX4_isFull_4 : decode cX4_isFull 4 = .ok (.aload_n 0, 1) := by decide +kernel
theorem dX4_isFull_5 : decode cX4_isFull 5 = .ok (.getfield 7, 3) := by decide +kernel
theorem dX4_isFull_8 : decode cX4_isFull 8 = .ok (.arraylength, 1) := by decide +kernel
theorem dX4_isFull_9 : decode cX4_isFull 9 = .ok (.if_icmp .lt 7, 3) := by decide +kernel
theorem dX4_isFull_12 : decode cX4_isFull 12 = .ok (.iconst 1, 1) := by decide +kernel
theorem dX4_isFull_13 : decode cX4_isFull 13 = .ok (.goto 4, 3) := by decide +kernel
theorem dX4_isFull_16 : decode cX4_isFull 16 = .ok (.iconst 0, 1) := by decide +kernel
theorem dX4_isFull_17 : decode cX4_isFull 17 = .ok (.ireturn, 1) := by decide +kernel
theorem dX4_put_0 : decode cX4_put 0 = .ok (.iload_n 1, 1) := by decide +kernel
theorem dX4_put_1 : decode cX4_put 1 = .ok (.ifCond .lt 34, 3) := by decide +kernel
theorem dX4_put_4 : decode cX4_put 4 = .ok (.iload_n 1, 1) := by decide +kernel
theorem dX4_put_5 : decode cX4_put 5 = .ok (.aload_n 0, 1) := by decide +kernel
theorem dX4_put_6 : decode cX4_put 6 = .ok (.getfield 7, 3) := by decide +kernel
theorem dX4_put_9 : decode cX4_put 9 = .ok (.arraylength, 1) := by decide +kernel
theorem dX4_put_10 : decode cX4_put 10 = .ok (.if_icmp .ge 25, 3) := by decide +kernel
theorem dX4_put_13 : decode cX4_put 13 = .ok (.aload_n 0, 1) := by decide +kernel
theorem dX4_put_14 : decode cX4_put 14 = .ok (.getfield 7, 3) := by decide +kernel
theorem dX4_put_17 : decode cX4_put 17 = .ok (.iload_n 1, 1) := by decide +kernel
theorem dX4_put_18 : decode cX4_put 18 = .ok (.iload_n 2, 1) := by decide +kernel
theorem dX4_put_19 : decode cX4_put 19 = .ok (.iastore, 1) := by decide +kernel
theorem dX4_put_20 : decode cX4_put 20 = .ok (.aload_n 0, 1) := by decide +kernel
theorem dX4_put_21 : decode cX4_put 21 = .ok (.getfield 13, 3) := by decide +kernel
theorem dX4_put_24 : decode cX4_put 24 = .ok (.iload_n 1, 1) := by decide +kernel
theorem dX4_put_25 : decode cX4_put 25 = .ok (.iload_n 3, 1) := by decide +kernel
theorem dX4_put_26 : decode cX4_put 26 = .ok (.iastore, 1) := by decide +kernel
theorem dX4_put_27 : decode cX4_put 27 = .ok (.aload_n 0, 1) := by decide +kernel
theorem dX4_put_28 : decode cX4_put 28 = .ok (.getfield 16, 3) := by decide +kernel
theorem dX4_put_31 : decode cX4_put 31 = .ok (.iload_n 1, 1) := by decide +kernel
theorem dX4_put_32 : decode cX4_put 32 = .ok (.iload 4, 2) := by decide +kernel
theorem dX4_put_34 : decode cX4_put 34 = .ok (.iastore, 1) := by decide +kernel
theorem dX4_put_35 : decode cX4_put 35 = .ok (.return_, 1) := by decide +kernel
theorem dX4_add_0 : decode cX4_add 0 = .ok (.aload_n 0, 1) := by decide +kernel
theorem dX4_add_1 : decode cX4_add 1 = .ok (.getfield 7, 3) := by decide +kernel
theorem dX4_add_4 : decode cX4_add 4 = .ok (.arraylength, 1) := by decide +kernel
theorem dX4_add_5 : decode cX4_add 5 = .ok (.iconst 1, 1) := by decide +kernel
theorem dX4_add_6 : decode cX4_add 6 = .ok (.isub, 1) := by decide +kernel
theorem dX4_add_7 : decode cX4_add 7 = .ok (.istore 4, 2) := by decide +kernel
theorem dX4_add_9 : decode cX4_add 9 = .ok (.aload_n 0, 1) := by decide +kernel
theorem dX4_add_10 : decode cX4_add 10 = .ok (.getfield 31, 3) := by decide +kernel
theorem dX4_add_13 : decode cX4_add 13 = .ok (.iload 4, 2) := by decide +kernel
theorem dX4_add_15 : decode cX4_add 15 = .ok (.if_icmp .le 73, 3) := by decide +kernel
theorem dX4_add_18 : decode cX4_add 18 = .ok (.iconst 0, 1) := by decide +kernel
theorem dX4_add_19 : decode cX4_add 19 = .ok (.istore 5, 2) := by decide +kernel
theorem dX4_add_21 : decode cX4_add 21 = .ok (.iload 5, 2) := by decide +kernel
theorem dX4_add_23 : decode cX4_add 23 = .ok (.iload 4, 2) := by decide +kernel
theorem dX4_add_25 : decode cX4_add 25 = .ok (.if_icmp .ge 57, 3) := by decide +kernel
theorem dX4_add_28 : decode cX4_add 28 = .ok (.aload_n 0, 1) := by decide +kernel
theorem dX4_add_29 : decode cX4_add 29 = .ok (.getfield 7, 3) := by decide +kernel
theorem dX4_add_32 : decode cX4_add 32 = .ok (.iload 5, 2) := by decide +kernel
theorem dX4_add_34 : decode cX4_add 34 = .ok (.aload_n 0, 1) := by decide +kernel
theorem dX4_add_35 : decode cX4_add 35 = .ok (.getfield 7, 3) := by decide +kernel
theorem dX4_add_38 : decode cX4_add 38 = .ok (.iload 5, 2) := by decide +kernel
theorem dX4_add_40 : decode cX4_add 40 = .ok (.iconst 1, 1) := by decide +kernel
theorem dX4_add_41 : decode cX4_add 41 = .ok (.iadd, 1) := by decide +kernel
theorem dX4_add_42 : decode cX4_add 42 = .ok (.iaload, 1) := by decide +kernel
theorem dX4_add_43 : decode cX4_add 43 = .ok (.iastore, 1) := by decide +kernel
theorem dX4_add_44 : decode cX4_add 44 = .ok (.aload_n 0, 1) := by decide +kernel
theorem dX4_add_45 : decode cX4_add 45 = .ok (.getfield 13, 3) := by decide +kernel
theorem dX4_add_48 : decode cX4_add 48 = .ok (.iload 5, 2) := by decide +kernel
theorem dX4_add_50 : decode cX4_add 50 = .ok (.aload_n 0, 1) := by decide +kernel
theorem dX4_add_51 : decode cX4_add 51 = .ok (.getfield 13, 3) := by decide +kernel
theorem dX4_add_54 : decode cX4_add 54 = .ok (.iload 5, 2) := by decide +kernel
theorem dX4_add_56 : decode cX4_add 56 = .ok (.iconst 1, 1) := by decide +kernel
theorem dX4_add_57 : decode cX4_add 57 = .ok (.iadd, 1) := by decide +kernel
theorem dX4_add_58 : decode cX4_add 58 = .ok (.iaload, 1) := by decide +kernel
theorem dX4_add_59 : decode cX4_add 59 = .ok (.iastore, 1) := by decide +kernel
theorem dX4_add_60 : decode cX4_add 60 = .ok (.aload_n 0, 1) := by decide +kernel
theorem dX4_add_61 : decode cX4_add 61 = .ok (.getfield 16, 3) := by decide +kernel
theorem dX4_add_64 : decode cX4_add 64 = .ok (.iload 5, 2) := by decide +kernel
theorem dX4_add_66 : decode cX4_add 66 = .ok (.aload_n 0, 1) := by decide +kernel
theorem dX4_add_67 : decode cX4_add 67 = .ok (.getfield 16, 3) := by decide +kernel
theorem dX4_add_70 : decode cX4_add 70 = .ok (.iload 5, 2) := by decide +kernel
theorem dX4_add_72 : decode cX4_add 72 = .ok (.iconst 1, 1) := by decide +kernel
theorem dX4_add_73 : decode cX4_add 73 = .ok (.iadd, 1) := by decide +kernel
theorem dX4_add_74 : decode cX4_add 74 = .ok (.iaload, 1) := by decide +kernel
theorem dX4_add_75 : decode cX4_add 75 = .ok (.iastore, 1) := by decide +kernel
theorem dX4_add_76 : decode cX4_add 76 = .ok (.iinc 5 1, 3) := by decide +kernel
theorem dX4_add_79 : decode cX4_add 79 = .ok (.goto (-58), 3) := by decide +kernel
theorem dX4_add_82 : decode cX4_add 82 = .ok (.aload_n 0, 1) := by decide +kernel
theorem dX4_add_83 : decode cX4_add 83 = .ok (.iload 4, 2) := by decide +kernel
theorem dX4_add_85 : decode cX4_add 85 = .ok (.putfield 31, 3) := by decide +kernel
theorem dX4_add_88 : decode cX4_add 88 = .ok (.aload_n 0, 1) := by decide +kernel
theorem dX4_add_89 : decode cX4_add 89 = .ok (.getfield 7, 3) := by decide +kernel
theorem dX4_add_92 : decode cX4_add 92 = .ok (.aload_n 0, 1) := by decide +kernel
theorem dX4_add_93 : decode cX4_add 93 = .ok (.getfield 31, 3) := by decide +kernel
theorem dX4_add_96 : decode cX4_add 96 = .ok (.iload_n 1, 1) := by decide +kernel
theorem dX4_add_97 : decode cX4_add 97 = .ok (.iastore, 1) := by decide +kernel
theorem dX4_add_98 : decode cX4_add 98 = .ok (.aload_n 0, 1) := by decide +kernel
theorem dX4_add_99 : decode cX4_add 99 = .ok (.getfield 13, 3) := by decide +kernel
theorem dX4_add_102 : decode cX4_add 102 = .ok (.aload_n 0, 1) := by decide +kernel
theorem dX4_add_103 : decode cX4_add 103 = .ok (.getfield 31, 3) := by decide +kernel
theorem dX4_add_106 : decode cX4_add 106 = .ok (.iload_n 2, 1) := by decide +kernel
theorem dX4_add_107 : decode cX4_add 107 = .ok (.iastore, 1) := by decide +kernel
theorem dX4_add_108 : decode cX4_add 108 = .ok (.aload_n 0, 1) := by decide +kernel
theorem dX4_add_109 : decode cX4_add 109 = .ok (.getfield 16, 3) := by decide +kernel
theorem dX4_add_112 : decode cX4_add 112 = .ok (.aload_n 0, 1) := by decide +kernel
theorem dX4_add_113 : decode cX4_add 113 = .ok (.getfield 31, 3) := by decide +kernel
theorem dX4_add_116 : decode cX4_add 116 = .ok (.iload_n 3, 1) := by decide +kernel
theorem dX4_add_117 : decode cX4_add 117 = .ok (.iastore, 1) := by decide +kernel
theorem dX4_add_118 : decode cX4_add 118 = .ok (.aload_n 0, 1) := by decide +kernel
theorem dX4_add_119 : decode cX4_add 119 = .ok (.dup, 1) := by decide +kernel
theorem dX4_add_120 : decode cX4_add 120 = .ok (.getfield 31, 3) := by decide +kernel
theorem dX4_add_123 : decode cX4_add 123 = .ok (.iconst 1, 1) := by decide +kernel
theorem dX4_add_124 : decode cX4_add 124 = .ok (.iadd, 1) := by decide +kernel
theorem dX4_add_125 : decode cX4_add 125 = .ok (.putfield 31, 3) := by decide +kernel
theorem dX4_add_128 : decode cX4_add 128 = .ok (.return_, 1) := by decide +kernel
theorem dX4_takeUpTo_0 : decode cX4_takeUpTo 0 = .ok (.iconst 0, 1) := by decide +kernel
theorem dX4_takeUpTo_1 : decode cX4_takeUpTo 1 = .ok (.istore_n 3, 1) := by decide +kernel
theorem dX4_takeUpTo_2 : decode cX4_takeUpTo 2 = .ok (.iconst 0, 1) := by decide +kernel
theorem dX4_takeUpTo_3 : decode cX4_takeUpTo 3 = .ok (.istore 4, 2) := by decide +kernel
theorem dX4_takeUpTo_5 : decode cX4_takeUpTo 5 = .ok (.iconst 0, 1) := by decide +kernel
theorem dX4_takeUpTo_6 : decode cX4_takeUpTo 6 = .ok (.istore 5, 2) := by decide +kernel
theorem dX4_takeUpTo_8 : decode cX4_takeUpTo 8 = .ok (.iload 5, 2) := by decide +kernel
theorem dX4_takeUpTo_10 : decode cX4_takeUpTo 10 = .ok (.aload_n 0, 1) := by decide +kernel
theorem dX4_takeUpTo_11 : decode cX4_takeUpTo 11 = .ok (.getfield 31, 3) := by decide +kernel
theorem dX4_takeUpTo_14 : decode cX4_takeUpTo 14 = .ok (.if_icmp .ge 100, 3) := by decide +kernel
theorem dX4_takeUpTo_17 : decode cX4_takeUpTo 17 = .ok (.aload_n 0, 1) := by decide +kernel
theorem dX4_takeUpTo_18 : decode cX4_takeUpTo 18 = .ok (.getfield 7, 3) := by decide +kernel
theorem dX4_takeUpTo_21 : decode cX4_takeUpTo 21 = .ok (.iload 5, 2) := by decide +kernel
theorem dX4_takeUpTo_23 : decode cX4_takeUpTo 23 = .ok (.iaload, 1) := by decide +kernel
theorem dX4_takeUpTo_24 : decode cX4_takeUpTo 24 = .ok (.iload_n 1, 1) := by decide +kernel
theorem dX4_takeUpTo_25 : decode cX4_takeUpTo 25 = .ok (.if_icmp .le 51, 3) := by decide +kernel
theorem dX4_takeUpTo_28 : decode cX4_takeUpTo 28 = .ok (.aload_n 0, 1) := by decide +kernel
theorem dX4_takeUpTo_29 : decode cX4_takeUpTo 29 = .ok (.getfield 7, 3) := by decide +kernel
theorem dX4_takeUpTo_32 : decode cX4_takeUpTo 32 = .ok (.iload 4, 2) := by decide +kernel
theorem dX4_takeUpTo_34 : decode cX4_takeUpTo 34 = .ok (.aload_n 0, 1) := by decide +kernel
theorem dX4_takeUpTo_35 : decode cX4_takeUpTo 35 = .ok (.getfield 7, 3) := by decide +kernel
theorem dX4_takeUpTo_38 : decode cX4_takeUpTo 38 = .ok (.iload 5, 2) := by decide +kernel
theorem dX4_takeUpTo_40 : decode cX4_takeUpTo 40 = .ok (.iaload, 1) := by decide +kernel
theorem dX4_takeUpTo_41 : decode cX4_takeUpTo 41 = .ok (.iastore, 1) := by decide +kernel
theorem dX4_takeUpTo_42 : decode cX4_takeUpTo 42 = .ok (.aload_n 0, 1) := by decide +kernel
theorem dX4_takeUpTo_43 : decode cX4_takeUpTo 43 = .ok (.getfield 13, 3) := by decide +kernel
theorem dX4_takeUpTo_46 : decode cX4_takeUpTo 46 = .ok (.iload 4, 2) := by decide +kernel
theorem dX4_takeUpTo_48 : decode cX4_takeUpTo 48 = .ok (.aload_n 0, 1) := by decide +kernel
theorem dX4_takeUpTo_49 : decode cX4_takeUpTo 49 = .ok (.getfield 13, 3) := by decide +kernel
theorem dX4_takeUpTo_52 : decode cX4_takeUpTo 52 = .ok (.iload 5, 2) := by decide +kernel
theorem dX4_takeUpTo_54 : decode cX4_takeUpTo 54 = .ok (.iaload, 1) := by decide +kernel
theorem dX4_takeUpTo_55 : decode cX4_takeUpTo 55 = .ok (.iastore, 1) := by decide +kernel
theorem dX4_takeUpTo_56 : decode cX4_takeUpTo 56 = .ok (.aload_n 0, 1) := by decide +kernel
theorem dX4_takeUpTo_57 : decode cX4_takeUpTo 57 = .ok (.getfield 16, 3) := by decide +kernel
theorem dX4_takeUpTo_60 : decode cX4_takeUpTo 60 = .ok (.iload 4, 2) := by decide +kernel
theorem dX4_takeUpTo_62 : decode cX4_takeUpTo 62 = .ok (.aload_n 0, 1) := by decide +kernel
theorem dX4_takeUpTo_63 : decode cX4_takeUpTo 63 = .ok (.getfield 16, 3) := by decide +kernel
theorem dX4_takeUpTo_66 : decode cX4_takeUpTo 66 = .ok (.iload 5, 2) := by decide +kernel
theorem dX4_takeUpTo_68 : decode cX4_takeUpTo 68 = .ok (.iaload, 1) := by decide +kernel
theorem dX4_takeUpTo_69 : decode cX4_takeUpTo 69 = .ok (.iastore, 1) := by decide +kernel
theorem dX4_takeUpTo_70 : decode cX4_takeUpTo 70 = .ok (.iinc 4 1, 3) := by decide +kernel
theorem dX4_takeUpTo_73 : decode cX4_takeUpTo 73 = .ok (.goto 35, 3) := by decide +kernel
theorem dX4_takeUpTo_76 : decode cX4_takeUpTo 76 = .ok (.aload_n 0, 1) := by decide +kernel
theorem dX4_takeUpTo_77 : decode cX4_takeUpTo 77 = .ok (.getfield 7, 3) := by decide +kernel
theorem dX4_takeUpTo_80 : decode cX4_takeUpTo 80 = .ok (.iload 5, 2) := by decide +kernel
theorem dX4_takeUpTo_82 : decode cX4_takeUpTo 82 = .ok (.iaload, 1) := by decide +kernel
theorem dX4_takeUpTo_83 : decode cX4_takeUpTo 83 = .ok (.iload_n 1, 1) := by decide +kernel
theorem dX4_takeUpTo_84 : decode cX4_takeUpTo 84 = .ok (.if_icmp .ne 24, 3) := by decide +kernel
theorem dX4_takeUpTo_87 : decode cX4_takeUpTo 87 = .ok (.aload_n 0, 1) := by decide +kernel
theorem dX4_takeUpTo_88 : decode cX4_takeUpTo 88 = .ok (.getfield 13, 3) := by decide +kernel
theorem dX4_takeUpTo_91 : decode cX4_takeUpTo 91 = .ok (.iload 5, 2) := by decide +kernel
theorem dX4_takeUpTo_93 : decode cX4_takeUpTo 93 = .ok (.iaload, 1) := by decide +kernel
theorem dX4_takeUpTo_94 : decode cX4_takeUpTo 94 = .ok (.iload_n 2, 1) := by decide +kernel
theorem dX4_takeUpTo_95 : decode cX4_takeUpTo 95 = .ok (.if_icmp .ne 13, 3) := by decide +kernel
theorem dX4_takeUpTo_98 : decode cX4_takeUpTo 98 = .ok (.iload_n 3, 1) := by decide +kernel
theorem dX4_takeUpTo_99 : decode cX4_takeUpTo 99 = .ok (.aload_n 0, 1) := by decide +kernel
theorem dX4_takeUpTo_100 : decode cX4_takeUpTo 100 = .ok (.getfield 16, 3) := by decide +kernel
theorem dX4_takeUpTo_103 : decode cX4_takeUpTo 103 = .ok (.iload 5, 2) := by decide +kernel
theorem dX4_takeUpTo_105 : decode cX4_takeUpTo 105 = .ok (.iaload, 1) := by decide +kernel
theorem dX4_takeUpTo_106 : decode cX4_takeUpTo 106 = .ok (.ior, 1) := by decide +kernel
theorem dX4_takeUpTo_107 : decode cX4_takeUpTo 107 = .ok (.istore_n 3, 1) := by decide +kernel
theorem dX4_takeUpTo_108 : decode cX4_takeUpTo 108 = .ok (.iinc 5 1, 3) := by decide +kernel
theorem dX4_takeUpTo_111 : decode cX4_takeUpTo 111 = .ok (.goto (-103), 3) := by decide +kernel
theorem dX4_takeUpTo_114 : decode cX4_takeUpTo 114 = .ok (.aload_n 0, 1) := by decide +kernel
theorem dX4_takeUpTo_115 : decode cX4_takeUpTo 115 = .ok (.iload 4, 2) := by decide +kernel
theorem dX4_takeUpTo_117 : decode cX4_takeUpTo 117 = .ok (.putfield 31, 3) := by decide +kernel
theorem dX4_takeUpTo_120 : decode cX4_takeUpTo 120 = .ok (.iload_n 3, 1) := by decide +kernel
theorem dX4_takeUpTo_121 : decode cX4_takeUpTo 121 = .ok (.ireturn, 1) := by decide +kernel
theorem dX4_heardLike_0 : decode cX4_heardLike 0 = .ok (.iconst 0, 1) := by decide +kernel
theorem dX4_heardLike_1 : decode cX4_heardLike 1 = .ok (.istore_n 3, 1) := by decide +kernel
theorem dX4_heardLike_2 : decode cX4_heardLike 2 = .ok (.iconst 0, 1) := by decide +kernel
theorem dX4_heardLike_3 : decode cX4_heardLike 3 = .ok (.istore 4, 2) := by decide +kernel
theorem dX4_heardLike_5 : decode cX4_heardLike 5 = .ok (.iload 4, 2) := by decide +kernel
theorem dX4_heardLike_7 : decode cX4_heardLike 7 = .ok (.aload_n 0, 1) := by decide +kernel
theorem dX4_heardLike_8 : decode cX4_heardLike 8 = .ok (.getfield 7, 3) := by decide +kernel
theorem dX4_heardLike_11 : decode cX4_heardLike 11 = .ok (.arraylength, 1) := by decide +kernel
theorem dX4_heardLike_12 : decode cX4_heardLike 12 = .ok (.if_icmp .ge 60, 3) := by decide +kernel
theorem dX4_heardLike_15 : decode cX4_heardLike 15 = .ok (.iload_n 2, 1) := by decide +kernel
theorem dX4_heardLike_16 : decode cX4_heardLike 16 = .ok (.iload 4, 2) := by decide +kernel
theorem dX4_heardLike_18 : decode cX4_heardLike 18 = .ok (.invokestatic 35, 3) := by decide +kernel
theorem dX4_heardLike_21 : decode cX4_heardLike 21 = .ok (.ifCond .eq 45, 3) := by decide +kernel
theorem dX4_heardLike_24 : decode cX4_heardLike 24 = .ok (.aload_n 0, 1) := by decide +kernel
theorem dX4_heardLike_25 : decode cX4_heardLike 25 = .ok (.getfield 7, 3) := by decide +kernel
theorem dX4_heardLike_28 : decode cX4_heardLike 28 = .ok (.iload 4, 2) := by decide +kernel
theorem dX4_heardLike_30 : decode cX4_heardLike 30 = .ok (.iaload, 1) := by decide +kernel
theorem dX4_heardLike_31 : decode cX4_heardLike 31 = .ok (.aload_n 0, 1) := by decide +kernel
theorem dX4_heardLike_32 : decode cX4_heardLike 32 = .ok (.getfield 7, 3) := by decide +kernel
theorem dX4_heardLike_35 : decode cX4_heardLike 35 = .ok (.iload_n 1, 1) := by decide +kernel
theorem dX4_heardLike_36 : decode cX4_heardLike 36 = .ok (.iaload, 1) := by decide +kernel
theorem dX4_heardLike_37 : decode cX4_heardLike 37 = .ok (.if_icmp .ne 29, 3) := by decide +kernel
theorem dX4_heardLike_40 : decode cX4_heardLike 40 = .ok (.aload_n 0, 1) := by decide +kernel
theorem dX4_heardLike_41 : decode cX4_heardLike 41 = .ok (.getfield 13, 3) := by decide +kernel
theorem dX4_heardLike_44 : decode cX4_heardLike 44 = .ok (.iload 4, 2) := by decide +kernel
theorem dX4_heardLike_46 : decode cX4_heardLike 46 = .ok (.iaload, 1) := by decide +kernel
theorem dX4_heardLike_47 : decode cX4_heardLike 47 = .ok (.aload_n 0, 1) := by decide +kernel
theorem dX4_heardLike_48 : decode cX4_heardLike 48 = .ok (.getfield 13, 3) := by decide +kernel
theorem dX4_heardLike_51 : decode cX4_heardLike 51 = .ok (.iload_n 1, 1) := by decide +kernel
theorem dX4_heardLike_52 : decode cX4_heardLike 52 = .ok (.iaload, 1) := by decide +kernel
theorem dX4_heardLike_53 : decode cX4_heardLike 53 = .ok (.if_icmp .ne 13, 3) := by decide +kernel
theorem dX4_heardLike_56 : decode cX4_heardLike 56 = .ok (.iload_n 3, 1) := by decide +kernel
theorem dX4_heardLike_57 : decode cX4_heardLike 57 = .ok (.aload_n 0, 1) := by decide +kernel
theorem dX4_heardLike_58 : decode cX4_heardLike 58 = .ok (.getfield 16, 3) := by decide +kernel
theorem dX4_heardLike_61 : decode cX4_heardLike 61 = .ok (.iload 4, 2) := by decide +kernel
theorem dX4_heardLike_63 : decode cX4_heardLike 63 = .ok (.iaload, 1) := by decide +kernel
theorem dX4_heardLike_64 : decode cX4_heardLike 64 = .ok (.ior, 1) := by decide +kernel
theorem dX4_heardLike_65 : decode cX4_heardLike 65 = .ok (.istore_n 3, 1) := by decide +kernel
theorem dX4_heardLike_66 : decode cX4_heardLike 66 = .ok (.iinc 4 1, 3) := by decide +kernel
theorem dX4_heardLike_69 : decode cX4_heardLike 69 = .ok (.goto (-64), 3) := by decide +kernel
theorem dX4_heardLike_72 : decode cX4_heardLike 72 = .ok (.iload_n 3, 1) := by decide +kernel
theorem dX4_heardLike_73 : decode cX4_heardLike 73 = .ok (.ireturn, 1) := by decide +kernel
theorem dX5_init_0 : decode cX5_init 0 = .ok (.aload_n 0, 1) := by decide +kernel
theorem dX5_init_1 : decode cX5_init 1 = .ok (.invokespecial 3, 3) := by decide +kernel
theorem dX5_init_4 : decode cX5_init 4 = .ok (.aload_n 0, 1) := by decide +kernel
theorem dX5_init_5 : decode cX5_init 5 = .ok (.bipush 120, 2) := by decide +kernel
theorem dX5_init_7 : decode cX5_init 7 = .ok (.newarray .int, 2) := by decide +kernel
theorem dX5_init_9 : decode cX5_init 9 = .ok (.putfield 9, 3) := by decide +kernel
theorem dX5_init_12 : decode cX5_init 12 = .ok (.return_, 1) := by decide +kernel
theorem dX5_addSign_0 : decode cX5_addSign 0 = .ok (.aload_n 0, 1) := by decide +kernel
theorem dX5_addSign_1 : decode cX5_addSign 1 = .ok (.getfield 15, 3) := by decide +kernel
theorem dX5_addSign_4 : decode cX5_addSign 4 = .ok (.ifCond .lt 32, 3) := by decide +kernel
theorem dX5_addSign_7 : decode cX5_addSign 7 = .ok (.aload_n 0, 1) := by decide +kernel
theorem dX5_addSign_8 : decode cX5_addSign 8 = .ok (.getfield 15, 3) := by decide +kernel
theorem dX5_addSign_11 : decode cX5_addSign 11 = .ok (.bipush 120, 2) := by decide +kernel
theorem dX5_addSign_13 : decode cX5_addSign 13 = .ok (.if_icmp .ge 23, 3) := by decide +kernel
theorem dX5_addSign_16 : decode cX5_addSign 16 = .ok (.aload_n 0, 1) := by decide +kernel
theorem dX5_addSign_17 : decode cX5_addSign 17 = .ok (.getfield 9, 3) := by decide +kernel
theorem dX5_addSign_20 : decode cX5_addSign 20 = .ok (.aload_n 0, 1) := by decide +kernel
theorem dX5_addSign_21 : decode cX5_addSign 21 = .ok (.getfield 15, 3) := by decide +kernel
theorem dX5_addSign_24 : decode cX5_addSign 24 = .ok (.iload_n 1, 1) := by decide +kernel
theorem dX5_addSign_25 : decode cX5_addSign 25 = .ok (.iastore, 1) := by decide +kernel
theorem dX5_addSign_26 : decode cX5_addSign 26 = .ok (.aload_n 0, 1) := by decide +kernel
theorem dX5_addSign_27 : decode cX5_addSign 27 = .ok (.dup, 1) := by decide +kernel
theorem dX5_addSign_28 : decode cX5_addSign 28 = .ok (.getfield 15, 3) := by decide +kernel
theorem dX5_addSign_31 : decode cX5_addSign 31 = .ok (.iconst 1, 1) := by decide +kernel
theorem dX5_addSign_32 : decode cX5_addSign 32 = .ok (.iadd, 1) := by decide +kernel
theorem dX5_addSign_33 : decode cX5_addSign 33 = .ok (.putfield 15, 3) := by decide +kernel
theorem dX5_addSign_36 : decode cX5_addSign 36 = .ok (.return_, 1) := by decide +kernel
theorem dX5_signAt_0 : decode cX5_signAt 0 = .ok (.iload_n 1, 1) := by decide +kernel
theorem dX5_signAt_1 : decode cX5_signAt 1 = .ok (.ifCond .lt 20, 3) := by decide +kernel
theorem dX5_signAt_4 : decode cX5_signAt 4 = .ok (.iload_n 1, 1) := by decide +kernel
theorem dX5_signAt_5 : decode cX5_signAt 5 = .ok (.aload_n 0, 1) := by decide +kernel
theorem dX5_signAt_6 : decode cX5_signAt 6 = .ok (.getfield 15, 3) := by decide +kernel
theorem dX5_signAt_9 : decode cX5_signAt 9 = .ok (.if_icmp .ge 12, 3) := by decide +kernel
theorem dX5_signAt_12 : decode cX5_signAt 12 = .ok (.aload_n 0, 1) := by decide +kernel
theorem dX5_signAt_13 : decode cX5_signAt 13 = .ok (.getfield 9, 3) := by decide +kernel
theorem dX5_signAt_16 : decode cX5_signAt 16 = .ok (.iload_n 1, 1) := by decide +kernel
theorem dX5_signAt_17 : decode cX5_signAt 17 = .ok (.iaload, 1) := by decide +kernel
theorem dX5_signAt_18 : decode cX5_signAt 18 = .ok (.goto 4, 3) := by decide +kernel
theorem dX5_signAt_21 : decode cX5_signAt 21 = .ok (.iconst (-1), 1) := by decide +kernel
theorem dX5_signAt_22 : decode cX5_signAt 22 = .ok (.ireturn, 1) := by decide +kernel
theorem dX5_firstError_0 : decode cX5_firstError 0 = .ok (.aload_n 0, 1) := by decide +kernel
theorem dX5_firstError_1 : decode cX5_firstError 1 = .ok (.iconst 0, 1) := by decide +kernel
theorem dX5_firstError_2 : decode cX5_firstError 2 = .ok (.invokevirtual 19, 3) := by decide +kernel
theorem dX5_firstError_5 : decode cX5_firstError 5 = .ok (.bipush 82, 2) := by decide +kernel
theorem dX5_firstError_7 : decode cX5_firstError 7 = .ok (.if_icmp .eq 5, 3) := by decide +kernel
theorem dX5_firstError_10 : decode cX5_firstError 10 = .ok (.iconst 0, 1) := by decide +kernel
theorem dX5_firstError_11 : decode cX5_firstError 11 = .ok (.ireturn, 1) := by decide +kernel
theorem dX5_firstError_12 : decode cX5_firstError 12 = .ok (.iconst 1, 1) := by decide +kernel
theorem dX5_firstError_13 : decode cX5_firstError 13 = .ok (.istore_n 1, 1) := by decide +kernel
theorem dX5_firstError_14 : decode cX5_firstError 14 = .ok (.iload_n 1, 1) := by decide +kernel
theorem dX5_firstError_15 : decode cX5_firstError 15 = .ok (.aload_n 0, 1) := by decide +kernel
theorem dX5_firstError_16 : decode cX5_firstError 16 = .ok (.getfield 15, 3) := by decide +kernel
theorem dX5_firstError_19 : decode cX5_firstError 19 = .ok (.if_icmp .ge 54, 3) := by decide +kernel
theorem dX5_firstError_22 : decode cX5_firstError 22 = .ok (.aload_n 0, 1) := by decide +kernel
theorem dX5_firstError_23 : decode cX5_firstError 23 = .ok (.iload_n 1, 1) := by decide +kernel
theorem dX5_firstError_24 : decode cX5_firstError 24 = .ok (.invokevirtual 23, 3) := by decide +kernel
theorem dX5_firstError_27 : decode cX5_firstError 27 = .ok (.istore_n 2, 1) := by decide +kernel
theorem dX5_firstError_28 : decode cX5_firstError 28 = .ok (.iload_n 2, 1) := by decide +kernel
theorem dX5_firstError_29 : decode cX5_firstError 29 = .ok (.ifCond .ne 5, 3) := by decide +kernel
theorem dX5_firstError_32 : decode cX5_firstError 32 = .ok (.iload_n 1, 1) := by decide +kernel
theorem dX5_firstError_33 : decode cX5_firstError 33 = .ok (.ireturn, 1) := by decide +kernel
theorem dX5_firstError_34 : decode cX5_firstError 34 = .ok (.iconst 1, 1) := by decide +kernel
theorem dX5_firstError_35 : decode cX5_firstError 35 = .ok (.istore_n 3, 1) := by decide +kernel
theorem dX5_firstError_36 : decode cX5_firstError 36 = .ok (.iload_n 3, 1) := by decide +kernel
theorem dX5_firstError_37 : decode cX5_firstError 37 = .ok (.iload_n 2, 1) := by decide +kernel
theorem dX5_firstError_38 : decode cX5_firstError 38 = .ok (.if_icmp .gt 22, 3) := by decide +kernel
theorem dX5_firstError_41 : decode cX5_firstError 41 = .ok (.aload_n 0, 1) := by decide +kernel
theorem dX5_firstError_42 : decode cX5_firstError 42 = .ok (.iload_n 1, 1) := by decide +kernel
theorem dX5_firstError_43 : decode cX5_firstError 43 = .ok (.iload_n 3, 1) := by decide +kernel
theorem dX5_firstError_44 : decode cX5_firstError 44 = .ok (.invokevirtual 26, 3) := by decide +kernel
theorem dX5_firstError_47 : decode cX5_firstError 47 = .ok (.ifCond .ne 7, 3) := by decide +kernel
theorem dX5_firstError_50 : decode cX5_firstError 50 = .ok (.iload_n 1, 1) := by decide +kernel
theorem dX5_firstError_51 : decode cX5_firstError 51 = .ok (.iload_n 3, 1) := by decide +kernel
theorem dX5_firstError_52 : decode cX5_firstError 52 = .ok (.iadd, 1) := by decide +kernel
theorem dX5_firstError_53 : decode cX5_firstError 53 = .ok (.ireturn, 1) := by decide +kernel
theorem dX5_firstError_54 : decode cX5_firstError 54 = .ok (.iinc 3 1, 3) := by decide +kernel
theorem dX5_firstError_57 : decode cX5_firstError 57 = .ok (.goto (-21), 3) := by decide +kernel
theorem dX5_firstError_60 : decode cX5_firstError 60 = .ok (.iload_n 1, 1) := by decide +kernel
theorem dX5_firstError_61 : decode cX5_firstError 61 = .ok (.iconst 1, 1) := by decide +kernel
theorem dX5_firstError_62 : decode cX5_firstError 62 = .ok (.aload_n 0, 1) := by decide +kernel
theorem dX5_firstError_63 : decode cX5_firstError 63 = .ok (.iload_n 1, 1) := by decide +kernel
theorem dX5_firstError_64 : decode cX5_firstError 64 = .ok (.invokevirtual 23, 3) := by decide +kernel
theorem dX5_firstError_67 : decode cX5_firstError 67 = .ok (.iadd, 1) := by decide +kernel
theorem dX5_firstError_68 : decode cX5_firstError 68 = .ok (.iadd, 1) := by decide +kernel
theorem dX5_firstError_69 : decode cX5_firstError 69 = .ok (.istore_n 1, 1) := by decide +kernel
theorem dX5_firstError_70 : decode cX5_firstError 70 = .ok (.goto (-56), 3) := by decide +kernel
theorem dX5_firstError_73 : decode cX5_firstError 73 = .ok (.iconst (-1), 1) := by decide +kernel
theorem dX5_firstError_74 : decode cX5_firstError 74 = .ok (.ireturn, 1) := by decide +kernel
theorem dX5_digitsBehind_0 : decode cX5_digitsBehind 0 = .ok (.aload_n 0, 1) := by decide +kernel
theorem dX5_digitsBehind_1 : decode cX5_digitsBehind 1 = .ok (.iload_n 1, 1) := by decide +kernel
theorem dX5_digitsBehind_2 : decode cX5_digitsBehind 2 = .ok (.invokevirtual 19, 3) := by decide +kernel
theorem dX5_digitsBehind_5 : decode cX5_digitsBehind 5 = .ok (.tableswitch 113 98 120 #[107, 111, 113, 113, 113, 107, 113, 113, 113, 113, 113, 107, 113, 113, 109, 113, 113, 107, 109, 113, 113, 113, 109], 107) := by decide +kernel
theorem dX5_digitsBehind_112 : decode cX5_digitsBehind 112 = .ok (.iconst 1, 1) := by decide +kernel
theorem dX5_digitsBehind_113 : decode cX5_digitsBehind 113 = .ok (.ireturn, 1) := by decide +kernel
theorem dX5_digitsBehind_114 : decode cX5_digitsBehind 114 = .ok (.iconst 2, 1) := by decide +kernel
theorem dX5_digitsBehind_115 : decode cX5_digitsBehind 115 = .ok (.ireturn, 1) := by decide +kernel
theorem dX5_digitsBehind_116 : decode cX5_digitsBehind 116 = .ok (.iconst 3, 1) := by decide +kernel
theorem dX5_digitsBehind_117 : decode cX5_digitsBehind 117 = .ok (.ireturn, 1) := by decide +kernel
theorem dX5_digitsBehind_118 : decode cX5_digitsBehind 118 = .ok (.iconst 0, 1) := by decide +kernel
theorem dX5_digitsBehind_119 : decode cX5_digitsBehind 119 = .ok (.ireturn, 1) := by decide +kernel
theorem dX5_isAllowed_0 : decode cX5_isAllowed 0 = .ok (.aload_n 0, 1) := by decide +kernel
theorem dX5_isAllowed_1 : decode cX5_isAllowed 1 = .ok (.iload_n 1, 1) := by decide +kernel
theorem dX5_isAllowed_2 : decode cX5_isAllowed 2 = .ok (.iload_n 2, 1) := by decide +kernel
theorem dX5_isAllowed_3 : decode cX5_isAllowed 3 = .ok (.iadd, 1) := by decide +kernel
theorem dX5_isAllowed_4 : decode cX5_isAllowed 4 = .ok (.invokevirtual 19, 3) := by decide +kernel
theorem dX5_isAllowed_7 : decode cX5_isAllowed 7 = .ok (.bipush 48, 2) := by decide +kernel
theorem dX5_isAllowed_9 : decode cX5_isAllowed 9 = .ok (.isub, 1) := by decide +kernel
theorem dX5_isAllowed_10 : decode cX5_isAllowed 10 = .ok (.istore_n 3, 1) := by decide +kernel
theorem dX5_isAllowed_11 : decode cX5_isAllowed 11 = .ok (.iload_n 3, 1) := by decide +kernel
theorem dX5_isAllowed_12 : decode cX5_isAllowed 12 = .ok (.ifCond .lt 9, 3) := by decide +kernel
theorem dX5_isAllowed_15 : decode cX5_isAllowed 15 = .ok (.iload_n 3, 1) := by decide +kernel
theorem dX5_isAllowed_16 : decode cX5_isAllowed 16 = .ok (.bipush 9, 2) := by decide +kernel
theorem dX5_isAllowed_18 : decode cX5_isAllowed 18 = .ok (.if_icmp .le 5, 3) := by decide +kernel
theorem dX5_isAllowed_21 : decode cX5_isAllowed 21 = .ok (.iconst 0, 1) := by decide +kernel
theorem dX5_isAllowed_22 : decode cX5_isAllowed 22 = .ok (.ireturn, 1) := by decide +kernel
theorem dX5_isAllowed_23 : decode cX5_isAllowed 23 = .ok (.aload_n 0, 1) := by decide +kernel
theorem dX5_isAllowed_24 : decode cX5_isAllowed 24 = .ok (.iload_n 1, 1) := by decide +kernel
theorem dX5_isAllowed_25 : decode cX5_isAllowed 25 = .ok (.invokevirtual 19, 3) := by decide +kernel
theorem dX5_isAllowed_28 : decode cX5_isAllowed 28 = .ok (.lookupswitch 103 #[(99, 46), (109, 44), (112, 79), (116, 91)], 44) := by decide +kernel
theorem dX5_isAllowed_72 : decode cX5_isAllowed 72 = .ok (.iconst 1, 1) := by decide +kernel
theorem dX5_isAllowed_73 : decode cX5_isAllowed 73 = .ok (.ireturn, 1) := by decide +kernel
theorem dX5_isAllowed_74 : decode cX5_isAllowed 74 = .ok (.iload_n 2, 1) := by decide +kernel
theorem dX5_isAllowed_75 : decode cX5_isAllowed 75 = .ok (.iconst 1, 1) := by decide +kernel
theorem dX5_isAllowed_76 : decode cX5_isAllowed 76 = .ok (.if_icmp .ne 17, 3) := by decide +kernel
theorem dX5_isAllowed_79 : decode cX5_isAllowed 79 = .ok (.iload_n 3, 1) := by decide +kernel
theorem dX5_isAllowed_80 : decode cX5_isAllowed 80 = .ok (.bipush 6, 2) := by decide +kernel
theorem dX5_isAllowed_82 : decode cX5_isAllowed 82 = .ok (.if_icmp .ge 7, 3) := by decide +kernel
theorem dX5_isAllowed_85 : decode cX5_isAllowed 85 = .ok (.iconst 1, 1) := by decide +kernel
theorem dX5_isAllowed_86 : decode cX5_isAllowed 86 = .ok (.goto 20, 3) := by decide +kernel
theorem dX5_isAllowed_89 : decode cX5_isAllowed 89 = .ok (.iconst 0, 1) := by decide +kernel
theorem dX5_isAllowed_90 : decode cX5_isAllowed 90 = .ok (.goto 16, 3) := by decide +kernel
theorem dX5_isAllowed_93 : decode cX5_isAllowed 93 = .ok (.aload_n 0, 1) := by decide +kernel
theorem dX5_isAllowed_94 : decode cX5_isAllowed 94 = .ok (.iload_n 1, 1) := by decide +kernel
theorem dX5_isAllowed_95 : decode cX5_isAllowed 95 = .ok (.iconst 2, 1) := by decide +kernel
theorem dX5_isAllowed_96 : decode cX5_isAllowed 96 = .ok (.iadd, 1) := by decide +kernel
theorem dX5_isAllowed_97 : decode cX5_isAllowed 97 = .ok (.iload_n 2, 1) := by decide +kernel
theorem dX5_isAllowed_98 : decode cX5_isAllowed 98 = .ok (.iconst 1, 1) := by decide +kernel
theorem dX5_isAllowed_99 : decode cX5_isAllowed 99 = .ok (.isub, 1) := by decide +kernel
theorem dX5_isAllowed_100 : decode cX5_isAllowed 100 = .ok (.iconst 1, 1) := by decide +kernel
theorem dX5_isAllowed_101 : decode cX5_isAllowed 101 = .ok (.bipush 63, 2) := by decide +kernel
theorem dX5_isAllowed_103 : decode cX5_isAllowed 103 = .ok (.invokevirtual 30, 3) := by decide +kernel
theorem dX5_isAllowed_106 : decode cX5_isAllowed 106 = .ok (.ireturn, 1) := by decide +kernel
theorem dX5_isAllowed_107 : decode cX5_isAllowed 107 = .ok (.aload_n 0, 1) := by decide +kernel
theorem dX5_isAllowed_108 : decode cX5_isAllowed 108 = .ok (.iload_n 1, 1) := by decide +kernel
theorem dX5_isAllowed_109 : decode cX5_isAllowed 109 = .ok (.iconst 1, 1) := by decide +kernel
theorem dX5_isAllowed_110 : decode cX5_isAllowed 110 = .ok (.iadd, 1) := by decide +kernel
theorem dX5_isAllowed_111 : decode cX5_isAllowed 111 = .ok (.iload_n 2, 1) := by decide +kernel
theorem dX5_isAllowed_112 : decode cX5_isAllowed 112 = .ok (.iconst 0, 1) := by decide +kernel
theorem dX5_isAllowed_113 : decode cX5_isAllowed 113 = .ok (.bipush 40, 2) := by decide +kernel
theorem dX5_isAllowed_115 : decode cX5_isAllowed 115 = .ok (.invokevirtual 30, 3) := by decide +kernel
theorem dX5_isAllowed_118 : decode cX5_isAllowed 118 = .ok (.ireturn, 1) := by decide +kernel
theorem dX5_isAllowed_119 : decode cX5_isAllowed 119 = .ok (.aload_n 0, 1) := by decide +kernel
theorem dX5_isAllowed_120 : decode cX5_isAllowed 120 = .ok (.iload_n 1, 1) := by decide +kernel
theorem dX5_isAllowed_121 : decode cX5_isAllowed 121 = .ok (.iconst 1, 1) := by decide +kernel
theorem dX5_isAllowed_122 : decode cX5_isAllowed 122 = .ok (.iadd, 1) := by decide +kernel
theorem dX5_isAllowed_123 : decode cX5_isAllowed 123 = .ok (.iload_n 2, 1) := by decide +kernel
theorem dX5_isAllowed_124 : decode cX5_isAllowed 124 = .ok (.iconst 1, 1) := by decide +kernel
theorem dX5_isAllowed_125 : decode cX5_isAllowed 125 = .ok (.bipush 60, 2) := by decide +kernel
theorem dX5_isAllowed_127 : decode cX5_isAllowed 127 = .ok (.invokevirtual 30, 3) := by decide +kernel
theorem dX5_isAllowed_130 : decode cX5_isAllowed 130 = .ok (.ireturn, 1) := by decide +kernel
theorem dX5_isAllowed_131 : decode cX5_isAllowed 131 = .ok (.iload_n 3, 1) := by decide +kernel
theorem dX5_isAllowed_132 : decode cX5_isAllowed 132 = .ok (.bipush 6, 2) := by decide +kernel
theorem dX5_isAllowed_134 : decode cX5_isAllowed 134 = .ok (.if_icmp .ge 7, 3) := by decide +kernel
theorem dX5_isAllowed_137 : decode cX5_isAllowed 137 = .ok (.iconst 1, 1) := by decide +kernel
theorem dX5_isAllowed_138 : decode cX5_isAllowed 138 = .ok (.goto 4, 3) := by decide +kernel
theorem dX5_isAllowed_141 : decode cX5_isAllowed 141 = .ok (.iconst 0, 1) := by decide +kernel
theorem dX5_isAllowed_142 : decode cX5_isAllowed 142 = .ok (.ireturn, 1) := by decide +kernel
theorem dX5_beginsNumber_0 : decode cX5_beginsNumber 0 = .ok (.aload_n 0, 1) := by decide +kernel
theorem dX5_beginsNumber_1 : decode cX5_beginsNumber 1 = .ok (.iload_n 1, 1) := by decide +kernel
theorem dX5_beginsNumber_2 : decode cX5_beginsNumber 2 = .ok (.invokevirtual 19, 3) := by decide +kernel
theorem dX5_beginsNumber_5 : decode cX5_beginsNumber 5 = .ok (.bipush 48, 2) := by decide +kernel
theorem dX5_beginsNumber_7 : decode cX5_beginsNumber 7 = .ok (.isub, 1) := by decide +kernel
theorem dX5_beginsNumber_8 : decode cX5_beginsNumber 8 = .ok (.istore 5, 2) := by decide +kernel
theorem dX5_beginsNumber_10 : decode cX5_beginsNumber 10 = .ok (.iload_n 2, 1) := by decide +kernel
theorem dX5_beginsNumber_11 : decode cX5_beginsNumber 11 = .ok (.iconst 1, 1) := by decide +kernel
theorem dX5_beginsNumber_12 : decode cX5_beginsNumber 12 = .ok (.if_icmp .ne 28, 3) := by decide +kernel
theorem dX5_beginsNumber_15 : decode cX5_beginsNumber 15 = .ok (.iload 5, 2) := by decide +kernel
theorem dX5_beginsNumber_17 : decode cX5_beginsNumber 17 = .ok (.iload_n 3, 1) := by decide +kernel
theorem dX5_beginsNumber_18 : decode cX5_beginsNumber 18 = .ok (.bipush 10, 2) := by decide +kernel
theorem dX5_beginsNumber_20 : decode cX5_beginsNumber 20 = .ok (.idiv, 1) := by decide +kernel
theorem dX5_beginsNumber_21 : decode cX5_beginsNumber 21 = .ok (.if_icmp .lt 17, 3) := by decide +kernel
theorem dX5_beginsNumber_24 : decode cX5_beginsNumber 24 = .ok (.iload 5, 2) := by decide +kernel
theorem dX5_beginsNumber_26 : decode cX5_beginsNumber 26 = .ok (.iload 4, 2) := by decide +kernel
theorem dX5_beginsNumber_28 : decode cX5_beginsNumber 28 = .ok (.bipush 10, 2) := by decide +kernel
theorem dX5_beginsNumber_30 : decode cX5_beginsNumber 30 = .ok (.idiv, 1) := by decide +kernel
theorem dX5_beginsNumber_31 : decode cX5_beginsNumber 31 = .ok (.if_icmp .gt 7, 3) := by decide +kernel
theorem dX5_beginsNumber_34 : decode cX5_beginsNumber 34 = .ok (.iconst 1, 1) := by decide +kernel
theorem dX5_beginsNumber_35 : decode cX5_beginsNumber 35 = .ok (.goto 4, 3) := by decide +kernel
theorem dX5_beginsNumber_38 : decode cX5_beginsNumber 38 = .ok (.iconst 0, 1) := by decide +kernel
theorem dX5_beginsNumber_39 : decode cX5_beginsNumber 39 = .ok (.ireturn, 1) := by decide +kernel
theorem dX5_beginsNumber_40 : decode cX5_beginsNumber 40 = .ok (.aload_n 0, 1) := by decide +kernel
theorem dX5_beginsNumber_41 : decode cX5_beginsNumber 41 = .ok (.iload_n 1, 1) := by decide +kernel
theorem dX5_beginsNumber_42 : decode cX5_beginsNumber 42 = .ok (.invokevirtual 34, 3) := by decide +kernel
theorem dX5_beginsNumber_45 : decode cX5_beginsNumber 45 = .ok (.istore 6, 2) := by decide +kernel
theorem dX5_beginsNumber_47 : decode cX5_beginsNumber 47 = .ok (.iload 6, 2) := by decide +kernel
theorem dX5_beginsNumber_49 : decode cX5_beginsNumber 49 = .ok (.iload_n 3, 1) := by decide +kernel
theorem dX5_beginsNumber_50 : decode cX5_beginsNumber 50 = .ok (.if_icmp .lt 14, 3) := by decide +kernel
theorem dX5_beginsNumber_53 : decode cX5_beginsNumber 53 = .ok (.iload 6, 2) := by decide +kernel
theorem dX5_beginsNumber_55 : decode cX5_beginsNumber 55 = .ok (.iload 4, 2) := by decide +kernel
theorem dX5_beginsNumber_57 : decode cX5_beginsNumber 57 = .ok (.if_icmp .gt 7, 3) := by decide +kernel
theorem dX5_beginsNumber_60 : decode cX5_beginsNumber 60 = .ok (.iconst 1, 1) := by decide +kernel
theorem dX5_beginsNumber_61 : decode cX5_beginsNumber 61 = .ok (.goto 4, 3) := by decide +kernel
theorem dX5_beginsNumber_64 : decode cX5_beginsNumber 64 = .ok (.iconst 0, 1) := by decide +kernel
theorem dX5_beginsNumber_65 : decode cX5_beginsNumber 65 = .ok (.ireturn, 1) := by decide +kernel
theorem dX5_twoDigits_0 : decode cX5_twoDigits 0 = .ok (.aload_n 0, 1) := by decide +kernel
theorem dX5_twoDigits_1 : decode cX5_twoDigits 1 = .ok (.iload_n 1, 1) := by decide +kernel
theorem dX5_twoDigits_2 : decode cX5_twoDigits 2 = .ok (.invokevirtual 19, 3) := by decide +kernel
theorem dX5_twoDigits_5 : decode cX5_twoDigits 5 = .ok (.bipush 48, 2) := by decide +kernel
theorem dX5_twoDigits_7 : decode cX5_twoDigits 7 = .ok (.isub, 1) := by decide +kernel
theorem dX5_twoDigits_8 : decode cX5_twoDigits 8 = .ok (.bipush 10, 2) := by decide +kernel
theorem dX5_twoDigits_10 : decode cX5_twoDigits 10 = .ok (.imul, 1) := by decide +kernel
theorem dX5_twoDigits_11 : decode cX5_twoDigits 11 = .ok (.aload_n 0, 1) := by decide +kernel
theorem dX5_twoDigits_12 : decode cX5_twoDigits 12 = .ok (.iload_n 1, 1) := by decide +kernel
theorem dX5_twoDigits_13 : decode cX5_twoDigits 13 = .ok (.iconst 1, 1) := by decide +kernel
theorem dX5_twoDigits_14 : decode cX5_twoDigits 14 = .ok (.iadd, 1) := by decide +kernel
theorem dX5_twoDigits_15 : decode cX5_twoDigits 15 = .ok (.invokevirtual 19, 3) := by decide +kernel
theorem dX5_twoDigits_18 : decode cX5_twoDigits 18 = .ok (.iadd, 1) := by decide +kernel
theorem dX5_twoDigits_19 : decode cX5_twoDigits 19 = .ok (.bipush 48, 2) := by decide +kernel
theorem dX5_twoDigits_21 : decode cX5_twoDigits 21 = .ok (.isub, 1) := by decide +kernel
theorem dX5_twoDigits_22 : decode cX5_twoDigits 22 = .ok (.ireturn, 1) := by decide +kernel
theorem dX5_firstNumber_0 : decode cX5_firstNumber 0 = .ok (.aload_n 0, 1) := by decide +kernel
theorem dX5_firstNumber_1 : decode cX5_firstNumber 1 = .ok (.iload_n 1, 1) := by decide +kernel
theorem dX5_firstNumber_2 : decode cX5_firstNumber 2 = .ok (.invokevirtual 19, 3) := by decide +kernel
theorem dX5_firstNumber_5 : decode cX5_firstNumber 5 = .ok (.istore_n 2, 1) := by decide +kernel
theorem dX5_firstNumber_6 : decode cX5_firstNumber 6 = .ok (.iload_n 2, 1) := by decide +kernel
theorem dX5_firstNumber_7 : decode cX5_firstNumber 7 = .ok (.bipush 112, 2) := by decide +kernel
theorem dX5_firstNumber_9 : decode cX5_firstNumber 9 = .ok (.if_icmp .eq 9, 3) := by decide +kernel
theorem dX5_firstNumber_12 : decode cX5_firstNumber 12 = .ok (.iload_n 2, 1) := by decide +kernel
theorem dX5_firstNumber_13 : decode cX5_firstNumber 13 = .ok (.bipush 116, 2) := by decide +kernel
theorem dX5_firstNumber_15 : decode cX5_firstNumber 15 = .ok (.if_icmp .ne 13, 3) := by decide +kernel
theorem dX5_firstNumber_18 : decode cX5_firstNumber 18 = .ok (.aload_n 0, 1) := by decide +kernel
theorem dX5_firstNumber_19 : decode cX5_firstNumber 19 = .ok (.iload_n 1, 1) := by decide +kernel
theorem dX5_firstNumber_20 : decode cX5_firstNumber 20 = .ok (.iconst 1, 1) := by decide +kernel
theorem dX5_firstNumber_21 : decode cX5_firstNumber 21 = .ok (.iadd, 1) := by decide +kernel
theorem dX5_firstNumber_22 : decode cX5_firstNumber 22 = .ok (.invokevirtual 34, 3) := by decide +kernel
theorem dX5_firstNumber_25 : decode cX5_firstNumber 25 = .ok (.goto 13, 3) := by decide +kernel
theorem dX5_firstNumber_28 : decode cX5_firstNumber 28 = .ok (.aload_n 0, 1) := by decide +kernel
theorem dX5_firstNumber_29 : decode cX5_firstNumber 29 = .ok (.iload_n 1, 1) := by decide +kernel
theorem dX5_firstNumber_30 : decode cX5_firstNumber 30 = .ok (.iconst 1, 1) := by decide +kernel
theorem dX5_firstNumber_31 : decode cX5_firstNumber 31 = .ok (.iadd, 1) := by decide +kernel
theorem dX5_firstNumber_32 : decode cX5_firstNumber 32 = .ok (.invokevirtual 19, 3) := by decide +kernel
theorem dX5_firstNumber_35 : decode cX5_firstNumber 35 = .ok (.bipush 48, 2) := by decide +kernel
theorem dX5_firstNumber_37 : decode cX5_firstNumber 37 = .ok (.isub, 1) := by decide +kernel
theorem dX5_firstNumber_38 : decode cX5_firstNumber 38 = .ok (.ireturn, 1) := by decide +kernel
theorem dX5_secondNumber_0 : decode cX5_secondNumber 0 = .ok (.aload_n 0, 1) := by decide +kernel
theorem dX5_secondNumber_1 : decode cX5_secondNumber 1 = .ok (.iload_n 1, 1) := by decide +kernel
theorem dX5_secondNumber_2 : decode cX5_secondNumber 2 = .ok (.invokevirtual 19, 3) := by decide +kernel
theorem dX5_secondNumber_5 : decode cX5_secondNumber 5 = .ok (.bipush 99, 2) := by decide +kernel
theorem dX5_secondNumber_7 : decode cX5_secondNumber 7 = .ok (.if_icmp .ne 13, 3) := by decide +kernel
theorem dX5_secondNumber_10 : decode cX5_secondNumber 10 = .ok (.aload_n 0, 1) := by decide +kernel
theorem dX5_secondNumber_11 : decode cX5_secondNumber 11 = .ok (.iload_n 1, 1) := by decide +kernel
theorem dX5_secondNumber_12 : decode cX5_secondNumber 12 = .ok (.iconst 2, 1) := by decide +kernel
theorem dX5_secondNumber_13 : decode cX5_secondNumber 13 = .ok (.iadd, 1) := by decide +kernel
theorem dX5_secondNumber_14 : decode cX5_secondNumber 14 = .ok (.invokevirtual 34, 3) := by decide +kernel
theorem dX5_secondNumber_17 : decode cX5_secondNumber 17 = .ok (.goto 13, 3) := by decide +kernel
theorem dX5_secondNumber_20 : decode cX5_secondNumber 20 = .ok (.aload_n 0, 1) := by decide +kernel
theorem dX5_secondNumber_21 : decode cX5_secondNumber 21 = .ok (.iload_n 1, 1) := by decide +kernel
theorem dX5_secondNumber_22 : decode cX5_secondNumber 22 = .ok (.iconst 2, 1) := by decide +kernel
theorem dX5_secondNumber_23 : decode cX5_secondNumber 23 = .ok (.iadd, 1) := by decide +kernel
theorem dX5_secondNumber_24 : decode cX5_secondNumber 24 = .ok (.invokevirtual 19, 3) := by decide +kernel
theorem dX5_secondNumber_27 : decode cX5_secondNumber 27 = .ok (.bipush 48, 2) := by decide +kernel
theorem dX5_secondNumber_29 : decode cX5_secondNumber 29 = .ok (.isub, 1) := by decide +kernel
theorem dX5_secondNumber_30 : decode cX5_secondNumber 30 = .ok (.ireturn, 1) := by decide +kernel
theorem dX6_init_0 : decode cX6_init 0 = .ok (.aload_n 0, 1) := by decide +kernel
theorem dX6_init_1 : decode cX6_init 1 = .ok (.invokespecial 1, 3) := by decide +kernel
theorem dX6_init_4 : decode cX6_init 4 = .ok (.aload_n 0, 1) := by decide +kernel
theorem dX6_init_5 : decode cX6_init 5 = .ok (.new 7, 3) := by decide +kernel
theorem dX6_init_8 : decode cX6_init 8 = .ok (.dup, 1) := by decide +kernel
theorem dX6_init_9 : decode cX6_init 9 = .ok (.invokespecial 9, 3) := by decide +kernel
theorem dX6_init_12 : decode cX6_init 12 = .ok (.putfield 10, 3) := by decide +kernel
theorem dX6_init_15 : decode cX6_init 15 = .ok (.aload_n 0, 1) := by decide +kernel
theorem dX6_init_16 : decode cX6_init 16 = .ok (.new 16, 3) := by decide +kernel
theorem dX6_init_19 : decode cX6_init 19 = .ok (.dup, 1) := by decide +kernel
theorem dX6_init_20 : decode cX6_init 20 = .ok (.invokespecial 18, 3) := by decide +kernel
theorem dX6_init_23 : decode cX6_init 23 = .ok (.putfield 19, 3) := by decide +kernel
theorem dX6_init_26 : decode cX6_init 26 = .ok (.aload_n 0, 1) := by decide +kernel
theorem dX6_init_27 : decode cX6_init 27 = .ok (.new 16, 3) := by decide +kernel
theorem dX6_init_30 : decode cX6_init 30 = .ok (.dup, 1) := by decide +kernel
theorem dX6_init_31 : decode cX6_init 31 = .ok (.invokespecial 18, 3) := by decide +kernel
theorem dX6_init_34 : decode cX6_init 34 = .ok (.putfield 23, 3) := by decide +kernel
theorem dX6_init_37 : decode cX6_init 37 = .ok (.aload_n 0, 1) := by decide +kernel
theorem dX6_init_38 : decode cX6_init 38 = .ok (.new 16, 3) := by decide +kernel
theorem dX6_init_41 : decode cX6_init 41 = .ok (.dup, 1) := by decide +kernel
theorem dX6_init_42 : decode cX6_init 42 = .ok (.invokespecial 18, 3) := by decide +kernel
theorem dX6_init_45 : decode cX6_init 45 = .ok (.putfield 26, 3) := by decide +kernel
theorem dX6_init_48 : decode cX6_init 48 = .ok (.aload_n 0, 1) := by decide +kernel
theorem dX6_init_49 : decode cX6_init 49 = .ok (.new 29, 3) := by decide +kernel
theorem dX6_init_52 : decode cX6_init 52 = .ok (.dup, 1) := by decide +kernel
theorem dX6_init_53 : decode cX6_init 53 = .ok (.invokespecial 31, 3) := by decide +kernel
theorem dX6_init_56 : decode cX6_init 56 = .ok (.putfield 32, 3) := by decide +kernel
theorem dX6_init_59 : decode cX6_init 59 = .ok (.aload_n 0, 1) := by decide +kernel
theorem dX6_init_60 : decode cX6_init 60 = .ok (.iconst 2, 1) := by decide +kernel
theorem dX6_init_61 : decode cX6_init 61 = .ok (.anewarray 16, 3) := by decide +kernel
theorem dX6_init_64 : decode cX6_init 64 = .ok (.putfield 36, 3) := by decide +kernel
theorem dX6_init_67 : decode cX6_init 67 = .ok (.iconst 0, 1) := by decide +kernel
theorem dX6_init_68 : decode cX6_init 68 = .ok (.istore_n 1, 1) := by decide +kernel
theorem dX6_init_69 : decode cX6_init 69 = .ok (.iload_n 1, 1) := by decide +kernel
theorem dX6_init_70 : decode cX6_init 70 = .ok (.iconst 2, 1) := by decide +kernel
theorem dX6_init_71 : decode cX6_init 71 = .ok (.if_icmp .ge 22, 3) := by decide +kernel
theorem dX6_init_74 : decode cX6_init 74 = .ok (.aload_n 0, 1) := by decide +kernel
theorem dX6_init_75 : decode cX6_init 75 = .ok (.getfield 36, 3) := by decide +kernel
theorem dX6_init_78 : decode cX6_init 78 = .ok (.iload_n 1, 1) := by decide +kernel
theorem dX6_init_79 : decode cX6_init 79 = .ok (.new 16, 3) := by decide +kernel
theorem dX6_init_82 : decode cX6_init 82 = .ok (.dup, 1) := by decide +kernel
theorem dX6_init_83 : decode cX6_init 83 = .ok (.invokespecial 18, 3) := by decide +kernel
theorem dX6_init_86 : decode cX6_init 86 = .ok (.aastore, 1) := by decide +kernel
theorem dX6_init_87 : decode cX6_init 87 = .ok (.iinc 1 1, 3) := by decide +kernel
theorem dX6_init_90 : decode cX6_init 90 = .ok (.goto (-21), 3) := by decide +kernel
theorem dX6_init_93 : decode cX6_init 93 = .ok (.aload_n 0, 1) := by decide +kernel
theorem dX6_init_94 : decode cX6_init 94 = .ok (.iconst 2, 1) := by decide +kernel
theorem dX6_init_95 : decode cX6_init 95 = .ok (.newarray .boolean, 2) := by decide +kernel
theorem dX6_init_97 : decode cX6_init 97 = .ok (.putfield 40, 3) := by decide +kernel
theorem dX6_init_100 : decode cX6_init 100 = .ok (.return_, 1) := by decide +kernel
theorem dX6_append_0 : decode cX6_append 0 = .ok (.iload_n 1, 1) := by decide +kernel
theorem dX6_append_1 : decode cX6_append 1 = .ok (.ifCond .lt 10, 3) := by decide +kernel
theorem dX6_append_4 : decode cX6_append 4 = .ok (.iload_n 1, 1) := by decide +kernel
theorem dX6_append_5 : decode cX6_append 5 = .ok (.sipush 255, 3) := by decide +kernel
theorem dX6_append_8 : decode cX6_append 8 = .ok (.if_icmp .le 13, 3) := by decide +kernel
theorem dX6_append_11 : decode cX6_append 11 = .ok (.new 44, 3) := by decide +kernel
theorem dX6_append_14 : decode cX6_append 14 = .ok (.dup, 1) := by decide +kernel
theorem dX6_append_15 : decode cX6_append 15 = .ok (.ldc 46, 2) := by decide +kernel
theorem dX6_append_17 : decode cX6_append 17 = .ok (.invokespecial 48, 3) := by decide +kernel
theorem dX6_append_20 : decode cX6_append 20 = .ok (.athrow, 1) := by decide +kernel
theorem dX6_append_21 : decode cX6_append 21 = .ok (.aload_n 0, 1) := by decide +kernel
theorem dX6_append_22 : decode cX6_append 22 = .ok (.getfield 10, 3) := by decide +kernel
theorem dX6_append_25 : decode cX6_append 25 = .ok (.getfield 51, 3) := by decide +kernel
theorem dX6_append_28 : decode cX6_append 28 = .ok (.bipush 120, 2) := by decide +kernel
theorem dX6_append_30 : decode cX6_append 30 = .ok (.if_icmp .lt 13, 3) := by decide +kernel
theorem dX6_append_33 : decode cX6_append 33 = .ok (.new 55, 3) := by decide +kernel
theorem dX6_append_36 : decode cX6_append 36 = .ok (.dup, 1) := by decide +kernel
theorem dX6_append_37 : decode cX6_append 37 = .ok (.ldc 57, 2) := by decide +kernel
theorem dX6_append_39 : decode cX6_append 39 = .ok (.invokespecial 59, 3) := by decide +kernel
theorem dX6_append_42 : decode cX6_append 42 = .ok (.athrow, 1) := by decide +kernel
theorem dX6_append_43 : decode cX6_append 43 = .ok (.aload_n 0, 1) := by decide +kernel
theorem dX6_append_44 : decode cX6_append 44 = .ok (.getfield 10, 3) := by decide +kernel
theorem dX6_append_47 : decode cX6_append 47 = .ok (.iload_n 1, 1) := by decide +kernel
theorem dX6_append_48 : decode cX6_append 48 = .ok (.invokevirtual 60, 3) := by decide +kernel
theorem dX6_append_51 : decode cX6_append 51 = .ok (.aload_n 0, 1) := by decide +kernel
theorem dX6_append_52 : decode cX6_append 52 = .ok (.getfield 10, 3) := by decide +kernel
theorem dX6_append_55 : decode cX6_append 55 = .ok (.getfield 51, 3) := by decide +kernel
theorem dX6_append_58 : decode cX6_append 58 = .ok (.ireturn, 1) := by decide +kernel
theorem dX6_load_0 : decode cX6_load 0 = .ok (.aload_n 0, 1) := by decide +kernel
theorem dX6_load_1 : decode cX6_load 1 = .ok (.getfield 10, 3) := by decide +kernel
theorem dX6_load_4 : decode cX6_load 4 = .ok (.invokevirtual 64, 3) := by decide +kernel
theorem dX6_load_7 : decode cX6_load 7 = .ok (.iconst (-1), 1) := by decide +kernel
theorem dX6_load_8 : decode cX6_load 8 = .ok (.if_icmp .eq 13, 3) := by decide +kernel
theorem dX6_load_11 : decode cX6_load 11 = .ok (.new 55, 3) := by decide +kernel
theorem dX6_load_14 : decode cX6_load 14 = .ok (.dup, 1) := by decide +kernel
theorem dX6_load_15 : decode cX6_load 15 = .ok (.ldc 68, 2) := by decide +kernel
theorem dX6_load_17 : decode cX6_load 17 = .ok (.invokespecial 59, 3) := by decide +kernel
theorem dX6_load_20 : decode cX6_load 20 = .ok (.athrow, 1) := by decide +kernel
theorem dX6_load_21 : decode cX6_load 21 = .ok (.aload_n 0, 1) := by decide +kernel
theorem dX6_load_22 : decode cX6_load 22 = .ok (.getfield 19, 3) := by decide +kernel
theorem dX6_load_25 : decode cX6_load 25 = .ok (.aload_n 0, 1) := by decide +kernel
theorem dX6_load_26 : decode cX6_load 26 = .ok (.getfield 23, 3) := by decide +kernel
theorem dX6_load_29 : decode cX6_load 29 = .ok (.invokevirtual 70, 3) := by decide +kernel
theorem dX6_load_32 : decode cX6_load 32 = .ok (.aload_n 0, 1) := by decide +kernel
theorem dX6_load_33 : decode cX6_load 33 = .ok (.getfield 32, 3) := by decide +kernel
theorem dX6_load_36 : decode cX6_load 36 = .ok (.iconst 0, 1) := by decide +kernel
theorem dX6_load_37 : decode cX6_load 37 = .ok (.putfield 74, 3) := by decide +kernel
theorem dX6_load_40 : decode cX6_load 40 = .ok (.iconst 0, 1) := by decide +kernel
theorem dX6_load_41 : decode cX6_load 41 = .ok (.istore_n 1, 1) := by decide +kernel
theorem dX6_load_42 : decode cX6_load 42 = .ok (.iload_n 1, 1) := by decide +kernel
theorem dX6_load_43 : decode cX6_load 43 = .ok (.iconst 2, 1) := by decide +kernel
theorem dX6_load_44 : decode cX6_load 44 = .ok (.if_icmp .ge 16, 3) := by decide +kernel
theorem dX6_load_47 : decode cX6_load 47 = .ok (.aload_n 0, 1) := by decide +kernel
theorem dX6_load_48 : decode cX6_load 48 = .ok (.getfield 40, 3) := by decide +kernel
theorem dX6_load_51 : decode cX6_load 51 = .ok (.iload_n 1, 1) := by decide +kernel
theorem dX6_load_52 : decode cX6_load 52 = .ok (.iconst 0, 1) := by decide +kernel
theorem dX6_load_53 : decode cX6_load 53 = .ok (.bastore, 1) := by decide +kernel
theorem dX6_load_54 : decode cX6_load 54 = .ok (.iinc 1 1, 3) := by decide +kernel
theorem dX6_load_57 : decode cX6_load 57 = .ok (.goto (-15), 3) := by decide +kernel
theorem dX6_load_60 : decode cX6_load 60 = .ok (.iconst 0, 1) := by decide +kernel
theorem dX6_load_61 : decode cX6_load 61 = .ok (.istore_n 1, 1) := by decide +kernel
theorem dX6_load_62 : decode cX6_load 62 = .ok (.iconst 1, 1) := by decide +kernel
theorem dX6_load_63 : decode cX6_load 63 = .ok (.istore_n 2, 1) := by decide +kernel
theorem dX6_load_64 : decode cX6_load 64 = .ok (.iload_n 2, 1) := by decide +kernel
theorem dX6_load_65 : decode cX6_load 65 = .ok (.aload_n 0, 1) := by decide +kernel
theorem dX6_load_66 : decode cX6_load 66 = .ok (.getfield 10, 3) := by decide +kernel
theorem dX6_load_69 : decode cX6_load 69 = .ok (.getfield 51, 3) := by decide +kernel
theorem dX6_load_72 : decode cX6_load 72 = .ok (.if_icmp .ge 56, 3) := by decide +kernel
theorem dX6_load_75 : decode cX6_load 75 = .ok (.aload_n 0, 1) := by decide +kernel
theorem dX6_load_76 : decode cX6_load 76 = .ok (.getfield 19, 3) := by decide +kernel
theorem dX6_load_79 : decode cX6_load 79 = .ok (.aload_n 0, 1) := by decide +kernel
theorem dX6_load_80 : decode cX6_load 80 = .ok (.getfield 10, 3) := by decide +kernel
theorem dX6_load_83 : decode cX6_load 83 = .ok (.iload_n 2, 1) := by decide +kernel
theorem dX6_load_84 : decode cX6_load 84 = .ok (.invokevirtual 77, 3) := by decide +kernel
theorem dX6_load_87 : decode cX6_load 87 = .ok (.aload_n 0, 1) := by decide +kernel
theorem dX6_load_88 : decode cX6_load 88 = .ok (.getfield 10, 3) := by decide +kernel
theorem dX6_load_91 : decode cX6_load 91 = .ok (.iload_n 2, 1) := by decide +kernel
theorem dX6_load_92 : decode cX6_load 92 = .ok (.invokevirtual 81, 3) := by decide +kernel
theorem dX6_load_95 : decode cX6_load 95 = .ok (.aload_n 0, 1) := by decide +kernel
theorem dX6_load_96 : decode cX6_load 96 = .ok (.getfield 10, 3) := by decide +kernel
theorem dX6_load_99 : decode cX6_load 99 = .ok (.iload_n 2, 1) := by decide +kernel
theorem dX6_load_100 : decode cX6_load 100 = .ok (.invokevirtual 84, 3) := by decide +kernel
theorem dX6_load_103 : decode cX6_load 103 = .ok (.invokevirtual 87, 3) := by decide +kernel
theorem dX6_load_106 : decode cX6_load 106 = .ok (.ifCond .ne 6, 3) := by decide +kernel
theorem dX6_load_109 : decode cX6_load 109 = .ok (.iinc 1 1, 3) := by decide +kernel
theorem dX6_load_112 : decode cX6_load 112 = .ok (.iload_n 2, 1) := by decide +kernel
theorem dX6_load_113 : decode cX6_load 113 = .ok (.iconst 1, 1) := by decide +kernel
theorem dX6_load_114 : decode cX6_load 114 = .ok (.aload_n 0, 1) := by decide +kernel
theorem dX6_load_115 : decode cX6_load 115 = .ok (.getfield 10, 3) := by decide +kernel
theorem dX6_load_118 : decode cX6_load 118 = .ok (.iload_n 2, 1) := by decide +kernel
theorem dX6_load_119 : decode cX6_load 119 = .ok (.invokevirtual 91, 3) := by decide +kernel
theorem dX6_load_122 : decode cX6_load 122 = .ok (.iadd, 1) := by decide +kernel
theorem dX6_load_123 : decode cX6_load 123 = .ok (.iadd, 1) := by decide +kernel
theorem dX6_load_124 : decode cX6_load 124 = .ok (.istore_n 2, 1) := by decide +kernel
theorem dX6_load_125 : decode cX6_load 125 = .ok (.goto (-61), 3) := by decide +kernel
theorem dX6_load_128 : decode cX6_load 128 = .ok (.iload_n 1, 1) := by decide +kernel
theorem dX6_load_129 : decode cX6_load 129 = .ok (.ireturn, 1) := by decide +kernel
theorem dX6_about_0 : decode cX6_about 0 = .ok (.iload_n 1, 1) := by decide +kernel
theorem dX6_about_1 : decode cX6_about 1 = .ok (.tableswitch 143 0 9 #[55, 63, 71, 82, 93, 101, 109, 117, 126, 135], 55) := by decide +kernel
theorem dX6_about_56 : decode cX6_about 56 = .ok (.aload_n 0, 1) := by decide +kernel
theorem dX6_about_57 : decode cX6_about 57 = .ok (.getfield 19, 3) := by decide +kernel
theorem dX6_about_60 : decode cX6_about 60 = .ok (.getfield 94, 3) := by decide +kernel
theorem dX6_about_63 : decode cX6_about 63 = .ok (.ireturn, 1) := by decide +kernel
theorem dX6_about_64 : decode cX6_about 64 = .ok (.aload_n 0, 1) := by decide +kernel
theorem dX6_about_65 : decode cX6_about 65 = .ok (.getfield 19, 3) := by decide +kernel
theorem dX6_about_68 : decode cX6_about 68 = .ok (.getfield 95, 3) := by decide +kernel
theorem dX6_about_71 : decode cX6_about 71 = .ok (.ireturn, 1) := by decide +kernel
theorem dX6_about_72 : decode cX6_about 72 = .ok (.aload_n 0, 1) := by decide +kernel
theorem dX6_about_73 : decode cX6_about 73 = .ok (.getfield 19, 3) := by decide +kernel
theorem dX6_about_76 : decode cX6_about 76 = .ok (.getfield 98, 3) := by decide +kernel
theorem dX6_about_79 : decode cX6_about 79 = .ok (.getfield 102, 3) := by decide +kernel
theorem dX6_about_82 : decode cX6_about 82 = .ok (.ireturn, 1) := by decide +kernel
theorem dX6_about_83 : decode cX6_about 83 = .ok (.aload_n 0, 1) := by decide +kernel
theorem dX6_about_84 : decode cX6_about 84 = .ok (.getfield 19, 3) := by decide +kernel
theorem dX6_about_87 : decode cX6_about 87 = .ok (.getfield 98, 3) := by decide +kernel
theorem dX6_about_90 : decode cX6_about 90 = .ok (.getfield 105, 3) := by decide +kernel
theorem dX6_about_93 : decode cX6_about 93 = .ok (.ireturn, 1) := by decide +kernel
theorem dX6_about_94 : decode cX6_about 94 = .ok (.aload_n 0, 1) := by decide +kernel
theorem dX6_about_95 : decode cX6_about 95 = .ok (.getfield 19, 3) := by decide +kernel
theorem dX6_about_98 : decode cX6_about 98 = .ok (.getfield 108, 3) := by decide +kernel
theorem dX6_about_101 : decode cX6_about 101 = .ok (.ireturn, 1) := by decide +kernel
theorem dX6_about_102 : decode cX6_about 102 = .ok (.aload_n 0, 1) := by decide +kernel
theorem dX6_about_103 : decode cX6_about 103 = .ok (.getfield 19, 3) := by decide +kernel
theorem dX6_about_106 : decode cX6_about 106 = .ok (.getfield 111, 3) := by decide +kernel
theorem dX6_about_109 : decode cX6_about 109 = .ok (.ireturn, 1) := by decide +kernel
theorem dX6_about_110 : decode cX6_about 110 = .ok (.aload_n 0, 1) := by decide +kernel
theorem dX6_about_111 : decode cX6_about 111 = .ok (.getfield 19, 3) := by decide +kernel
theorem dX6_about_114 : decode cX6_about 114 = .ok (.getfield 114, 3) := by decide +kernel
theorem dX6_about_117 : decode cX6_about 117 = .ok (.ireturn, 1) := by decide +kernel
theorem dX6_about_118 : decode cX6_about 118 = .ok (.aload_n 0, 1) := by decide +kernel
theorem dX6_about_119 : decode cX6_about 119 = .ok (.getfield 19, 3) := by decide +kernel
theorem dX6_about_122 : decode cX6_about 122 = .ok (.iconst 0, 1) := by decide +kernel
theorem dX6_about_123 : decode cX6_about 123 = .ok (.invokevirtual 117, 3) := by decide +kernel
theorem dX6_about_126 : decode cX6_about 126 = .ok (.ireturn, 1) := by decide +kernel
theorem dX6_about_127 : decode cX6_about 127 = .ok (.aload_n 0, 1) := by decide +kernel
theorem dX6_about_128 : decode cX6_about 128 = .ok (.getfield 19, 3) := by decide +kernel
theorem dX6_about_131 : decode cX6_about 131 = .ok (.iconst 2, 1) := by decide +kernel
theorem dX6_about_132 : decode cX6_about 132 = .ok (.invokevirtual 117, 3) := by decide +kernel
theorem dX6_about_135 : decode cX6_about 135 = .ok (.ireturn, 1) := by decide +kernel
theorem dX6_about_136 : decode cX6_about 136 = .ok (.aload_n 0, 1) := by decide +kernel
theorem dX6_about_137 : decode cX6_about 137 = .ok (.getfield 19, 3) := by decide +kernel
theorem dX6_about_140 : decode cX6_about 140 = .ok (.getfield 120, 3) := by decide +kernel
theorem dX6_about_143 : decode cX6_about 143 = .ok (.ireturn, 1) := by decide +kernel
theorem dX6_about_144 : decode cX6_about 144 = .ok (.new 44, 3) := by decide +kernel
theorem dX6_about_147 : decode cX6_about 147 = .ok (.dup, 1) := by decide +kernel
theorem dX6_about_148 : decode cX6_about 148 = .ok (.ldc 123, 2) := by decide +kernel
theorem dX6_about_150 : decode cX6_about 150 = .ok (.invokespecial 48, 3) := by decide +kernel
theorem dX6_about_153 : decode cX6_about 153 = .ok (.athrow, 1) := by decide +kernel
theorem dX6_memberOf_0 : decode cX6_memberOf 0 = .ok (.aload_n 0, 1) := by decide +kernel
theorem dX6_memberOf_1 : decode cX6_memberOf 1 = .ok (.iload_n 1, 1) := by decide +kernel
theorem dX6_memberOf_2 : decode cX6_memberOf 2 = .ok (.invokevirtual 125, 3) := by decide +kernel
theorem dX6_memberOf_5 : decode cX6_memberOf 5 = .ok (.aload_n 0, 1) := by decide +kernel
theorem dX6_memberOf_6 : decode cX6_memberOf 6 = .ok (.getfield 19, 3) := by decide +kernel
theorem dX6_memberOf_9 : decode cX6_memberOf 9 = .ok (.getfield 128, 3) := by decide +kernel
theorem dX6_memberOf_12 : decode cX6_memberOf 12 = .ok (.iload_n 1, 1) := by decide +kernel
theorem dX6_memberOf_13 : decode cX6_memberOf 13 = .ok (.aaload, 1) := by decide +kernel
theorem dX6_memberOf_14 : decode cX6_memberOf 14 = .ok (.astore_n 3, 1) := by decide +kernel
theorem dX6_memberOf_15 : decode cX6_memberOf 15 = .ok (.iload_n 2, 1) := by decide +kernel
theorem dX6_memberOf_16 : decode cX6_memberOf 16 = .ok (.tableswitch 130 0 11 #[64, 69, 74, 79, 84, 89, 94, 99, 104, 109, 114, 122], 64) := by decide +kernel
theorem dX6_memberOf_80 : decode cX6_memberOf 80 = .ok (.aload_n 3, 1) := by decide +kernel
theorem dX6_memberOf_81 : decode cX6_memberOf 81 = .ok (.getfield 132, 3) := by decide +kernel
theorem dX6_memberOf_84 : decode cX6_memberOf 84 = .ok (.ireturn, 1) := by decide +kernel
theorem dX6_memberOf_85 : decode cX6_memberOf 85 = .ok (.aload_n 3, 1) := by decide +kernel
theorem dX6_memberOf_86 : decode cX6_memberOf 86 = .ok (.getfield 137, 3) := by decide +kernel
theorem dX6_memberOf_89 : decode cX6_memberOf 89 = .ok (.ireturn, 1) := by decide +kernel
theorem dX6_memberOf_90 : decode cX6_memberOf 90 = .ok (.aload_n 3, 1) := by decide +kernel
theorem dX6_memberOf_91 : decode cX6_memberOf 91 = .ok (.getfield 140, 3) := by decide +kernel
theorem dX6_memberOf_94 : decode cX6_memberOf 94 = .ok (.ireturn, 1) := by decide +kernel
theorem dX6_memberOf_95 : decode cX6_memberOf 95 = .ok (.aload_n 3, 1) := by decide +kernel
theorem dX6_memberOf_96 : decode cX6_memberOf 96 = .ok (.getfield 143, 3) := by decide +kernel
theorem dX6_memberOf_99 : decode cX6_memberOf 99 = .ok (.ireturn, 1) := by decide +kernel
theorem dX6_memberOf_100 : decode cX6_memberOf 100 = .ok (.aload_n 3, 1) := by decide +kernel
theorem dX6_memberOf_101 : decode cX6_memberOf 101 = .ok (.getfield 146, 3) := by decide +kernel
theorem dX6_memberOf_104 : decode cX6_memberOf 104 = .ok (.ireturn, 1) := by decide +kernel
theorem dX6_memberOf_105 : decode cX6_memberOf 105 = .ok (.aload_n 3, 1) := by decide +kernel
theorem dX6_memberOf_106 : decode cX6_memberOf 106 = .ok (.getfield 149, 3) := by decide +kernel
theorem dX6_memberOf_109 : decode cX6_memberOf 109 = .ok (.ireturn, 1) := by decide +kernel
theorem dX6_memberOf_110 : decode cX6_memberOf 110 = .ok (.aload_n 3, 1) := by decide +kernel
theorem dX6_memberOf_111 : decode cX6_memberOf 111 = .ok (.getfield 152, 3) := by decide +kernel
theorem dX6_memberOf_114 : decode cX6_memberOf 114 = .ok (.ireturn, 1) := by decide +kernel
theorem dX6_memberOf_115 : decode cX6_memberOf 115 = .ok (.aload_n 3, 1) := by decide +kernel
theorem dX6_memberOf_116 : decode cX6_memberOf 116 = .ok (.getfield 155, 3) := by decide +kernel
theorem dX6_memberOf_119 : decode cX6_memberOf 119 = .ok (.ireturn, 1) := by decide +kernel
theorem dX6_memberOf_120 : decode cX6_memberOf 120 = .ok (.aload_n 3, 1) := by decide +kernel
theorem dX6_memberOf_121 : decode cX6_memberOf 121 = .ok (.getfield 156, 3) := by decide +kernel
theorem dX6_memberOf_124 : decode cX6_memberOf 124 = .ok (.ireturn, 1) := by decide +kernel
theorem dX6_memberOf_125 : decode cX6_memberOf 125 = .ok (.aload_n 3, 1) := by decide +kernel
theorem dX6_memberOf_126 : decode cX6_memberOf 126 = .ok (.getfield 159, 3) := by decide +kernel
theorem dX6_memberOf_129 : decode cX6_memberOf 129 = .ok (.ireturn, 1) := by decide +kernel
theorem dX6_memberOf_130 : decode cX6_memberOf 130 = .ok (.aload_n 3, 1) := by decide +kernel
theorem dX6_memberOf_131 : decode cX6_memberOf 131 = .ok (.getfield 162, 3) := by decide +kernel
theorem dX6_memberOf_134 : decode cX6_memberOf 134 = .ok (.getfield 166, 3) := by decide +kernel
theorem dX6_memberOf_137 : decode cX6_memberOf 137 = .ok (.ireturn, 1) := by decide +kernel
theorem dX6_memberOf_138 : decode cX6_memberOf 138 = .ok (.aload_n 3, 1) := by decide +kernel
theorem dX6_memberOf_139 : decode cX6_memberOf 139 = .ok (.getfield 169, 3) := by decide +kernel
theorem dX6_memberOf_142 : decode cX6_memberOf 142 = .ok (.getfield 166, 3) := by decide +kernel
theorem dX6_memberOf_145 : decode cX6_memberOf 145 = .ok (.ireturn, 1) := by decide +kernel
theorem dX6_memberOf_146 : decode cX6_memberOf 146 = .ok (.new 44, 3) := by decide +kernel
theorem dX6_memberOf_149 : decode cX6_memberOf 149 = .ok (.dup, 1) := by decide +kernel
theorem dX6_memberOf_150 : decode cX6_memberOf 150 = .ok (.ldc 172, 2) := by decide +kernel
theorem dX6_memberOf_152 : decode cX6_memberOf 152 = .ok (.invokespecial 48, 3) := by decide +kernel
theorem dX6_memberOf_155 : decode cX6_memberOf 155 = .ok (.athrow, 1) := by decide +kernel
theorem dX6_session_0 : decode cX6_session 0 = .ok (.aload_n 0, 1) := by decide +kernel
theorem dX6_session_1 : decode cX6_session 1 = .ok (.iload_n 1, 1) := by decide +kernel
theorem dX6_session_2 : decode cX6_session 2 = .ok (.invokevirtual 125, 3) := by decide +kernel
theorem dX6_session_5 : decode cX6_session 5 = .ok (.aload_n 0, 1) := by decide +kernel
theorem dX6_session_6 : decode cX6_session 6 = .ok (.getfield 19, 3) := by decide +kernel
theorem dX6_session_9 : decode cX6_session 9 = .ok (.getfield 128, 3) := by decide +kernel
theorem dX6_session_12 : decode cX6_session 12 = .ok (.iload_n 1, 1) := by decide +kernel
theorem dX6_session_13 : decode cX6_session 13 = .ok (.aaload, 1) := by decide +kernel
theorem dX6_session_14 : decode cX6_session 14 = .ok (.getfield 169, 3) := by decide +kernel
theorem dX6_session_17 : decode cX6_session 17 = .ok (.astore 4, 2) := by decide +kernel
theorem dX6_session_19 : decode cX6_session 19 = .ok (.iload_n 2, 1) := by decide +kernel
theorem dX6_session_20 : decode cX6_session 20 = .ok (.ifCond .lt 12, 3) := by decide +kernel
theorem dX6_session_23 : decode cX6_session 23 = .ok (.iload_n 2, 1) := by decide +kernel
theorem dX6_session_24 : decode cX6_session 24 = .ok (.aload 4, 2) := by decide +kernel
theorem dX6_session_26 : decode cX6_session 26 = .ok (.getfield 166, 3) := by decide +kernel
theorem dX6_session_29 : decode cX6_session 29 = .ok (.if_icmp .lt 13, 3) := by decide +kernel
theorem dX6_session_32 : decode cX6_session 32 = .ok (.new 174, 3) := by decide +kernel
theorem dX6_session_35 : decode cX6_session 35 = .ok (.dup, 1) := by decide +kernel
theorem dX6_session_36 : decode cX6_session 36 = .ok (.ldc 176, 2) := by decide +kernel
theorem dX6_session_38 : decode cX6_session 38 = .ok (.invokespecial 178, 3) := by decide +kernel
theorem dX6_session_41 : decode cX6_session 41 = .ok (.athrow, 1) := by decide +kernel
theorem dX6_session_42 : decode cX6_session 42 = .ok (.iload_n 3, 1) := by decide +kernel
theorem dX6_session_43 : decode cX6_session 43 = .ok (.tableswitch 49 0 2 #[25, 33, 41], 25) := by decide +kernel
theorem dX6_session_68 : decode cX6_session 68 = .ok (.aload 4, 2) := by decide +kernel
theorem dX6_session_70 : decode cX6_session 70 = .ok (.getfield 179, 3) := by decide +kernel
theorem dX6_session_73 : decode cX6_session 73 = .ok (.iload_n 2, 1) := by decide +kernel
theorem dX6_session_74 : decode cX6_session 74 = .ok (.iaload, 1) := by decide +kernel
theorem dX6_session_75 : decode cX6_session 75 = .ok (.ireturn, 1) := by decide +kernel
theorem dX6_session_76 : decode cX6_session 76 = .ok (.aload 4, 2) := by decide +kernel
theorem dX6_session_78 : decode cX6_session 78 = .ok (.getfield 183, 3) := by decide +kernel
theorem dX6_session_81 : decode cX6_session 81 = .ok (.iload_n 2, 1) := by decide +kernel
theorem dX6_session_82 : decode cX6_session 82 = .ok (.iaload, 1) := by decide +kernel
theorem dX6_session_83 : decode cX6_session 83 = .ok (.ireturn, 1) := by decide +kernel
theorem dX6_session_84 : decode cX6_session 84 = .ok (.aload 4, 2) := by decide +kernel
theorem dX6_session_86 : decode cX6_session 86 = .ok (.getfield 186, 3) := by decide +kernel
theorem dX6_session_89 : decode cX6_session 89 = .ok (.iload_n 2, 1) := by decide +kernel
theorem dX6_session_90 : decode cX6_session 90 = .ok (.iaload, 1) := by decide +kernel
theorem dX6_session_91 : decode cX6_session 91 = .ok (.ireturn, 1) := by decide +kernel
theorem dX6_session_92 : decode cX6_session 92 = .ok (.new 44, 3) := by decide +kernel
theorem dX6_session_95 : decode cX6_session 95 = .ok (.dup, 1) := by decide +kernel
theorem dX6_session_96 : decode cX6_session 96 = .ok (.ldc 188, 2) := by decide +kernel
theorem dX6_session_98 : decode cX6_session 98 = .ok (.invokespecial 48, 3) := by decide +kernel
theorem dX6_session_101 : decode cX6_session 101 = .ok (.athrow, 1) := by decide +kernel
theorem dX6_note_0 : decode cX6_note 0 = .ok (.iload_n 1, 1) := by decide +kernel
theorem dX6_note_1 : decode cX6_note 1 = .ok (.ifCond .lt 17, 3) := by decide +kernel
theorem dX6_note_4 : decode cX6_note 4 = .ok (.iload_n 1, 1) := by decide +kernel
theorem dX6_note_5 : decode cX6_note 5 = .ok (.aload_n 0, 1) := by decide +kernel
theorem dX6_note_6 : decode cX6_note 6 = .ok (.getfield 19, 3) := by decide +kernel
theorem dX6_note_9 : decode cX6_note 9 = .ok (.getfield 98, 3) := by decide +kernel
theorem dX6_note_12 : decode cX6_note 12 = .ok (.getfield 102, 3) := by decide +kernel
theorem dX6_note_15 : decode cX6_note 15 = .ok (.if_icmp .lt 13, 3) := by decide +kernel
theorem dX6_note_18 : decode cX6_note 18 = .ok (.new 174, 3) := by decide +kernel
theorem dX6_note_21 : decode cX6_note 21 = .ok (.dup, 1) := by decide +kernel
theorem dX6_note_22 : decode cX6_note 22 = .ok (.ldc 190, 2) := by decide +kernel
theorem dX6_note_24 : decode cX6_note 24 = .ok (.invokespecial 178, 3) := by decide +kernel
theorem dX6_note_27 : decode cX6_note 27 = .ok (.athrow, 1) := by decide +kernel
theorem dX6_note_28 : decode cX6_note 28 = .ok (.iload_n 2, 1) := by decide +kernel
theorem dX6_note_29 : decode cX6_note 29 = .ok (.ifCond .lt 9, 3) := by decide +kernel
theorem dX6_note_32 : decode cX6_note 32 = .ok (.iload_n 2, 1) := by decide +kernel
theorem dX6_note_33 : decode cX6_note 33 = .ok (.bipush 6, 2) := by decide +kernel
theorem dX6_note_35 : decode cX6_note 35 = .ok (.if_icmp .lt 13, 3) := by decide +kernel
theorem dX6_note_38 : decode cX6_note 38 = .ok (.new 44, 3) := by decide +kernel
theorem dX6_note_41 : decode cX6_note 41 = .ok (.dup, 1) := by decide +kernel
theorem dX6_note_42 : decode cX6_note 42 = .ok (.ldc 192, 2) := by decide +kernel
theorem dX6_note_44 : decode cX6_note 44 = .ok (.invokespecial 48, 3) := by decide +kernel
theorem dX6_note_47 : decode cX6_note 47 = .ok (.athrow, 1) := by decide +kernel
theorem dX6_note_48 : decode cX6_note 48 = .ok (.aload_n 0, 1) := by decide +kernel
theorem dX6_note_49 : decode cX6_note 49 = .ok (.getfield 19, 3) := by decide +kernel
theorem dX6_note_52 : decode cX6_note 52 = .ok (.getfield 98, 3) := by decide +kernel
theorem dX6_note_55 : decode cX6_note 55 = .ok (.getfield 194, 3) := by decide +kernel
theorem dX6_note_58 : decode cX6_note 58 = .ok (.iload_n 1, 1) := by decide +kernel
theorem dX6_note_59 : decode cX6_note 59 = .ok (.bipush 9, 2) := by decide +kernel
theorem dX6_note_61 : decode cX6_note 61 = .ok (.imul, 1) := by decide +kernel
theorem dX6_note_62 : decode cX6_note 62 = .ok (.iload_n 2, 1) := by decide +kernel
theorem dX6_note_63 : decode cX6_note 63 = .ok (.iadd, 1) := by decide +kernel
theorem dX6_note_64 : decode cX6_note 64 = .ok (.iaload, 1) := by decide +kernel
theorem dX6_note_65 : decode cX6_note 65 = .ok (.ireturn, 1) := by decide +kernel
theorem dX6_isCut_0 : decode cX6_isCut 0 = .ok (.aload_n 0, 1) := by decide +kernel
theorem dX6_isCut_1 : decode cX6_isCut 1 = .ok (.iload_n 1, 1) := by decide +kernel
theorem dX6_isCut_2 : decode cX6_isCut 2 = .ok (.invokevirtual 125, 3) := by decide +kernel
theorem dX6_isCut_5 : decode cX6_isCut 5 = .ok (.aload_n 0, 1) := by decide +kernel
theorem dX6_isCut_6 : decode cX6_isCut 6 = .ok (.iload_n 2, 1) := by decide +kernel
theorem dX6_isCut_7 : decode cX6_isCut 7 = .ok (.invokevirtual 125, 3) := by decide +kernel
theorem dX6_isCut_10 : decode cX6_isCut 10 = .ok (.aload_n 0, 1) := by decide +kernel
theorem dX6_isCut_11 : decode cX6_isCut 11 = .ok (.getfield 19, 3) := by decide +kernel
theorem dX6_isCut_14 : decode cX6_isCut 14 = .ok (.getfield 98, 3) := by decide +kernel
theorem dX6_isCut_17 : decode cX6_isCut 17 = .ok (.iload_n 1, 1) := by decide +kernel
theorem dX6_isCut_18 : decode cX6_isCut 18 = .ok (.iload_n 2, 1) := by decide +kernel
theorem dX6_isCut_19 : decode cX6_isCut 19 = .ok (.invokevirtual 197, 3) := by decide +kernel
theorem dX6_isCut_22 : decode cX6_isCut 22 = .ok (.ifCond .eq 7, 3) := by decide +kernel
theorem dX6_isCut_25 : decode cX6_isCut 25 = .ok (.iconst 1, 1) := by decide +kernel
theorem dX6_isCut_26 : decode cX6_isCut 26 = .ok (.goto 4, 3) := by decide +kernel
theorem dX6_isCut_29 : decode cX6_isCut 29 = .ok (.iconst 0, 1) := by decide +kernel
theorem dX6_isCut_30 : decode cX6_isCut 30 = .ok (.ireturn, 1) := by decide +kernel
theorem dX6_member_0 : decode cX6_member 0 = .ok (.iload_n 1, 1) := by decide +kernel
theorem dX6_member_1 : decode cX6_member 1 = .ok (.invokestatic 201, 3) := by decide +kernel
theorem dX6_member_4 : decode cX6_member 4 = .ok (.ifCond .ne 13, 3) := by decide +kernel
theorem dX6_member_7 : decode cX6_member 7 = .ok (.new 44, 3) := by decide +kernel
theorem dX6_member_10 : decode cX6_member 10 = .ok (.dup, 1) := by decide +kernel
theorem dX6_member_11 : decode cX6_member 11 = .ok (.ldc 205, 2) := by decide +kernel
theorem dX6_member_13 : decode cX6_member 13 = .ok (.invokespecial 48, 3) := by decide +kernel
theorem dX6_member_16 : decode cX6_member 16 = .ok (.athrow, 1) := by decide +kernel
theorem dX6_member_17 : decode cX6_member 17 = .ok (.aload_n 0, 1) := by decide +kernel
theorem dX6_member_18 : decode cX6_member 18 = .ok (.getfield 19, 3) := by decide +kernel
theorem dX6_member_21 : decode cX6_member 21 = .ok (.getfield 94, 3) := by decide +kernel
theorem dX6_member_24 : decode cX6_member 24 = .ok (.bipush 6, 2) := by decide +kernel
theorem dX6_member_26 : decode cX6_member 26 = .ok (.if_icmp .lt 13, 3) := by decide +kernel
theorem dX6_member_29 : decode cX6_member 29 = .ok (.new 55, 3) := by decide +kernel
theorem dX6_member_32 : decode cX6_member 32 = .ok (.dup, 1) := by decide +kernel
theorem dX6_member_33 : decode cX6_member 33 = .ok (.ldc 207, 2) := by decide +kernel
theorem dX6_member_35 : decode cX6_member 35 = .ok (.invokespecial 59, 3) := by decide +kernel
theorem dX6_member_38 : decode cX6_member 38 = .ok (.athrow, 1) := by decide +kernel
theorem dX6_member_39 : decode cX6_member 39 = .ok (.aload_n 0, 1) := by decide +kernel
theorem dX6_member_40 : decode cX6_member 40 = .ok (.getfield 32, 3) := by decide +kernel
theorem dX6_member_43 : decode cX6_member 43 = .ok (.aload_n 0, 1) := by decide +kernel
theorem dX6_member_44 : decode cX6_member 44 = .ok (.getfield 19, 3) := by decide +kernel
theorem dX6_member_47 : decode cX6_member 47 = .ok (.invokevirtual 209, 3) := by decide +kernel
theorem dX6_member_50 : decode cX6_member 50 = .ok (.aload_n 0, 1) := by decide +kernel
theorem dX6_member_51 : decode cX6_member 51 = .ok (.getfield 19, 3) := by decide +kernel
theorem dX6_member_54 : decode cX6_member 54 = .ok (.iload_n 1, 1) := by decide +kernel
theorem dX6_member_55 : decode cX6_member 55 = .ok (.invokevirtual 212, 3) := by decide +kernel
theorem dX6_member_58 : decode cX6_member 58 = .ok (.ireturn, 1) := by decide +kernel
theorem dX6_say_0 : decode cX6_say 0 = .ok (.aload_n 0, 1) := by decide +kernel
theorem dX6_say_1 : decode cX6_say 1 = .ok (.iload_n 1, 1) := by decide +kernel
theorem dX6_say_2 : decode cX6_say 2 = .ok (.invokevirtual 125, 3) := by decide +kernel
theorem dX6_say_5 : decode cX6_say 5 = .ok (.aload_n 0, 1) := by decide +kernel
theorem dX6_say_6 : decode cX6_say 6 = .ok (.getfield 19, 3) := by decide +kernel
theorem dX6_say_9 : decode cX6_say 9 = .ok (.getfield 128, 3) := by decide +kernel
theorem dX6_say_12 : decode cX6_say 12 = .ok (.iload_n 1, 1) := by decide +kernel
theorem dX6_say_13 : decode cX6_say 13 = .ok (.aaload, 1) := by decide +kernel
theorem dX6_say_14 : decode cX6_say 14 = .ok (.invokevirtual 215, 3) := by decide +kernel
theorem dX6_say_17 : decode cX6_say 17 = .ok (.ifCond .ne 13, 3) := by decide +kernel
theorem dX6_say_20 : decode cX6_say 20 = .ok (.new 55, 3) := by decide +kernel
theorem dX6_say_23 : decode cX6_say 23 = .ok (.dup, 1) := by decide +kernel
theorem dX6_say_24 : decode cX6_say 24 = .ok (.ldc 219, 2) := by decide +kernel
theorem dX6_say_26 : decode cX6_say 26 = .ok (.invokespecial 59, 3) := by decide +kernel
theorem dX6_say_29 : decode cX6_say 29 = .ok (.athrow, 1) := by decide +kernel
theorem dX6_say_30 : decode cX6_say 30 = .ok (.aload_n 0, 1) := by decide +kernel
theorem dX6_say_31 : decode cX6_say 31 = .ok (.getfield 32, 3) := by decide +kernel
theorem dX6_say_34 : decode cX6_say 34 = .ok (.aload_n 0, 1) := by decide +kernel
theorem dX6_say_35 : decode cX6_say 35 = .ok (.getfield 19, 3) := by decide +kernel
theorem dX6_say_38 : decode cX6_say 38 = .ok (.invokevirtual 209, 3) := by decide +kernel
theorem dX6_say_41 : decode cX6_say 41 = .ok (.aload_n 0, 1) := by decide +kernel
theorem dX6_say_42 : decode cX6_say 42 = .ok (.getfield 19, 3) := by decide +kernel
theorem dX6_say_45 : decode cX6_say 45 = .ok (.iload_n 1, 1) := by decide +kernel
theorem dX6_say_46 : decode cX6_say 46 = .ok (.invokevirtual 221, 3) := by decide +kernel
theorem dX6_say_49 : decode cX6_say 49 = .ok (.ireturn, 1) := by decide +kernel
theorem dX6_call_0 : decode cX6_call 0 = .ok (.aload_n 0, 1) := by decide +kernel
theorem dX6_call_1 : decode cX6_call 1 = .ok (.iload_n 1, 1) := by decide +kernel
theorem dX6_call_2 : decode cX6_call 2 = .ok (.invokevirtual 125, 3) := by decide +kernel
theorem dX6_call_5 : decode cX6_call 5 = .ok (.aload_n 0, 1) := by decide +kernel
theorem dX6_call_6 : decode cX6_call 6 = .ok (.getfield 19, 3) := by decide +kernel
theorem dX6_call_9 : decode cX6_call 9 = .ok (.iload_n 1, 1) := by decide +kernel
theorem dX6_call_10 : decode cX6_call 10 = .ok (.iload_n 2, 1) := by decide +kernel
theorem dX6_call_11 : decode cX6_call 11 = .ok (.invokevirtual 224, 3) := by decide +kernel
theorem dX6_call_14 : decode cX6_call 14 = .ok (.ifCond .ne 13, 3) := by decide +kernel
theorem dX6_call_17 : decode cX6_call 17 = .ok (.new 44, 3) := by decide +kernel
theorem dX6_call_20 : decode cX6_call 20 = .ok (.dup, 1) := by decide +kernel
theorem dX6_call_21 : decode cX6_call 21 = .ok (.ldc 227, 2) := by decide +kernel
theorem dX6_call_23 : decode cX6_call 23 = .ok (.invokespecial 48, 3) := by decide +kernel
theorem dX6_call_26 : decode cX6_call 26 = .ok (.athrow, 1) := by decide +kernel
theorem dX6_call_27 : decode cX6_call 27 = .ok (.aload_n 0, 1) := by decide +kernel
theorem dX6_call_28 : decode cX6_call 28 = .ok (.getfield 19, 3) := by decide +kernel
theorem dX6_call_31 : decode cX6_call 31 = .ok (.iload_n 1, 1) := by decide +kernel
theorem dX6_call_32 : decode cX6_call 32 = .ok (.invokevirtual 229, 3) := by decide +kernel
theorem dX6_call_35 : decode cX6_call 35 = .ok (.ifCond .eq 13, 3) := by decide +kernel
theorem dX6_call_38 : decode cX6_call 38 = .ok (.new 55, 3) := by decide +kernel
theorem dX6_call_41 : decode cX6_call 41 = .ok (.dup, 1) := by decide +kernel
theorem dX6_call_42 : decode cX6_call 42 = .ok (.ldc 232, 2) := by decide +kernel
theorem dX6_call_44 : decode cX6_call 44 = .ok (.invokespecial 59, 3) := by decide +kernel
theorem dX6_call_47 : decode cX6_call 47 = .ok (.athrow, 1) := by decide +kernel
theorem dX6_call_48 : decode cX6_call 48 = .ok (.aload_n 0, 1) := by decide +kernel
theorem dX6_call_49 : decode cX6_call 49 = .ok (.getfield 32, 3) := by decide +kernel
theorem dX6_call_52 : decode cX6_call 52 = .ok (.aload_n 0, 1) := by decide +kernel
theorem dX6_call_53 : decode cX6_call 53 = .ok (.getfield 19, 3) := by decide +kernel
theorem dX6_call_56 : decode cX6_call 56 = .ok (.invokevirtual 209, 3) := by decide +kernel
theorem dX6_call_59 : decode cX6_call 59 = .ok (.aload_n 0, 1) := by decide +kernel
theorem dX6_call_60 : decode cX6_call 60 = .ok (.getfield 19, 3) := by decide +kernel
theorem dX6_call_63 : decode cX6_call 63 = .ok (.iload_n 1, 1) := by decide +kernel
theorem dX6_call_64 : decode cX6_call 64 = .ok (.iload_n 2, 1) := by decide +kernel
theorem dX6_call_65 : decode cX6_call 65 = .ok (.invokevirtual 234, 3) := by decide +kernel
theorem dX6_call_68 : decode cX6_call 68 = .ok (.ireturn, 1) := by decide +kernel
theorem dX6_cut_0 : decode cX6_cut 0 = .ok (.aload_n 0, 1) := by decide +kernel
theorem dX6_cut_1 : decode cX6_cut 1 = .ok (.iload_n 1, 1) := by decide +kernel
theorem dX6_cut_2 : decode cX6_cut 2 = .ok (.invokevirtual 125, 3) := by decide +kernel
theorem dX6_cut_5 : decode cX6_cut 5 = .ok (.aload_n 0, 1) := by decide +kernel
theorem dX6_cut_6 : decode cX6_cut 6 = .ok (.iload_n 2, 1) := by decide +kernel
theorem dX6_cut_7 : decode cX6_cut 7 = .ok (.invokevirtual 125, 3) := by decide +kernel
theorem dX6_cut_10 : decode cX6_cut 10 = .ok (.iload_n 1, 1) := by decide +kernel
theorem dX6_cut_11 : decode cX6_cut 11 = .ok (.iload_n 2, 1) := by decide +kernel
theorem dX6_cut_12 : decode cX6_cut 12 = .ok (.if_icmp .ne 13, 3) := by decide +kernel
theorem dX6_cut_15 : decode cX6_cut 15 = .ok (.new 44, 3) := by decide +kernel
theorem dX6_cut_18 : decode cX6_cut 18 = .ok (.dup, 1) := by decide +kernel
theorem dX6_cut_19 : decode cX6_cut 19 = .ok (.ldc 238, 2) := by decide +kernel
theorem dX6_cut_21 : decode cX6_cut 21 = .ok (.invokespecial 48, 3) := by decide +kernel
theorem dX6_cut_24 : decode cX6_cut 24 = .ok (.athrow, 1) := by decide +kernel
theorem dX6_cut_25 : decode cX6_cut 25 = .ok (.aload_n 0, 1) := by decide +kernel
theorem dX6_cut_26 : decode cX6_cut 26 = .ok (.getfield 32, 3) := by decide +kernel
theorem dX6_cut_29 : decode cX6_cut 29 = .ok (.aload_n 0, 1) := by decide +kernel
theorem dX6_cut_30 : decode cX6_cut 30 = .ok (.getfield 19, 3) := by decide +kernel
theorem dX6_cut_33 : decode cX6_cut 33 = .ok (.invokevirtual 209, 3) := by decide +kernel
theorem dX6_cut_36 : decode cX6_cut 36 = .ok (.aload_n 0, 1) := by decide +kernel
theorem dX6_cut_37 : decode cX6_cut 37 = .ok (.getfield 19, 3) := by decide +kernel
theorem dX6_cut_40 : decode cX6_cut 40 = .ok (.getfield 98, 3) := by decide +kernel
theorem dX6_cut_43 : decode cX6_cut 43 = .ok (.iload_n 1, 1) := by decide +kernel
theorem dX6_cut_44 : decode cX6_cut 44 = .ok (.iload_n 2, 1) := by decide +kernel
theorem dX6_cut_45 : decode cX6_cut 45 = .ok (.iload_n 3, 1) := by decide +kernel
theorem dX6_cut_46 : decode cX6_cut 46 = .ok (.invokevirtual 240, 3) := by decide +kernel
theorem dX6_cut_49 : decode cX6_cut 49 = .ok (.aload_n 0, 1) := by decide +kernel
theorem dX6_cut_50 : decode cX6_cut 50 = .ok (.getfield 19, 3) := by decide +kernel
theorem dX6_cut_53 : decode cX6_cut 53 = .ok (.getfield 98, 3) := by decide +kernel
theorem dX6_cut_56 : decode cX6_cut 56 = .ok (.getfield 244, 3) := by decide +kernel
theorem dX6_cut_59 : decode cX6_cut 59 = .ok (.ireturn, 1) := by decide +kernel
theorem dX6_leave_0 : decode cX6_leave 0 = .ok (.aload_n 0, 1) := by decide +kernel
theorem dX6_leave_1 : decode cX6_leave 1 = .ok (.iload_n 1, 1) := by decide +kernel
theorem dX6_leave_2 : decode cX6_leave 2 = .ok (.invokevirtual 125, 3) := by decide +kernel
theorem dX6_leave_5 : decode cX6_leave 5 = .ok (.aload_n 0, 1) := by decide +kernel
theorem dX6_leave_6 : decode cX6_leave 6 = .ok (.getfield 19, 3) := by decide +kernel
theorem dX6_leave_9 : decode cX6_leave 9 = .ok (.iload_n 1, 1) := by decide +kernel
theorem dX6_leave_10 : decode cX6_leave 10 = .ok (.invokevirtual 229, 3) := by decide +kernel
theorem dX6_leave_13 : decode cX6_leave 13 = .ok (.ifCond .eq 13, 3) := by decide +kernel
theorem dX6_leave_16 : decode cX6_leave 16 = .ok (.new 55, 3) := by decide +kernel
theorem dX6_leave_19 : decode cX6_leave 19 = .ok (.dup, 1) := by decide +kernel
theorem dX6_leave_20 : decode cX6_leave 20 = .ok (.ldc 232, 2) := by decide +kernel
theorem dX6_leave_22 : decode cX6_leave 22 = .ok (.invokespecial 59, 3) := by decide +kernel
theorem dX6_leave_25 : decode cX6_leave 25 = .ok (.athrow, 1) := by decide +kernel
theorem dX6_leave_26 : decode cX6_leave 26 = .ok (.aload_n 0, 1) := by decide +kernel
theorem dX6_leave_27 : decode cX6_leave 27 = .ok (.getfield 32, 3) := by decide +kernel
theorem dX6_leave_30 : decode cX6_leave 30 = .ok (.aload_n 0, 1) := by decide +kernel
theorem dX6_leave_31 : decode cX6_leave 31 = .ok (.getfield 19, 3) := by decide +kernel
theorem dX6_leave_34 : decode cX6_leave 34 = .ok (.invokevirtual 209, 3) := by decide +kernel
theorem dX6_leave_37 : decode cX6_leave 37 = .ok (.aload_n 0, 1) := by decide +kernel
theorem dX6_leave_38 : decode cX6_leave 38 = .ok (.getfield 19, 3) := by decide +kernel
theorem dX6_leave_41 : decode cX6_leave 41 = .ok (.getfield 128, 3) := by decide +kernel
theorem dX6_leave_44 : decode cX6_leave 44 = .ok (.iload_n 1, 1) := by decide +kernel
theorem dX6_leave_45 : decode cX6_leave 45 = .ok (.aaload, 1) := by decide +kernel
theorem dX6_leave_46 : decode cX6_leave 46 = .ok (.invokevirtual 247, 3) := by decide +kernel
theorem dX6_leave_49 : decode cX6_leave 49 = .ok (.aload_n 0, 1) := by decide +kernel
theorem dX6_leave_50 : decode cX6_leave 50 = .ok (.getfield 19, 3) := by decide +kernel
theorem dX6_leave_53 : decode cX6_leave 53 = .ok (.getfield 128, 3) := by decide +kernel
theorem dX6_leave_56 : decode cX6_leave 56 = .ok (.iload_n 1, 1) := by decide +kernel
theorem dX6_leave_57 : decode cX6_leave 57 = .ok (.aaload, 1) := by decide +kernel
theorem dX6_leave_58 : decode cX6_leave 58 = .ok (.getfield 140, 3) := by decide +kernel
theorem dX6_leave_61 : decode cX6_leave 61 = .ok (.ireturn, 1) := by decide +kernel
theorem dX6_back_0 : decode cX6_back 0 = .ok (.aload_n 0, 1) := by decide +kernel
theorem dX6_back_1 : decode cX6_back 1 = .ok (.iload_n 1, 1) := by decide +kernel
theorem dX6_back_2 : decode cX6_back 2 = .ok (.invokevirtual 125, 3) := by decide +kernel
theorem dX6_back_5 : decode cX6_back 5 = .ok (.aload_n 0, 1) := by decide +kernel
theorem dX6_back_6 : decode cX6_back 6 = .ok (.getfield 19, 3) := by decide +kernel
theorem dX6_back_9 : decode cX6_back 9 = .ok (.iload_n 1, 1) := by decide +kernel
theorem dX6_back_10 : decode cX6_back 10 = .ok (.invokevirtual 229, 3) := by decide +kernel
theorem dX6_back_13 : decode cX6_back 13 = .ok (.ifCond .ne 13, 3) := by decide +kernel
theorem dX6_back_16 : decode cX6_back 16 = .ok (.new 55, 3) := by decide +kernel
theorem dX6_back_19 : decode cX6_back 19 = .ok (.dup, 1) := by decide +kernel
theorem dX6_back_20 : decode cX6_back 20 = .ok (.ldc 250, 2) := by decide +kernel
theorem dX6_back_22 : decode cX6_back 22 = .ok (.invokespecial 59, 3) := by decide +kernel
theorem dX6_back_25 : decode cX6_back 25 = .ok (.athrow, 1) := by decide +kernel
theorem dX6_back_26 : decode cX6_back 26 = .ok (.aload_n 0, 1) := by decide +kernel
theorem dX6_back_27 : decode cX6_back 27 = .ok (.getfield 32, 3) := by decide +kernel
theorem dX6_back_30 : decode cX6_back 30 = .ok (.aload_n 0, 1) := by decide +kernel
theorem dX6_back_31 : decode cX6_back 31 = .ok (.getfield 19, 3) := by decide +kernel
theorem dX6_back_34 : decode cX6_back 34 = .ok (.invokevirtual 209, 3) := by decide +kernel
theorem dX6_back_37 : decode cX6_back 37 = .ok (.aload_n 0, 1) := by decide +kernel
theorem dX6_back_38 : decode cX6_back 38 = .ok (.getfield 19, 3) := by decide +kernel
theorem dX6_back_41 : decode cX6_back 41 = .ok (.getfield 128, 3) := by decide +kernel
theorem dX6_back_44 : decode cX6_back 44 = .ok (.iload_n 1, 1) := by decide +kernel
theorem dX6_back_45 : decode cX6_back 45 = .ok (.aaload, 1) := by decide +kernel
theorem dX6_back_46 : decode cX6_back 46 = .ok (.invokevirtual 252, 3) := by decide +kernel
theorem dX6_back_49 : decode cX6_back 49 = .ok (.aload_n 0, 1) := by decide +kernel
theorem dX6_back_50 : decode cX6_back 50 = .ok (.getfield 19, 3) := by decide +kernel
theorem dX6_back_53 : decode cX6_back 53 = .ok (.getfield 128, 3) := by decide +kernel
theorem dX6_back_56 : decode cX6_back 56 = .ok (.iload_n 1, 1) := by decide +kernel
theorem dX6_back_57 : decode cX6_back 57 = .ok (.aaload, 1) := by decide +kernel
theorem dX6_back_58 : decode cX6_back 58 = .ok (.getfield 140, 3) := by decide +kernel
theorem dX6_back_61 : decode cX6_back 61 = .ok (.ireturn, 1) := by decide +kernel
theorem dX6_set_0 : decode cX6_set 0 = .ok (.iload_n 1, 1) := by decide +kernel
theorem dX6_set_1 : decode cX6_set 1 = .ok (.invokestatic 255, 3) := by decide +kernel
theorem dX6_set_4 : decode cX6_set 4 = .ok (.ifCond .ne 14, 3) := by decide +kernel
theorem dX6_set_7 : decode cX6_set 7 = .ok (.new 44, 3) := by decide +kernel
theorem dX6_set_10 : decode cX6_set 10 = .ok (.dup, 1) := by decide +kernel
theorem dX6_set_11 : decode cX6_set 11 = .ok (.ldc_w 258, 3) := by decide +kernel
theorem dX6_set_14 : decode cX6_set 14 = .ok (.invokespecial 48, 3) := by decide +kernel
theorem dX6_set_17 : decode cX6_set 17 = .ok (.athrow, 1) := by decide +kernel
theorem dX6_set_18 : decode cX6_set 18 = .ok (.aload_n 0, 1) := by decide +kernel
theorem dX6_set_19 : decode cX6_set 19 = .ok (.getfield 32, 3) := by decide +kernel
theorem dX6_set_22 : decode cX6_set 22 = .ok (.aload_n 0, 1) := by decide +kernel
theorem dX6_set_23 : decode cX6_set 23 = .ok (.getfield 19, 3) := by decide +kernel
theorem dX6_set_26 : decode cX6_set 26 = .ok (.invokevirtual 209, 3) := by decide +kernel
theorem dX6_set_29 : decode cX6_set 29 = .ok (.aload_n 0, 1) := by decide +kernel
theorem dX6_set_30 : decode cX6_set 30 = .ok (.getfield 19, 3) := by decide +kernel
theorem dX6_set_33 : decode cX6_set 33 = .ok (.getfield 120, 3) := by decide +kernel
theorem dX6_set_36 : decode cX6_set 36 = .ok (.istore_n 2, 1) := by decide +kernel
theorem dX6_set_37 : decode cX6_set 37 = .ok (.aload_n 0, 1) := by decide +kernel
theorem dX6_set_38 : decode cX6_set 38 = .ok (.getfield 19, 3) := by decide +kernel
theorem dX6_set_41 : decode cX6_set 41 = .ok (.iload_n 1, 1) := by decide +kernel
theorem dX6_set_42 : decode cX6_set 42 = .ok (.putfield 120, 3) := by decide +kernel
theorem dX6_set_45 : decode cX6_set 45 = .ok (.iload_n 2, 1) := by decide +kernel
theorem dX6_set_46 : decode cX6_set 46 = .ok (.ireturn, 1) := by decide +kernel
theorem dX6_ticks_0 : decode cX6_ticks 0 = .ok (.iload_n 1, 1) := by decide +kernel
theorem dX6_ticks_1 : decode cX6_ticks 1 = .ok (.invokestatic 260, 3) := by decide +kernel
theorem dX6_ticks_4 : decode cX6_ticks 4 = .ok (.ifCond .ne 14, 3) := by decide +kernel
theorem dX6_ticks_7 : decode cX6_ticks 7 = .ok (.new 44, 3) := by decide +kernel
theorem dX6_ticks_10 : decode cX6_ticks 10 = .ok (.dup, 1) := by decide +kernel
theorem dX6_ticks_11 : decode cX6_ticks 11 = .ok (.ldc_w 263, 3) := by decide +kernel
theorem dX6_ticks_14 : decode cX6_ticks 14 = .ok (.invokespecial 48, 3) := by decide +kernel
theorem dX6_ticks_17 : decode cX6_ticks 17 = .ok (.athrow, 1) := by decide +kernel
theorem dX6_ticks_18 : decode cX6_ticks 18 = .ok (.aload_n 0, 1) := by decide +kernel
theorem dX6_ticks_19 : decode cX6_ticks 19 = .ok (.getfield 32, 3) := by decide +kernel
theorem dX6_ticks_22 : decode cX6_ticks 22 = .ok (.aload_n 0, 1) := by decide +kernel
theorem dX6_ticks_23 : decode cX6_ticks 23 = .ok (.getfield 19, 3) := by decide +kernel
theorem dX6_ticks_26 : decode cX6_ticks 26 = .ok (.invokevirtual 209, 3) := by decide +kernel
theorem dX6_ticks_29 : decode cX6_ticks 29 = .ok (.aload_n 0, 1) := by decide +kernel
theorem dX6_ticks_30 : decode cX6_ticks 30 = .ok (.getfield 19, 3) := by decide +kernel
theorem dX6_ticks_33 : decode cX6_ticks 33 = .ok (.getfield 114, 3) := by decide +kernel
theorem dX6_ticks_36 : decode cX6_ticks 36 = .ok (.istore_n 2, 1) := by decide +kernel
theorem dX6_ticks_37 : decode cX6_ticks 37 = .ok (.aload_n 0, 1) := by decide +kernel
theorem dX6_ticks_38 : decode cX6_ticks 38 = .ok (.getfield 19, 3) := by decide +kernel
theorem dX6_ticks_41 : decode cX6_ticks 41 = .ok (.iload_n 1, 1) := by decide +kernel
theorem dX6_ticks_42 : decode cX6_ticks 42 = .ok (.invokevirtual 265, 3) := by decide +kernel
theorem dX6_ticks_45 : decode cX6_ticks 45 = .ok (.aload_n 0, 1) := by decide +kernel
theorem dX6_ticks_46 : decode cX6_ticks 46 = .ok (.getfield 19, 3) := by decide +kernel
theorem dX6_ticks_49 : decode cX6_ticks 49 = .ok (.getfield 114, 3) := by decide +kernel
theorem dX6_ticks_52 : decode cX6_ticks 52 = .ok (.iload_n 2, 1) := by decide +kernel
theorem dX6_ticks_53 : decode cX6_ticks 53 = .ok (.isub, 1) := by decide +kernel
theorem dX6_ticks_54 : decode cX6_ticks 54 = .ok (.ireturn, 1) := by decide +kernel
theorem dX6_undo_0 : decode cX6_undo 0 = .ok (.aload_n 0, 1) := by decide +kernel
theorem dX6_undo_1 : decode cX6_undo 1 = .ok (.getfield 32, 3) := by decide +kernel
theorem dX6_undo_4 : decode cX6_undo 4 = .ok (.getfield 74, 3) := by decide +kernel
theorem dX6_undo_7 : decode cX6_undo 7 = .ok (.ifCond .gt 14, 3) := by decide +kernel
theorem dX6_undo_10 : decode cX6_undo 10 = .ok (.new 55, 3) := by decide +kernel
theorem dX6_undo_13 : decode cX6_undo 13 = .ok (.dup, 1) := by decide +kernel
theorem dX6_undo_14 : decode cX6_undo 14 = .ok (.ldc_w 268, 3) := by decide +kernel
theorem dX6_undo_17 : decode cX6_undo 17 = .ok (.invokespecial 59, 3) := by decide +kernel
theorem dX6_undo_20 : decode cX6_undo 20 = .ok (.athrow, 1) := by decide +kernel
theorem dX6_undo_21 : decode cX6_undo 21 = .ok (.aload_n 0, 1) := by decide +kernel
theorem dX6_undo_22 : decode cX6_undo 22 = .ok (.getfield 19, 3) := by decide +kernel
theorem dX6_undo_25 : decode cX6_undo 25 = .ok (.aload_n 0, 1) := by decide +kernel
theorem dX6_undo_26 : decode cX6_undo 26 = .ok (.getfield 32, 3) := by decide +kernel
theorem dX6_undo_29 : decode cX6_undo 29 = .ok (.invokevirtual 270, 3) := by decide +kernel
theorem dX6_undo_32 : decode cX6_undo 32 = .ok (.invokevirtual 70, 3) := by decide +kernel
theorem dX6_undo_35 : decode cX6_undo 35 = .ok (.aload_n 0, 1) := by decide +kernel
theorem dX6_undo_36 : decode cX6_undo 36 = .ok (.getfield 32, 3) := by decide +kernel
theorem dX6_undo_39 : decode cX6_undo 39 = .ok (.getfield 74, 3) := by decide +kernel
theorem dX6_undo_42 : decode cX6_undo 42 = .ok (.ireturn, 1) := by decide +kernel
theorem dX6_standsIn_0 : decode cX6_standsIn 0 = .ok (.aload_n 0, 1) := by decide +kernel
theorem dX6_standsIn_1 : decode cX6_standsIn 1 = .ok (.iload_n 1, 1) := by decide +kernel
theorem dX6_standsIn_2 : decode cX6_standsIn 2 = .ok (.invokevirtual 125, 3) := by decide +kernel
theorem dX6_standsIn_5 : decode cX6_standsIn 5 = .ok (.iload_n 3, 1) := by decide +kernel
theorem dX6_standsIn_6 : decode cX6_standsIn 6 = .ok (.ifCond .lt 20, 3) := by decide +kernel
theorem dX6_standsIn_9 : decode cX6_standsIn 9 = .ok (.iload_n 3, 1) := by decide +kernel
theorem dX6_standsIn_10 : decode cX6_standsIn 10 = .ok (.iconst 1, 1) := by decide +kernel
theorem dX6_standsIn_11 : decode cX6_standsIn 11 = .ok (.if_icmp .gt 15, 3) := by decide +kernel
theorem dX6_standsIn_14 : decode cX6_standsIn 14 = .ok (.aload_n 0, 1) := by decide +kernel
theorem dX6_standsIn_15 : decode cX6_standsIn 15 = .ok (.getfield 19, 3) := by decide +kernel
theorem dX6_standsIn_18 : decode cX6_standsIn 18 = .ok (.iload_n 1, 1) := by decide +kernel
theorem dX6_standsIn_19 : decode cX6_standsIn 19 = .ok (.iload_n 2, 1) := by decide +kernel
theorem dX6_standsIn_20 : decode cX6_standsIn 20 = .ok (.invokevirtual 224, 3) := by decide +kernel
theorem dX6_standsIn_23 : decode cX6_standsIn 23 = .ok (.ifCond .ne 14, 3) := by decide +kernel
theorem dX6_standsIn_26 : decode cX6_standsIn 26 = .ok (.new 44, 3) := by decide +kernel
theorem dX6_standsIn_29 : decode cX6_standsIn 29 = .ok (.dup, 1) := by decide +kernel
theorem dX6_standsIn_30 : decode cX6_standsIn 30 = .ok (.ldc_w 274, 3) := by decide +kernel
theorem dX6_standsIn_33 : decode cX6_standsIn 33 = .ok (.invokespecial 48, 3) := by decide +kernel
theorem dX6_standsIn_36 : decode cX6_standsIn 36 = .ok (.athrow, 1) := by decide +kernel
theorem dX6_standsIn_37 : decode cX6_standsIn 37 = .ok (.aload_n 0, 1) := by decide +kernel
theorem dX6_standsIn_38 : decode cX6_standsIn 38 = .ok (.getfield 19, 3) := by decide +kernel
theorem dX6_standsIn_41 : decode cX6_standsIn 41 = .ok (.iload_n 1, 1) := by decide +kernel
theorem dX6_standsIn_42 : decode cX6_standsIn 42 = .ok (.invokevirtual 229, 3) := by decide +kernel
theorem dX6_standsIn_45 : decode cX6_standsIn 45 = .ok (.ifCond .eq 5, 3) := by decide +kernel
theorem dX6_standsIn_48 : decode cX6_standsIn 48 = .ok (.iconst (-1), 1) := by decide +kernel
theorem dX6_standsIn_49 : decode cX6_standsIn 49 = .ok (.ireturn, 1) := by decide +kernel
theorem dX6_standsIn_50 : decode cX6_standsIn 50 = .ok (.aload_n 0, 1) := by decide +kernel
theorem dX6_standsIn_51 : decode cX6_standsIn 51 = .ok (.getfield 26, 3) := by decide +kernel
theorem dX6_standsIn_54 : decode cX6_standsIn 54 = .ok (.aload_n 0, 1) := by decide +kernel
theorem dX6_standsIn_55 : decode cX6_standsIn 55 = .ok (.getfield 19, 3) := by decide +kernel
theorem dX6_standsIn_58 : decode cX6_standsIn 58 = .ok (.invokevirtual 70, 3) := by decide +kernel
theorem dX6_standsIn_61 : decode cX6_standsIn 61 = .ok (.aload_n 0, 1) := by decide +kernel
theorem dX6_standsIn_62 : decode cX6_standsIn 62 = .ok (.getfield 26, 3) := by decide +kernel
theorem dX6_standsIn_65 : decode cX6_standsIn 65 = .ok (.iload_n 1, 1) := by decide +kernel
theorem dX6_standsIn_66 : decode cX6_standsIn 66 = .ok (.iload_n 2, 1) := by decide +kernel
theorem dX6_standsIn_67 : decode cX6_standsIn 67 = .ok (.invokevirtual 234, 3) := by decide +kernel
theorem dX6_standsIn_70 : decode cX6_standsIn 70 = .ok (.istore 4, 2) := by decide +kernel
theorem dX6_standsIn_72 : decode cX6_standsIn 72 = .ok (.iconst 0, 1) := by decide +kernel
theorem dX6_standsIn_73 : decode cX6_standsIn 73 = .ok (.istore 5, 2) := by decide +kernel
theorem dX6_standsIn_75 : decode cX6_standsIn 75 = .ok (.iload 5, 2) := by decide +kernel
theorem dX6_standsIn_77 : decode cX6_standsIn 77 = .ok (.bipush 100, 2) := by decide +kernel
theorem dX6_standsIn_79 : decode cX6_standsIn 79 = .ok (.if_icmp .gt 59, 3) := by decide +kernel
theorem dX6_standsIn_82 : decode cX6_standsIn 82 = .ok (.iload_n 3, 1) := by decide +kernel
theorem dX6_standsIn_83 : decode cX6_standsIn 83 = .ok (.ifCond .ne 24, 3) := by decide +kernel
theorem dX6_standsIn_86 : decode cX6_standsIn 86 = .ok (.aload_n 0, 1) := by decide +kernel
theorem dX6_standsIn_87 : decode cX6_standsIn 87 = .ok (.getfield 26, 3) := by decide +kernel
theorem dX6_standsIn_90 : decode cX6_standsIn 90 = .ok (.getfield 128, 3) := by decide +kernel
theorem dX6_standsIn_93 : decode cX6_standsIn 93 = .ok (.iload_n 1, 1) := by decide +kernel
theorem dX6_standsIn_94 : decode cX6_standsIn 94 = .ok (.aaload, 1) := by decide +kernel
theorem dX6_standsIn_95 : decode cX6_standsIn 95 = .ok (.iload 4, 2) := by decide +kernel
theorem dX6_standsIn_97 : decode cX6_standsIn 97 = .ok (.iload_n 1, 1) := by decide +kernel
theorem dX6_standsIn_98 : decode cX6_standsIn 98 = .ok (.invokevirtual 276, 3) := by decide +kernel
theorem dX6_standsIn_101 : decode cX6_standsIn 101 = .ok (.ifCond .eq 23, 3) := by decide +kernel
theorem dX6_standsIn_104 : decode cX6_standsIn 104 = .ok (.goto 17, 3) := by decide +kernel
theorem dX6_standsIn_107 : decode cX6_standsIn 107 = .ok (.aload_n 0, 1) := by decide +kernel
theorem dX6_standsIn_108 : decode cX6_standsIn 108 = .ok (.getfield 26, 3) := by decide +kernel
theorem dX6_standsIn_111 : decode cX6_standsIn 111 = .ok (.iload_n 2, 1) := by decide +kernel
theorem dX6_standsIn_112 : decode cX6_standsIn 112 = .ok (.iload 4, 2) := by decide +kernel
theorem dX6_standsIn_114 : decode cX6_standsIn 114 = .ok (.iload_n 1, 1) := by decide +kernel
theorem dX6_standsIn_115 : decode cX6_standsIn 115 = .ok (.invokevirtual 279, 3) := by decide +kernel
theorem dX6_standsIn_118 : decode cX6_standsIn 118 = .ok (.ifCond .eq 6, 3) := by decide +kernel
theorem dX6_standsIn_121 : decode cX6_standsIn 121 = .ok (.iload 5, 2) := by decide +kernel
theorem dX6_standsIn_123 : decode cX6_standsIn 123 = .ok (.ireturn, 1) := by decide +kernel
theorem dX6_standsIn_124 : decode cX6_standsIn 124 = .ok (.aload_n 0, 1) := by decide +kernel
theorem dX6_standsIn_125 : decode cX6_standsIn 125 = .ok (.getfield 26, 3) := by decide +kernel
theorem dX6_standsIn_128 : decode cX6_standsIn 128 = .ok (.iconst 1, 1) := by decide +kernel
theorem dX6_standsIn_129 : decode cX6_standsIn 129 = .ok (.invokevirtual 265, 3) := by decide +kernel
theorem dX6_standsIn_132 : decode cX6_standsIn 132 = .ok (.iinc 5 1, 3) := by decide +kernel
theorem dX6_standsIn_135 : decode cX6_standsIn 135 = .ok (.goto (-60), 3) := by decide +kernel
theorem dX6_standsIn_138 : decode cX6_standsIn 138 = .ok (.iconst (-1), 1) := by decide +kernel
theorem dX6_standsIn_139 : decode cX6_standsIn 139 = .ok (.ireturn, 1) := by decide +kernel
theorem dX6_compare_0 : decode cX6_compare 0 = .ok (.aload_n 0, 1) := by decide +kernel
theorem dX6_compare_1 : decode cX6_compare 1 = .ok (.iload_n 1, 1) := by decide +kernel
theorem dX6_compare_2 : decode cX6_compare 2 = .ok (.invokevirtual 125, 3) := by decide +kernel
theorem dX6_compare_5 : decode cX6_compare 5 = .ok (.aload_n 0, 1) := by decide +kernel
theorem dX6_compare_6 : decode cX6_compare 6 = .ok (.iload_n 2, 1) := by decide +kernel
theorem dX6_compare_7 : decode cX6_compare 7 = .ok (.invokevirtual 125, 3) := by decide +kernel
theorem dX6_compare_10 : decode cX6_compare 10 = .ok (.iload_n 3, 1) := by decide +kernel
theorem dX6_compare_11 : decode cX6_compare 11 = .ok (.lookupswitch 47 #[(0, 25), (1, 36)], 25) := by decide +kernel
theorem dX6_compare_36 : decode cX6_compare 36 = .ok (.aload_n 0, 1) := by decide +kernel
theorem dX6_compare_37 : decode cX6_compare 37 = .ok (.getfield 19, 3) := by decide +kernel
theorem dX6_compare_40 : decode cX6_compare 40 = .ok (.iload_n 1, 1) := by decide +kernel
theorem dX6_compare_41 : decode cX6_compare 41 = .ok (.iload_n 2, 1) := by decide +kernel
theorem dX6_compare_42 : decode cX6_compare 42 = .ok (.iconst 0, 1) := by decide +kernel
theorem dX6_compare_43 : decode cX6_compare 43 = .ok (.invokevirtual 282, 3) := by decide +kernel
theorem dX6_compare_46 : decode cX6_compare 46 = .ok (.ireturn, 1) := by decide +kernel
theorem dX6_compare_47 : decode cX6_compare 47 = .ok (.aload_n 0, 1) := by decide +kernel
theorem dX6_compare_48 : decode cX6_compare 48 = .ok (.getfield 19, 3) := by decide +kernel
theorem dX6_compare_51 : decode cX6_compare 51 = .ok (.iload_n 1, 1) := by decide +kernel
theorem dX6_compare_52 : decode cX6_compare 52 = .ok (.iload_n 2, 1) := by decide +kernel
theorem dX6_compare_53 : decode cX6_compare 53 = .ok (.iconst 1, 1) := by decide +kernel
theorem dX6_compare_54 : decode cX6_compare 54 = .ok (.invokevirtual 282, 3) := by decide +kernel
theorem dX6_compare_57 : decode cX6_compare 57 = .ok (.ireturn, 1) := by decide +kernel
theorem dX6_compare_58 : decode cX6_compare 58 = .ok (.new 44, 3) := by decide +kernel
theorem dX6_compare_61 : decode cX6_compare 61 = .ok (.dup, 1) := by decide +kernel
theorem dX6_compare_62 : decode cX6_compare 62 = .ok (.ldc_w 286, 3) := by decide +kernel
theorem dX6_compare_65 : decode cX6_compare 65 = .ok (.invokespecial 48, 3) := by decide +kernel
theorem dX6_compare_68 : decode cX6_compare 68 = .ok (.athrow, 1) := by decide +kernel
theorem dX6_lacks_0 : decode cX6_lacks 0 = .ok (.aload_n 0, 1) := by decide +kernel
theorem dX6_lacks_1 : decode cX6_lacks 1 = .ok (.iload_n 1, 1) := by decide +kernel
theorem dX6_lacks_2 : decode cX6_lacks 2 = .ok (.invokevirtual 125, 3) := by decide +kernel
theorem dX6_lacks_5 : decode cX6_lacks 5 = .ok (.aload_n 0, 1) := by decide +kernel
theorem dX6_lacks_6 : decode cX6_lacks 6 = .ok (.getfield 19, 3) := by decide +kernel
theorem dX6_lacks_9 : decode cX6_lacks 9 = .ok (.iload_n 1, 1) := by decide +kernel
theorem dX6_lacks_10 : decode cX6_lacks 10 = .ok (.invokevirtual 288, 3) := by decide +kernel
theorem dX6_lacks_13 : decode cX6_lacks 13 = .ok (.invokestatic 291, 3) := by decide +kernel
theorem dX6_lacks_16 : decode cX6_lacks 16 = .ok (.ireturn, 1) := by decide +kernel
theorem dX6_together_0 : decode cX6_together 0 = .ok (.iconst 0, 1) := by decide +kernel
theorem dX6_together_1 : decode cX6_together 1 = .ok (.istore_n 1, 1) := by decide +kernel
theorem dX6_together_2 : decode cX6_together 2 = .ok (.iconst 0, 1) := by decide +kernel
theorem dX6_together_3 : decode cX6_together 3 = .ok (.istore_n 2, 1) := by decide +kernel
theorem dX6_together_4 : decode cX6_together 4 = .ok (.iload_n 2, 1) := by decide +kernel
theorem dX6_together_5 : decode cX6_together 5 = .ok (.aload_n 0, 1) := by decide +kernel
theorem dX6_together_6 : decode cX6_together 6 = .ok (.getfield 19, 3) := by decide +kernel
theorem dX6_together_9 : decode cX6_together 9 = .ok (.getfield 94, 3) := by decide +kernel
theorem dX6_together_12 : decode cX6_together 12 = .ok (.if_icmp .ge 31, 3) := by decide +kernel
theorem dX6_together_15 : decode cX6_together 15 = .ok (.aload_n 0, 1) := by decide +kernel
theorem dX6_together_16 : decode cX6_together 16 = .ok (.getfield 19, 3) := by decide +kernel
theorem dX6_together_19 : decode cX6_together 19 = .ok (.iload_n 2, 1) := by decide +kernel
theorem dX6_together_20 : decode cX6_together 20 = .ok (.invokevirtual 296, 3) := by decide +kernel
theorem dX6_together_23 : decode cX6_together 23 = .ok (.istore_n 3, 1) := by decide +kernel
theorem dX6_together_24 : decode cX6_together 24 = .ok (.iload_n 3, 1) := by decide +kernel
theorem dX6_together_25 : decode cX6_together 25 = .ok (.invokestatic 291, 3) := by decide +kernel
theorem dX6_together_28 : decode cX6_together 28 = .ok (.iload_n 1, 1) := by decide +kernel
theorem dX6_together_29 : decode cX6_together 29 = .ok (.invokestatic 291, 3) := by decide +kernel
theorem dX6_together_32 : decode cX6_together 32 = .ok (.if_icmp .le 5, 3) := by decide +kernel
theorem dX6_together_35 : decode cX6_together 35 = .ok (.iload_n 3, 1) := by decide +kernel
theorem dX6_together_36 : decode cX6_together 36 = .ok (.istore_n 1, 1) := by decide +kernel
theorem dX6_together_37 : decode cX6_together 37 = .ok (.iinc 2 1, 3) := by decide +kernel
theorem dX6_together_40 : decode cX6_together 40 = .ok (.goto (-36), 3) := by decide +kernel
theorem dX6_together_43 : decode cX6_together 43 = .ok (.iload_n 1, 1) := by decide +kernel
theorem dX6_together_44 : decode cX6_together 44 = .ok (.ireturn, 1) := by decide +kernel
theorem dX6_runScript_0 : decode cX6_runScript 0 = .ok (.iload_n 1, 1) := by decide +kernel
theorem dX6_runScript_1 : decode cX6_runScript 1 = .ok (.iconst 1, 1) := by decide +kernel
theorem dX6_runScript_2 : decode cX6_runScript 2 = .ok (.if_icmp .lt 8, 3) := by decide +kernel
theorem dX6_runScript_5 : decode cX6_runScript 5 = .ok (.iload_n 1, 1) := by decide +kernel
theorem dX6_runScript_6 : decode cX6_runScript 6 = .ok (.iconst 3, 1) := by decide +kernel
theorem dX6_runScript_7 : decode cX6_runScript 7 = .ok (.if_icmp .le 14, 3) := by decide +kernel
theorem dX6_runScript_10 : decode cX6_runScript 10 = .ok (.new 44, 3) := by decide +kernel
theorem dX6_runScript_13 : decode cX6_runScript 13 = .ok (.dup, 1) := by decide +kernel
theorem dX6_runScript_14 : decode cX6_runScript 14 = .ok (.ldc_w 299, 3) := by decide +kernel
theorem dX6_runScript_17 : decode cX6_runScript 17 = .ok (.invokespecial 48, 3) := by decide +kernel
theorem dX6_runScript_20 : decode cX6_runScript 20 = .ok (.athrow, 1) := by decide +kernel
theorem dX6_runScript_21 : decode cX6_runScript 21 = .ok (.lconst 1, 1) := by decide +kernel
theorem dX6_runScript_22 : decode cX6_runScript 22 = .ok (.lstore 4, 2) := by decide +kernel
theorem dX6_runScript_24 : decode cX6_runScript 24 = .ok (.iconst 0, 1) := by decide +kernel
theorem dX6_runScript_25 : decode cX6_runScript 25 = .ok (.istore 6, 2) := by decide +kernel
theorem dX6_runScript_27 : decode cX6_runScript 27 = .ok (.iload 6, 2) := by decide +kernel
theorem dX6_runScript_29 : decode cX6_runScript 29 = .ok (.iload_n 1, 1) := by decide +kernel
theorem dX6_runScript_30 : decode cX6_runScript 30 = .ok (.if_icmp .ge 17, 3) := by decide +kernel
theorem dX6_runScript_33 : decode cX6_runScript 33 = .ok (.lload 4, 2) := by decide +kernel
theorem dX6_runScript_35 : decode cX6_runScript 35 = .ok (.ldc2_w 301, 3) := by decide +kernel
theorem dX6_runScript_38 : decode cX6_runScript 38 = .ok (.lmul, 1) := by decide +kernel
theorem dX6_runScript_39 : decode cX6_runScript 39 = .ok (.lstore 4, 2) := by decide +kernel
theorem dX6_runScript_41 : decode cX6_runScript 41 = .ok (.iinc 6 1, 3) := by decide +kernel
theorem dX6_runScript_44 : decode cX6_runScript 44 = .ok (.goto (-17), 3) := by decide +kernel
theorem dX6_runScript_47 : decode cX6_runScript 47 = .ok (.lload_n 2, 1) := by decide +kernel
theorem dX6_runScript_48 : decode cX6_runScript 48 = .ok (.lconst 0, 1) := by decide +kernel
theorem dX6_runScript_49 : decode cX6_runScript 49 = .ok (.lcmp, 1) := by decide +kernel
theorem dX6_runScript_50 : decode cX6_runScript 50 = .ok (.ifCond .lt 10, 3) := by decide +kernel
theorem dX6_runScript_53 : decode cX6_runScript 53 = .ok (.lload_n 2, 1) := by decide +kernel
theorem dX6_runScript_54 : decode cX6_runScript 54 = .ok (.lload 4, 2) := by decide +kernel
theorem dX6_runScript_56 : decode cX6_runScript 56 = .ok (.lcmp, 1) := by decide +kernel
theorem dX6_runScript_57 : decode cX6_runScript 57 = .ok (.ifCond .lt 14, 3) := by decide +kernel
theorem dX6_runScript_60 : decode cX6_runScript 60 = .ok (.new 44, 3) := by decide +kernel
theorem dX6_runScript_63 : decode cX6_runScript 63 = .ok (.dup, 1) := by decide +kernel
theorem dX6_runScript_64 : decode cX6_runScript 64 = .ok (.ldc_w 303, 3) := by decide +kernel
theorem dX6_runScript_67 : decode cX6_runScript 67 = .ok (.invokespecial 48, 3) := by decide +kernel
theorem dX6_runScript_70 : decode cX6_runScript 70 = .ok (.athrow, 1) := by decide +kernel
theorem dX6_runScript_71 : decode cX6_runScript 71 = .ok (.aload_n 0, 1) := by decide +kernel
theorem dX6_runScript_72 : decode cX6_runScript 72 = .ok (.getfield 26, 3) := by decide +kernel
theorem dX6_runScript_75 : decode cX6_runScript 75 = .ok (.aload_n 0, 1) := by decide +kernel
theorem dX6_runScript_76 : decode cX6_runScript 76 = .ok (.getfield 19, 3) := by decide +kernel
theorem dX6_runScript_79 : decode cX6_runScript 79 = .ok (.invokevirtual 70, 3) := by decide +kernel
theorem dX6_runScript_82 : decode cX6_runScript 82 = .ok (.lload_n 2, 1) := by decide +kernel
theorem dX6_runScript_83 : decode cX6_runScript 83 = .ok (.lstore 6, 2) := by decide +kernel
theorem dX6_runScript_85 : decode cX6_runScript 85 = .ok (.iload_n 1, 1) := by decide +kernel
theorem dX6_runScript_86 : decode cX6_runScript 86 = .ok (.istore 8, 2) := by decide +kernel
theorem dX6_runScript_88 : decode cX6_runScript 88 = .ok (.iload 8, 2) := by decide +kernel
theorem dX6_runScript_90 : decode cX6_runScript 90 = .ok (.iconst 3, 1) := by decide +kernel
theorem dX6_runScript_91 : decode cX6_runScript 91 = .ok (.if_icmp .ge 17, 3) := by decide +kernel
theorem dX6_runScript_94 : decode cX6_runScript 94 = .ok (.lload 6, 2) := by decide +kernel
theorem dX6_runScript_96 : decode cX6_runScript 96 = .ok (.ldc2_w 301, 3) := by decide +kernel
theorem dX6_runScript_99 : decode cX6_runScript 99 = .ok (.lmul, 1) := by decide +kernel
theorem dX6_runScript_100 : decode cX6_runScript 100 = .ok (.lstore 6, 2) := by decide +kernel
theorem dX6_runScript_102 : decode cX6_runScript 102 = .ok (.iinc 8 1, 3) := by decide +kernel
theorem dX6_runScript_105 : decode cX6_runScript 105 = .ok (.goto (-17), 3) := by decide +kernel
theorem dX6_runScript_108 : decode cX6_runScript 108 = .ok (.iconst 0, 1) := by decide +kernel
theorem dX6_runScript_109 : decode cX6_runScript 109 = .ok (.istore 8, 2) := by decide +kernel
theorem dX6_runScript_111 : decode cX6_runScript 111 = .ok (.iload 8, 2) := by decide +kernel
theorem dX6_runScript_113 : decode cX6_runScript 113 = .ok (.iload_n 1, 1) := by decide +kernel
theorem dX6_runScript_114 : decode cX6_runScript 114 = .ok (.if_icmp .ge 38, 3) := by decide +kernel
theorem dX6_runScript_117 : decode cX6_runScript 117 = .ok (.aload_n 0, 1) := by decide +kernel
theorem dX6_runScript_118 : decode cX6_runScript 118 = .ok (.lload 6, 2) := by decide +kernel
theorem dX6_runScript_120 : decode cX6_runScript 120 = .ok (.ldc2_w 305, 3) := by decide +kernel
theorem dX6_runScript_123 : decode cX6_runScript 123 = .ok (.ldiv, 1) := by decide +kernel
theorem dX6_runScript_124 : decode cX6_runScript 124 = .ok (.l2i, 1) := by decide +kernel
theorem dX6_runScript_125 : decode cX6_runScript 125 = .ok (.invokevirtual 307, 3) := by decide +kernel
theorem dX6_runScript_128 : decode cX6_runScript 128 = .ok (.ifCond .ne 6, 3) := by decide +kernel
theorem dX6_runScript_131 : decode cX6_runScript 131 = .ok (.iload 8, 2) := by decide +kernel
theorem dX6_runScript_133 : decode cX6_runScript 133 = .ok (.ireturn, 1) := by decide +kernel
theorem dX6_runScript_134 : decode cX6_runScript 134 = .ok (.lload 6, 2) := by decide +kernel
theorem dX6_runScript_136 : decode cX6_runScript 136 = .ok (.ldc2_w 305, 3) := by decide +kernel
theorem dX6_runScript_139 : decode cX6_runScript 139 = .ok (.lrem, 1) := by decide +kernel
theorem dX6_runScript_140 : decode cX6_runScript 140 = .ok (.ldc2_w 301, 3) := by decide +kernel
theorem dX6_runScript_143 : decode cX6_runScript 143 = .ok (.lmul, 1) := by decide +kernel
theorem dX6_runScript_144 : decode cX6_runScript 144 = .ok (.lstore 6, 2) := by decide +kernel
theorem dX6_runScript_146 : decode cX6_runScript 146 = .ok (.iinc 8 1, 3) := by decide +kernel
theorem dX6_runScript_149 : decode cX6_runScript 149 = .ok (.goto (-38), 3) := by decide +kernel
theorem dX6_runScript_152 : decode cX6_runScript 152 = .ok (.iconst (-1), 1) := by decide +kernel
theorem dX6_runScript_153 : decode cX6_runScript 153 = .ok (.ireturn, 1) := by decide +kernel
theorem dX6_simulate_0 : decode cX6_simulate 0 = .ok (.iload_n 3, 1) := by decide +kernel
theorem dX6_simulate_1 : decode cX6_simulate 1 = .ok (.iconst 1, 1) := by decide +kernel
theorem dX6_simulate_2 : decode cX6_simulate 2 = .ok (.if_icmp .lt 9, 3) := by decide +kernel
theorem dX6_simulate_5 : decode cX6_simulate 5 = .ok (.iload_n 3, 1) := by decide +kernel
theorem dX6_simulate_6 : decode cX6_simulate 6 = .ok (.bipush 60, 2) := by decide +kernel
theorem dX6_simulate_8 : decode cX6_simulate 8 = .ok (.if_icmp .le 14, 3) := by decide +kernel
theorem dX6_simulate_11 : decode cX6_simulate 11 = .ok (.new 44, 3) := by decide +kernel
theorem dX6_simulate_14 : decode cX6_simulate 14 = .ok (.dup, 1) := by decide +kernel
theorem dX6_simulate_15 : decode cX6_simulate 15 = .ok (.ldc_w 310, 3) := by decide +kernel
theorem dX6_simulate_18 : decode cX6_simulate 18 = .ok (.invokespecial 48, 3) := by decide +kernel
theorem dX6_simulate_21 : decode cX6_simulate 21 = .ok (.athrow, 1) := by decide +kernel
theorem dX6_simulate_22 : decode cX6_simulate 22 = .ok (.aload_n 0, 1) := by decide +kernel
theorem dX6_simulate_23 : decode cX6_simulate 23 = .ok (.getfield 26, 3) := by decide +kernel
theorem dX6_simulate_26 : decode cX6_simulate 26 = .ok (.aload_n 0, 1) := by decide +kernel
theorem dX6_simulate_27 : decode cX6_simulate 27 = .ok (.getfield 19, 3) := by decide +kernel
theorem dX6_simulate_30 : decode cX6_simulate 30 = .ok (.invokevirtual 70, 3) := by decide +kernel
theorem dX6_simulate_33 : decode cX6_simulate 33 = .ok (.lload_n 1, 1) := by decide +kernel
theorem dX6_simulate_34 : decode cX6_simulate 34 = .ok (.lstore 4, 2) := by decide +kernel
theorem dX6_simulate_36 : decode cX6_simulate 36 = .ok (.iconst 0, 1) := by decide +kernel
theorem dX6_simulate_37 : decode cX6_simulate 37 = .ok (.istore 6, 2) := by decide +kernel
theorem dX6_simulate_39 : decode cX6_simulate 39 = .ok (.iload 6, 2) := by decide +kernel
theorem dX6_simulate_41 : decode cX6_simulate 41 = .ok (.iload_n 3, 1) := by decide +kernel
theorem dX6_simulate_42 : decode cX6_simulate 42 = .ok (.if_icmp .ge 31, 3) := by decide +kernel
theorem dX6_simulate_45 : decode cX6_simulate 45 = .ok (.lload 4, 2) := by decide +kernel
theorem dX6_simulate_47 : decode cX6_simulate 47 = .ok (.ldc2_w 312, 3) := by decide +kernel
theorem dX6_simulate_50 : decode cX6_simulate 50 = .ok (.lmul, 1) := by decide +kernel
theorem dX6_simulate_51 : decode cX6_simulate 51 = .ok (.ldc2_w 314, 3) := by decide +kernel
theorem dX6_simulate_54 : decode cX6_simulate 54 = .ok (.ladd, 1) := by decide +kernel
theorem dX6_simulate_55 : decode cX6_simulate 55 = .ok (.lstore 4, 2) := by decide +kernel
theorem dX6_simulate_57 : decode cX6_simulate 57 = .ok (.aload_n 0, 1) := by decide +kernel
theorem dX6_simulate_58 : decode cX6_simulate 58 = .ok (.lload 4, 2) := by decide +kernel
theorem dX6_simulate_60 : decode cX6_simulate 60 = .ok (.bipush 33, 2) := by decide +kernel
theorem dX6_simulate_62 : decode cX6_simulate 62 = .ok (.lushr, 1) := by decide +kernel
theorem dX6_simulate_63 : decode cX6_simulate 63 = .ok (.l2i, 1) := by decide +kernel
theorem dX6_simulate_64 : decode cX6_simulate 64 = .ok (.invokevirtual 316, 3) := by decide +kernel
theorem dX6_simulate_67 : decode cX6_simulate 67 = .ok (.iinc 6 1, 3) := by decide +kernel
theorem dX6_simulate_70 : decode cX6_simulate 70 = .ok (.goto (-31), 3) := by decide +kernel
theorem dX6_simulate_73 : decode cX6_simulate 73 = .ok (.aload_n 0, 1) := by decide +kernel
theorem dX6_simulate_74 : decode cX6_simulate 74 = .ok (.getfield 26, 3) := by decide +kernel
theorem dX6_simulate_77 : decode cX6_simulate 77 = .ok (.getfield 114, 3) := by decide +kernel
theorem dX6_simulate_80 : decode cX6_simulate 80 = .ok (.aload_n 0, 1) := by decide +kernel
theorem dX6_simulate_81 : decode cX6_simulate 81 = .ok (.getfield 19, 3) := by decide +kernel
theorem dX6_simulate_84 : decode cX6_simulate 84 = .ok (.getfield 114, 3) := by decide +kernel
theorem dX6_simulate_87 : decode cX6_simulate 87 = .ok (.isub, 1) := by decide +kernel
theorem dX6_simulate_88 : decode cX6_simulate 88 = .ok (.istore 6, 2) := by decide +kernel
theorem dX6_simulate_90 : decode cX6_simulate 90 = .ok (.aload_n 0, 1) := by decide +kernel
theorem dX6_simulate_91 : decode cX6_simulate 91 = .ok (.getfield 26, 3) := by decide +kernel
theorem dX6_simulate_94 : decode cX6_simulate 94 = .ok (.getfield 108, 3) := by decide +kernel
theorem dX6_simulate_97 : decode cX6_simulate 97 = .ok (.aload_n 0, 1) := by decide +kernel
theorem dX6_simulate_98 : decode cX6_simulate 98 = .ok (.getfield 19, 3) := by decide +kernel
theorem dX6_simulate_101 : decode cX6_simulate 101 = .ok (.getfield 108, 3) := by decide +kernel
theorem dX6_simulate_104 : decode cX6_simulate 104 = .ok (.isub, 1) := by decide +kernel
theorem dX6_simulate_105 : decode cX6_simulate 105 = .ok (.istore 7, 2) := by decide +kernel
theorem dX6_simulate_107 : decode cX6_simulate 107 = .ok (.aload_n 0, 1) := by decide +kernel
theorem dX6_simulate_108 : decode cX6_simulate 108 = .ok (.getfield 26, 3) := by decide +kernel
theorem dX6_simulate_111 : decode cX6_simulate 111 = .ok (.getfield 111, 3) := by decide +kernel
theorem dX6_simulate_114 : decode cX6_simulate 114 = .ok (.aload_n 0, 1) := by decide +kernel
theorem dX6_simulate_115 : decode cX6_simulate 115 = .ok (.getfield 19, 3) := by decide +kernel
theorem dX6_simulate_118 : decode cX6_simulate 118 = .ok (.getfield 111, 3) := by decide +kernel
theorem dX6_simulate_121 : decode cX6_simulate 121 = .ok (.isub, 1) := by decide +kernel
theorem dX6_simulate_122 : decode cX6_simulate 122 = .ok (.bipush 99, 2) := by decide +kernel
theorem dX6_simulate_124 : decode cX6_simulate 124 = .ok (.invokestatic 319, 3) := by decide +kernel
theorem dX6_simulate_127 : decode cX6_simulate 127 = .ok (.istore 8, 2) := by decide +kernel
theorem dX6_simulate_129 : decode cX6_simulate 129 = .ok (.sipush 10000, 3) := by decide +kernel

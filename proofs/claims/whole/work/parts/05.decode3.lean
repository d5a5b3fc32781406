theorem dX7_stands_43 : decode cX7_stands 43 = .ok (.aload_n 0, 1) := by decide +kernel
theorem dX7_stands_44 : decode cX7_stands 44 = .ok (.iconst 0, 1) := by decide +kernel
theorem dX7_stands_45 : decode cX7_stands 45 = .ok (.iaload, 1) := by decide +kernel
theorem dX7_stands_46 : decode cX7_stands 46 = .ok (.if_icmp .ge 41, 3) := by decide +kernel
theorem dX7_stands_49 : decode cX7_stands 49 = .ok (.iload 4, 2) := by decide +kernel
theorem dX7_stands_51 : decode cX7_stands 51 = .ok (.iload_n 1, 1) := by decide +kernel
theorem dX7_stands_52 : decode cX7_stands 52 = .ok (.if_icmp .eq 29, 3) := by decide +kernel
theorem dX7_stands_55 : decode cX7_stands 55 = .ok (.iload_n 3, 1) := by decide +kernel
theorem dX7_stands_56 : decode cX7_stands 56 = .ok (.iload 4, 2) := by decide +kernel
theorem dX7_stands_58 : decode cX7_stands 58 = .ok (.invokestatic 48, 3) := by decide +kernel
theorem dX7_stands_61 : decode cX7_stands 61 = .ok (.ifCond .eq 20, 3) := by decide +kernel
theorem dX7_stands_64 : decode cX7_stands 64 = .ok (.aload_n 0, 1) := by decide +kernel
theorem dX7_stands_65 : decode cX7_stands 65 = .ok (.iconst 3, 1) := by decide +kernel
theorem dX7_stands_66 : decode cX7_stands 66 = .ok (.iload_n 1, 1) := by decide +kernel
theorem dX7_stands_67 : decode cX7_stands 67 = .ok (.iload 4, 2) := by decide +kernel
theorem dX7_stands_69 : decode cX7_stands 69 = .ok (.iload_n 2, 1) := by decide +kernel
theorem dX7_stands_70 : decode cX7_stands 70 = .ok (.iload_n 1, 1) := by decide +kernel
theorem dX7_stands_71 : decode cX7_stands 71 = .ok (.aload_n 0, 1) := by decide +kernel
theorem dX7_stands_72 : decode cX7_stands 72 = .ok (.iload_n 1, 1) := by decide +kernel
theorem dX7_stands_73 : decode cX7_stands 73 = .ok (.iload 4, 2) := by decide +kernel
theorem dX7_stands_75 : decode cX7_stands 75 = .ok (.invokestatic 74, 3) := by decide +kernel
theorem dX7_stands_78 : decode cX7_stands 78 = .ok (.invokestatic 81, 3) := by decide +kernel
theorem dX7_stands_81 : decode cX7_stands 81 = .ok (.iinc 4 1, 3) := by decide +kernel
theorem dX7_stands_84 : decode cX7_stands 84 = .ok (.goto (-43), 3) := by decide +kernel
theorem dX7_stands_87 : decode cX7_stands 87 = .ok (.aload_n 0, 1) := by decide +kernel
theorem dX7_stands_88 : decode cX7_stands 88 = .ok (.iload_n 1, 1) := by decide +kernel
theorem dX7_stands_89 : decode cX7_stands 89 = .ok (.invokestatic 85, 3) := by decide +kernel
theorem dX7_stands_92 : decode cX7_stands 92 = .ok (.return_, 1) := by decide +kernel
theorem dX7_callOn_0 : decode cX7_callOn 0 = .ok (.aload_n 0, 1) := by decide +kernel
theorem dX7_callOn_1 : decode cX7_callOn 1 = .ok (.iload_n 1, 1) := by decide +kernel
theorem dX7_callOn_2 : decode cX7_callOn 2 = .ok (.bipush 6, 2) := by decide +kernel
theorem dX7_callOn_4 : decode cX7_callOn 4 = .ok (.invokestatic 44, 3) := by decide +kernel
theorem dX7_callOn_7 : decode cX7_callOn 7 = .ok (.iconst 1, 1) := by decide +kernel
theorem dX7_callOn_8 : decode cX7_callOn 8 = .ok (.iadd, 1) := by decide +kernel
theorem dX7_callOn_9 : decode cX7_callOn 9 = .ok (.istore_n 3, 1) := by decide +kernel
theorem dX7_callOn_10 : decode cX7_callOn 10 = .ok (.aload_n 0, 1) := by decide +kernel
theorem dX7_callOn_11 : decode cX7_callOn 11 = .ok (.iload_n 1, 1) := by decide +kernel
theorem dX7_callOn_12 : decode cX7_callOn 12 = .ok (.bipush 6, 2) := by decide +kernel
theorem dX7_callOn_14 : decode cX7_callOn 14 = .ok (.iload_n 3, 1) := by decide +kernel
theorem dX7_callOn_15 : decode cX7_callOn 15 = .ok (.invokestatic 58, 3) := by decide +kernel
theorem dX7_callOn_18 : decode cX7_callOn 18 = .ok (.aload_n 0, 1) := by decide +kernel
theorem dX7_callOn_19 : decode cX7_callOn 19 = .ok (.iload_n 1, 1) := by decide +kernel
theorem dX7_callOn_20 : decode cX7_callOn 20 = .ok (.iconst 1, 1) := by decide +kernel
theorem dX7_callOn_21 : decode cX7_callOn 21 = .ok (.iconst 1, 1) := by decide +kernel
theorem dX7_callOn_22 : decode cX7_callOn 22 = .ok (.invokestatic 58, 3) := by decide +kernel
theorem dX7_callOn_25 : decode cX7_callOn 25 = .ok (.aload_n 0, 1) := by decide +kernel
theorem dX7_callOn_26 : decode cX7_callOn 26 = .ok (.iload_n 1, 1) := by decide +kernel
theorem dX7_callOn_27 : decode cX7_callOn 27 = .ok (.bipush 8, 2) := by decide +kernel
theorem dX7_callOn_29 : decode cX7_callOn 29 = .ok (.iload_n 3, 1) := by decide +kernel
theorem dX7_callOn_30 : decode cX7_callOn 30 = .ok (.invokestatic 58, 3) := by decide +kernel
theorem dX7_callOn_33 : decode cX7_callOn 33 = .ok (.aload_n 0, 1) := by decide +kernel
theorem dX7_callOn_34 : decode cX7_callOn 34 = .ok (.iload_n 1, 1) := by decide +kernel
theorem dX7_callOn_35 : decode cX7_callOn 35 = .ok (.bipush 9, 2) := by decide +kernel
theorem dX7_callOn_37 : decode cX7_callOn 37 = .ok (.iload_n 2, 1) := by decide +kernel
theorem dX7_callOn_38 : decode cX7_callOn 38 = .ok (.invokestatic 58, 3) := by decide +kernel
theorem dX7_callOn_41 : decode cX7_callOn 41 = .ok (.aload_n 0, 1) := by decide +kernel
theorem dX7_callOn_42 : decode cX7_callOn 42 = .ok (.iload_n 1, 1) := by decide +kernel
theorem dX7_callOn_43 : decode cX7_callOn 43 = .ok (.bipush 10, 2) := by decide +kernel
theorem dX7_callOn_45 : decode cX7_callOn 45 = .ok (.iconst 0, 1) := by decide +kernel
theorem dX7_callOn_46 : decode cX7_callOn 46 = .ok (.invokestatic 58, 3) := by decide +kernel
theorem dX7_callOn_49 : decode cX7_callOn 49 = .ok (.aload_n 0, 1) := by decide +kernel
theorem dX7_callOn_50 : decode cX7_callOn 50 = .ok (.iload_n 1, 1) := by decide +kernel
theorem dX7_callOn_51 : decode cX7_callOn 51 = .ok (.bipush 11, 2) := by decide +kernel
theorem dX7_callOn_53 : decode cX7_callOn 53 = .ok (.aload_n 0, 1) := by decide +kernel
theorem dX7_callOn_54 : decode cX7_callOn 54 = .ok (.iconst 1, 1) := by decide +kernel
theorem dX7_callOn_55 : decode cX7_callOn 55 = .ok (.iaload, 1) := by decide +kernel
theorem dX7_callOn_56 : decode cX7_callOn 56 = .ok (.invokestatic 58, 3) := by decide +kernel
theorem dX7_callOn_59 : decode cX7_callOn 59 = .ok (.iload_n 2, 1) := by decide +kernel
theorem dX7_callOn_60 : decode cX7_callOn 60 = .ok (.iconst 1, 1) := by decide +kernel
theorem dX7_callOn_61 : decode cX7_callOn 61 = .ok (.iload_n 1, 1) := by decide +kernel
theorem dX7_callOn_62 : decode cX7_callOn 62 = .ok (.ishl, 1) := by decide +kernel
theorem dX7_callOn_63 : decode cX7_callOn 63 = .ok (.if_icmp .eq 46, 3) := by decide +kernel
theorem dX7_callOn_66 : decode cX7_callOn 66 = .ok (.iconst 0, 1) := by decide +kernel
theorem dX7_callOn_67 : decode cX7_callOn 67 = .ok (.istore 4, 2) := by decide +kernel
theorem dX7_callOn_69 : decode cX7_callOn 69 = .ok (.iload 4, 2) := by decide +kernel
theorem dX7_callOn_71 : decode cX7_callOn 71 = .ok (.aload_n 0, 1) := by decide +kernel
theorem dX7_callOn_72 : decode cX7_callOn 72 = .ok (.iconst 0, 1) := by decide +kernel
theorem dX7_callOn_73 : decode cX7_callOn 73 = .ok (.iaload, 1) := by decide +kernel
theorem dX7_callOn_74 : decode cX7_callOn 74 = .ok (.if_icmp .ge 35, 3) := by decide +kernel
theorem dX7_callOn_77 : decode cX7_callOn 77 = .ok (.iload 4, 2) := by decide +kernel
theorem dX7_callOn_79 : decode cX7_callOn 79 = .ok (.iload_n 1, 1) := by decide +kernel
theorem dX7_callOn_80 : decode cX7_callOn 80 = .ok (.if_icmp .eq 23, 3) := by decide +kernel
theorem dX7_callOn_83 : decode cX7_callOn 83 = .ok (.iload_n 2, 1) := by decide +kernel
theorem dX7_callOn_84 : decode cX7_callOn 84 = .ok (.iload 4, 2) := by decide +kernel
theorem dX7_callOn_86 : decode cX7_callOn 86 = .ok (.invokestatic 48, 3) := by decide +kernel
theorem dX7_callOn_89 : decode cX7_callOn 89 = .ok (.ifCond .eq 14, 3) := by decide +kernel
theorem dX7_callOn_92 : decode cX7_callOn 92 = .ok (.aload_n 0, 1) := by decide +kernel
theorem dX7_callOn_93 : decode cX7_callOn 93 = .ok (.iconst 1, 1) := by decide +kernel
theorem dX7_callOn_94 : decode cX7_callOn 94 = .ok (.iload_n 1, 1) := by decide +kernel
theorem dX7_callOn_95 : decode cX7_callOn 95 = .ok (.iload 4, 2) := by decide +kernel
theorem dX7_callOn_97 : decode cX7_callOn 97 = .ok (.iload_n 3, 1) := by decide +kernel
theorem dX7_callOn_98 : decode cX7_callOn 98 = .ok (.iload_n 1, 1) := by decide +kernel
theorem dX7_callOn_99 : decode cX7_callOn 99 = .ok (.iload_n 2, 1) := by decide +kernel
theorem dX7_callOn_100 : decode cX7_callOn 100 = .ok (.invokestatic 81, 3) := by decide +kernel
theorem dX7_callOn_103 : decode cX7_callOn 103 = .ok (.iinc 4 1, 3) := by decide +kernel
theorem dX7_callOn_106 : decode cX7_callOn 106 = .ok (.goto (-37), 3) := by decide +kernel
theorem dX7_callOn_109 : decode cX7_callOn 109 = .ok (.aload_n 0, 1) := by decide +kernel
theorem dX7_callOn_110 : decode cX7_callOn 110 = .ok (.iload_n 1, 1) := by decide +kernel
theorem dX7_callOn_111 : decode cX7_callOn 111 = .ok (.iload_n 1, 1) := by decide +kernel
theorem dX7_callOn_112 : decode cX7_callOn 112 = .ok (.aload_n 0, 1) := by decide +kernel
theorem dX7_callOn_113 : decode cX7_callOn 113 = .ok (.iload_n 1, 1) := by decide +kernel
theorem dX7_callOn_114 : decode cX7_callOn 114 = .ok (.iconst 2, 1) := by decide +kernel
theorem dX7_callOn_115 : decode cX7_callOn 115 = .ok (.invokestatic 44, 3) := by decide +kernel
theorem dX7_callOn_118 : decode cX7_callOn 118 = .ok (.aload_n 0, 1) := by decide +kernel
theorem dX7_callOn_119 : decode cX7_callOn 119 = .ok (.iload_n 1, 1) := by decide +kernel
theorem dX7_callOn_120 : decode cX7_callOn 120 = .ok (.iconst 3, 1) := by decide +kernel
theorem dX7_callOn_121 : decode cX7_callOn 121 = .ok (.invokestatic 44, 3) := by decide +kernel
theorem dX7_callOn_124 : decode cX7_callOn 124 = .ok (.aload_n 0, 1) := by decide +kernel
theorem dX7_callOn_125 : decode cX7_callOn 125 = .ok (.iload_n 1, 1) := by decide +kernel
theorem dX7_callOn_126 : decode cX7_callOn 126 = .ok (.iconst 5, 1) := by decide +kernel
theorem dX7_callOn_127 : decode cX7_callOn 127 = .ok (.invokestatic 44, 3) := by decide +kernel
theorem dX7_callOn_130 : decode cX7_callOn 130 = .ok (.invokestatic 88, 3) := by decide +kernel
theorem dX7_callOn_133 : decode cX7_callOn 133 = .ok (.iload_n 3, 1) := by decide +kernel
theorem dX7_callOn_134 : decode cX7_callOn 134 = .ok (.ireturn, 1) := by decide +kernel
theorem dX7_speech_0 : decode cX7_speech 0 = .ok (.aload_n 0, 1) := by decide +kernel
theorem dX7_speech_1 : decode cX7_speech 1 = .ok (.getfield 29, 3) := by decide +kernel
theorem dX7_speech_4 : decode cX7_speech 4 = .ok (.iconst 2, 1) := by decide +kernel
theorem dX7_speech_5 : decode cX7_speech 5 = .ok (.iaload, 1) := by decide +kernel
theorem dX7_speech_6 : decode cX7_speech 6 = .ok (.istore_n 2, 1) := by decide +kernel
theorem dX7_speech_7 : decode cX7_speech 7 = .ok (.bipush 14, 2) := by decide +kernel
theorem dX7_speech_9 : decode cX7_speech 9 = .ok (.bipush 83, 2) := by decide +kernel
theorem dX7_speech_11 : decode cX7_speech 11 = .ok (.iload_n 2, 1) := by decide +kernel
theorem dX7_speech_12 : decode cX7_speech 12 = .ok (.imul, 1) := by decide +kernel
theorem dX7_speech_13 : decode cX7_speech 13 = .ok (.iadd, 1) := by decide +kernel
theorem dX7_speech_14 : decode cX7_speech 14 = .ok (.istore_n 3, 1) := by decide +kernel
theorem dX7_speech_15 : decode cX7_speech 15 = .ok (.aload_n 1, 1) := by decide +kernel
theorem dX7_speech_16 : decode cX7_speech 16 = .ok (.iload_n 3, 1) := by decide +kernel
theorem dX7_speech_17 : decode cX7_speech 17 = .ok (.iconst 2, 1) := by decide +kernel
theorem dX7_speech_18 : decode cX7_speech 18 = .ok (.iadd, 1) := by decide +kernel
theorem dX7_speech_19 : decode cX7_speech 19 = .ok (.iaload, 1) := by decide +kernel
theorem dX7_speech_20 : decode cX7_speech 20 = .ok (.aload_n 0, 1) := by decide +kernel
theorem dX7_speech_21 : decode cX7_speech 21 = .ok (.getfield 29, 3) := by decide +kernel
theorem dX7_speech_24 : decode cX7_speech 24 = .ok (.iconst 4, 1) := by decide +kernel
theorem dX7_speech_25 : decode cX7_speech 25 = .ok (.iaload, 1) := by decide +kernel
theorem dX7_speech_26 : decode cX7_speech 26 = .ok (.if_icmp .ne 21, 3) := by decide +kernel
theorem dX7_speech_29 : decode cX7_speech 29 = .ok (.aload_n 1, 1) := by decide +kernel
theorem dX7_speech_30 : decode cX7_speech 30 = .ok (.iload_n 3, 1) := by decide +kernel
theorem dX7_speech_31 : decode cX7_speech 31 = .ok (.iconst 3, 1) := by decide +kernel
theorem dX7_speech_32 : decode cX7_speech 32 = .ok (.iadd, 1) := by decide +kernel
theorem dX7_speech_33 : decode cX7_speech 33 = .ok (.iaload, 1) := by decide +kernel
theorem dX7_speech_34 : decode cX7_speech 34 = .ok (.aload_n 0, 1) := by decide +kernel
theorem dX7_speech_35 : decode cX7_speech 35 = .ok (.getfield 29, 3) := by decide +kernel
theorem dX7_speech_38 : decode cX7_speech 38 = .ok (.iconst 5, 1) := by decide +kernel
theorem dX7_speech_39 : decode cX7_speech 39 = .ok (.iaload, 1) := by decide +kernel
theorem dX7_speech_40 : decode cX7_speech 40 = .ok (.if_icmp .ne 7, 3) := by decide +kernel
theorem dX7_speech_43 : decode cX7_speech 43 = .ok (.iconst 1, 1) := by decide +kernel
theorem dX7_speech_44 : decode cX7_speech 44 = .ok (.goto 4, 3) := by decide +kernel
theorem dX7_speech_47 : decode cX7_speech 47 = .ok (.iconst 0, 1) := by decide +kernel
theorem dX7_speech_48 : decode cX7_speech 48 = .ok (.istore 4, 2) := by decide +kernel
theorem dX7_speech_50 : decode cX7_speech 50 = .ok (.iload 4, 2) := by decide +kernel
theorem dX7_speech_52 : decode cX7_speech 52 = .ok (.ifCond .eq 31, 3) := by decide +kernel
theorem dX7_speech_55 : decode cX7_speech 55 = .ok (.aload_n 1, 1) := by decide +kernel
theorem dX7_speech_56 : decode cX7_speech 56 = .ok (.iload_n 3, 1) := by decide +kernel
theorem dX7_speech_57 : decode cX7_speech 57 = .ok (.iconst 1, 1) := by decide +kernel
theorem dX7_speech_58 : decode cX7_speech 58 = .ok (.iadd, 1) := by decide +kernel
theorem dX7_speech_59 : decode cX7_speech 59 = .ok (.iaload, 1) := by decide +kernel
theorem dX7_speech_60 : decode cX7_speech 60 = .ok (.ifCond .ne 23, 3) := by decide +kernel
theorem dX7_speech_63 : decode cX7_speech 63 = .ok (.aload_n 1, 1) := by decide +kernel
theorem dX7_speech_64 : decode cX7_speech 64 = .ok (.iload_n 3, 1) := by decide +kernel
theorem dX7_speech_65 : decode cX7_speech 65 = .ok (.iconst 5, 1) := by decide +kernel
theorem dX7_speech_66 : decode cX7_speech 66 = .ok (.iadd, 1) := by decide +kernel
theorem dX7_speech_67 : decode cX7_speech 67 = .ok (.dup2, 1) := by decide +kernel
theorem dX7_speech_68 : decode cX7_speech 68 = .ok (.iaload, 1) := by decide +kernel
theorem dX7_speech_69 : decode cX7_speech 69 = .ok (.iconst 1, 1) := by decide +kernel
theorem dX7_speech_70 : decode cX7_speech 70 = .ok (.aload_n 0, 1) := by decide +kernel
theorem dX7_speech_71 : decode cX7_speech 71 = .ok (.getfield 29, 3) := by decide +kernel
theorem dX7_speech_74 : decode cX7_speech 74 = .ok (.bipush 6, 2) := by decide +kernel
theorem dX7_speech_76 : decode cX7_speech 76 = .ok (.iaload, 1) := by decide +kernel
theorem dX7_speech_77 : decode cX7_speech 77 = .ok (.ishl, 1) := by decide +kernel
theorem dX7_speech_78 : decode cX7_speech 78 = .ok (.ior, 1) := by decide +kernel
theorem dX7_speech_79 : decode cX7_speech 79 = .ok (.iastore, 1) := by decide +kernel
theorem dX7_speech_80 : decode cX7_speech 80 = .ok (.goto 98, 3) := by decide +kernel
theorem dX7_speech_83 : decode cX7_speech 83 = .ok (.aload_n 0, 1) := by decide +kernel
theorem dX7_speech_84 : decode cX7_speech 84 = .ok (.getfield 29, 3) := by decide +kernel
theorem dX7_speech_87 : decode cX7_speech 87 = .ok (.iconst 4, 1) := by decide +kernel
theorem dX7_speech_88 : decode cX7_speech 88 = .ok (.iaload, 1) := by decide +kernel
theorem dX7_speech_89 : decode cX7_speech 89 = .ok (.aload_n 1, 1) := by decide +kernel
theorem dX7_speech_90 : decode cX7_speech 90 = .ok (.iload_n 3, 1) := by decide +kernel
theorem dX7_speech_91 : decode cX7_speech 91 = .ok (.iconst 2, 1) := by decide +kernel
theorem dX7_speech_92 : decode cX7_speech 92 = .ok (.iadd, 1) := by decide +kernel
theorem dX7_speech_93 : decode cX7_speech 93 = .ok (.iaload, 1) := by decide +kernel
theorem dX7_speech_94 : decode cX7_speech 94 = .ok (.if_icmp .le 77, 3) := by decide +kernel
theorem dX7_speech_97 : decode cX7_speech 97 = .ok (.aload_n 1, 1) := by decide +kernel
theorem dX7_speech_98 : decode cX7_speech 98 = .ok (.iload_n 3, 1) := by decide +kernel
theorem dX7_speech_99 : decode cX7_speech 99 = .ok (.bipush 30, 2) := by decide +kernel
theorem dX7_speech_101 : decode cX7_speech 101 = .ok (.iadd, 1) := by decide +kernel
theorem dX7_speech_102 : decode cX7_speech 102 = .ok (.iaload, 1) := by decide +kernel
theorem dX7_speech_103 : decode cX7_speech 103 = .ok (.bipush 12, 2) := by decide +kernel
theorem dX7_speech_105 : decode cX7_speech 105 = .ok (.if_icmp .ge 66, 3) := by decide +kernel
theorem dX7_speech_108 : decode cX7_speech 108 = .ok (.iload_n 3, 1) := by decide +kernel
theorem dX7_speech_109 : decode cX7_speech 109 = .ok (.bipush 31, 2) := by decide +kernel
theorem dX7_speech_111 : decode cX7_speech 111 = .ok (.iadd, 1) := by decide +kernel
theorem dX7_speech_112 : decode cX7_speech 112 = .ok (.iconst 3, 1) := by decide +kernel
theorem dX7_speech_113 : decode cX7_speech 113 = .ok (.aload_n 1, 1) := by decide +kernel
theorem dX7_speech_114 : decode cX7_speech 114 = .ok (.iload_n 3, 1) := by decide +kernel
theorem dX7_speech_115 : decode cX7_speech 115 = .ok (.bipush 30, 2) := by decide +kernel
theorem dX7_speech_117 : decode cX7_speech 117 = .ok (.iadd, 1) := by decide +kernel
theorem dX7_speech_118 : decode cX7_speech 118 = .ok (.iaload, 1) := by decide +kernel
theorem dX7_speech_119 : decode cX7_speech 119 = .ok (.imul, 1) := by decide +kernel
theorem dX7_speech_120 : decode cX7_speech 120 = .ok (.iadd, 1) := by decide +kernel
theorem dX7_speech_121 : decode cX7_speech 121 = .ok (.istore 5, 2) := by decide +kernel
theorem dX7_speech_123 : decode cX7_speech 123 = .ok (.aload_n 1, 1) := by decide +kernel
theorem dX7_speech_124 : decode cX7_speech 124 = .ok (.iload 5, 2) := by decide +kernel
theorem dX7_speech_126 : decode cX7_speech 126 = .ok (.aload_n 0, 1) := by decide +kernel
theorem dX7_speech_127 : decode cX7_speech 127 = .ok (.getfield 29, 3) := by decide +kernel
theorem dX7_speech_130 : decode cX7_speech 130 = .ok (.iconst 4, 1) := by decide +kernel
theorem dX7_speech_131 : decode cX7_speech 131 = .ok (.iaload, 1) := by decide +kernel
theorem dX7_speech_132 : decode cX7_speech 132 = .ok (.iastore, 1) := by decide +kernel
theorem dX7_speech_133 : decode cX7_speech 133 = .ok (.aload_n 1, 1) := by decide +kernel
theorem dX7_speech_134 : decode cX7_speech 134 = .ok (.iload 5, 2) := by decide +kernel
theorem dX7_speech_136 : decode cX7_speech 136 = .ok (.iconst 1, 1) := by decide +kernel
theorem dX7_speech_137 : decode cX7_speech 137 = .ok (.iadd, 1) := by decide +kernel
theorem dX7_speech_138 : decode cX7_speech 138 = .ok (.aload_n 0, 1) := by decide +kernel
theorem dX7_speech_139 : decode cX7_speech 139 = .ok (.getfield 29, 3) := by decide +kernel
theorem dX7_speech_142 : decode cX7_speech 142 = .ok (.iconst 5, 1) := by decide +kernel
theorem dX7_speech_143 : decode cX7_speech 143 = .ok (.iaload, 1) := by decide +kernel
theorem dX7_speech_144 : decode cX7_speech 144 = .ok (.iastore, 1) := by decide +kernel
theorem dX7_speech_145 : decode cX7_speech 145 = .ok (.aload_n 1, 1) := by decide +kernel
theorem dX7_speech_146 : decode cX7_speech 146 = .ok (.iload 5, 2) := by decide +kernel
theorem dX7_speech_148 : decode cX7_speech 148 = .ok (.iconst 2, 1) := by decide +kernel
theorem dX7_speech_149 : decode cX7_speech 149 = .ok (.iadd, 1) := by decide +kernel
theorem dX7_speech_150 : decode cX7_speech 150 = .ok (.aload_n 0, 1) := by decide +kernel
theorem dX7_speech_151 : decode cX7_speech 151 = .ok (.getfield 29, 3) := by decide +kernel
theorem dX7_speech_154 : decode cX7_speech 154 = .ok (.bipush 6, 2) := by decide +kernel
theorem dX7_speech_156 : decode cX7_speech 156 = .ok (.iaload, 1) := by decide +kernel
theorem dX7_speech_157 : decode cX7_speech 157 = .ok (.iastore, 1) := by decide +kernel
theorem dX7_speech_158 : decode cX7_speech 158 = .ok (.aload_n 1, 1) := by decide +kernel
theorem dX7_speech_159 : decode cX7_speech 159 = .ok (.iload_n 3, 1) := by decide +kernel
theorem dX7_speech_160 : decode cX7_speech 160 = .ok (.bipush 30, 2) := by decide +kernel
theorem dX7_speech_162 : decode cX7_speech 162 = .ok (.iadd, 1) := by decide +kernel
theorem dX7_speech_163 : decode cX7_speech 163 = .ok (.dup2, 1) := by decide +kernel
theorem dX7_speech_164 : decode cX7_speech 164 = .ok (.iaload, 1) := by decide +kernel
theorem dX7_speech_165 : decode cX7_speech 165 = .ok (.iconst 1, 1) := by decide +kernel
theorem dX7_speech_166 : decode cX7_speech 166 = .ok (.iadd, 1) := by decide +kernel
theorem dX7_speech_167 : decode cX7_speech 167 = .ok (.iastore, 1) := by decide +kernel
theorem dX7_speech_168 : decode cX7_speech 168 = .ok (.goto 10, 3) := by decide +kernel
theorem dX7_speech_171 : decode cX7_speech 171 = .ok (.aload_n 1, 1) := by decide +kernel
theorem dX7_speech_172 : decode cX7_speech 172 = .ok (.iconst 5, 1) := by decide +kernel
theorem dX7_speech_173 : decode cX7_speech 173 = .ok (.dup2, 1) := by decide +kernel
theorem dX7_speech_174 : decode cX7_speech 174 = .ok (.iaload, 1) := by decide +kernel
theorem dX7_speech_175 : decode cX7_speech 175 = .ok (.iconst 1, 1) := by decide +kernel
theorem dX7_speech_176 : decode cX7_speech 176 = .ok (.iadd, 1) := by decide +kernel
theorem dX7_speech_177 : decode cX7_speech 177 = .ok (.iastore, 1) := by decide +kernel
theorem dX7_speech_178 : decode cX7_speech 178 = .ok (.return_, 1) := by decide +kernel
theorem dX7_called_0 : decode cX7_called 0 = .ok (.aload_n 0, 1) := by decide +kernel
theorem dX7_called_1 : decode cX7_called 1 = .ok (.getfield 29, 3) := by decide +kernel
theorem dX7_called_4 : decode cX7_called 4 = .ok (.iconst 2, 1) := by decide +kernel
theorem dX7_called_5 : decode cX7_called 5 = .ok (.iaload, 1) := by decide +kernel
theorem dX7_called_6 : decode cX7_called 6 = .ok (.istore_n 2, 1) := by decide +kernel
theorem dX7_called_7 : decode cX7_called 7 = .ok (.aload_n 0, 1) := by decide +kernel
theorem dX7_called_8 : decode cX7_called 8 = .ok (.getfield 29, 3) := by decide +kernel
theorem dX7_called_11 : decode cX7_called 11 = .ok (.iconst 4, 1) := by decide +kernel
theorem dX7_called_12 : decode cX7_called 12 = .ok (.iaload, 1) := by decide +kernel
theorem dX7_called_13 : decode cX7_called 13 = .ok (.aload_n 1, 1) := by decide +kernel
theorem dX7_called_14 : decode cX7_called 14 = .ok (.iload_n 2, 1) := by decide +kernel
theorem dX7_called_15 : decode cX7_called 15 = .ok (.bipush 6, 2) := by decide +kernel
theorem dX7_called_17 : decode cX7_called 17 = .ok (.invokestatic 44, 3) := by decide +kernel
theorem dX7_called_20 : decode cX7_called 20 = .ok (.if_icmp .le 58, 3) := by decide +kernel
theorem dX7_called_23 : decode cX7_called 23 = .ok (.aload_n 1, 1) := by decide +kernel
theorem dX7_called_24 : decode cX7_called 24 = .ok (.iload_n 2, 1) := by decide +kernel
theorem dX7_called_25 : decode cX7_called 25 = .ok (.bipush 6, 2) := by decide +kernel
theorem dX7_called_27 : decode cX7_called 27 = .ok (.aload_n 0, 1) := by decide +kernel
theorem dX7_called_28 : decode cX7_called 28 = .ok (.getfield 29, 3) := by decide +kernel
theorem dX7_called_31 : decode cX7_called 31 = .ok (.iconst 4, 1) := by decide +kernel
theorem dX7_called_32 : decode cX7_called 32 = .ok (.iaload, 1) := by decide +kernel
theorem dX7_called_33 : decode cX7_called 33 = .ok (.invokestatic 58, 3) := by decide +kernel
theorem dX7_called_36 : decode cX7_called 36 = .ok (.aload_n 1, 1) := by decide +kernel
theorem dX7_called_37 : decode cX7_called 37 = .ok (.iload_n 2, 1) := by decide +kernel
theorem dX7_called_38 : decode cX7_called 38 = .ok (.iconst 1, 1) := by decide +kernel
theorem dX7_called_39 : decode cX7_called 39 = .ok (.iconst 1, 1) := by decide +kernel
theorem dX7_called_40 : decode cX7_called 40 = .ok (.invokestatic 58, 3) := by decide +kernel
theorem dX7_called_43 : decode cX7_called 43 = .ok (.aload_n 1, 1) := by decide +kernel
theorem dX7_called_44 : decode cX7_called 44 = .ok (.iload_n 2, 1) := by decide +kernel
theorem dX7_called_45 : decode cX7_called 45 = .ok (.invokestatic 85, 3) := by decide +kernel
theorem dX7_called_48 : decode cX7_called 48 = .ok (.aload_n 1, 1) := by decide +kernel
theorem dX7_called_49 : decode cX7_called 49 = .ok (.iconst 2, 1) := by decide +kernel
theorem dX7_called_50 : decode cX7_called 50 = .ok (.iload_n 2, 1) := by decide +kernel
theorem dX7_called_51 : decode cX7_called 51 = .ok (.aload_n 0, 1) := by decide +kernel
theorem dX7_called_52 : decode cX7_called 52 = .ok (.getfield 29, 3) := by decide +kernel
theorem dX7_called_55 : decode cX7_called 55 = .ok (.iconst 1, 1) := by decide +kernel
theorem dX7_called_56 : decode cX7_called 56 = .ok (.iaload, 1) := by decide +kernel
theorem dX7_called_57 : decode cX7_called 57 = .ok (.aload_n 0, 1) := by decide +kernel
theorem dX7_called_58 : decode cX7_called 58 = .ok (.getfield 29, 3) := by decide +kernel
theorem dX7_called_61 : decode cX7_called 61 = .ok (.iconst 4, 1) := by decide +kernel
theorem dX7_called_62 : decode cX7_called 62 = .ok (.iaload, 1) := by decide +kernel
theorem dX7_called_63 : decode cX7_called 63 = .ok (.aload_n 0, 1) := by decide +kernel
theorem dX7_called_64 : decode cX7_called 64 = .ok (.getfield 29, 3) := by decide +kernel
theorem dX7_called_67 : decode cX7_called 67 = .ok (.iconst 1, 1) := by decide +kernel
theorem dX7_called_68 : decode cX7_called 68 = .ok (.iaload, 1) := by decide +kernel
theorem dX7_called_69 : decode cX7_called 69 = .ok (.aload_n 1, 1) := by decide +kernel
theorem dX7_called_70 : decode cX7_called 70 = .ok (.iload_n 2, 1) := by decide +kernel
theorem dX7_called_71 : decode cX7_called 71 = .ok (.iconst 5, 1) := by decide +kernel
theorem dX7_called_72 : decode cX7_called 72 = .ok (.invokestatic 44, 3) := by decide +kernel
theorem dX7_called_75 : decode cX7_called 75 = .ok (.invokestatic 81, 3) := by decide +kernel
theorem dX7_called_78 : decode cX7_called 78 = .ok (.return_, 1) := by decide +kernel
theorem dX7_replied_0 : decode cX7_replied 0 = .ok (.aload_n 0, 1) := by decide +kernel
theorem dX7_replied_1 : decode cX7_replied 1 = .ok (.getfield 29, 3) := by decide +kernel
theorem dX7_replied_4 : decode cX7_replied 4 = .ok (.iconst 2, 1) := by decide +kernel
theorem dX7_replied_5 : decode cX7_replied 5 = .ok (.iaload, 1) := by decide +kernel
theorem dX7_replied_6 : decode cX7_replied 6 = .ok (.istore_n 2, 1) := by decide +kernel
theorem dX7_replied_7 : decode cX7_replied 7 = .ok (.aload_n 1, 1) := by decide +kernel
theorem dX7_replied_8 : decode cX7_replied 8 = .ok (.iload_n 2, 1) := by decide +kernel
theorem dX7_replied_9 : decode cX7_replied 9 = .ok (.bipush 8, 2) := by decide +kernel
theorem dX7_replied_11 : decode cX7_replied 11 = .ok (.invokestatic 44, 3) := by decide +kernel
theorem dX7_replied_14 : decode cX7_replied 14 = .ok (.aload_n 0, 1) := by decide +kernel
theorem dX7_replied_15 : decode cX7_replied 15 = .ok (.getfield 29, 3) := by decide +kernel
theorem dX7_replied_18 : decode cX7_replied 18 = .ok (.iconst 4, 1) := by decide +kernel
theorem dX7_replied_19 : decode cX7_replied 19 = .ok (.iaload, 1) := by decide +kernel
theorem dX7_replied_20 : decode cX7_replied 20 = .ok (.if_icmp .ne 35, 3) := by decide +kernel
theorem dX7_replied_23 : decode cX7_replied 23 = .ok (.aload_n 1, 1) := by decide +kernel
theorem dX7_replied_24 : decode cX7_replied 24 = .ok (.iload_n 2, 1) := by decide +kernel
theorem dX7_replied_25 : decode cX7_replied 25 = .ok (.aload_n 0, 1) := by decide +kernel
theorem dX7_replied_26 : decode cX7_replied 26 = .ok (.getfield 29, 3) := by decide +kernel
theorem dX7_replied_29 : decode cX7_replied 29 = .ok (.iconst 1, 1) := by decide +kernel
theorem dX7_replied_30 : decode cX7_replied 30 = .ok (.iaload, 1) := by decide +kernel
theorem dX7_replied_31 : decode cX7_replied 31 = .ok (.aload_n 0, 1) := by decide +kernel
theorem dX7_replied_32 : decode cX7_replied 32 = .ok (.getfield 29, 3) := by decide +kernel
theorem dX7_replied_35 : decode cX7_replied 35 = .ok (.bipush 7, 2) := by decide +kernel
theorem dX7_replied_37 : decode cX7_replied 37 = .ok (.iaload, 1) := by decide +kernel
theorem dX7_replied_38 : decode cX7_replied 38 = .ok (.aload_n 0, 1) := by decide +kernel
theorem dX7_replied_39 : decode cX7_replied 39 = .ok (.getfield 29, 3) := by decide +kernel
theorem dX7_replied_42 : decode cX7_replied 42 = .ok (.bipush 8, 2) := by decide +kernel
theorem dX7_replied_44 : decode cX7_replied 44 = .ok (.iaload, 1) := by decide +kernel
theorem dX7_replied_45 : decode cX7_replied 45 = .ok (.aload_n 0, 1) := by decide +kernel
theorem dX7_replied_46 : decode cX7_replied 46 = .ok (.getfield 29, 3) := by decide +kernel
theorem dX7_replied_49 : decode cX7_replied 49 = .ok (.bipush 6, 2) := by decide +kernel
theorem dX7_replied_51 : decode cX7_replied 51 = .ok (.iaload, 1) := by decide +kernel
theorem dX7_replied_52 : decode cX7_replied 52 = .ok (.invokestatic 88, 3) := by decide +kernel
theorem dX7_replied_55 : decode cX7_replied 55 = .ok (.return_, 1) := by decide +kernel
theorem dX7_comes_0 : decode cX7_comes 0 = .ok (.aload_n 0, 1) := by decide +kernel
theorem dX7_comes_1 : decode cX7_comes 1 = .ok (.aload_n 1, 1) := by decide +kernel
theorem dX7_comes_2 : decode cX7_comes 2 = .ok (.invokevirtual 91, 3) := by decide +kernel
theorem dX7_comes_5 : decode cX7_comes 5 = .ok (.aload_n 1, 1) := by decide +kernel
theorem dX7_comes_6 : decode cX7_comes 6 = .ok (.aload_n 0, 1) := by decide +kernel
theorem dX7_comes_7 : decode cX7_comes 7 = .ok (.getfield 29, 3) := by decide +kernel
theorem dX7_comes_10 : decode cX7_comes 10 = .ok (.iconst 2, 1) := by decide +kernel
theorem dX7_comes_11 : decode cX7_comes 11 = .ok (.iaload, 1) := by decide +kernel
theorem dX7_comes_12 : decode cX7_comes 12 = .ok (.iconst 1, 1) := by decide +kernel
theorem dX7_comes_13 : decode cX7_comes 13 = .ok (.invokestatic 44, 3) := by decide +kernel
theorem dX7_comes_16 : decode cX7_comes 16 = .ok (.iconst 2, 1) := by decide +kernel
theorem dX7_comes_17 : decode cX7_comes 17 = .ok (.if_icmp .ne 11, 3) := by decide +kernel
theorem dX7_comes_20 : decode cX7_comes 20 = .ok (.aload_n 1, 1) := by decide +kernel
theorem dX7_comes_21 : decode cX7_comes 21 = .ok (.iconst 3, 1) := by decide +kernel
theorem dX7_comes_22 : decode cX7_comes 22 = .ok (.dup2, 1) := by decide +kernel
theorem dX7_comes_23 : decode cX7_comes 23 = .ok (.iaload, 1) := by decide +kernel
theorem dX7_comes_24 : decode cX7_comes 24 = .ok (.iconst 1, 1) := by decide +kernel
theorem dX7_comes_25 : decode cX7_comes 25 = .ok (.iadd, 1) := by decide +kernel
theorem dX7_comes_26 : decode cX7_comes 26 = .ok (.iastore, 1) := by decide +kernel
theorem dX7_comes_27 : decode cX7_comes 27 = .ok (.return_, 1) := by decide +kernel
theorem dX7_comes_28 : decode cX7_comes 28 = .ok (.aload_n 0, 1) := by decide +kernel
theorem dX7_comes_29 : decode cX7_comes 29 = .ok (.getfield 29, 3) := by decide +kernel
theorem dX7_comes_32 : decode cX7_comes 32 = .ok (.iconst 0, 1) := by decide +kernel
theorem dX7_comes_33 : decode cX7_comes 33 = .ok (.iaload, 1) := by decide +kernel
theorem dX7_comes_34 : decode cX7_comes 34 = .ok (.tableswitch 50 0 2 #[26, 34, 42], 26) := by decide +kernel
theorem dX7_comes_60 : decode cX7_comes 60 = .ok (.aload_n 0, 1) := by decide +kernel
theorem dX7_comes_61 : decode cX7_comes 61 = .ok (.aload_n 1, 1) := by decide +kernel
theorem dX7_comes_62 : decode cX7_comes 62 = .ok (.invokevirtual 94, 3) := by decide +kernel
theorem dX7_comes_65 : decode cX7_comes 65 = .ok (.goto 55, 3) := by decide +kernel
theorem dX7_comes_68 : decode cX7_comes 68 = .ok (.aload_n 0, 1) := by decide +kernel
theorem dX7_comes_69 : decode cX7_comes 69 = .ok (.aload_n 1, 1) := by decide +kernel
theorem dX7_comes_70 : decode cX7_comes 70 = .ok (.invokevirtual 97, 3) := by decide +kernel
theorem dX7_comes_73 : decode cX7_comes 73 = .ok (.goto 47, 3) := by decide +kernel
theorem dX7_comes_76 : decode cX7_comes 76 = .ok (.aload_n 0, 1) := by decide +kernel
theorem dX7_comes_77 : decode cX7_comes 77 = .ok (.aload_n 1, 1) := by decide +kernel
theorem dX7_comes_78 : decode cX7_comes 78 = .ok (.invokevirtual 100, 3) := by decide +kernel
theorem dX7_comes_81 : decode cX7_comes 81 = .ok (.goto 39, 3) := by decide +kernel
theorem dX7_comes_84 : decode cX7_comes 84 = .ok (.aload_n 1, 1) := by decide +kernel
theorem dX7_comes_85 : decode cX7_comes 85 = .ok (.aload_n 0, 1) := by decide +kernel
theorem dX7_comes_86 : decode cX7_comes 86 = .ok (.getfield 29, 3) := by decide +kernel
theorem dX7_comes_89 : decode cX7_comes 89 = .ok (.iconst 2, 1) := by decide +kernel
theorem dX7_comes_90 : decode cX7_comes 90 = .ok (.iaload, 1) := by decide +kernel
theorem dX7_comes_91 : decode cX7_comes 91 = .ok (.aload_n 0, 1) := by decide +kernel
theorem dX7_comes_92 : decode cX7_comes 92 = .ok (.getfield 29, 3) := by decide +kernel
theorem dX7_comes_95 : decode cX7_comes 95 = .ok (.iconst 4, 1) := by decide +kernel
theorem dX7_comes_96 : decode cX7_comes 96 = .ok (.iaload, 1) := by decide +kernel
theorem dX7_comes_97 : decode cX7_comes 97 = .ok (.aload_n 0, 1) := by decide +kernel
theorem dX7_comes_98 : decode cX7_comes 98 = .ok (.getfield 29, 3) := by decide +kernel
theorem dX7_comes_101 : decode cX7_comes 101 = .ok (.iconst 5, 1) := by decide +kernel
theorem dX7_comes_102 : decode cX7_comes 102 = .ok (.iaload, 1) := by decide +kernel
theorem dX7_comes_103 : decode cX7_comes 103 = .ok (.aload_n 0, 1) := by decide +kernel
theorem dX7_comes_104 : decode cX7_comes 104 = .ok (.getfield 29, 3) := by decide +kernel
theorem dX7_comes_107 : decode cX7_comes 107 = .ok (.bipush 9, 2) := by decide +kernel
theorem dX7_comes_109 : decode cX7_comes 109 = .ok (.iaload, 1) := by decide +kernel
theorem dX7_comes_110 : decode cX7_comes 110 = .ok (.aload_n 0, 1) := by decide +kernel
theorem dX7_comes_111 : decode cX7_comes 111 = .ok (.getfield 29, 3) := by decide +kernel
theorem dX7_comes_114 : decode cX7_comes 114 = .ok (.bipush 6, 2) := by decide +kernel
theorem dX7_comes_116 : decode cX7_comes 116 = .ok (.iaload, 1) := by decide +kernel
theorem dX7_comes_117 : decode cX7_comes 117 = .ok (.invokestatic 77, 3) := by decide +kernel
theorem dX7_comes_120 : decode cX7_comes 120 = .ok (.return_, 1) := by decide +kernel
theorem dX7_tick_0 : decode cX7_tick 0 = .ok (.aload_n 1, 1) := by decide +kernel
theorem dX7_tick_1 : decode cX7_tick 1 = .ok (.iconst 1, 1) := by decide +kernel
theorem dX7_tick_2 : decode cX7_tick 2 = .ok (.dup2, 1) := by decide +kernel
theorem dX7_tick_3 : decode cX7_tick 3 = .ok (.iaload, 1) := by decide +kernel
theorem dX7_tick_4 : decode cX7_tick 4 = .ok (.iconst 1, 1) := by decide +kernel
theorem dX7_tick_5 : decode cX7_tick 5 = .ok (.iadd, 1) := by decide +kernel
theorem dX7_tick_6 : decode cX7_tick 6 = .ok (.iastore, 1) := by decide +kernel
theorem dX7_tick_7 : decode cX7_tick 7 = .ok (.aload_n 1, 1) := by decide +kernel
theorem dX7_tick_8 : decode cX7_tick 8 = .ok (.iconst 2, 1) := by decide +kernel
theorem dX7_tick_9 : decode cX7_tick 9 = .ok (.iaload, 1) := by decide +kernel
theorem dX7_tick_10 : decode cX7_tick 10 = .ok (.ifCond .le 23, 3) := by decide +kernel
theorem dX7_tick_13 : decode cX7_tick 13 = .ok (.aload_n 1, 1) := by decide +kernel
theorem dX7_tick_14 : decode cX7_tick 14 = .ok (.iconst 0, 1) := by decide +kernel
theorem dX7_tick_15 : decode cX7_tick 15 = .ok (.iconst 3, 1) := by decide +kernel
theorem dX7_tick_16 : decode cX7_tick 16 = .ok (.invokestatic 55, 3) := by decide +kernel
theorem dX7_tick_19 : decode cX7_tick 19 = .ok (.aload_n 1, 1) := by decide +kernel
theorem dX7_tick_20 : decode cX7_tick 20 = .ok (.iconst 1, 1) := by decide +kernel
theorem dX7_tick_21 : decode cX7_tick 21 = .ok (.iaload, 1) := by decide +kernel
theorem dX7_tick_22 : decode cX7_tick 22 = .ok (.if_icmp .ne 11, 3) := by decide +kernel
theorem dX7_tick_25 : decode cX7_tick 25 = .ok (.aload_n 0, 1) := by decide +kernel
theorem dX7_tick_26 : decode cX7_tick 26 = .ok (.aload_n 1, 1) := by decide +kernel
theorem dX7_tick_27 : decode cX7_tick 27 = .ok (.invokevirtual 103, 3) := by decide +kernel
theorem dX7_tick_30 : decode cX7_tick 30 = .ok (.goto (-23), 3) := by decide +kernel
theorem dX7_tick_33 : decode cX7_tick 33 = .ok (.iconst 0, 1) := by decide +kernel
theorem dX7_tick_34 : decode cX7_tick 34 = .ok (.istore_n 2, 1) := by decide +kernel
theorem dX7_tick_35 : decode cX7_tick 35 = .ok (.iload_n 2, 1) := by decide +kernel
theorem dX7_tick_36 : decode cX7_tick 36 = .ok (.aload_n 1, 1) := by decide +kernel
theorem dX7_tick_37 : decode cX7_tick 37 = .ok (.iconst 0, 1) := by decide +kernel
theorem dX7_tick_38 : decode cX7_tick 38 = .ok (.iaload, 1) := by decide +kernel
theorem dX7_tick_39 : decode cX7_tick 39 = .ok (.if_icmp .ge 57, 3) := by decide +kernel
theorem dX7_tick_42 : decode cX7_tick 42 = .ok (.aload_n 1, 1) := by decide +kernel
theorem dX7_tick_43 : decode cX7_tick 43 = .ok (.bipush 7, 2) := by decide +kernel
theorem dX7_tick_45 : decode cX7_tick 45 = .ok (.iaload, 1) := by decide +kernel
theorem dX7_tick_46 : decode cX7_tick 46 = .ok (.ifCond .le 50, 3) := by decide +kernel
theorem dX7_tick_49 : decode cX7_tick 49 = .ok (.aload_n 1, 1) := by decide +kernel
theorem dX7_tick_50 : decode cX7_tick 50 = .ok (.iload_n 2, 1) := by decide +kernel
theorem dX7_tick_51 : decode cX7_tick 51 = .ok (.bipush 8, 2) := by decide +kernel
theorem dX7_tick_53 : decode cX7_tick 53 = .ok (.invokestatic 44, 3) := by decide +kernel
theorem dX7_tick_56 : decode cX7_tick 56 = .ok (.ifCond .le 34, 3) := by decide +kernel
theorem dX7_tick_59 : decode cX7_tick 59 = .ok (.aload_n 1, 1) := by decide +kernel
theorem dX7_tick_60 : decode cX7_tick 60 = .ok (.iconst 1, 1) := by decide +kernel
theorem dX7_tick_61 : decode cX7_tick 61 = .ok (.iaload, 1) := by decide +kernel
theorem dX7_tick_62 : decode cX7_tick 62 = .ok (.aload_n 1, 1) := by decide +kernel
theorem dX7_tick_63 : decode cX7_tick 63 = .ok (.iload_n 2, 1) := by decide +kernel
theorem dX7_tick_64 : decode cX7_tick 64 = .ok (.bipush 11, 2) := by decide +kernel
theorem dX7_tick_66 : decode cX7_tick 66 = .ok (.invokestatic 44, 3) := by decide +kernel
theorem dX7_tick_69 : decode cX7_tick 69 = .ok (.isub, 1) := by decide +kernel
theorem dX7_tick_70 : decode cX7_tick 70 = .ok (.aload_n 1, 1) := by decide +kernel
theorem dX7_tick_71 : decode cX7_tick 71 = .ok (.bipush 7, 2) := by decide +kernel
theorem dX7_tick_73 : decode cX7_tick 73 = .ok (.iaload, 1) := by decide +kernel
theorem dX7_tick_74 : decode cX7_tick 74 = .ok (.if_icmp .lt 16, 3) := by decide +kernel
theorem dX7_tick_77 : decode cX7_tick 77 = .ok (.aload_n 1, 1) := by decide +kernel
theorem dX7_tick_78 : decode cX7_tick 78 = .ok (.iload_n 2, 1) := by decide +kernel
theorem dX7_tick_79 : decode cX7_tick 79 = .ok (.aload_n 1, 1) := by decide +kernel
theorem dX7_tick_80 : decode cX7_tick 80 = .ok (.iload_n 2, 1) := by decide +kernel
theorem dX7_tick_81 : decode cX7_tick 81 = .ok (.bipush 10, 2) := by decide +kernel
theorem dX7_tick_83 : decode cX7_tick 83 = .ok (.invokestatic 44, 3) := by decide +kernel
theorem dX7_tick_86 : decode cX7_tick 86 = .ok (.invokestatic 106, 3) := by decide +kernel
theorem dX7_tick_89 : decode cX7_tick 89 = .ok (.pop, 1) := by decide +kernel
theorem dX7_tick_90 : decode cX7_tick 90 = .ok (.iinc 2 1, 3) := by decide +kernel
theorem dX7_tick_93 : decode cX7_tick 93 = .ok (.goto (-58), 3) := by decide +kernel
theorem dX7_tick_96 : decode cX7_tick 96 = .ok (.return_, 1) := by decide +kernel
theorem dX7_ticksOn_0 : decode cX7_ticksOn 0 = .ok (.aload_n 1, 1) := by decide +kernel
theorem dX7_ticksOn_1 : decode cX7_ticksOn 1 = .ok (.bipush 6, 2) := by decide +kernel
theorem dX7_ticksOn_3 : decode cX7_ticksOn 3 = .ok (.iaload, 1) := by decide +kernel
theorem dX7_ticksOn_4 : decode cX7_ticksOn 4 = .ok (.istore_n 3, 1) := by decide +kernel
theorem dX7_ticksOn_5 : decode cX7_ticksOn 5 = .ok (.iconst 0, 1) := by decide +kernel
theorem dX7_ticksOn_6 : decode cX7_ticksOn 6 = .ok (.istore 4, 2) := by decide +kernel
theorem dX7_ticksOn_8 : decode cX7_ticksOn 8 = .ok (.iload 4, 2) := by decide +kernel
theorem dX7_ticksOn_10 : decode cX7_ticksOn 10 = .ok (.iload_n 2, 1) := by decide +kernel
theorem dX7_ticksOn_11 : decode cX7_ticksOn 11 = .ok (.if_icmp .ge 14, 3) := by decide +kernel
theorem dX7_ticksOn_14 : decode cX7_ticksOn 14 = .ok (.aload_n 0, 1) := by decide +kernel
theorem dX7_ticksOn_15 : decode cX7_ticksOn 15 = .ok (.aload_n 1, 1) := by decide +kernel
theorem dX7_ticksOn_16 : decode cX7_ticksOn 16 = .ok (.invokevirtual 109, 3) := by decide +kernel
theorem dX7_ticksOn_19 : decode cX7_ticksOn 19 = .ok (.iinc 4 1, 3) := by decide +kernel
theorem dX7_ticksOn_22 : decode cX7_ticksOn 22 = .ok (.goto (-14), 3) := by decide +kernel
theorem dX7_ticksOn_25 : decode cX7_ticksOn 25 = .ok (.aload_n 1, 1) := by decide +kernel
theorem dX7_ticksOn_26 : decode cX7_ticksOn 26 = .ok (.bipush 6, 2) := by decide +kernel
theorem dX7_ticksOn_28 : decode cX7_ticksOn 28 = .ok (.iaload, 1) := by decide +kernel
theorem dX7_ticksOn_29 : decode cX7_ticksOn 29 = .ok (.iload_n 3, 1) := by decide +kernel
theorem dX7_ticksOn_30 : decode cX7_ticksOn 30 = .ok (.isub, 1) := by decide +kernel
theorem dX7_ticksOn_31 : decode cX7_ticksOn 31 = .ok (.ireturn, 1) := by decide +kernel
theorem dX7_memberOn_0 : decode cX7_memberOn 0 = .ok (.aload_n 0, 1) := by decide +kernel
theorem dX7_memberOn_1 : decode cX7_memberOn 1 = .ok (.iconst 0, 1) := by decide +kernel
theorem dX7_memberOn_2 : decode cX7_memberOn 2 = .ok (.iaload, 1) := by decide +kernel
theorem dX7_memberOn_3 : decode cX7_memberOn 3 = .ok (.istore_n 2, 1) := by decide +kernel
theorem dX7_memberOn_4 : decode cX7_memberOn 4 = .ok (.iconst 0, 1) := by decide +kernel
theorem dX7_memberOn_5 : decode cX7_memberOn 5 = .ok (.istore_n 3, 1) := by decide +kernel
theorem dX7_memberOn_6 : decode cX7_memberOn 6 = .ok (.iload_n 3, 1) := by decide +kernel
theorem dX7_memberOn_7 : decode cX7_memberOn 7 = .ok (.bipush 83, 2) := by decide +kernel
theorem dX7_memberOn_9 : decode cX7_memberOn 9 = .ok (.if_icmp .ge 16, 3) := by decide +kernel
theorem dX7_memberOn_12 : decode cX7_memberOn 12 = .ok (.aload_n 0, 1) := by decide +kernel
theorem dX7_memberOn_13 : decode cX7_memberOn 13 = .ok (.iload_n 2, 1) := by decide +kernel
theorem dX7_memberOn_14 : decode cX7_memberOn 14 = .ok (.iload_n 3, 1) := by decide +kernel
theorem dX7_memberOn_15 : decode cX7_memberOn 15 = .ok (.iconst 0, 1) := by decide +kernel
theorem dX7_memberOn_16 : decode cX7_memberOn 16 = .ok (.invokestatic 58, 3) := by decide +kernel
theorem dX7_memberOn_19 : decode cX7_memberOn 19 = .ok (.iinc 3 1, 3) := by decide +kernel
theorem dX7_memberOn_22 : decode cX7_memberOn 22 = .ok (.goto (-16), 3) := by decide +kernel
theorem dX7_memberOn_25 : decode cX7_memberOn 25 = .ok (.aload_n 0, 1) := by decide +kernel
theorem dX7_memberOn_26 : decode cX7_memberOn 26 = .ok (.iload_n 2, 1) := by decide +kernel
theorem dX7_memberOn_27 : decode cX7_memberOn 27 = .ok (.iconst 0, 1) := by decide +kernel
theorem dX7_memberOn_28 : decode cX7_memberOn 28 = .ok (.iload_n 1, 1) := by decide +kernel
theorem dX7_memberOn_29 : decode cX7_memberOn 29 = .ok (.invokestatic 58, 3) := by decide +kernel
theorem dX7_memberOn_32 : decode cX7_memberOn 32 = .ok (.aload_n 0, 1) := by decide +kernel
theorem dX7_memberOn_33 : decode cX7_memberOn 33 = .ok (.iload_n 2, 1) := by decide +kernel
theorem dX7_memberOn_34 : decode cX7_memberOn 34 = .ok (.iconst 3, 1) := by decide +kernel
theorem dX7_memberOn_35 : decode cX7_memberOn 35 = .ok (.iload_n 2, 1) := by decide +kernel
theorem dX7_memberOn_36 : decode cX7_memberOn 36 = .ok (.invokestatic 58, 3) := by decide +kernel
theorem dX7_memberOn_39 : decode cX7_memberOn 39 = .ok (.aload_n 0, 1) := by decide +kernel
theorem dX7_memberOn_40 : decode cX7_memberOn 40 = .ok (.iload_n 2, 1) := by decide +kernel
theorem dX7_memberOn_41 : decode cX7_memberOn 41 = .ok (.iconst 4, 1) := by decide +kernel
theorem dX7_memberOn_42 : decode cX7_memberOn 42 = .ok (.iconst 1, 1) := by decide +kernel
theorem dX7_memberOn_43 : decode cX7_memberOn 43 = .ok (.iload_n 2, 1) := by decide +kernel
theorem dX7_memberOn_44 : decode cX7_memberOn 44 = .ok (.ishl, 1) := by decide +kernel
theorem dX7_memberOn_45 : decode cX7_memberOn 45 = .ok (.invokestatic 58, 3) := by decide +kernel
theorem dX7_memberOn_48 : decode cX7_memberOn 48 = .ok (.aload_n 0, 1) := by decide +kernel
theorem dX7_memberOn_49 : decode cX7_memberOn 49 = .ok (.iconst 0, 1) := by decide +kernel
theorem dX7_memberOn_50 : decode cX7_memberOn 50 = .ok (.dup2, 1) := by decide +kernel
theorem dX7_memberOn_51 : decode cX7_memberOn 51 = .ok (.iaload, 1) := by decide +kernel
theorem dX7_memberOn_52 : decode cX7_memberOn 52 = .ok (.iconst 1, 1) := by decide +kernel
theorem dX7_memberOn_53 : decode cX7_memberOn 53 = .ok (.iadd, 1) := by decide +kernel
theorem dX7_memberOn_54 : decode cX7_memberOn 54 = .ok (.iastore, 1) := by decide +kernel
theorem dX7_memberOn_55 : decode cX7_memberOn 55 = .ok (.iload_n 2, 1) := by decide +kernel
theorem dX7_memberOn_56 : decode cX7_memberOn 56 = .ok (.ireturn, 1) := by decide +kernel
theorem dX7_canSay_0 : decode cX7_canSay 0 = .ok (.aload_n 0, 1) := by decide +kernel
theorem dX7_canSay_1 : decode cX7_canSay 1 = .ok (.iload_n 1, 1) := by decide +kernel
theorem dX7_canSay_2 : decode cX7_canSay 2 = .ok (.invokestatic 112, 3) := by decide +kernel
theorem dX7_canSay_5 : decode cX7_canSay 5 = .ok (.ifCond .eq 27, 3) := by decide +kernel
theorem dX7_canSay_8 : decode cX7_canSay 8 = .ok (.aload_n 0, 1) := by decide +kernel
theorem dX7_canSay_9 : decode cX7_canSay 9 = .ok (.iload_n 1, 1) := by decide +kernel
theorem dX7_canSay_10 : decode cX7_canSay 10 = .ok (.iconst 1, 1) := by decide +kernel
theorem dX7_canSay_11 : decode cX7_canSay 11 = .ok (.invokestatic 44, 3) := by decide +kernel
theorem dX7_canSay_14 : decode cX7_canSay 14 = .ok (.ifCond .ne 18, 3) := by decide +kernel
theorem dX7_canSay_17 : decode cX7_canSay 17 = .ok (.aload_n 0, 1) := by decide +kernel
theorem dX7_canSay_18 : decode cX7_canSay 18 = .ok (.iload_n 1, 1) := by decide +kernel
theorem dX7_canSay_19 : decode cX7_canSay 19 = .ok (.bipush 7, 2) := by decide +kernel
theorem dX7_canSay_21 : decode cX7_canSay 21 = .ok (.invokestatic 44, 3) := by decide +kernel
theorem dX7_canSay_24 : decode cX7_canSay 24 = .ok (.iconst 4, 1) := by decide +kernel
theorem dX7_canSay_25 : decode cX7_canSay 25 = .ok (.if_icmp .ge 7, 3) := by decide +kernel
theorem dX7_canSay_28 : decode cX7_canSay 28 = .ok (.iconst 1, 1) := by decide +kernel
theorem dX7_canSay_29 : decode cX7_canSay 29 = .ok (.goto 4, 3) := by decide +kernel
theorem dX7_canSay_32 : decode cX7_canSay 32 = .ok (.iconst 0, 1) := by decide +kernel
theorem dX7_canSay_33 : decode cX7_canSay 33 = .ok (.ireturn, 1) := by decide +kernel
theorem dX7_sayOn_0 : decode cX7_sayOn 0 = .ok (.iconst 4, 1) := by decide +kernel
theorem dX7_sayOn_1 : decode cX7_sayOn 1 = .ok (.iload_n 1, 1) := by decide +kernel
theorem dX7_sayOn_2 : decode cX7_sayOn 2 = .ok (.imul, 1) := by decide +kernel
theorem dX7_sayOn_3 : decode cX7_sayOn 3 = .ok (.aload_n 0, 1) := by decide +kernel
theorem dX7_sayOn_4 : decode cX7_sayOn 4 = .ok (.iload_n 1, 1) := by decide +kernel
theorem dX7_sayOn_5 : decode cX7_sayOn 5 = .ok (.bipush 7, 2) := by decide +kernel
theorem dX7_sayOn_7 : decode cX7_sayOn 7 = .ok (.invokestatic 44, 3) := by decide +kernel
theorem dX7_sayOn_10 : decode cX7_sayOn 10 = .ok (.iadd, 1) := by decide +kernel
theorem dX7_sayOn_11 : decode cX7_sayOn 11 = .ok (.istore_n 2, 1) := by decide +kernel
theorem dX7_sayOn_12 : decode cX7_sayOn 12 = .ok (.aload_n 0, 1) := by decide +kernel
theorem dX7_sayOn_13 : decode cX7_sayOn 13 = .ok (.iload_n 1, 1) := by decide +kernel
theorem dX7_sayOn_14 : decode cX7_sayOn 14 = .ok (.bipush 7, 2) := by decide +kernel
theorem dX7_sayOn_16 : decode cX7_sayOn 16 = .ok (.aload_n 0, 1) := by decide +kernel
theorem dX7_sayOn_17 : decode cX7_sayOn 17 = .ok (.iload_n 1, 1) := by decide +kernel
theorem dX7_sayOn_18 : decode cX7_sayOn 18 = .ok (.bipush 7, 2) := by decide +kernel
theorem dX7_sayOn_20 : decode cX7_sayOn 20 = .ok (.invokestatic 44, 3) := by decide +kernel
theorem dX7_sayOn_23 : decode cX7_sayOn 23 = .ok (.iconst 1, 1) := by decide +kernel
theorem dX7_sayOn_24 : decode cX7_sayOn 24 = .ok (.iadd, 1) := by decide +kernel
theorem dX7_sayOn_25 : decode cX7_sayOn 25 = .ok (.invokestatic 58, 3) := by decide +kernel
theorem dX7_sayOn_28 : decode cX7_sayOn 28 = .ok (.aload_n 0, 1) := by decide +kernel
theorem dX7_sayOn_29 : decode cX7_sayOn 29 = .ok (.iload_n 1, 1) := by decide +kernel
theorem dX7_sayOn_30 : decode cX7_sayOn 30 = .ok (.iconst 5, 1) := by decide +kernel
theorem dX7_sayOn_31 : decode cX7_sayOn 31 = .ok (.aload_n 0, 1) := by decide +kernel
theorem dX7_sayOn_32 : decode cX7_sayOn 32 = .ok (.iload_n 1, 1) := by decide +kernel
theorem dX7_sayOn_33 : decode cX7_sayOn 33 = .ok (.iconst 5, 1) := by decide +kernel
theorem dX7_sayOn_34 : decode cX7_sayOn 34 = .ok (.invokestatic 44, 3) := by decide +kernel
theorem dX7_sayOn_37 : decode cX7_sayOn 37 = .ok (.iconst 1, 1) := by decide +kernel
theorem dX7_sayOn_38 : decode cX7_sayOn 38 = .ok (.iload_n 2, 1) := by decide +kernel
theorem dX7_sayOn_39 : decode cX7_sayOn 39 = .ok (.ishl, 1) := by decide +kernel
theorem dX7_sayOn_40 : decode cX7_sayOn 40 = .ok (.ior, 1) := by decide +kernel
theorem dX7_sayOn_41 : decode cX7_sayOn 41 = .ok (.invokestatic 58, 3) := by decide +kernel
theorem dX7_sayOn_44 : decode cX7_sayOn 44 = .ok (.aload_n 0, 1) := by decide +kernel
theorem dX7_sayOn_45 : decode cX7_sayOn 45 = .ok (.iconst 4, 1) := by decide +kernel
theorem dX7_sayOn_46 : decode cX7_sayOn 46 = .ok (.dup2, 1) := by decide +kernel
theorem dX7_sayOn_47 : decode cX7_sayOn 47 = .ok (.iaload, 1) := by decide +kernel
theorem dX7_sayOn_48 : decode cX7_sayOn 48 = .ok (.iconst 1, 1) := by decide +kernel
theorem dX7_sayOn_49 : decode cX7_sayOn 49 = .ok (.iadd, 1) := by decide +kernel
theorem dX7_sayOn_50 : decode cX7_sayOn 50 = .ok (.iastore, 1) := by decide +kernel
theorem dX7_sayOn_51 : decode cX7_sayOn 51 = .ok (.iconst 0, 1) := by decide +kernel
theorem dX7_sayOn_52 : decode cX7_sayOn 52 = .ok (.istore_n 3, 1) := by decide +kernel
theorem dX7_sayOn_53 : decode cX7_sayOn 53 = .ok (.iload_n 3, 1) := by decide +kernel
theorem dX7_sayOn_54 : decode cX7_sayOn 54 = .ok (.aload_n 0, 1) := by decide +kernel
theorem dX7_sayOn_55 : decode cX7_sayOn 55 = .ok (.iconst 0, 1) := by decide +kernel
theorem dX7_sayOn_56 : decode cX7_sayOn 56 = .ok (.iaload, 1) := by decide +kernel
theorem dX7_sayOn_57 : decode cX7_sayOn 57 = .ok (.if_icmp .ge 47, 3) := by decide +kernel
theorem dX7_sayOn_60 : decode cX7_sayOn 60 = .ok (.iload_n 3, 1) := by decide +kernel
theorem dX7_sayOn_61 : decode cX7_sayOn 61 = .ok (.iload_n 1, 1) := by decide +kernel
theorem dX7_sayOn_62 : decode cX7_sayOn 62 = .ok (.if_icmp .eq 36, 3) := by decide +kernel
theorem dX7_sayOn_65 : decode cX7_sayOn 65 = .ok (.aload_n 0, 1) := by decide +kernel
theorem dX7_sayOn_66 : decode cX7_sayOn 66 = .ok (.iload_n 1, 1) := by decide +kernel
theorem dX7_sayOn_67 : decode cX7_sayOn 67 = .ok (.iconst 4, 1) := by decide +kernel
theorem dX7_sayOn_68 : decode cX7_sayOn 68 = .ok (.invokestatic 44, 3) := by decide +kernel
theorem dX7_sayOn_71 : decode cX7_sayOn 71 = .ok (.iload_n 3, 1) := by decide +kernel
theorem dX7_sayOn_72 : decode cX7_sayOn 72 = .ok (.invokestatic 48, 3) := by decide +kernel
theorem dX7_sayOn_75 : decode cX7_sayOn 75 = .ok (.ifCond .eq 23, 3) := by decide +kernel
theorem dX7_sayOn_78 : decode cX7_sayOn 78 = .ok (.aload_n 0, 1) := by decide +kernel
theorem dX7_sayOn_79 : decode cX7_sayOn 79 = .ok (.iconst 0, 1) := by decide +kernel
theorem dX7_sayOn_80 : decode cX7_sayOn 80 = .ok (.iload_n 1, 1) := by decide +kernel
theorem dX7_sayOn_81 : decode cX7_sayOn 81 = .ok (.iload_n 3, 1) := by decide +kernel
theorem dX7_sayOn_82 : decode cX7_sayOn 82 = .ok (.aload_n 0, 1) := by decide +kernel
theorem dX7_sayOn_83 : decode cX7_sayOn 83 = .ok (.iload_n 1, 1) := by decide +kernel
theorem dX7_sayOn_84 : decode cX7_sayOn 84 = .ok (.iconst 2, 1) := by decide +kernel
theorem dX7_sayOn_85 : decode cX7_sayOn 85 = .ok (.invokestatic 44, 3) := by decide +kernel
theorem dX7_sayOn_88 : decode cX7_sayOn 88 = .ok (.aload_n 0, 1) := by decide +kernel
theorem dX7_sayOn_89 : decode cX7_sayOn 89 = .ok (.iload_n 1, 1) := by decide +kernel
theorem dX7_sayOn_90 : decode cX7_sayOn 90 = .ok (.iconst 3, 1) := by decide +kernel
theorem dX7_sayOn_91 : decode cX7_sayOn 91 = .ok (.invokestatic 44, 3) := by decide +kernel
theorem dX7_sayOn_94 : decode cX7_sayOn 94 = .ok (.iload_n 2, 1) := by decide +kernel
theorem dX7_sayOn_95 : decode cX7_sayOn 95 = .ok (.invokestatic 81, 3) := by decide +kernel
theorem dX7_sayOn_98 : decode cX7_sayOn 98 = .ok (.iinc 3 1, 3) := by decide +kernel
theorem dX7_sayOn_101 : decode cX7_sayOn 101 = .ok (.goto (-48), 3) := by decide +kernel
theorem dX7_sayOn_104 : decode cX7_sayOn 104 = .ok (.iload_n 2, 1) := by decide +kernel
theorem dX7_sayOn_105 : decode cX7_sayOn 105 = .ok (.ireturn, 1) := by decide +kernel
theorem dX7_canCall_0 : decode cX7_canCall 0 = .ok (.aload_n 0, 1) := by decide +kernel
theorem dX7_canCall_1 : decode cX7_canCall 1 = .ok (.iload_n 1, 1) := by decide +kernel
theorem dX7_canCall_2 : decode cX7_canCall 2 = .ok (.invokestatic 112, 3) := by decide +kernel
theorem dX7_canCall_5 : decode cX7_canCall 5 = .ok (.ifCond .eq 26, 3) := by decide +kernel
theorem dX7_canCall_8 : decode cX7_canCall 8 = .ok (.aload_n 0, 1) := by decide +kernel
theorem dX7_canCall_9 : decode cX7_canCall 9 = .ok (.iload_n 1, 1) := by decide +kernel
theorem dX7_canCall_10 : decode cX7_canCall 10 = .ok (.iload_n 2, 1) := by decide +kernel
theorem dX7_canCall_11 : decode cX7_canCall 11 = .ok (.invokestatic 116, 3) := by decide +kernel
theorem dX7_canCall_14 : decode cX7_canCall 14 = .ok (.ifCond .eq 17, 3) := by decide +kernel
theorem dX7_canCall_17 : decode cX7_canCall 17 = .ok (.aload_n 0, 1) := by decide +kernel
theorem dX7_canCall_18 : decode cX7_canCall 18 = .ok (.iload_n 1, 1) := by decide +kernel
theorem dX7_canCall_19 : decode cX7_canCall 19 = .ok (.iconst 1, 1) := by decide +kernel
theorem dX7_canCall_20 : decode cX7_canCall 20 = .ok (.invokestatic 44, 3) := by decide +kernel
theorem dX7_canCall_23 : decode cX7_canCall 23 = .ok (.iconst 2, 1) := by decide +kernel
theorem dX7_canCall_24 : decode cX7_canCall 24 = .ok (.if_icmp .eq 7, 3) := by decide +kernel
theorem dX7_canCall_27 : decode cX7_canCall 27 = .ok (.iconst 1, 1) := by decide +kernel
theorem dX7_canCall_28 : decode cX7_canCall 28 = .ok (.goto 4, 3) := by decide +kernel
theorem dX7_canCall_31 : decode cX7_canCall 31 = .ok (.iconst 0, 1) := by decide +kernel
theorem dX7_canCall_32 : decode cX7_canCall 32 = .ok (.ireturn, 1) := by decide +kernel
theorem dX7_cutOn_0 : decode cX7_cutOn 0 = .ok (.aload_n 0, 1) := by decide +kernel
theorem dX7_cutOn_1 : decode cX7_cutOn 1 = .ok (.bipush 8, 2) := by decide +kernel
theorem dX7_cutOn_3 : decode cX7_cutOn 3 = .ok (.iload_n 1, 1) := by decide +kernel
theorem dX7_cutOn_4 : decode cX7_cutOn 4 = .ok (.iadd, 1) := by decide +kernel
theorem dX7_cutOn_5 : decode cX7_cutOn 5 = .ok (.iload_n 3, 1) := by decide +kernel
theorem dX7_cutOn_6 : decode cX7_cutOn 6 = .ok (.ifCond .eq 16, 3) := by decide +kernel
theorem dX7_cutOn_9 : decode cX7_cutOn 9 = .ok (.aload_n 0, 1) := by decide +kernel
theorem dX7_cutOn_10 : decode cX7_cutOn 10 = .ok (.bipush 8, 2) := by decide +kernel
theorem dX7_cutOn_12 : decode cX7_cutOn 12 = .ok (.iload_n 1, 1) := by decide +kernel
theorem dX7_cutOn_13 : decode cX7_cutOn 13 = .ok (.iadd, 1) := by decide +kernel
theorem dX7_cutOn_14 : decode cX7_cutOn 14 = .ok (.iaload, 1) := by decide +kernel
theorem dX7_cutOn_15 : decode cX7_cutOn 15 = .ok (.iconst 1, 1) := by decide +kernel
theorem dX7_cutOn_16 : decode cX7_cutOn 16 = .ok (.iload_n 2, 1) := by decide +kernel
theorem dX7_cutOn_17 : decode cX7_cutOn 17 = .ok (.ishl, 1) := by decide +kernel
theorem dX7_cutOn_18 : decode cX7_cutOn 18 = .ok (.ior, 1) := by decide +kernel
theorem dX7_cutOn_19 : decode cX7_cutOn 19 = .ok (.goto 15, 3) := by decide +kernel
theorem dX7_cutOn_22 : decode cX7_cutOn 22 = .ok (.aload_n 0, 1) := by decide +kernel
theorem dX7_cutOn_23 : decode cX7_cutOn 23 = .ok (.bipush 8, 2) := by decide +kernel
theorem dX7_cutOn_25 : decode cX7_cutOn 25 = .ok (.iload_n 1, 1) := by decide +kernel
theorem dX7_cutOn_26 : decode cX7_cutOn 26 = .ok (.iadd, 1) := by decide +kernel
theorem dX7_cutOn_27 : decode cX7_cutOn 27 = .ok (.iaload, 1) := by decide +kernel
theorem dX7_cutOn_28 : decode cX7_cutOn 28 = .ok (.iconst 1, 1) := by decide +kernel
theorem dX7_cutOn_29 : decode cX7_cutOn 29 = .ok (.iload_n 2, 1) := by decide +kernel
theorem dX7_cutOn_30 : decode cX7_cutOn 30 = .ok (.ishl, 1) := by decide +kernel
theorem dX7_cutOn_31 : decode cX7_cutOn 31 = .ok (.iconst (-1), 1) := by decide +kernel
theorem dX7_cutOn_32 : decode cX7_cutOn 32 = .ok (.ixor, 1) := by decide +kernel
theorem dX7_cutOn_33 : decode cX7_cutOn 33 = .ok (.iand, 1) := by decide +kernel
theorem dX7_cutOn_34 : decode cX7_cutOn 34 = .ok (.iastore, 1) := by decide +kernel
theorem dX7_cutOn_35 : decode cX7_cutOn 35 = .ok (.aload_n 0, 1) := by decide +kernel
theorem dX7_cutOn_36 : decode cX7_cutOn 36 = .ok (.bipush 8, 2) := by decide +kernel
theorem dX7_cutOn_38 : decode cX7_cutOn 38 = .ok (.iload_n 2, 1) := by decide +kernel
theorem dX7_cutOn_39 : decode cX7_cutOn 39 = .ok (.iadd, 1) := by decide +kernel
theorem dX7_cutOn_40 : decode cX7_cutOn 40 = .ok (.iload_n 3, 1) := by decide +kernel
theorem dX7_cutOn_41 : decode cX7_cutOn 41 = .ok (.ifCond .eq 16, 3) := by decide +kernel
theorem dX7_cutOn_44 : decode cX7_cutOn 44 = .ok (.aload_n 0, 1) := by decide +kernel
theorem dX7_cutOn_45 : decode cX7_cutOn 45 = .ok (.bipush 8, 2) := by decide +kernel
theorem dX7_cutOn_47 : decode cX7_cutOn 47 = .ok (.iload_n 2, 1) := by decide +kernel
theorem dX7_cutOn_48 : decode cX7_cutOn 48 = .ok (.iadd, 1) := by decide +kernel
theorem dX7_cutOn_49 : decode cX7_cutOn 49 = .ok (.iaload, 1) := by decide +kernel
theorem dX7_cutOn_50 : decode cX7_cutOn 50 = .ok (.iconst 1, 1) := by decide +kernel
theorem dX7_cutOn_51 : decode cX7_cutOn 51 = .ok (.iload_n 1, 1) := by decide +kernel
theorem dX7_cutOn_52 : decode cX7_cutOn 52 = .ok (.ishl, 1) := by decide +kernel
theorem dX7_cutOn_53 : decode cX7_cutOn 53 = .ok (.ior, 1) := by decide +kernel
theorem dX7_cutOn_54 : decode cX7_cutOn 54 = .ok (.goto 15, 3) := by decide +kernel
theorem dX7_cutOn_57 : decode cX7_cutOn 57 = .ok (.aload_n 0, 1) := by decide +kernel
theorem dX7_cutOn_58 : decode cX7_cutOn 58 = .ok (.bipush 8, 2) := by decide +kernel
theorem dX7_cutOn_60 : decode cX7_cutOn 60 = .ok (.iload_n 2, 1) := by decide +kernel
theorem dX7_cutOn_61 : decode cX7_cutOn 61 = .ok (.iadd, 1) := by decide +kernel
theorem dX7_cutOn_62 : decode cX7_cutOn 62 = .ok (.iaload, 1) := by decide +kernel
theorem dX7_cutOn_63 : decode cX7_cutOn 63 = .ok (.iconst 1, 1) := by decide +kernel
theorem dX7_cutOn_64 : decode cX7_cutOn 64 = .ok (.iload_n 1, 1) := by decide +kernel
theorem dX7_cutOn_65 : decode cX7_cutOn 65 = .ok (.ishl, 1) := by decide +kernel
theorem dX7_cutOn_66 : decode cX7_cutOn 66 = .ok (.iconst (-1), 1) := by decide +kernel
theorem dX7_cutOn_67 : decode cX7_cutOn 67 = .ok (.ixor, 1) := by decide +kernel
theorem dX7_cutOn_68 : decode cX7_cutOn 68 = .ok (.iand, 1) := by decide +kernel
theorem dX7_cutOn_69 : decode cX7_cutOn 69 = .ok (.iastore, 1) := by decide +kernel
theorem dX7_cutOn_70 : decode cX7_cutOn 70 = .ok (.iconst 0, 1) := by decide +kernel
theorem dX7_cutOn_71 : decode cX7_cutOn 71 = .ok (.istore 4, 2) := by decide +kernel
theorem dX7_cutOn_73 : decode cX7_cutOn 73 = .ok (.iconst 0, 1) := by decide +kernel
theorem dX7_cutOn_74 : decode cX7_cutOn 74 = .ok (.istore 5, 2) := by decide +kernel
theorem dX7_cutOn_76 : decode cX7_cutOn 76 = .ok (.iload 5, 2) := by decide +kernel
theorem dX7_cutOn_78 : decode cX7_cutOn 78 = .ok (.bipush 6, 2) := by decide +kernel
theorem dX7_cutOn_80 : decode cX7_cutOn 80 = .ok (.if_icmp .ge 24, 3) := by decide +kernel
theorem dX7_cutOn_83 : decode cX7_cutOn 83 = .ok (.iload 4, 2) := by decide +kernel
theorem dX7_cutOn_85 : decode cX7_cutOn 85 = .ok (.aload_n 0, 1) := by decide +kernel
theorem dX7_cutOn_86 : decode cX7_cutOn 86 = .ok (.bipush 8, 2) := by decide +kernel
theorem dX7_cutOn_88 : decode cX7_cutOn 88 = .ok (.iload 5, 2) := by decide +kernel
theorem dX7_cutOn_90 : decode cX7_cutOn 90 = .ok (.iadd, 1) := by decide +kernel
theorem dX7_cutOn_91 : decode cX7_cutOn 91 = .ok (.iaload, 1) := by decide +kernel
theorem dX7_cutOn_92 : decode cX7_cutOn 92 = .ok (.invokestatic 120, 3) := by decide +kernel
theorem dX7_cutOn_95 : decode cX7_cutOn 95 = .ok (.iadd, 1) := by decide +kernel
theorem dX7_cutOn_96 : decode cX7_cutOn 96 = .ok (.istore 4, 2) := by decide +kernel
theorem dX7_cutOn_98 : decode cX7_cutOn 98 = .ok (.iinc 5 1, 3) := by decide +kernel
theorem dX7_cutOn_101 : decode cX7_cutOn 101 = .ok (.goto (-25), 3) := by decide +kernel
theorem dX7_cutOn_104 : decode cX7_cutOn 104 = .ok (.iload 4, 2) := by decide +kernel
theorem dX7_cutOn_106 : decode cX7_cutOn 106 = .ok (.iconst 2, 1) := by decide +kernel
theorem dX7_cutOn_107 : decode cX7_cutOn 107 = .ok (.idiv, 1) := by decide +kernel
theorem dX7_cutOn_108 : decode cX7_cutOn 108 = .ok (.ireturn, 1) := by decide +kernel
theorem dX7_isGone_0 : decode cX7_isGone 0 = .ok (.aload_n 0, 1) := by decide +kernel
theorem dX7_isGone_1 : decode cX7_isGone 1 = .ok (.iload_n 1, 1) := by decide +kernel
theorem dX7_isGone_2 : decode cX7_isGone 2 = .ok (.invokestatic 112, 3) := by decide +kernel
theorem dX7_isGone_5 : decode cX7_isGone 5 = .ok (.ifCond .eq 17, 3) := by decide +kernel
theorem dX7_isGone_8 : decode cX7_isGone 8 = .ok (.aload_n 0, 1) := by decide +kernel
theorem dX7_isGone_9 : decode cX7_isGone 9 = .ok (.iload_n 1, 1) := by decide +kernel
theorem dX7_isGone_10 : decode cX7_isGone 10 = .ok (.iconst 1, 1) := by decide +kernel
theorem dX7_isGone_11 : decode cX7_isGone 11 = .ok (.invokestatic 44, 3) := by decide +kernel
theorem dX7_isGone_14 : decode cX7_isGone 14 = .ok (.iconst 2, 1) := by decide +kernel
theorem dX7_isGone_15 : decode cX7_isGone 15 = .ok (.if_icmp .ne 7, 3) := by decide +kernel
theorem dX7_isGone_18 : decode cX7_isGone 18 = .ok (.iconst 1, 1) := by decide +kernel
theorem dX7_isGone_19 : decode cX7_isGone 19 = .ok (.goto 4, 3) := by decide +kernel
theorem dX7_isGone_22 : decode cX7_isGone 22 = .ok (.iconst 0, 1) := by decide +kernel
theorem dX7_isGone_23 : decode cX7_isGone 23 = .ok (.ireturn, 1) := by decide +kernel
theorem dX7_leaveOn_0 : decode cX7_leaveOn 0 = .ok (.aload_n 0, 1) := by decide +kernel
theorem dX7_leaveOn_1 : decode cX7_leaveOn 1 = .ok (.iload_n 1, 1) := by decide +kernel
theorem dX7_leaveOn_2 : decode cX7_leaveOn 2 = .ok (.iconst 1, 1) := by decide +kernel
theorem dX7_leaveOn_3 : decode cX7_leaveOn 3 = .ok (.iconst 2, 1) := by decide +kernel
theorem dX7_leaveOn_4 : decode cX7_leaveOn 4 = .ok (.invokestatic 58, 3) := by decide +kernel
theorem dX7_leaveOn_7 : decode cX7_leaveOn 7 = .ok (.aload_n 0, 1) := by decide +kernel
theorem dX7_leaveOn_8 : decode cX7_leaveOn 8 = .ok (.iload_n 1, 1) := by decide +kernel
theorem dX7_leaveOn_9 : decode cX7_leaveOn 9 = .ok (.invokestatic 85, 3) := by decide +kernel
theorem dX7_leaveOn_12 : decode cX7_leaveOn 12 = .ok (.aload_n 0, 1) := by decide +kernel
theorem dX7_leaveOn_13 : decode cX7_leaveOn 13 = .ok (.iload_n 1, 1) := by decide +kernel
theorem dX7_leaveOn_14 : decode cX7_leaveOn 14 = .ok (.bipush 30, 2) := by decide +kernel
theorem dX7_leaveOn_16 : decode cX7_leaveOn 16 = .ok (.iconst 0, 1) := by decide +kernel
theorem dX7_leaveOn_17 : decode cX7_leaveOn 17 = .ok (.invokestatic 58, 3) := by decide +kernel
theorem dX7_leaveOn_20 : decode cX7_leaveOn 20 = .ok (.aload_n 0, 1) := by decide +kernel
theorem dX7_leaveOn_21 : decode cX7_leaveOn 21 = .ok (.iload_n 1, 1) := by decide +kernel
theorem dX7_leaveOn_22 : decode cX7_leaveOn 22 = .ok (.iconst 2, 1) := by decide +kernel
theorem dX7_leaveOn_23 : decode cX7_leaveOn 23 = .ok (.invokestatic 44, 3) := by decide +kernel
theorem dX7_leaveOn_26 : decode cX7_leaveOn 26 = .ok (.ireturn, 1) := by decide +kernel
theorem dX7_backOn_0 : decode cX7_backOn 0 = .ok (.aload_n 0, 1) := by decide +kernel
theorem dX7_backOn_1 : decode cX7_backOn 1 = .ok (.iload_n 1, 1) := by decide +kernel
theorem dX7_backOn_2 : decode cX7_backOn 2 = .ok (.bipush 6, 2) := by decide +kernel
theorem dX7_backOn_4 : decode cX7_backOn 4 = .ok (.invokestatic 44, 3) := by decide +kernel
theorem dX7_backOn_7 : decode cX7_backOn 7 = .ok (.iconst 1, 1) := by decide +kernel
theorem dX7_backOn_8 : decode cX7_backOn 8 = .ok (.iadd, 1) := by decide +kernel
theorem dX7_backOn_9 : decode cX7_backOn 9 = .ok (.istore_n 2, 1) := by decide +kernel
theorem dX7_backOn_10 : decode cX7_backOn 10 = .ok (.aload_n 0, 1) := by decide +kernel
theorem dX7_backOn_11 : decode cX7_backOn 11 = .ok (.iload_n 1, 1) := by decide +kernel
theorem dX7_backOn_12 : decode cX7_backOn 12 = .ok (.aload_n 0, 1) := by decide +kernel
theorem dX7_backOn_13 : decode cX7_backOn 13 = .ok (.iload_n 1, 1) := by decide +kernel
theorem dX7_backOn_14 : decode cX7_backOn 14 = .ok (.iconst 5, 1) := by decide +kernel
theorem dX7_backOn_15 : decode cX7_backOn 15 = .ok (.invokestatic 44, 3) := by decide +kernel
theorem dX7_backOn_18 : decode cX7_backOn 18 = .ok (.invokestatic 62, 3) := by decide +kernel
theorem dX7_backOn_21 : decode cX7_backOn 21 = .ok (.aload_n 0, 1) := by decide +kernel
theorem dX7_backOn_22 : decode cX7_backOn 22 = .ok (.iload_n 1, 1) := by decide +kernel
theorem dX7_backOn_23 : decode cX7_backOn 23 = .ok (.bipush 6, 2) := by decide +kernel
theorem dX7_backOn_25 : decode cX7_backOn 25 = .ok (.iload_n 2, 1) := by decide +kernel
theorem dX7_backOn_26 : decode cX7_backOn 26 = .ok (.invokestatic 58, 3) := by decide +kernel
theorem dX7_backOn_29 : decode cX7_backOn 29 = .ok (.aload_n 0, 1) := by decide +kernel
theorem dX7_backOn_30 : decode cX7_backOn 30 = .ok (.iload_n 1, 1) := by decide +kernel
theorem dX7_backOn_31 : decode cX7_backOn 31 = .ok (.iload_n 2, 1) := by decide +kernel
theorem dX7_backOn_32 : decode cX7_backOn 32 = .ok (.iload_n 1, 1) := by decide +kernel
theorem dX7_backOn_33 : decode cX7_backOn 33 = .ok (.iconst 1, 1) := by decide +kernel
theorem dX7_backOn_34 : decode cX7_backOn 34 = .ok (.iload_n 1, 1) := by decide +kernel
theorem dX7_backOn_35 : decode cX7_backOn 35 = .ok (.ishl, 1) := by decide +kernel
theorem dX7_backOn_36 : decode cX7_backOn 36 = .ok (.invokestatic 66, 3) := by decide +kernel
theorem dX7_backOn_39 : decode cX7_backOn 39 = .ok (.iload_n 2, 1) := by decide +kernel
theorem dX7_backOn_40 : decode cX7_backOn 40 = .ok (.ireturn, 1) := by decide +kernel
theorem dX7_append_0 : decode cX7_append 0 = .ok (.aload_n 0, 1) := by decide +kernel
theorem dX7_append_1 : decode cX7_append 1 = .ok (.iload_n 1, 1) := by decide +kernel
theorem dX7_append_2 : decode cX7_append 2 = .ok (.i2l, 1) := by decide +kernel
theorem dX7_append_3 : decode cX7_append 3 = .ok (.lconst 0, 1) := by decide +kernel
theorem dX7_append_4 : decode cX7_append 4 = .ok (.ldc2_w 124, 3) := by decide +kernel
theorem dX7_append_7 : decode cX7_append 7 = .ok (.invokestatic 40, 3) := by decide +kernel
theorem dX7_append_10 : decode cX7_append 10 = .ok (.ifCond .ne 7, 3) := by decide +kernel
theorem dX7_append_13 : decode cX7_append 13 = .ok (.iconst 1, 1) := by decide +kernel
theorem dX7_append_14 : decode cX7_append 14 = .ok (.goto 17, 3) := by decide +kernel
theorem dX7_append_17 : decode cX7_append 17 = .ok (.aload_n 0, 1) := by decide +kernel
theorem dX7_append_18 : decode cX7_append 18 = .ok (.getfield 126, 3) := by decide +kernel
theorem dX7_append_21 : decode cX7_append 21 = .ok (.bipush 120, 2) := by decide +kernel
theorem dX7_append_23 : decode cX7_append 23 = .ok (.if_icmp .ne 7, 3) := by decide +kernel
theorem dX7_append_26 : decode cX7_append 26 = .ok (.iconst 2, 1) := by decide +kernel
theorem dX7_append_27 : decode cX7_append 27 = .ok (.goto 4, 3) := by decide +kernel
theorem dX7_append_30 : decode cX7_append 30 = .ok (.iconst 0, 1) := by decide +kernel
theorem dX7_append_31 : decode cX7_append 31 = .ok (.invokevirtual 129, 3) := by decide +kernel
theorem dX7_append_34 : decode cX7_append 34 = .ok (.ifCond .eq 5, 3) := by decide +kernel
theorem dX7_append_37 : decode cX7_append 37 = .ok (.iconst 0, 1) := by decide +kernel
theorem dX7_append_38 : decode cX7_append 38 = .ok (.ireturn, 1) := by decide +kernel
theorem dX7_append_39 : decode cX7_append 39 = .ok (.aload_n 0, 1) := by decide +kernel
theorem dX7_append_40 : decode cX7_append 40 = .ok (.getfield 7, 3) := by decide +kernel
theorem dX7_append_43 : decode cX7_append 43 = .ok (.aload_n 0, 1) := by decide +kernel
theorem dX7_append_44 : decode cX7_append 44 = .ok (.getfield 126, 3) := by decide +kernel
theorem dX7_append_47 : decode cX7_append 47 = .ok (.iload_n 1, 1) := by decide +kernel
theorem dX7_append_48 : decode cX7_append 48 = .ok (.iastore, 1) := by decide +kernel
theorem dX7_append_49 : decode cX7_append 49 = .ok (.aload_n 0, 1) := by decide +kernel
theorem dX7_append_50 : decode cX7_append 50 = .ok (.dup, 1) := by decide +kernel
theorem dX7_append_51 : decode cX7_append 51 = .ok (.getfield 126, 3) := by decide +kernel
theorem dX7_append_54 : decode cX7_append 54 = .ok (.iconst 1, 1) := by decide +kernel
theorem dX7_append_55 : decode cX7_append 55 = .ok (.iadd, 1) := by decide +kernel
theorem dX7_append_56 : decode cX7_append 56 = .ok (.putfield 126, 3) := by decide +kernel
theorem dX7_append_59 : decode cX7_append 59 = .ok (.aload_n 0, 1) := by decide +kernel
theorem dX7_append_60 : decode cX7_append 60 = .ok (.getfield 126, 3) := by decide +kernel
theorem dX7_append_63 : decode cX7_append 63 = .ok (.ireturn, 1) := by decide +kernel
theorem dX7_clearText_0 : decode cX7_clearText 0 = .ok (.aload_n 0, 1) := by decide +kernel
theorem dX7_clearText_1 : decode cX7_clearText 1 = .ok (.iconst 0, 1) := by decide +kernel
theorem dX7_clearText_2 : decode cX7_clearText 2 = .ok (.putfield 36, 3) := by decide +kernel
theorem dX7_clearText_5 : decode cX7_clearText 5 = .ok (.aload_n 0, 1) := by decide +kernel
theorem dX7_clearText_6 : decode cX7_clearText 6 = .ok (.getfield 126, 3) := by decide +kernel
theorem dX7_clearText_9 : decode cX7_clearText 9 = .ok (.istore_n 1, 1) := by decide +kernel
theorem dX7_clearText_10 : decode cX7_clearText 10 = .ok (.aload_n 0, 1) := by decide +kernel
theorem dX7_clearText_11 : decode cX7_clearText 11 = .ok (.iconst 0, 1) := by decide +kernel
theorem dX7_clearText_12 : decode cX7_clearText 12 = .ok (.putfield 126, 3) := by decide +kernel
theorem dX7_clearText_15 : decode cX7_clearText 15 = .ok (.iload_n 1, 1) := by decide +kernel
theorem dX7_clearText_16 : decode cX7_clearText 16 = .ok (.ireturn, 1) := by decide +kernel
theorem dX7_figures_0 : decode cX7_figures 0 = .ok (.iconst 0, 1) := by decide +kernel
theorem dX7_figures_1 : decode cX7_figures 1 = .ok (.istore 5, 2) := by decide +kernel
theorem dX7_figures_3 : decode cX7_figures 3 = .ok (.iload_n 2, 1) := by decide +kernel
theorem dX7_figures_4 : decode cX7_figures 4 = .ok (.iconst 2, 1) := by decide +kernel
theorem dX7_figures_5 : decode cX7_figures 5 = .ok (.if_icmp .ne 8, 3) := by decide +kernel
theorem dX7_figures_8 : decode cX7_figures 8 = .ok (.bipush 10, 2) := by decide +kernel
theorem dX7_figures_10 : decode cX7_figures 10 = .ok (.goto 4, 3) := by decide +kernel
theorem dX7_figures_13 : decode cX7_figures 13 = .ok (.iconst 1, 1) := by decide +kernel
theorem dX7_figures_14 : decode cX7_figures 14 = .ok (.istore 6, 2) := by decide +kernel
theorem dX7_figures_16 : decode cX7_figures 16 = .ok (.iload 6, 2) := by decide +kernel
theorem dX7_figures_18 : decode cX7_figures 18 = .ok (.ifCond .le 104, 3) := by decide +kernel
theorem dX7_figures_21 : decode cX7_figures 21 = .ok (.iload_n 1, 1) := by decide +kernel
theorem dX7_figures_22 : decode cX7_figures 22 = .ok (.iconst (-1), 1) := by decide +kernel
theorem dX7_figures_23 : decode cX7_figures 23 = .ok (.if_icmp .eq 99, 3) := by decide +kernel
theorem dX7_figures_26 : decode cX7_figures 26 = .ok (.aload_n 0, 1) := by decide +kernel
theorem dX7_figures_27 : decode cX7_figures 27 = .ok (.getfield 133, 3) := by decide +kernel
theorem dX7_figures_30 : decode cX7_figures 30 = .ok (.aload_n 0, 1) := by decide +kernel
theorem dX7_figures_31 : decode cX7_figures 31 = .ok (.getfield 126, 3) := by decide +kernel
theorem dX7_figures_34 : decode cX7_figures 34 = .ok (.if_icmp .ge 18, 3) := by decide +kernel
theorem dX7_figures_37 : decode cX7_figures 37 = .ok (.aload_n 0, 1) := by decide +kernel
theorem dX7_figures_38 : decode cX7_figures 38 = .ok (.getfield 7, 3) := by decide +kernel
theorem dX7_figures_41 : decode cX7_figures 41 = .ok (.aload_n 0, 1) := by decide +kernel
theorem dX7_figures_42 : decode cX7_figures 42 = .ok (.getfield 133, 3) := by decide +kernel
theorem dX7_figures_45 : decode cX7_figures 45 = .ok (.iaload, 1) := by decide +kernel
theorem dX7_figures_46 : decode cX7_figures 46 = .ok (.bipush 48, 2) := by decide +kernel
theorem dX7_figures_48 : decode cX7_figures 48 = .ok (.isub, 1) := by decide +kernel
theorem dX7_figures_49 : decode cX7_figures 49 = .ok (.goto 4, 3) := by decide +kernel
theorem dX7_figures_52 : decode cX7_figures 52 = .ok (.iconst (-1), 1) := by decide +kernel
theorem dX7_figures_53 : decode cX7_figures 53 = .ok (.istore 7, 2) := by decide +kernel
theorem dX7_figures_55 : decode cX7_figures 55 = .ok (.iload 5, 2) := by decide +kernel
theorem dX7_figures_57 : decode cX7_figures 57 = .ok (.iload 7, 2) := by decide +kernel
theorem dX7_figures_59 : decode cX7_figures 59 = .ok (.iload 6, 2) := by decide +kernel
theorem dX7_figures_61 : decode cX7_figures 61 = .ok (.imul, 1) := by decide +kernel
theorem dX7_figures_62 : decode cX7_figures 62 = .ok (.iadd, 1) := by decide +kernel
theorem dX7_figures_63 : decode cX7_figures 63 = .ok (.istore 8, 2) := by decide +kernel
theorem dX7_figures_65 : decode cX7_figures 65 = .ok (.iload 7, 2) := by decide +kernel
theorem dX7_figures_67 : decode cX7_figures 67 = .ok (.i2l, 1) := by decide +kernel
theorem dX7_figures_68 : decode cX7_figures 68 = .ok (.lconst 0, 1) := by decide +kernel
theorem dX7_figures_69 : decode cX7_figures 69 = .ok (.ldc2_w 136, 3) := by decide +kernel
theorem dX7_figures_72 : decode cX7_figures 72 = .ok (.invokestatic 40, 3) := by decide +kernel
theorem dX7_figures_75 : decode cX7_figures 75 = .ok (.ifCond .eq 21, 3) := by decide +kernel
theorem dX7_figures_78 : decode cX7_figures 78 = .ok (.iload 8, 2) := by decide +kernel
theorem dX7_figures_80 : decode cX7_figures 80 = .ok (.iload 4, 2) := by decide +kernel
theorem dX7_figures_82 : decode cX7_figures 82 = .ok (.if_icmp .gt 14, 3) := by decide +kernel
theorem dX7_figures_85 : decode cX7_figures 85 = .ok (.iload 8, 2) := by decide +kernel
theorem dX7_figures_87 : decode cX7_figures 87 = .ok (.iload 6, 2) := by decide +kernel
theorem dX7_figures_89 : decode cX7_figures 89 = .ok (.iadd, 1) := by decide +kernel
theorem dX7_figures_90 : decode cX7_figures 90 = .ok (.iconst 1, 1) := by decide +kernel
theorem dX7_figures_91 : decode cX7_figures 91 = .ok (.isub, 1) := by decide +kernel
theorem dX7_figures_92 : decode cX7_figures 92 = .ok (.iload_n 3, 1) := by decide +kernel
theorem dX7_figures_93 : decode cX7_figures 93 = .ok (.if_icmp .ge 5, 3) := by decide +kernel
theorem dX7_figures_96 : decode cX7_figures 96 = .ok (.iconst (-1), 1) := by decide +kernel
theorem dX7_figures_97 : decode cX7_figures 97 = .ok (.ireturn, 1) := by decide +kernel
theorem dX7_figures_98 : decode cX7_figures 98 = .ok (.iload 8, 2) := by decide +kernel
theorem dX7_figures_100 : decode cX7_figures 100 = .ok (.istore 5, 2) := by decide +kernel
theorem dX7_figures_102 : decode cX7_figures 102 = .ok (.aload_n 0, 1) := by decide +kernel
theorem dX7_figures_103 : decode cX7_figures 103 = .ok (.dup, 1) := by decide +kernel
theorem dX7_figures_104 : decode cX7_figures 104 = .ok (.getfield 133, 3) := by decide +kernel
theorem dX7_figures_107 : decode cX7_figures 107 = .ok (.iconst 1, 1) := by decide +kernel
theorem dX7_figures_108 : decode cX7_figures 108 = .ok (.iadd, 1) := by decide +kernel
theorem dX7_figures_109 : decode cX7_figures 109 = .ok (.putfield 133, 3) := by decide +kernel
theorem dX7_figures_112 : decode cX7_figures 112 = .ok (.iload 6, 2) := by decide +kernel
theorem dX7_figures_114 : decode cX7_figures 114 = .ok (.bipush 10, 2) := by decide +kernel
theorem dX7_figures_116 : decode cX7_figures 116 = .ok (.idiv, 1) := by decide +kernel
theorem dX7_figures_117 : decode cX7_figures 117 = .ok (.istore 6, 2) := by decide +kernel
theorem dX7_figures_119 : decode cX7_figures 119 = .ok (.goto (-103), 3) := by decide +kernel
theorem dX7_figures_122 : decode cX7_figures 122 = .ok (.iload_n 1, 1) := by decide +kernel
theorem dX7_figures_123 : decode cX7_figures 123 = .ok (.iconst (-1), 1) := by decide +kernel
theorem dX7_figures_124 : decode cX7_figures 124 = .ok (.if_icmp .ne 7, 3) := by decide +kernel
theorem dX7_figures_127 : decode cX7_figures 127 = .ok (.iconst (-1), 1) := by decide +kernel
theorem dX7_figures_128 : decode cX7_figures 128 = .ok (.goto 5, 3) := by decide +kernel
theorem dX7_figures_131 : decode cX7_figures 131 = .ok (.iload 5, 2) := by decide +kernel
theorem dX7_figures_133 : decode cX7_figures 133 = .ok (.ireturn, 1) := by decide +kernel
theorem dX7_done_0 : decode cX7_done 0 = .ok (.aload_n 0, 1) := by decide +kernel
theorem dX7_done_1 : decode cX7_done 1 = .ok (.dup, 1) := by decide +kernel
theorem dX7_done_2 : decode cX7_done 2 = .ok (.getfield 138, 3) := by decide +kernel
theorem dX7_done_5 : decode cX7_done 5 = .ok (.iload_n 1, 1) := by decide +kernel
theorem dX7_done_6 : decode cX7_done 6 = .ok (.ifCond .eq 7, 3) := by decide +kernel
theorem dX7_done_9 : decode cX7_done 9 = .ok (.iconst 0, 1) := by decide +kernel
theorem dX7_done_10 : decode cX7_done 10 = .ok (.goto 4, 3) := by decide +kernel
theorem dX7_done_13 : decode cX7_done 13 = .ok (.iconst 1, 1) := by decide +kernel
theorem dX7_done_14 : decode cX7_done 14 = .ok (.iadd, 1) := by decide +kernel
theorem dX7_done_15 : decode cX7_done 15 = .ok (.putfield 138, 3) := by decide +kernel
theorem dX7_done_18 : decode cX7_done 18 = .ok (.iconst 1, 1) := by decide +kernel
theorem dX7_done_19 : decode cX7_done 19 = .ok (.ireturn, 1) := by decide +kernel
theorem dX7_who_0 : decode cX7_who 0 = .ok (.aload_n 0, 1) := by decide +kernel
theorem dX7_who_1 : decode cX7_who 1 = .ok (.iload_n 1, 1) := by decide +kernel
theorem dX7_who_2 : decode cX7_who 2 = .ok (.iconst 1, 1) := by decide +kernel
theorem dX7_who_3 : decode cX7_who 3 = .ok (.iconst 0, 1) := by decide +kernel
theorem dX7_who_4 : decode cX7_who 4 = .ok (.iconst 5, 1) := by decide +kernel
theorem dX7_who_5 : decode cX7_who 5 = .ok (.invokevirtual 141, 3) := by decide +kernel
theorem dX7_who_8 : decode cX7_who 8 = .ok (.ireturn, 1) := by decide +kernel
theorem dX7_readCommand_0 : decode cX7_readCommand 0 = .ok (.aload_n 0, 1) := by decide +kernel
theorem dX7_readCommand_1 : decode cX7_readCommand 1 = .ok (.getfield 7, 3) := by decide +kernel
theorem dX7_readCommand_4 : decode cX7_readCommand 4 = .ok (.aload_n 0, 1) := by decide +kernel
theorem dX7_readCommand_5 : decode cX7_readCommand 5 = .ok (.getfield 133, 3) := by decide +kernel
theorem dX7_readCommand_8 : decode cX7_readCommand 8 = .ok (.iaload, 1) := by decide +kernel
theorem dX7_readCommand_9 : decode cX7_readCommand 9 = .ok (.istore_n 2, 1) := by decide +kernel
theorem dX7_readCommand_10 : decode cX7_readCommand 10 = .ok (.aload_n 0, 1) := by decide +kernel
theorem dX7_readCommand_11 : decode cX7_readCommand 11 = .ok (.dup, 1) := by decide +kernel
theorem dX7_readCommand_12 : decode cX7_readCommand 12 = .ok (.getfield 133, 3) := by decide +kernel
theorem dX7_readCommand_15 : decode cX7_readCommand 15 = .ok (.iconst 1, 1) := by decide +kernel
theorem dX7_readCommand_16 : decode cX7_readCommand 16 = .ok (.iadd, 1) := by decide +kernel
theorem dX7_readCommand_17 : decode cX7_readCommand 17 = .ok (.putfield 133, 3) := by decide +kernel
theorem dX7_readCommand_20 : decode cX7_readCommand 20 = .ok (.iload_n 2, 1) := by decide +kernel
theorem dX7_readCommand_21 : decode cX7_readCommand 21 = .ok (.tableswitch 511 98 120 #[386, 201, 511, 511, 511, 333, 511, 511, 511, 511, 511, 107, 511, 511, 431, 511, 511, 156, 469, 511, 511, 511, 262], 107) := by decide +kernel
theorem dX7_readCommand_128 : decode cX7_readCommand 128 = .ok (.aload_n 0, 1) := by decide +kernel
theorem dX7_readCommand_129 : decode cX7_readCommand 129 = .ok (.iconst 0, 1) := by decide +kernel
theorem dX7_readCommand_130 : decode cX7_readCommand 130 = .ok (.iconst 1, 1) := by decide +kernel
theorem dX7_readCommand_131 : decode cX7_readCommand 131 = .ok (.iconst 0, 1) := by decide +kernel
theorem dX7_readCommand_132 : decode cX7_readCommand 132 = .ok (.bipush 9, 2) := by decide +kernel
theorem dX7_readCommand_134 : decode cX7_readCommand 134 = .ok (.invokevirtual 141, 3) := by decide +kernel
theorem dX7_readCommand_137 : decode cX7_readCommand 137 = .ok (.istore_n 3, 1) := by decide +kernel
theorem dX7_readCommand_138 : decode cX7_readCommand 138 = .ok (.iload_n 3, 1) := by decide +kernel
theorem dX7_readCommand_139 : decode cX7_readCommand 139 = .ok (.iconst (-1), 1) := by decide +kernel
theorem dX7_readCommand_140 : decode cX7_readCommand 140 = .ok (.if_icmp .eq 35, 3) := by decide +kernel
theorem dX7_readCommand_143 : decode cX7_readCommand 143 = .ok (.aload_n 0, 1) := by decide +kernel
theorem dX7_readCommand_144 : decode cX7_readCommand 144 = .ok (.aload_n 1, 1) := by decide +kernel
theorem dX7_readCommand_145 : decode cX7_readCommand 145 = .ok (.iconst 0, 1) := by decide +kernel
theorem dX7_readCommand_146 : decode cX7_readCommand 146 = .ok (.iaload, 1) := by decide +kernel
theorem dX7_readCommand_147 : decode cX7_readCommand 147 = .ok (.bipush 6, 2) := by decide +kernel
theorem dX7_readCommand_149 : decode cX7_readCommand 149 = .ok (.if_icmp .ge 15, 3) := by decide +kernel
theorem dX7_readCommand_152 : decode cX7_readCommand 152 = .ok (.aload_n 1, 1) := by decide +kernel
theorem dX7_readCommand_153 : decode cX7_readCommand 153 = .ok (.iload_n 3, 1) := by decide +kernel
theorem dX7_readCommand_154 : decode cX7_readCommand 154 = .ok (.invokestatic 145, 3) := by decide +kernel
theorem dX7_readCommand_157 : decode cX7_readCommand 157 = .ok (.ifCond .lt 7, 3) := by decide +kernel
theorem dX7_readCommand_160 : decode cX7_readCommand 160 = .ok (.iconst 1, 1) := by decide +kernel
theorem dX7_readCommand_161 : decode cX7_readCommand 161 = .ok (.goto 4, 3) := by decide +kernel
theorem dX7_readCommand_164 : decode cX7_readCommand 164 = .ok (.iconst 0, 1) := by decide +kernel
theorem dX7_readCommand_165 : decode cX7_readCommand 165 = .ok (.invokevirtual 149, 3) := by decide +kernel
theorem dX7_readCommand_168 : decode cX7_readCommand 168 = .ok (.ifCond .eq 7, 3) := by decide +kernel
theorem dX7_readCommand_171 : decode cX7_readCommand 171 = .ok (.iconst 1, 1) := by decide +kernel
theorem dX7_readCommand_172 : decode cX7_readCommand 172 = .ok (.goto 4, 3) := by decide +kernel
theorem dX7_readCommand_175 : decode cX7_readCommand 175 = .ok (.iconst 0, 1) := by decide +kernel
theorem dX7_readCommand_176 : decode cX7_readCommand 176 = .ok (.ireturn, 1) := by decide +kernel
theorem dX7_readCommand_177 : decode cX7_readCommand 177 = .ok (.aload_n 0, 1) := by decide +kernel
theorem dX7_readCommand_178 : decode cX7_readCommand 178 = .ok (.iconst 0, 1) := by decide +kernel
theorem dX7_readCommand_179 : decode cX7_readCommand 179 = .ok (.invokevirtual 153, 3) := by decide +kernel
theorem dX7_readCommand_182 : decode cX7_readCommand 182 = .ok (.istore_n 3, 1) := by decide +kernel
theorem dX7_readCommand_183 : decode cX7_readCommand 183 = .ok (.iload_n 3, 1) := by decide +kernel
theorem dX7_readCommand_184 : decode cX7_readCommand 184 = .ok (.iconst (-1), 1) := by decide +kernel
theorem dX7_readCommand_185 : decode cX7_readCommand 185 = .ok (.if_icmp .eq 35, 3) := by decide +kernel
theorem dX7_readCommand_188 : decode cX7_readCommand 188 = .ok (.aload_n 0, 1) := by decide +kernel
theorem dX7_readCommand_189 : decode cX7_readCommand 189 = .ok (.aload_n 1, 1) := by decide +kernel
theorem dX7_readCommand_190 : decode cX7_readCommand 190 = .ok (.iload_n 3, 1) := by decide +kernel
theorem dX7_readCommand_191 : decode cX7_readCommand 191 = .ok (.invokestatic 156, 3) := by decide +kernel
theorem dX7_readCommand_194 : decode cX7_readCommand 194 = .ok (.ifCond .eq 15, 3) := by decide +kernel
theorem dX7_readCommand_197 : decode cX7_readCommand 197 = .ok (.aload_n 1, 1) := by decide +kernel
theorem dX7_readCommand_198 : decode cX7_readCommand 198 = .ok (.iload_n 3, 1) := by decide +kernel
theorem dX7_readCommand_199 : decode cX7_readCommand 199 = .ok (.invokestatic 159, 3) := by decide +kernel
theorem dX7_readCommand_202 : decode cX7_readCommand 202 = .ok (.ifCond .lt 7, 3) := by decide +kernel
theorem dX7_readCommand_205 : decode cX7_readCommand 205 = .ok (.iconst 1, 1) := by decide +kernel
theorem dX7_readCommand_206 : decode cX7_readCommand 206 = .ok (.goto 4, 3) := by decide +kernel
theorem dX7_readCommand_209 : decode cX7_readCommand 209 = .ok (.iconst 0, 1) := by decide +kernel
theorem dX7_readCommand_210 : decode cX7_readCommand 210 = .ok (.invokevirtual 149, 3) := by decide +kernel
theorem dX7_readCommand_213 : decode cX7_readCommand 213 = .ok (.ifCond .eq 7, 3) := by decide +kernel
theorem dX7_readCommand_216 : decode cX7_readCommand 216 = .ok (.iconst 1, 1) := by decide +kernel
theorem dX7_readCommand_217 : decode cX7_readCommand 217 = .ok (.goto 4, 3) := by decide +kernel
theorem dX7_readCommand_220 : decode cX7_readCommand 220 = .ok (.iconst 0, 1) := by decide +kernel
theorem dX7_readCommand_221 : decode cX7_readCommand 221 = .ok (.ireturn, 1) := by decide +kernel
theorem dX7_readCommand_222 : decode cX7_readCommand 222 = .ok (.aload_n 0, 1) := by decide +kernel
theorem dX7_readCommand_223 : decode cX7_readCommand 223 = .ok (.iconst 0, 1) := by decide +kernel
theorem dX7_readCommand_224 : decode cX7_readCommand 224 = .ok (.invokevirtual 153, 3) := by decide +kernel
theorem dX7_readCommand_227 : decode cX7_readCommand 227 = .ok (.istore_n 3, 1) := by decide +kernel
theorem dX7_readCommand_228 : decode cX7_readCommand 228 = .ok (.aload_n 0, 1) := by decide +kernel
theorem dX7_readCommand_229 : decode cX7_readCommand 229 = .ok (.iload_n 3, 1) := by decide +kernel
theorem dX7_readCommand_230 : decode cX7_readCommand 230 = .ok (.iconst 2, 1) := by decide +kernel
theorem dX7_readCommand_231 : decode cX7_readCommand 231 = .ok (.iconst 1, 1) := by decide +kernel
theorem dX7_readCommand_232 : decode cX7_readCommand 232 = .ok (.bipush 63, 2) := by decide +kernel
theorem dX7_readCommand_234 : decode cX7_readCommand 234 = .ok (.invokevirtual 141, 3) := by decide +kernel
theorem dX7_readCommand_237 : decode cX7_readCommand 237 = .ok (.istore 4, 2) := by decide +kernel
theorem dX7_readCommand_239 : decode cX7_readCommand 239 = .ok (.iload 4, 2) := by decide +kernel
theorem dX7_readCommand_241 : decode cX7_readCommand 241 = .ok (.iconst (-1), 1) := by decide +kernel
theorem dX7_readCommand_242 : decode cX7_readCommand 242 = .ok (.if_icmp .eq 39, 3) := by decide +kernel
theorem dX7_readCommand_245 : decode cX7_readCommand 245 = .ok (.aload_n 0, 1) := by decide +kernel
theorem dX7_readCommand_246 : decode cX7_readCommand 246 = .ok (.aload_n 1, 1) := by decide +kernel
theorem dX7_readCommand_247 : decode cX7_readCommand 247 = .ok (.iload_n 3, 1) := by decide +kernel
theorem dX7_readCommand_248 : decode cX7_readCommand 248 = .ok (.iload 4, 2) := by decide +kernel
theorem dX7_readCommand_250 : decode cX7_readCommand 250 = .ok (.invokestatic 162, 3) := by decide +kernel
theorem dX7_readCommand_253 : decode cX7_readCommand 253 = .ok (.ifCond .eq 17, 3) := by decide +kernel
theorem dX7_readCommand_256 : decode cX7_readCommand 256 = .ok (.aload_n 1, 1) := by decide +kernel
theorem dX7_readCommand_257 : decode cX7_readCommand 257 = .ok (.iload_n 3, 1) := by decide +kernel
theorem dX7_readCommand_258 : decode cX7_readCommand 258 = .ok (.iload 4, 2) := by decide +kernel
theorem dX7_readCommand_260 : decode cX7_readCommand 260 = .ok (.invokestatic 106, 3) := by decide +kernel
theorem dX7_readCommand_263 : decode cX7_readCommand 263 = .ok (.ifCond .le 7, 3) := by decide +kernel
theorem dX7_readCommand_266 : decode cX7_readCommand 266 = .ok (.iconst 1, 1) := by decide +kernel
theorem dX7_readCommand_267 : decode cX7_readCommand 267 = .ok (.goto 4, 3) := by decide +kernel
theorem dX7_readCommand_270 : decode cX7_readCommand 270 = .ok (.iconst 0, 1) := by decide +kernel
theorem dX7_readCommand_271 : decode cX7_readCommand 271 = .ok (.invokevirtual 149, 3) := by decide +kernel
theorem dX7_readCommand_274 : decode cX7_readCommand 274 = .ok (.ifCond .eq 7, 3) := by decide +kernel
theorem dX7_readCommand_277 : decode cX7_readCommand 277 = .ok (.iconst 1, 1) := by decide +kernel
theorem dX7_readCommand_278 : decode cX7_readCommand 278 = .ok (.goto 4, 3) := by decide +kernel
theorem dX7_readCommand_281 : decode cX7_readCommand 281 = .ok (.iconst 0, 1) := by decide +kernel
theorem dX7_readCommand_282 : decode cX7_readCommand 282 = .ok (.ireturn, 1) := by decide +kernel
theorem dX7_readCommand_283 : decode cX7_readCommand 283 = .ok (.aload_n 0, 1) := by decide +kernel
theorem dX7_readCommand_284 : decode cX7_readCommand 284 = .ok (.iconst 0, 1) := by decide +kernel
theorem dX7_readCommand_285 : decode cX7_readCommand 285 = .ok (.invokevirtual 153, 3) := by decide +kernel
theorem dX7_readCommand_288 : decode cX7_readCommand 288 = .ok (.istore_n 3, 1) := by decide +kernel
theorem dX7_readCommand_289 : decode cX7_readCommand 289 = .ok (.aload_n 0, 1) := by decide +kernel
theorem dX7_readCommand_290 : decode cX7_readCommand 290 = .ok (.iload_n 3, 1) := by decide +kernel
theorem dX7_readCommand_291 : decode cX7_readCommand 291 = .ok (.invokevirtual 153, 3) := by decide +kernel
theorem dX7_readCommand_294 : decode cX7_readCommand 294 = .ok (.istore 4, 2) := by decide +kernel
theorem dX7_readCommand_296 : decode cX7_readCommand 296 = .ok (.iload 4, 2) := by decide +kernel
theorem dX7_readCommand_298 : decode cX7_readCommand 298 = .ok (.iconst (-1), 1) := by decide +kernel
theorem dX7_readCommand_299 : decode cX7_readCommand 299 = .ok (.if_icmp .eq 53, 3) := by decide +kernel
theorem dX7_readCommand_302 : decode cX7_readCommand 302 = .ok (.aload_n 0, 1) := by decide +kernel
theorem dX7_readCommand_303 : decode cX7_readCommand 303 = .ok (.aload_n 1, 1) := by decide +kernel
theorem dX7_readCommand_304 : decode cX7_readCommand 304 = .ok (.iload_n 3, 1) := by decide +kernel
theorem dX7_readCommand_305 : decode cX7_readCommand 305 = .ok (.invokestatic 112, 3) := by decide +kernel
theorem dX7_readCommand_308 : decode cX7_readCommand 308 = .ok (.ifCond .eq 33, 3) := by decide +kernel
theorem dX7_readCommand_311 : decode cX7_readCommand 311 = .ok (.aload_n 1, 1) := by decide +kernel
theorem dX7_readCommand_312 : decode cX7_readCommand 312 = .ok (.iload 4, 2) := by decide +kernel
theorem dX7_readCommand_314 : decode cX7_readCommand 314 = .ok (.invokestatic 112, 3) := by decide +kernel
theorem dX7_readCommand_317 : decode cX7_readCommand 317 = .ok (.ifCond .eq 24, 3) := by decide +kernel
theorem dX7_readCommand_320 : decode cX7_readCommand 320 = .ok (.iload_n 3, 1) := by decide +kernel
theorem dX7_readCommand_321 : decode cX7_readCommand 321 = .ok (.iload 4, 2) := by decide +kernel
theorem dX7_readCommand_323 : decode cX7_readCommand 323 = .ok (.if_icmp .eq 18, 3) := by decide +kernel
theorem dX7_readCommand_326 : decode cX7_readCommand 326 = .ok (.aload_n 1, 1) := by decide +kernel
theorem dX7_readCommand_327 : decode cX7_readCommand 327 = .ok (.iload_n 3, 1) := by decide +kernel
theorem dX7_readCommand_328 : decode cX7_readCommand 328 = .ok (.iload 4, 2) := by decide +kernel
theorem dX7_readCommand_330 : decode cX7_readCommand 330 = .ok (.iconst 1, 1) := by decide +kernel
theorem dX7_readCommand_331 : decode cX7_readCommand 331 = .ok (.invokestatic 165, 3) := by decide +kernel
theorem dX7_readCommand_334 : decode cX7_readCommand 334 = .ok (.ifCond .le 7, 3) := by decide +kernel
theorem dX7_readCommand_337 : decode cX7_readCommand 337 = .ok (.iconst 1, 1) := by decide +kernel
theorem dX7_readCommand_338 : decode cX7_readCommand 338 = .ok (.goto 4, 3) := by decide +kernel
theorem dX7_readCommand_341 : decode cX7_readCommand 341 = .ok (.iconst 0, 1) := by decide +kernel
theorem dX7_readCommand_342 : decode cX7_readCommand 342 = .ok (.invokevirtual 149, 3) := by decide +kernel
theorem dX7_readCommand_345 : decode cX7_readCommand 345 = .ok (.ifCond .eq 7, 3) := by decide +kernel
theorem dX7_readCommand_348 : decode cX7_readCommand 348 = .ok (.iconst 1, 1) := by decide +kernel
theorem dX7_readCommand_349 : decode cX7_readCommand 349 = .ok (.goto 4, 3) := by decide +kernel
theorem dX7_readCommand_352 : decode cX7_readCommand 352 = .ok (.iconst 0, 1) := by decide +kernel
theorem dX7_readCommand_353 : decode cX7_readCommand 353 = .ok (.ireturn, 1) := by decide +kernel
theorem dX7_readCommand_354 : decode cX7_readCommand 354 = .ok (.aload_n 0, 1) := by decide +kernel
theorem dX7_readCommand_355 : decode cX7_readCommand 355 = .ok (.iconst 0, 1) := by decide +kernel
theorem dX7_readCommand_356 : decode cX7_readCommand 356 = .ok (.invokevirtual 153, 3) := by decide +kernel
theorem dX7_readCommand_359 : decode cX7_readCommand 359 = .ok (.istore_n 3, 1) := by decide +kernel
theorem dX7_readCommand_360 : decode cX7_readCommand 360 = .ok (.iload_n 3, 1) := by decide +kernel
theorem dX7_readCommand_361 : decode cX7_readCommand 361 = .ok (.iconst (-1), 1) := by decide +kernel
theorem dX7_readCommand_362 : decode cX7_readCommand 362 = .ok (.if_icmp .eq 43, 3) := by decide +kernel
theorem dX7_readCommand_365 : decode cX7_readCommand 365 = .ok (.aload_n 0, 1) := by decide +kernel
theorem dX7_readCommand_366 : decode cX7_readCommand 366 = .ok (.aload_n 1, 1) := by decide +kernel
theorem dX7_readCommand_367 : decode cX7_readCommand 367 = .ok (.iload_n 3, 1) := by decide +kernel
theorem dX7_readCommand_368 : decode cX7_readCommand 368 = .ok (.invokestatic 112, 3) := by decide +kernel
theorem dX7_readCommand_371 : decode cX7_readCommand 371 = .ok (.ifCond .eq 23, 3) := by decide +kernel
theorem dX7_readCommand_374 : decode cX7_readCommand 374 = .ok (.aload_n 1, 1) := by decide +kernel
theorem dX7_readCommand_375 : decode cX7_readCommand 375 = .ok (.iload_n 3, 1) := by decide +kernel
theorem dX7_readCommand_376 : decode cX7_readCommand 376 = .ok (.invokestatic 169, 3) := by decide +kernel
theorem dX7_readCommand_379 : decode cX7_readCommand 379 = .ok (.ifCond .ne 15, 3) := by decide +kernel
theorem dX7_readCommand_382 : decode cX7_readCommand 382 = .ok (.aload_n 1, 1) := by decide +kernel
theorem dX7_readCommand_383 : decode cX7_readCommand 383 = .ok (.iload_n 3, 1) := by decide +kernel
theorem dX7_readCommand_384 : decode cX7_readCommand 384 = .ok (.invokestatic 172, 3) := by decide +kernel
theorem dX7_readCommand_387 : decode cX7_readCommand 387 = .ok (.ifCond .lt 7, 3) := by decide +kernel
theorem dX7_readCommand_390 : decode cX7_readCommand 390 = .ok (.iconst 1, 1) := by decide +kernel
theorem dX7_readCommand_391 : decode cX7_readCommand 391 = .ok (.goto 4, 3) := by decide +kernel
theorem dX7_readCommand_394 : decode cX7_readCommand 394 = .ok (.iconst 0, 1) := by decide +kernel
theorem dX7_readCommand_395 : decode cX7_readCommand 395 = .ok (.invokevirtual 149, 3) := by decide +kernel
theorem dX7_readCommand_398 : decode cX7_readCommand 398 = .ok (.ifCond .eq 7, 3) := by decide +kernel
theorem dX7_readCommand_401 : decode cX7_readCommand 401 = .ok (.iconst 1, 1) := by decide +kernel
theorem dX7_readCommand_402 : decode cX7_readCommand 402 = .ok (.goto 4, 3) := by decide +kernel
theorem dX7_readCommand_405 : decode cX7_readCommand 405 = .ok (.iconst 0, 1) := by decide +kernel
theorem dX7_readCommand_406 : decode cX7_readCommand 406 = .ok (.ireturn, 1) := by decide +kernel
theorem dX7_readCommand_407 : decode cX7_readCommand 407 = .ok (.aload_n 0, 1) := by decide +kernel
theorem dX7_readCommand_408 : decode cX7_readCommand 408 = .ok (.iconst 0, 1) := by decide +kernel
theorem dX7_readCommand_409 : decode cX7_readCommand 409 = .ok (.invokevirtual 153, 3) := by decide +kernel
theorem dX7_readCommand_412 : decode cX7_readCommand 412 = .ok (.istore_n 3, 1) := by decide +kernel
theorem dX7_readCommand_413 : decode cX7_readCommand 413 = .ok (.iload_n 3, 1) := by decide +kernel
theorem dX7_readCommand_414 : decode cX7_readCommand 414 = .ok (.iconst (-1), 1) := by decide +kernel
theorem dX7_readCommand_415 : decode cX7_readCommand 415 = .ok (.if_icmp .eq 35, 3) := by decide +kernel
theorem dX7_readCommand_418 : decode cX7_readCommand 418 = .ok (.aload_n 0, 1) := by decide +kernel
theorem dX7_readCommand_419 : decode cX7_readCommand 419 = .ok (.aload_n 1, 1) := by decide +kernel
theorem dX7_readCommand_420 : decode cX7_readCommand 420 = .ok (.iload_n 3, 1) := by decide +kernel
theorem dX7_readCommand_421 : decode cX7_readCommand 421 = .ok (.invokestatic 169, 3) := by decide +kernel
theorem dX7_readCommand_424 : decode cX7_readCommand 424 = .ok (.ifCond .eq 15, 3) := by decide +kernel
theorem dX7_readCommand_427 : decode cX7_readCommand 427 = .ok (.aload_n 1, 1) := by decide +kernel
theorem dX7_readCommand_428 : decode cX7_readCommand 428 = .ok (.iload_n 3, 1) := by decide +kernel
theorem dX7_readCommand_429 : decode cX7_readCommand 429 = .ok (.invokestatic 175, 3) := by decide +kernel
theorem dX7_readCommand_432 : decode cX7_readCommand 432 = .ok (.ifCond .le 7, 3) := by decide +kernel
theorem dX7_readCommand_435 : decode cX7_readCommand 435 = .ok (.iconst 1, 1) := by decide +kernel
theorem dX7_readCommand_436 : decode cX7_readCommand 436 = .ok (.goto 4, 3) := by decide +kernel
theorem dX7_readCommand_439 : decode cX7_readCommand 439 = .ok (.iconst 0, 1) := by decide +kernel
theorem dX7_readCommand_440 : decode cX7_readCommand 440 = .ok (.invokevirtual 149, 3) := by decide +kernel
theorem dX7_readCommand_443 : decode cX7_readCommand 443 = .ok (.ifCond .eq 7, 3) := by decide +kernel
theorem dX7_readCommand_446 : decode cX7_readCommand 446 = .ok (.iconst 1, 1) := by decide +kernel
theorem dX7_readCommand_447 : decode cX7_readCommand 447 = .ok (.goto 4, 3) := by decide +kernel
theorem dX7_readCommand_450 : decode cX7_readCommand 450 = .ok (.iconst 0, 1) := by decide +kernel
theorem dX7_readCommand_451 : decode cX7_readCommand 451 = .ok (.ireturn, 1) := by decide +kernel
theorem dX7_readCommand_452 : decode cX7_readCommand 452 = .ok (.aload_n 0, 1) := by decide +kernel
theorem dX7_readCommand_453 : decode cX7_readCommand 453 = .ok (.iconst 0, 1) := by decide +kernel
theorem dX7_readCommand_454 : decode cX7_readCommand 454 = .ok (.iconst 2, 1) := by decide +kernel
theorem dX7_readCommand_455 : decode cX7_readCommand 455 = .ok (.iconst 0, 1) := by decide +kernel
theorem dX7_readCommand_456 : decode cX7_readCommand 456 = .ok (.bipush 40, 2) := by decide +kernel
theorem dX7_readCommand_458 : decode cX7_readCommand 458 = .ok (.invokevirtual 141, 3) := by decide +kernel
theorem dX7_readCommand_461 : decode cX7_readCommand 461 = .ok (.istore_n 3, 1) := by decide +kernel
theorem dX7_readCommand_462 : decode cX7_readCommand 462 = .ok (.aload_n 1, 1) := by decide +kernel
theorem dX7_readCommand_463 : decode cX7_readCommand 463 = .ok (.bipush 7, 2) := by decide +kernel
theorem dX7_readCommand_465 : decode cX7_readCommand 465 = .ok (.iload_n 3, 1) := by decide +kernel
theorem dX7_readCommand_466 : decode cX7_readCommand 466 = .ok (.iconst (-1), 1) := by decide +kernel
theorem dX7_readCommand_467 : decode cX7_readCommand 467 = .ok (.if_icmp .ne 10, 3) := by decide +kernel
theorem dX7_readCommand_470 : decode cX7_readCommand 470 = .ok (.aload_n 1, 1) := by decide +kernel
theorem dX7_readCommand_471 : decode cX7_readCommand 471 = .ok (.bipush 7, 2) := by decide +kernel
theorem dX7_readCommand_473 : decode cX7_readCommand 473 = .ok (.iaload, 1) := by decide +kernel
theorem dX7_readCommand_474 : decode cX7_readCommand 474 = .ok (.goto 4, 3) := by decide +kernel
theorem dX7_readCommand_477 : decode cX7_readCommand 477 = .ok (.iload_n 3, 1) := by decide +kernel
theorem dX7_readCommand_478 : decode cX7_readCommand 478 = .ok (.iastore, 1) := by decide +kernel
theorem dX7_readCommand_479 : decode cX7_readCommand 479 = .ok (.iload_n 3, 1) := by decide +kernel
theorem dX7_readCommand_480 : decode cX7_readCommand 480 = .ok (.iconst (-1), 1) := by decide +kernel
theorem dX7_readCommand_481 : decode cX7_readCommand 481 = .ok (.if_icmp .eq 7, 3) := by decide +kernel
theorem dX7_readCommand_484 : decode cX7_readCommand 484 = .ok (.iconst 1, 1) := by decide +kernel
theorem dX7_readCommand_485 : decode cX7_readCommand 485 = .ok (.goto 4, 3) := by decide +kernel
theorem dX7_readCommand_488 : decode cX7_readCommand 488 = .ok (.iconst 0, 1) := by decide +kernel
theorem dX7_readCommand_489 : decode cX7_readCommand 489 = .ok (.ireturn, 1) := by decide +kernel
theorem dX7_readCommand_490 : decode cX7_readCommand 490 = .ok (.aload_n 0, 1) := by decide +kernel
theorem dX7_readCommand_491 : decode cX7_readCommand 491 = .ok (.iconst 0, 1) := by decide +kernel
theorem dX7_readCommand_492 : decode cX7_readCommand 492 = .ok (.iconst 2, 1) := by decide +kernel
theorem dX7_readCommand_493 : decode cX7_readCommand 493 = .ok (.iconst 1, 1) := by decide +kernel
theorem dX7_readCommand_494 : decode cX7_readCommand 494 = .ok (.bipush 60, 2) := by decide +kernel
theorem dX7_readCommand_496 : decode cX7_readCommand 496 = .ok (.invokevirtual 141, 3) := by decide +kernel
theorem dX7_readCommand_499 : decode cX7_readCommand 499 = .ok (.istore_n 3, 1) := by decide +kernel
theorem dX7_readCommand_500 : decode cX7_readCommand 500 = .ok (.iload_n 3, 1) := by decide +kernel
theorem dX7_readCommand_501 : decode cX7_readCommand 501 = .ok (.iconst (-1), 1) := by decide +kernel
theorem dX7_readCommand_502 : decode cX7_readCommand 502 = .ok (.if_icmp .eq 28, 3) := by decide +kernel
theorem dX7_readCommand_505 : decode cX7_readCommand 505 = .ok (.aload_n 0, 1) := by decide +kernel
theorem dX7_readCommand_506 : decode cX7_readCommand 506 = .ok (.aload_n 0, 1) := by decide +kernel
theorem dX7_readCommand_507 : decode cX7_readCommand 507 = .ok (.aload_n 1, 1) := by decide +kernel
theorem dX7_readCommand_508 : decode cX7_readCommand 508 = .ok (.iload_n 3, 1) := by decide +kernel
theorem dX7_readCommand_509 : decode cX7_readCommand 509 = .ok (.invokevirtual 178, 3) := by decide +kernel
theorem dX7_readCommand_512 : decode cX7_readCommand 512 = .ok (.ifCond .lt 7, 3) := by decide +kernel
theorem dX7_readCommand_515 : decode cX7_readCommand 515 = .ok (.iconst 1, 1) := by decide +kernel
theorem dX7_readCommand_516 : decode cX7_readCommand 516 = .ok (.goto 4, 3) := by decide +kernel
theorem dX7_readCommand_519 : decode cX7_readCommand 519 = .ok (.iconst 0, 1) := by decide +kernel
theorem dX7_readCommand_520 : decode cX7_readCommand 520 = .ok (.invokevirtual 149, 3) := by decide +kernel
theorem dX7_readCommand_523 : decode cX7_readCommand 523 = .ok (.ifCond .eq 7, 3) := by decide +kernel
theorem dX7_readCommand_526 : decode cX7_readCommand 526 = .ok (.iconst 1, 1) := by decide +kernel
theorem dX7_readCommand_527 : decode cX7_readCommand 527 = .ok (.goto 4, 3) := by decide +kernel
theorem dX7_readCommand_530 : decode cX7_readCommand 530 = .ok (.iconst 0, 1) := by decide +kernel
theorem dX7_readCommand_531 : decode cX7_readCommand 531 = .ok (.ireturn, 1) := by decide +kernel
theorem dX7_readCommand_532 : decode cX7_readCommand 532 = .ok (.aload_n 0, 1) := by decide +kernel
theorem dX7_readCommand_533 : decode cX7_readCommand 533 = .ok (.dup, 1) := by decide +kernel
theorem dX7_readCommand_534 : decode cX7_readCommand 534 = .ok (.getfield 133, 3) := by decide +kernel
theorem dX7_readCommand_537 : decode cX7_readCommand 537 = .ok (.iconst 1, 1) := by decide +kernel
theorem dX7_readCommand_538 : decode cX7_readCommand 538 = .ok (.isub, 1) := by decide +kernel
theorem dX7_readCommand_539 : decode cX7_readCommand 539 = .ok (.putfield 133, 3) := by decide +kernel
theorem dX7_readCommand_542 : decode cX7_readCommand 542 = .ok (.iconst 0, 1) := by decide +kernel
theorem dX7_readCommand_543 : decode cX7_readCommand 543 = .ok (.ireturn, 1) := by decide +kernel
theorem dX7_readText_0 : decode cX7_readText 0 = .ok (.aload_n 1, 1) := by decide +kernel
theorem dX7_readText_1 : decode cX7_readText 1 = .ok (.invokestatic 32, 3) := by decide +kernel
theorem dX7_readText_4 : decode cX7_readText 4 = .ok (.aload_n 0, 1) := by decide +kernel
theorem dX7_readText_5 : decode cX7_readText 5 = .ok (.iconst 0, 1) := by decide +kernel
theorem dX7_readText_6 : decode cX7_readText 6 = .ok (.putfield 138, 3) := by decide +kernel
theorem dX7_readText_9 : decode cX7_readText 9 = .ok (.aload_n 0, 1) := by decide +kernel
theorem dX7_readText_10 : decode cX7_readText 10 = .ok (.iconst 0, 1) := by decide +kernel
theorem dX7_readText_11 : decode cX7_readText 11 = .ok (.putfield 133, 3) := by decide +kernel
theorem dX7_readText_14 : decode cX7_readText 14 = .ok (.aload_n 0, 1) := by decide +kernel
theorem dX7_readText_15 : decode cX7_readText 15 = .ok (.getfield 126, 3) := by decide +kernel
theorem dX7_readText_18 : decode cX7_readText 18 = .ok (.ifCond .eq 14, 3) := by decide +kernel
theorem dX7_readText_21 : decode cX7_readText 21 = .ok (.aload_n 0, 1) := by decide +kernel
theorem dX7_readText_22 : decode cX7_readText 22 = .ok (.getfield 7, 3) := by decide +kernel
theorem dX7_readText_25 : decode cX7_readText 25 = .ok (.iconst 0, 1) := by decide +kernel
theorem dX7_readText_26 : decode cX7_readText 26 = .ok (.iaload, 1) := by decide +kernel
theorem dX7_readText_27 : decode cX7_readText 27 = .ok (.bipush 82, 2) := by decide +kernel
theorem dX7_readText_29 : decode cX7_readText 29 = .ok (.if_icmp .eq 5, 3) := by decide +kernel
theorem dX7_readText_32 : decode cX7_readText 32 = .ok (.iconst 0, 1) := by decide +kernel
theorem dX7_readText_33 : decode cX7_readText 33 = .ok (.ireturn, 1) := by decide +kernel
theorem dX7_readText_34 : decode cX7_readText 34 = .ok (.aload_n 0, 1) := by decide +kernel
theorem dX7_readText_35 : decode cX7_readText 35 = .ok (.iconst 1, 1) := by decide +kernel
theorem dX7_readText_36 : decode cX7_readText 36 = .ok (.putfield 133, 3) := by decide +kernel
theorem dX7_readText_39 : decode cX7_readText 39 = .ok (.aload_n 0, 1) := by decide +kernel
theorem dX7_readText_40 : decode cX7_readText 40 = .ok (.getfield 133, 3) := by decide +kernel
theorem dX7_readText_43 : decode cX7_readText 43 = .ok (.aload_n 0, 1) := by decide +kernel
theorem dX7_readText_44 : decode cX7_readText 44 = .ok (.getfield 126, 3) := by decide +kernel
theorem dX7_readText_47 : decode cX7_readText 47 = .ok (.if_icmp .ge 16, 3) := by decide +kernel
theorem dX7_readText_50 : decode cX7_readText 50 = .ok (.aload_n 0, 1) := by decide +kernel
theorem dX7_readText_51 : decode cX7_readText 51 = .ok (.aload_n 1, 1) := by decide +kernel
theorem dX7_readText_52 : decode cX7_readText 52 = .ok (.invokevirtual 181, 3) := by decide +kernel
theorem dX7_readText_55 : decode cX7_readText 55 = .ok (.ifCond .ne (-16), 3) := by decide +kernel
theorem dX7_readText_58 : decode cX7_readText 58 = .ok (.aload_n 0, 1) := by decide +kernel
theorem dX7_readText_59 : decode cX7_readText 59 = .ok (.getfield 133, 3) := by decide +kernel
theorem dX7_readText_62 : decode cX7_readText 62 = .ok (.ireturn, 1) := by decide +kernel
theorem dX7_readText_63 : decode cX7_readText 63 = .ok (.iconst (-1), 1) := by decide +kernel
theorem dX7_readText_64 : decode cX7_readText 64 = .ok (.ireturn, 1) := by decide +kernel
theorem dX7_errorPosition_0 : decode cX7_errorPosition 0 = .ok (.aload_n 0, 1) := by decide +kernel
theorem dX7_errorPosition_1 : decode cX7_errorPosition 1 = .ok (.iconst 0, 1) := by decide +kernel
theorem dX7_errorPosition_2 : decode cX7_errorPosition 2 = .ok (.putfield 36, 3) := by decide +kernel
theorem dX7_errorPosition_5 : decode cX7_errorPosition 5 = .ok (.aload_n 0, 1) := by decide +kernel
theorem dX7_errorPosition_6 : decode cX7_errorPosition 6 = .ok (.aload_n 0, 1) := by decide +kernel
theorem dX7_errorPosition_7 : decode cX7_errorPosition 7 = .ok (.getfield 16, 3) := by decide +kernel
theorem dX7_errorPosition_10 : decode cX7_errorPosition 10 = .ok (.invokevirtual 185, 3) := by decide +kernel
theorem dX7_errorPosition_13 : decode cX7_errorPosition 13 = .ok (.ireturn, 1) := by decide +kernel
theorem dX7_load_0 : decode cX7_load 0 = .ok (.aload_n 0, 1) := by decide +kernel
theorem dX7_load_1 : decode cX7_load 1 = .ok (.aload_n 0, 1) := by decide +kernel
theorem dX7_load_2 : decode cX7_load 2 = .ok (.aload_n 0, 1) := by decide +kernel
theorem dX7_load_3 : decode cX7_load 3 = .ok (.getfield 16, 3) := by decide +kernel
theorem dX7_load_6 : decode cX7_load 6 = .ok (.invokevirtual 185, 3) := by decide +kernel
theorem dX7_load_9 : decode cX7_load 9 = .ok (.iconst (-1), 1) := by decide +kernel
theorem dX7_load_10 : decode cX7_load 10 = .ok (.if_icmp .ne 7, 3) := by decide +kernel
theorem dX7_load_13 : decode cX7_load 13 = .ok (.iconst 0, 1) := by decide +kernel
theorem dX7_load_14 : decode cX7_load 14 = .ok (.goto 4, 3) := by decide +kernel
theorem dX7_load_17 : decode cX7_load 17 = .ok (.iconst 1, 1) := by decide +kernel
theorem dX7_load_18 : decode cX7_load 18 = .ok (.invokevirtual 129, 3) := by decide +kernel
theorem dX7_load_21 : decode cX7_load 21 = .ok (.ifCond .eq 5, 3) := by decide +kernel
theorem dX7_load_24 : decode cX7_load 24 = .ok (.iconst 0, 1) := by decide +kernel
theorem dX7_load_25 : decode cX7_load 25 = .ok (.ireturn, 1) := by decide +kernel
theorem dX7_load_26 : decode cX7_load 26 = .ok (.aload_n 0, 1) := by decide +kernel
theorem dX7_load_27 : decode cX7_load 27 = .ok (.getfield 16, 3) := by decide +kernel
theorem dX7_load_30 : decode cX7_load 30 = .ok (.iconst 0, 1) := by decide +kernel
theorem dX7_load_31 : decode cX7_load 31 = .ok (.aload_n 0, 1) := by decide +kernel
theorem dX7_load_32 : decode cX7_load 32 = .ok (.getfield 13, 3) := by decide +kernel
theorem dX7_load_35 : decode cX7_load 35 = .ok (.iconst 0, 1) := by decide +kernel
theorem dX7_load_36 : decode cX7_load 36 = .ok (.invokestatic 189, 3) := by decide +kernel
theorem dX7_load_39 : decode cX7_load 39 = .ok (.aload_n 0, 1) := by decide +kernel
theorem dX7_load_40 : decode cX7_load 40 = .ok (.iconst 0, 1) := by decide +kernel
theorem dX7_load_41 : decode cX7_load 41 = .ok (.putfield 193, 3) := by decide +kernel
theorem dX7_load_44 : decode cX7_load 44 = .ok (.aload_n 0, 1) := by decide +kernel
theorem dX7_load_45 : decode cX7_load 45 = .ok (.getfield 25, 3) := by decide +kernel
theorem dX7_load_48 : decode cX7_load 48 = .ok (.iconst 0, 1) := by decide +kernel
theorem dX7_load_49 : decode cX7_load 49 = .ok (.iconst 0, 1) := by decide +kernel
theorem dX7_load_50 : decode cX7_load 50 = .ok (.bastore, 1) := by decide +kernel
theorem dX7_load_51 : decode cX7_load 51 = .ok (.aload_n 0, 1) := by decide +kernel
theorem dX7_load_52 : decode cX7_load 52 = .ok (.getfield 25, 3) := by decide +kernel
theorem dX7_load_55 : decode cX7_load 55 = .ok (.iconst 1, 1) := by decide +kernel
theorem dX7_load_56 : decode cX7_load 56 = .ok (.iconst 0, 1) := by decide +kernel
theorem dX7_load_57 : decode cX7_load 57 = .ok (.bastore, 1) := by decide +kernel
theorem dX7_load_58 : decode cX7_load 58 = .ok (.aload_n 0, 1) := by decide +kernel
theorem dX7_load_59 : decode cX7_load 59 = .ok (.getfield 138, 3) := by decide +kernel
theorem dX7_load_62 : decode cX7_load 62 = .ok (.ireturn, 1) := by decide +kernel
theorem dX7_thoseWho_0 : decode cX7_thoseWho 0 = .ok (.iconst 0, 1) := by decide +kernel
theorem dX7_thoseWho_1 : decode cX7_thoseWho 1 = .ok (.istore_n 2, 1) := by decide +kernel
theorem dX7_thoseWho_2 : decode cX7_thoseWho 2 = .ok (.iconst 0, 1) := by decide +kernel
theorem dX7_thoseWho_3 : decode cX7_thoseWho 3 = .ok (.istore_n 3, 1) := by decide +kernel
theorem dX7_thoseWho_4 : decode cX7_thoseWho 4 = .ok (.iload_n 3, 1) := by decide +kernel
theorem dX7_thoseWho_5 : decode cX7_thoseWho 5 = .ok (.aload_n 0, 1) := by decide +kernel
theorem dX7_thoseWho_6 : decode cX7_thoseWho 6 = .ok (.iconst 0, 1) := by decide +kernel
theorem dX7_thoseWho_7 : decode cX7_thoseWho 7 = .ok (.iaload, 1) := by decide +kernel
theorem dX7_thoseWho_8 : decode cX7_thoseWho 8 = .ok (.if_icmp .ge 29, 3) := by decide +kernel
theorem dX7_thoseWho_11 : decode cX7_thoseWho 11 = .ok (.iload_n 2, 1) := by decide +kernel
theorem dX7_thoseWho_12 : decode cX7_thoseWho 12 = .ok (.aload_n 0, 1) := by decide +kernel
theorem dX7_thoseWho_13 : decode cX7_thoseWho 13 = .ok (.iload_n 3, 1) := by decide +kernel
theorem dX7_thoseWho_14 : decode cX7_thoseWho 14 = .ok (.iconst 1, 1) := by decide +kernel
theorem dX7_thoseWho_15 : decode cX7_thoseWho 15 = .ok (.invokestatic 44, 3) := by decide +kernel
theorem dX7_thoseWho_18 : decode cX7_thoseWho 18 = .ok (.iload_n 1, 1) := by decide +kernel
theorem dX7_thoseWho_19 : decode cX7_thoseWho 19 = .ok (.if_icmp .ne 9, 3) := by decide +kernel
theorem dX7_thoseWho_22 : decode cX7_thoseWho 22 = .ok (.iconst 1, 1) := by decide +kernel
theorem dX7_thoseWho_23 : decode cX7_thoseWho 23 = .ok (.iload_n 3, 1) := by decide +kernel
theorem dX7_thoseWho_24 : decode cX7_thoseWho 24 = .ok (.ishl, 1) := by decide +kernel
theorem dX7_thoseWho_25 : decode cX7_thoseWho 25 = .ok (.goto 4, 3) := by decide +kernel
theorem dX7_thoseWho_28 : decode cX7_thoseWho 28 = .ok (.iconst 0, 1) := by decide +kernel
theorem dX7_thoseWho_29 : decode cX7_thoseWho 29 = .ok (.ior, 1) := by decide +kernel
theorem dX7_thoseWho_30 : decode cX7_thoseWho 30 = .ok (.istore_n 2, 1) := by decide +kernel
theorem dX7_thoseWho_31 : decode cX7_thoseWho 31 = .ok (.iinc 3 1, 3) := by decide +kernel
theorem dX7_thoseWho_34 : decode cX7_thoseWho 34 = .ok (.goto (-30), 3) := by decide +kernel
theorem dX7_thoseWho_37 : decode cX7_thoseWho 37 = .ok (.iload_n 2, 1) := by decide +kernel
theorem dX7_thoseWho_38 : decode cX7_thoseWho 38 = .ok (.ireturn, 1) := by decide +kernel
theorem dX7_about_0 : decode cX7_about 0 = .ok (.aload_n 0, 1) := by decide +kernel
theorem dX7_about_1 : decode cX7_about 1 = .ok (.iload_n 1, 1) := by decide +kernel
theorem dX7_about_2 : decode cX7_about 2 = .ok (.i2l, 1) := by decide +kernel
theorem dX7_about_3 : decode cX7_about 3 = .ok (.lconst 0, 1) := by decide +kernel
theorem dX7_about_4 : decode cX7_about 4 = .ok (.ldc2_w 136, 3) := by decide +kernel
theorem dX7_about_7 : decode cX7_about 7 = .ok (.invokestatic 40, 3) := by decide +kernel
theorem dX7_about_10 : decode cX7_about 10 = .ok (.ifCond .eq 7, 3) := by decide +kernel
theorem dX7_about_13 : decode cX7_about 13 = .ok (.iconst 0, 1) := by decide +kernel
theorem dX7_about_14 : decode cX7_about 14 = .ok (.goto 4, 3) := by decide +kernel
theorem dX7_about_17 : decode cX7_about 17 = .ok (.iconst 1, 1) := by decide +kernel
theorem dX7_about_18 : decode cX7_about 18 = .ok (.invokevirtual 129, 3) := by decide +kernel
theorem dX7_about_21 : decode cX7_about 21 = .ok (.ifCond .eq 5, 3) := by decide +kernel
theorem dX7_about_24 : decode cX7_about 24 = .ok (.iconst 0, 1) := by decide +kernel
theorem dX7_about_25 : decode cX7_about 25 = .ok (.ireturn, 1) := by decide +kernel
theorem dX7_about_26 : decode cX7_about 26 = .ok (.iload_n 1, 1) := by decide +kernel
theorem dX7_about_27 : decode cX7_about 27 = .ok (.bipush 7, 2) := by decide +kernel
theorem dX7_about_29 : decode cX7_about 29 = .ok (.if_icmp .ge 12, 3) := by decide +kernel
theorem dX7_about_32 : decode cX7_about 32 = .ok (.aload_n 0, 1) := by decide +kernel
theorem dX7_about_33 : decode cX7_about 33 = .ok (.getfield 13, 3) := by decide +kernel
theorem dX7_about_36 : decode cX7_about 36 = .ok (.iload_n 1, 1) := by decide +kernel
theorem dX7_about_37 : decode cX7_about 37 = .ok (.iaload, 1) := by decide +kernel
theorem dX7_about_38 : decode cX7_about 38 = .ok (.goto 44, 3) := by decide +kernel
theorem dX7_about_41 : decode cX7_about 41 = .ok (.iload_n 1, 1) := by decide +kernel
theorem dX7_about_42 : decode cX7_about 42 = .ok (.bipush 7, 2) := by decide +kernel
theorem dX7_about_44 : decode cX7_about 44 = .ok (.if_icmp .ne 14, 3) := by decide +kernel
theorem dX7_about_47 : decode cX7_about 47 = .ok (.aload_n 0, 1) := by decide +kernel
theorem dX7_about_48 : decode cX7_about 48 = .ok (.getfield 13, 3) := by decide +kernel
theorem dX7_about_51 : decode cX7_about 51 = .ok (.iconst 0, 1) := by decide +kernel
theorem dX7_about_52 : decode cX7_about 52 = .ok (.invokestatic 196, 3) := by decide +kernel
theorem dX7_about_55 : decode cX7_about 55 = .ok (.goto 27, 3) := by decide +kernel
theorem dX7_about_58 : decode cX7_about 58 = .ok (.iload_n 1, 1) := by decide +kernel
theorem dX7_about_59 : decode cX7_about 59 = .ok (.bipush 8, 2) := by decide +kernel
theorem dX7_about_61 : decode cX7_about 61 = .ok (.if_icmp .ne 14, 3) := by decide +kernel
theorem dX7_about_64 : decode cX7_about 64 = .ok (.aload_n 0, 1) := by decide +kernel
theorem dX7_about_65 : decode cX7_about 65 = .ok (.getfield 13, 3) := by decide +kernel
theorem dX7_about_68 : decode cX7_about 68 = .ok (.iconst 2, 1) := by decide +kernel
theorem dX7_about_69 : decode cX7_about 69 = .ok (.invokestatic 196, 3) := by decide +kernel
theorem dX7_about_72 : decode cX7_about 72 = .ok (.goto 10, 3) := by decide +kernel
theorem dX7_about_75 : decode cX7_about 75 = .ok (.aload_n 0, 1) := by decide +kernel
theorem dX7_about_76 : decode cX7_about 76 = .ok (.getfield 13, 3) := by decide +kernel
theorem dX7_about_79 : decode cX7_about 79 = .ok (.bipush 7, 2) := by decide +kernel
theorem dX7_about_81 : decode cX7_about 81 = .ok (.iaload, 1) := by decide +kernel
theorem dX7_about_82 : decode cX7_about 82 = .ok (.ireturn, 1) := by decide +kernel
theorem dX7_memberOf_0 : decode cX7_memberOf 0 = .ok (.aload_n 0, 1) := by decide +kernel
theorem dX7_memberOf_1 : decode cX7_memberOf 1 = .ok (.aload_n 0, 1) := by decide +kernel
theorem dX7_memberOf_2 : decode cX7_memberOf 2 = .ok (.getfield 13, 3) := by decide +kernel
theorem dX7_memberOf_5 : decode cX7_memberOf 5 = .ok (.iload_n 1, 1) := by decide +kernel
theorem dX7_memberOf_6 : decode cX7_memberOf 6 = .ok (.invokestatic 112, 3) := by decide +kernel
theorem dX7_memberOf_9 : decode cX7_memberOf 9 = .ok (.ifCond .ne 7, 3) := by decide +kernel
theorem dX7_memberOf_12 : decode cX7_memberOf 12 = .ok (.iconst 1, 1) := by decide +kernel
theorem dX7_memberOf_13 : decode cX7_memberOf 13 = .ok (.goto 20, 3) := by decide +kernel
theorem dX7_memberOf_16 : decode cX7_memberOf 16 = .ok (.iload_n 2, 1) := by decide +kernel
theorem dX7_memberOf_17 : decode cX7_memberOf 17 = .ok (.i2l, 1) := by decide +kernel
theorem dX7_memberOf_18 : decode cX7_memberOf 18 = .ok (.lconst 0, 1) := by decide +kernel
theorem dX7_memberOf_19 : decode cX7_memberOf 19 = .ok (.ldc2_w 199, 3) := by decide +kernel
theorem dX7_memberOf_22 : decode cX7_memberOf 22 = .ok (.invokestatic 40, 3) := by decide +kernel
theorem dX7_memberOf_25 : decode cX7_memberOf 25 = .ok (.ifCond .eq 7, 3) := by decide +kernel
theorem dX7_memberOf_28 : decode cX7_memberOf 28 = .ok (.iconst 0, 1) := by decide +kernel
theorem dX7_memberOf_29 : decode cX7_memberOf 29 = .ok (.goto 4, 3) := by decide +kernel
theorem dX7_memberOf_32 : decode cX7_memberOf 32 = .ok (.iconst 2, 1) := by decide +kernel
theorem dX7_memberOf_33 : decode cX7_memberOf 33 = .ok (.invokevirtual 129, 3) := by decide +kernel
theorem dX7_memberOf_36 : decode cX7_memberOf 36 = .ok (.ifCond .eq 5, 3) := by decide +kernel
theorem dX7_memberOf_39 : decode cX7_memberOf 39 = .ok (.iconst 0, 1) := by decide +kernel
theorem dX7_memberOf_40 : decode cX7_memberOf 40 = .ok (.ireturn, 1) := by decide +kernel
theorem dX7_memberOf_41 : decode cX7_memberOf 41 = .ok (.iload_n 2, 1) := by decide +kernel
theorem dX7_memberOf_42 : decode cX7_memberOf 42 = .ok (.tableswitch 74 8 11 #[30, 41, 52, 63], 30) := by decide +kernel
theorem dX7_memberOf_72 : decode cX7_memberOf 72 = .ok (.aload_n 0, 1) := by decide +kernel
theorem dX7_memberOf_73 : decode cX7_memberOf 73 = .ok (.getfield 13, 3) := by decide +kernel
theorem dX7_memberOf_76 : decode cX7_memberOf 76 = .ok (.iload_n 1, 1) := by decide +kernel
theorem dX7_memberOf_77 : decode cX7_memberOf 77 = .ok (.bipush 9, 2) := by decide +kernel
theorem dX7_memberOf_79 : decode cX7_memberOf 79 = .ok (.invokestatic 44, 3) := by decide +kernel
theorem dX7_memberOf_82 : decode cX7_memberOf 82 = .ok (.ireturn, 1) := by decide +kernel
theorem dX7_memberOf_83 : decode cX7_memberOf 83 = .ok (.aload_n 0, 1) := by decide +kernel
theorem dX7_memberOf_84 : decode cX7_memberOf 84 = .ok (.getfield 13, 3) := by decide +kernel
theorem dX7_memberOf_87 : decode cX7_memberOf 87 = .ok (.iload_n 1, 1) := by decide +kernel
theorem dX7_memberOf_88 : decode cX7_memberOf 88 = .ok (.bipush 10, 2) := by decide +kernel
theorem dX7_memberOf_90 : decode cX7_memberOf 90 = .ok (.invokestatic 44, 3) := by decide +kernel
theorem dX7_memberOf_93 : decode cX7_memberOf 93 = .ok (.ireturn, 1) := by decide +kernel
theorem dX7_memberOf_94 : decode cX7_memberOf 94 = .ok (.aload_n 0, 1) := by decide +kernel
theorem dX7_memberOf_95 : decode cX7_memberOf 95 = .ok (.getfield 13, 3) := by decide +kernel
theorem dX7_memberOf_98 : decode cX7_memberOf 98 = .ok (.iload_n 1, 1) := by decide +kernel
theorem dX7_memberOf_99 : decode cX7_memberOf 99 = .ok (.bipush 30, 2) := by decide +kernel
theorem dX7_memberOf_101 : decode cX7_memberOf 101 = .ok (.invokestatic 44, 3) := by decide +kernel
theorem dX7_memberOf_104 : decode cX7_memberOf 104 = .ok (.ireturn, 1) := by decide +kernel
theorem dX7_memberOf_105 : decode cX7_memberOf 105 = .ok (.aload_n 0, 1) := by decide +kernel
theorem dX7_memberOf_106 : decode cX7_memberOf 106 = .ok (.getfield 13, 3) := by decide +kernel
theorem dX7_memberOf_109 : decode cX7_memberOf 109 = .ok (.iload_n 1, 1) := by decide +kernel
theorem dX7_memberOf_110 : decode cX7_memberOf 110 = .ok (.bipush 67, 2) := by decide +kernel
theorem dX7_memberOf_112 : decode cX7_memberOf 112 = .ok (.invokestatic 44, 3) := by decide +kernel
theorem dX7_memberOf_115 : decode cX7_memberOf 115 = .ok (.ireturn, 1) := by decide +kernel
theorem dX7_memberOf_116 : decode cX7_memberOf 116 = .ok (.aload_n 0, 1) := by decide +kernel
theorem dX7_memberOf_117 : decode cX7_memberOf 117 = .ok (.getfield 13, 3) := by decide +kernel
theorem dX7_memberOf_120 : decode cX7_memberOf 120 = .ok (.iload_n 1, 1) := by decide +kernel
theorem dX7_memberOf_121 : decode cX7_memberOf 121 = .ok (.iload_n 2, 1) := by decide +kernel
theorem dX7_memberOf_122 : decode cX7_memberOf 122 = .ok (.invokestatic 44, 3) := by decide +kernel
theorem dX7_memberOf_125 : decode cX7_memberOf 125 = .ok (.ireturn, 1) := by decide +kernel
theorem dX7_session_0 : decode cX7_session 0 = .ok (.aload_n 0, 1) := by decide +kernel
theorem dX7_session_1 : decode cX7_session 1 = .ok (.getfield 13, 3) := by decide +kernel
theorem dX7_session_4 : decode cX7_session 4 = .ok (.iload_n 1, 1) := by decide +kernel
theorem dX7_session_5 : decode cX7_session 5 = .ok (.invokestatic 112, 3) := by decide +kernel
theorem dX7_session_8 : decode cX7_session 8 = .ok (.ifCond .eq 29, 3) := by decide +kernel
theorem dX7_session_11 : decode cX7_session 11 = .ok (.iload_n 2, 1) := by decide +kernel
theorem dX7_session_12 : decode cX7_session 12 = .ok (.i2l, 1) := by decide +kernel
theorem dX7_session_13 : decode cX7_session 13 = .ok (.lconst 0, 1) := by decide +kernel
theorem dX7_session_14 : decode cX7_session 14 = .ok (.aload_n 0, 1) := by decide +kernel
theorem dX7_session_15 : decode cX7_session 15 = .ok (.getfield 13, 3) := by decide +kernel
theorem dX7_session_18 : decode cX7_session 18 = .ok (.iload_n 1, 1) := by decide +kernel
theorem dX7_session_19 : decode cX7_session 19 = .ok (.bipush 67, 2) := by decide +kernel
theorem dX7_session_21 : decode cX7_session 21 = .ok (.invokestatic 44, 3) := by decide +kernel
theorem dX7_session_24 : decode cX7_session 24 = .ok (.iconst 1, 1) := by decide +kernel
theorem dX7_session_25 : decode cX7_session 25 = .ok (.isub, 1) := by decide +kernel
theorem dX7_session_26 : decode cX7_session 26 = .ok (.i2l, 1) := by decide +kernel
theorem dX7_session_27 : decode cX7_session 27 = .ok (.invokestatic 40, 3) := by decide +kernel
theorem dX7_session_30 : decode cX7_session 30 = .ok (.ifCond .eq 7, 3) := by decide +kernel
theorem dX7_session_33 : decode cX7_session 33 = .ok (.iconst 1, 1) := by decide +kernel
theorem dX7_session_34 : decode cX7_session 34 = .ok (.goto 4, 3) := by decide +kernel
theorem dX7_session_37 : decode cX7_session 37 = .ok (.iconst 0, 1) := by decide +kernel
theorem dX7_session_38 : decode cX7_session 38 = .ok (.istore 4, 2) := by decide +kernel
theorem dX7_session_40 : decode cX7_session 40 = .ok (.aload_n 0, 1) := by decide +kernel
theorem dX7_session_41 : decode cX7_session 41 = .ok (.iload 4, 2) := by decide +kernel
theorem dX7_session_43 : decode cX7_session 43 = .ok (.ifCond .ne 7, 3) := by decide +kernel
theorem dX7_session_46 : decode cX7_session 46 = .ok (.iconst 1, 1) := by decide +kernel
theorem dX7_session_47 : decode cX7_session 47 = .ok (.goto 20, 3) := by decide +kernel
theorem dX7_session_50 : decode cX7_session 50 = .ok (.iload_n 3, 1) := by decide +kernel
theorem dX7_session_51 : decode cX7_session 51 = .ok (.i2l, 1) := by decide +kernel
theorem dX7_session_52 : decode cX7_session 52 = .ok (.lconst 0, 1) := by decide +kernel
theorem dX7_session_53 : decode cX7_session 53 = .ok (.ldc2_w 201, 3) := by decide +kernel
theorem dX7_session_56 : decode cX7_session 56 = .ok (.invokestatic 40, 3) := by decide +kernel
theorem dX7_session_59 : decode cX7_session 59 = .ok (.ifCond .eq 7, 3) := by decide +kernel
theorem dX7_session_62 : decode cX7_session 62 = .ok (.iconst 0, 1) := by decide +kernel
theorem dX7_session_63 : decode cX7_session 63 = .ok (.goto 4, 3) := by decide +kernel
theorem dX7_session_66 : decode cX7_session 66 = .ok (.iconst 2, 1) := by decide +kernel
theorem dX7_session_67 : decode cX7_session 67 = .ok (.invokevirtual 129, 3) := by decide +kernel
theorem dX7_session_70 : decode cX7_session 70 = .ok (.ifCond .eq 5, 3) := by decide +kernel
theorem dX7_session_73 : decode cX7_session 73 = .ok (.iconst 0, 1) := by decide +kernel
theorem dX7_session_74 : decode cX7_session 74 = .ok (.ireturn, 1) := by decide +kernel
theorem dX7_session_75 : decode cX7_session 75 = .ok (.aload_n 0, 1) := by decide +kernel
theorem dX7_session_76 : decode cX7_session 76 = .ok (.getfield 13, 3) := by decide +kernel
theorem dX7_session_79 : decode cX7_session 79 = .ok (.iload_n 1, 1) := by decide +kernel
theorem dX7_session_80 : decode cX7_session 80 = .ok (.bipush 68, 2) := by decide +kernel
theorem dX7_session_82 : decode cX7_session 82 = .ok (.iconst 3, 1) := by decide +kernel
theorem dX7_session_83 : decode cX7_session 83 = .ok (.iload_n 2, 1) := by decide +kernel
theorem dX7_session_84 : decode cX7_session 84 = .ok (.imul, 1) := by decide +kernel
theorem dX7_session_85 : decode cX7_session 85 = .ok (.iadd, 1) := by decide +kernel
theorem dX7_session_86 : decode cX7_session 86 = .ok (.iload_n 3, 1) := by decide +kernel
theorem dX7_session_87 : decode cX7_session 87 = .ok (.iadd, 1) := by decide +kernel
theorem dX7_session_88 : decode cX7_session 88 = .ok (.invokestatic 44, 3) := by decide +kernel
theorem dX7_session_91 : decode cX7_session 91 = .ok (.ireturn, 1) := by decide +kernel
theorem dX7_note_0 : decode cX7_note 0 = .ok (.aload_n 0, 1) := by decide +kernel
theorem dX7_note_1 : decode cX7_note 1 = .ok (.iload_n 1, 1) := by decide +kernel
theorem dX7_note_2 : decode cX7_note 2 = .ok (.i2l, 1) := by decide +kernel
theorem dX7_note_3 : decode cX7_note 3 = .ok (.lconst 0, 1) := by decide +kernel
theorem dX7_note_4 : decode cX7_note 4 = .ok (.aload_n 0, 1) := by decide +kernel
theorem dX7_note_5 : decode cX7_note 5 = .ok (.getfield 13, 3) := by decide +kernel
theorem dX7_note_8 : decode cX7_note 8 = .ok (.iconst 2, 1) := by decide +kernel
theorem dX7_note_9 : decode cX7_note 9 = .ok (.iaload, 1) := by decide +kernel
theorem dX7_note_10 : decode cX7_note 10 = .ok (.iconst 1, 1) := by decide +kernel
theorem dX7_note_11 : decode cX7_note 11 = .ok (.isub, 1) := by decide +kernel
theorem dX7_note_12 : decode cX7_note 12 = .ok (.i2l, 1) := by decide +kernel
theorem dX7_note_13 : decode cX7_note 13 = .ok (.invokestatic 40, 3) := by decide +kernel
theorem dX7_note_16 : decode cX7_note 16 = .ok (.ifCond .ne 7, 3) := by decide +kernel
theorem dX7_note_19 : decode cX7_note 19 = .ok (.iconst 1, 1) := by decide +kernel
theorem dX7_note_20 : decode cX7_note 20 = .ok (.goto 20, 3) := by decide +kernel
theorem dX7_note_23 : decode cX7_note 23 = .ok (.iload_n 2, 1) := by decide +kernel
theorem dX7_note_24 : decode cX7_note 24 = .ok (.i2l, 1) := by decide +kernel
theorem dX7_note_25 : decode cX7_note 25 = .ok (.lconst 0, 1) := by decide +kernel
theorem dX7_note_26 : decode cX7_note 26 = .ok (.ldc2_w 203, 3) := by decide +kernel
theorem dX7_note_29 : decode cX7_note 29 = .ok (.invokestatic 40, 3) := by decide +kernel
theorem dX7_note_32 : decode cX7_note 32 = .ok (.ifCond .eq 7, 3) := by decide +kernel
theorem dX7_note_35 : decode cX7_note 35 = .ok (.iconst 0, 1) := by decide +kernel
theorem dX7_note_36 : decode cX7_note 36 = .ok (.goto 4, 3) := by decide +kernel
theorem dX7_note_39 : decode cX7_note 39 = .ok (.iconst 2, 1) := by decide +kernel
theorem dX7_note_40 : decode cX7_note 40 = .ok (.invokevirtual 129, 3) := by decide +kernel
theorem dX7_note_43 : decode cX7_note 43 = .ok (.ifCond .eq 5, 3) := by decide +kernel
theorem dX7_note_46 : decode cX7_note 46 = .ok (.iconst 0, 1) := by decide +kernel
theorem dX7_note_47 : decode cX7_note 47 = .ok (.ireturn, 1) := by decide +kernel
theorem dX7_note_48 : decode cX7_note 48 = .ok (.aload_n 0, 1) := by decide +kernel
theorem dX7_note_49 : decode cX7_note 49 = .ok (.getfield 13, 3) := by decide +kernel
theorem dX7_note_52 : decode cX7_note 52 = .ok (.iload_n 1, 1) := by decide +kernel
theorem dX7_note_53 : decode cX7_note 53 = .ok (.iload_n 2, 1) := by decide +kernel
theorem dX7_note_54 : decode cX7_note 54 = .ok (.iconst 5, 1) := by decide +kernel
theorem dX7_note_55 : decode cX7_note 55 = .ok (.if_icmp .ne 8, 3) := by decide +kernel
theorem dX7_note_58 : decode cX7_note 58 = .ok (.bipush 6, 2) := by decide +kernel
theorem dX7_note_60 : decode cX7_note 60 = .ok (.goto 4, 3) := by decide +kernel
theorem dX7_note_63 : decode cX7_note 63 = .ok (.iload_n 2, 1) := by decide +kernel
theorem dX7_note_64 : decode cX7_note 64 = .ok (.invokestatic 55, 3) := by decide +kernel
theorem dX7_note_67 : decode cX7_note 67 = .ok (.ireturn, 1) := by decide +kernel
theorem dX7_isCut_0 : decode cX7_isCut 0 = .ok (.aload_n 0, 1) := by decide +kernel
theorem dX7_isCut_1 : decode cX7_isCut 1 = .ok (.aload_n 0, 1) := by decide +kernel
theorem dX7_isCut_2 : decode cX7_isCut 2 = .ok (.getfield 13, 3) := by decide +kernel
theorem dX7_isCut_5 : decode cX7_isCut 5 = .ok (.iload_n 1, 1) := by decide +kernel
theorem dX7_isCut_6 : decode cX7_isCut 6 = .ok (.invokestatic 112, 3) := by decide +kernel
theorem dX7_isCut_9 : decode cX7_isCut 9 = .ok (.ifCond .eq 18, 3) := by decide +kernel
theorem dX7_isCut_12 : decode cX7_isCut 12 = .ok (.aload_n 0, 1) := by decide +kernel
theorem dX7_isCut_13 : decode cX7_isCut 13 = .ok (.getfield 13, 3) := by decide +kernel
theorem dX7_isCut_16 : decode cX7_isCut 16 = .ok (.iload_n 2, 1) := by decide +kernel
theorem dX7_isCut_17 : decode cX7_isCut 17 = .ok (.invokestatic 112, 3) := by decide +kernel
theorem dX7_isCut_20 : decode cX7_isCut 20 = .ok (.ifCond .eq 7, 3) := by decide +kernel
theorem dX7_isCut_23 : decode cX7_isCut 23 = .ok (.iconst 0, 1) := by decide +kernel
theorem dX7_isCut_24 : decode cX7_isCut 24 = .ok (.goto 4, 3) := by decide +kernel
theorem dX7_isCut_27 : decode cX7_isCut 27 = .ok (.iconst 1, 1) := by decide +kernel
theorem dX7_isCut_28 : decode cX7_isCut 28 = .ok (.invokevirtual 129, 3) := by decide +kernel
theorem dX7_isCut_31 : decode cX7_isCut 31 = .ok (.ifCond .eq 5, 3) := by decide +kernel
theorem dX7_isCut_34 : decode cX7_isCut 34 = .ok (.iconst 0, 1) := by decide +kernel
theorem dX7_isCut_35 : decode cX7_isCut 35 = .ok (.ireturn, 1) := by decide +kernel
theorem dX7_isCut_36 : decode cX7_isCut 36 = .ok (.aload_n 0, 1) := by decide +kernel
theorem dX7_isCut_37 : decode cX7_isCut 37 = .ok (.getfield 13, 3) := by decide +kernel
theorem dX7_isCut_40 : decode cX7_isCut 40 = .ok (.bipush 8, 2) := by decide +kernel
theorem dX7_isCut_42 : decode cX7_isCut 42 = .ok (.iload_n 1, 1) := by decide +kernel
theorem dX7_isCut_43 : decode cX7_isCut 43 = .ok (.iadd, 1) := by decide +kernel
theorem dX7_isCut_44 : decode cX7_isCut 44 = .ok (.iaload, 1) := by decide +kernel
theorem dX7_isCut_45 : decode cX7_isCut 45 = .ok (.iload_n 2, 1) := by decide +kernel
theorem dX7_isCut_46 : decode cX7_isCut 46 = .ok (.invokestatic 48, 3) := by decide +kernel
theorem dX7_isCut_49 : decode cX7_isCut 49 = .ok (.ifCond .eq 7, 3) := by decide +kernel
theorem dX7_isCut_52 : decode cX7_isCut 52 = .ok (.iconst 1, 1) := by decide +kernel
theorem dX7_isCut_53 : decode cX7_isCut 53 = .ok (.goto 4, 3) := by decide +kernel
theorem dX7_isCut_56 : decode cX7_isCut 56 = .ok (.iconst 0, 1) := by decide +kernel
theorem dX7_isCut_57 : decode cX7_isCut 57 = .ok (.ireturn, 1) := by decide +kernel
theorem dX7_remember_0 : decode cX7_remember 0 = .ok (.aload_n 0, 1) := by decide +kernel
theorem dX7_remember_1 : decode cX7_remember 1 = .ok (.getfield 193, 3) := by decide +kernel
theorem dX7_remember_4 : decode cX7_remember 4 = .ok (.bipush 14, 2) := by decide +kernel
theorem dX7_remember_6 : decode cX7_remember 6 = .ok (.if_icmp .ne 44, 3) := by decide +kernel
theorem dX7_remember_9 : decode cX7_remember 9 = .ok (.iconst 0, 1) := by decide +kernel
theorem dX7_remember_10 : decode cX7_remember 10 = .ok (.istore_n 1, 1) := by decide +kernel
theorem dX7_remember_11 : decode cX7_remember 11 = .ok (.iload_n 1, 1) := by decide +kernel
theorem dX7_remember_12 : decode cX7_remember 12 = .ok (.sipush 26156, 3) := by decide +kernel
theorem dX7_remember_15 : decode cX7_remember 15 = .ok (.if_icmp .ge 25, 3) := by decide +kernel
theorem dX7_remember_18 : decode cX7_remember 18 = .ok (.aload_n 0, 1) := by decide +kernel
theorem dX7_remember_19 : decode cX7_remember 19 = .ok (.getfield 19, 3) := by decide +kernel
theorem dX7_remember_22 : decode cX7_remember 22 = .ok (.iload_n 1, 1) := by decide +kernel
theorem dX7_remember_23 : decode cX7_remember 23 = .ok (.aload_n 0, 1) := by decide +kernel
theorem dX7_remember_24 : decode cX7_remember 24 = .ok (.getfield 19, 3) := by decide +kernel
theorem dX7_remember_27 : decode cX7_remember 27 = .ok (.iload_n 1, 1) := by decide +kernel
theorem dX7_remember_28 : decode cX7_remember 28 = .ok (.sipush 2012, 3) := by decide +kernel
theorem dX7_remember_31 : decode cX7_remember 31 = .ok (.iadd, 1) := by decide +kernel
theorem dX7_remember_32 : decode cX7_remember 32 = .ok (.iaload, 1) := by decide +kernel
theorem dX7_remember_33 : decode cX7_remember 33 = .ok (.iastore, 1) := by decide +kernel
theorem dX7_remember_34 : decode cX7_remember 34 = .ok (.iinc 1 1, 3) := by decide +kernel
theorem dX7_remember_37 : decode cX7_remember 37 = .ok (.goto (-26), 3) := by decide +kernel
theorem dX7_remember_40 : decode cX7_remember 40 = .ok (.aload_n 0, 1) := by decide +kernel
theorem dX7_remember_41 : decode cX7_remember 41 = .ok (.dup, 1) := by decide +kernel
theorem dX7_remember_42 : decode cX7_remember 42 = .ok (.getfield 193, 3) := by decide +kernel
theorem dX7_remember_45 : decode cX7_remember 45 = .ok (.iconst 1, 1) := by decide +kernel
theorem dX7_remember_46 : decode cX7_remember 46 = .ok (.isub, 1) := by decide +kernel
theorem dX7_remember_47 : decode cX7_remember 47 = .ok (.putfield 193, 3) := by decide +kernel
theorem dX7_remember_50 : decode cX7_remember 50 = .ok (.aload_n 0, 1) := by decide +kernel
theorem dX7_remember_51 : decode cX7_remember 51 = .ok (.getfield 13, 3) := by decide +kernel
theorem dX7_remember_54 : decode cX7_remember 54 = .ok (.iconst 0, 1) := by decide +kernel
theorem dX7_remember_55 : decode cX7_remember 55 = .ok (.aload_n 0, 1) := by decide +kernel
theorem dX7_remember_56 : decode cX7_remember 56 = .ok (.getfield 19, 3) := by decide +kernel
theorem dX7_remember_59 : decode cX7_remember 59 = .ok (.sipush 2012, 3) := by decide +kernel
theorem dX7_remember_62 : decode cX7_remember 62 = .ok (.aload_n 0, 1) := by decide +kernel
theorem dX7_remember_63 : decode cX7_remember 63 = .ok (.getfield 193, 3) := by decide +kernel
theorem dX7_remember_66 : decode cX7_remember 66 = .ok (.imul, 1) := by decide +kernel
theorem dX7_remember_67 : decode cX7_remember 67 = .ok (.invokestatic 189, 3) := by decide +kernel
theorem dX7_remember_70 : decode cX7_remember 70 = .ok (.aload_n 0, 1) := by decide +kernel
theorem dX7_remember_71 : decode cX7_remember 71 = .ok (.dup, 1) := by decide +kernel
theorem dX7_remember_72 : decode cX7_remember 72 = .ok (.getfield 193, 3) := by decide +kernel
theorem dX7_remember_75 : decode cX7_remember 75 = .ok (.iconst 1, 1) := by decide +kernel
theorem dX7_remember_76 : decode cX7_remember 76 = .ok (.iadd, 1) := by decide +kernel
theorem dX7_remember_77 : decode cX7_remember 77 = .ok (.putfield 193, 3) := by decide +kernel
theorem dX7_remember_80 : decode cX7_remember 80 = .ok (.return_, 1) := by decide +kernel
theorem dX7_member_0 : decode cX7_member 0 = .ok (.aload_n 0, 1) := by decide +kernel
theorem dX7_member_1 : decode cX7_member 1 = .ok (.iload_n 1, 1) := by decide +kernel
theorem dX7_member_2 : decode cX7_member 2 = .ok (.i2l, 1) := by decide +kernel
theorem dX7_member_3 : decode cX7_member 3 = .ok (.lconst 0, 1) := by decide +kernel
theorem dX7_member_4 : decode cX7_member 4 = .ok (.ldc2_w 136, 3) := by decide +kernel
theorem dX7_member_7 : decode cX7_member 7 = .ok (.invokestatic 40, 3) := by decide +kernel
theorem dX7_member_10 : decode cX7_member 10 = .ok (.ifCond .ne 7, 3) := by decide +kernel
theorem dX7_member_13 : decode cX7_member 13 = .ok (.iconst 1, 1) := by decide +kernel
theorem dX7_member_14 : decode cX7_member 14 = .ok (.goto 19, 3) := by decide +kernel
theorem dX7_member_17 : decode cX7_member 17 = .ok (.aload_n 0, 1) := by decide +kernel
theorem dX7_member_18 : decode cX7_member 18 = .ok (.getfield 13, 3) := by decide +kernel
theorem dX7_member_21 : decode cX7_member 21 = .ok (.iconst 0, 1) := by decide +kernel
theorem dX7_member_22 : decode cX7_member 22 = .ok (.iaload, 1) := by decide +kernel
theorem dX7_member_23 : decode cX7_member 23 = .ok (.bipush 6, 2) := by decide +kernel
theorem dX7_member_25 : decode cX7_member 25 = .ok (.if_icmp .ge 7, 3) := by decide +kernel
theorem dX7_member_28 : decode cX7_member 28 = .ok (.iconst 0, 1) := by decide +kernel
theorem dX7_member_29 : decode cX7_member 29 = .ok (.goto 4, 3) := by decide +kernel
theorem dX7_member_32 : decode cX7_member 32 = .ok (.iconst 2, 1) := by decide +kernel
theorem dX7_member_33 : decode cX7_member 33 = .ok (.invokevirtual 129, 3) := by decide +kernel
theorem dX7_member_36 : decode cX7_member 36 = .ok (.ifCond .eq 5, 3) := by decide +kernel
theorem dX7_member_39 : decode cX7_member 39 = .ok (.iconst 0, 1) := by decide +kernel
theorem dX7_member_40 : decode cX7_member 40 = .ok (.ireturn, 1) := by decide +kernel
theorem dX7_member_41 : decode cX7_member 41 = .ok (.aload_n 0, 1) := by decide +kernel
theorem dX7_member_42 : decode cX7_member 42 = .ok (.invokevirtual 205, 3) := by decide +kernel
theorem dX7_member_45 : decode cX7_member 45 = .ok (.aload_n 0, 1) := by decide +kernel
theorem dX7_member_46 : decode cX7_member 46 = .ok (.getfield 13, 3) := by decide +kernel
theorem dX7_member_49 : decode cX7_member 49 = .ok (.iload_n 1, 1) := by decide +kernel
theorem dX7_member_50 : decode cX7_member 50 = .ok (.invokestatic 145, 3) := by decide +kernel
theorem dX7_member_53 : decode cX7_member 53 = .ok (.ireturn, 1) := by decide +kernel
theorem dX7_say_0 : decode cX7_say 0 = .ok (.aload_n 0, 1) := by decide +kernel
theorem dX7_say_1 : decode cX7_say 1 = .ok (.aload_n 0, 1) := by decide +kernel
theorem dX7_say_2 : decode cX7_say 2 = .ok (.getfield 13, 3) := by decide +kernel
theorem dX7_say_5 : decode cX7_say 5 = .ok (.iload_n 1, 1) := by decide +kernel
theorem dX7_say_6 : decode cX7_say 6 = .ok (.invokestatic 112, 3) := by decide +kernel
theorem dX7_say_9 : decode cX7_say 9 = .ok (.ifCond .ne 7, 3) := by decide +kernel
theorem dX7_say_12 : decode cX7_say 12 = .ok (.iconst 1, 1) := by decide +kernel
theorem dX7_say_13 : decode cX7_say 13 = .ok (.goto 19, 3) := by decide +kernel
theorem dX7_say_16 : decode cX7_say 16 = .ok (.aload_n 0, 1) := by decide +kernel
theorem dX7_say_17 : decode cX7_say 17 = .ok (.getfield 13, 3) := by decide +kernel
theorem dX7_say_20 : decode cX7_say 20 = .ok (.iload_n 1, 1) := by decide +kernel
theorem dX7_say_21 : decode cX7_say 21 = .ok (.invokestatic 156, 3) := by decide +kernel
theorem dX7_say_24 : decode cX7_say 24 = .ok (.ifCond .eq 7, 3) := by decide +kernel
theorem dX7_say_27 : decode cX7_say 27 = .ok (.iconst 0, 1) := by decide +kernel
theorem dX7_say_28 : decode cX7_say 28 = .ok (.goto 4, 3) := by decide +kernel
theorem dX7_say_31 : decode cX7_say 31 = .ok (.iconst 2, 1) := by decide +kernel
theorem dX7_say_32 : decode cX7_say 32 = .ok (.invokevirtual 129, 3) := by decide +kernel
theorem dX7_say_35 : decode cX7_say 35 = .ok (.ifCond .eq 5, 3) := by decide +kernel
theorem dX7_say_38 : decode cX7_say 38 = .ok (.iconst 0, 1) := by decide +kernel
theorem dX7_say_39 : decode cX7_say 39 = .ok (.ireturn, 1) := by decide +kernel
theorem dX7_say_40 : decode cX7_say 40 = .ok (.aload_n 0, 1) := by decide +kernel
theorem dX7_say_41 : decode cX7_say 41 = .ok (.invokevirtual 205, 3) := by decide +kernel
theorem dX7_say_44 : decode cX7_say 44 = .ok (.aload_n 0, 1) := by decide +kernel
theorem dX7_say_45 : decode cX7_say 45 = .ok (.getfield 13, 3) := by decide +kernel
theorem dX7_say_48 : decode cX7_say 48 = .ok (.iload_n 1, 1) := by decide +kernel
theorem dX7_say_49 : decode cX7_say 49 = .ok (.invokestatic 159, 3) := by decide +kernel
theorem dX7_say_52 : decode cX7_say 52 = .ok (.ireturn, 1) := by decide +kernel
theorem dX7_call_0 : decode cX7_call 0 = .ok (.aload_n 0, 1) := by decide +kernel
theorem dX7_call_1 : decode cX7_call 1 = .ok (.aload_n 0, 1) := by decide +kernel
theorem dX7_call_2 : decode cX7_call 2 = .ok (.getfield 13, 3) := by decide +kernel
theorem dX7_call_5 : decode cX7_call 5 = .ok (.iload_n 1, 1) := by decide +kernel
theorem dX7_call_6 : decode cX7_call 6 = .ok (.invokestatic 112, 3) := by decide +kernel
theorem dX7_call_9 : decode cX7_call 9 = .ok (.ifCond .ne 7, 3) := by decide +kernel
theorem dX7_call_12 : decode cX7_call 12 = .ok (.iconst 1, 1) := by decide +kernel
theorem dX7_call_13 : decode cX7_call 13 = .ok (.goto 37, 3) := by decide +kernel
theorem dX7_call_16 : decode cX7_call 16 = .ok (.aload_n 0, 1) := by decide +kernel
theorem dX7_call_17 : decode cX7_call 17 = .ok (.getfield 13, 3) := by decide +kernel
theorem dX7_call_20 : decode cX7_call 20 = .ok (.iload_n 1, 1) := by decide +kernel
theorem dX7_call_21 : decode cX7_call 21 = .ok (.iload_n 2, 1) := by decide +kernel
theorem dX7_call_22 : decode cX7_call 22 = .ok (.invokestatic 116, 3) := by decide +kernel
theorem dX7_call_25 : decode cX7_call 25 = .ok (.ifCond .ne 7, 3) := by decide +kernel
theorem dX7_call_28 : decode cX7_call 28 = .ok (.iconst 2, 1) := by decide +kernel
theorem dX7_call_29 : decode cX7_call 29 = .ok (.goto 21, 3) := by decide +kernel
theorem dX7_call_32 : decode cX7_call 32 = .ok (.aload_n 0, 1) := by decide +kernel
theorem dX7_call_33 : decode cX7_call 33 = .ok (.getfield 13, 3) := by decide +kernel
theorem dX7_call_36 : decode cX7_call 36 = .ok (.iload_n 1, 1) := by decide +kernel
theorem dX7_call_37 : decode cX7_call 37 = .ok (.iconst 1, 1) := by decide +kernel
theorem dX7_call_38 : decode cX7_call 38 = .ok (.invokestatic 44, 3) := by decide +kernel
theorem dX7_call_41 : decode cX7_call 41 = .ok (.iconst 2, 1) := by decide +kernel
theorem dX7_call_42 : decode cX7_call 42 = .ok (.if_icmp .ne 7, 3) := by decide +kernel
theorem dX7_call_45 : decode cX7_call 45 = .ok (.iconst 3, 1) := by decide +kernel
theorem dX7_call_46 : decode cX7_call 46 = .ok (.goto 4, 3) := by decide +kernel
theorem dX7_call_49 : decode cX7_call 49 = .ok (.iconst 0, 1) := by decide +kernel
theorem dX7_call_50 : decode cX7_call 50 = .ok (.invokevirtual 129, 3) := by decide +kernel
theorem dX7_call_53 : decode cX7_call 53 = .ok (.ifCond .eq 5, 3) := by decide +kernel
theorem dX7_call_56 : decode cX7_call 56 = .ok (.iconst 0, 1) := by decide +kernel
theorem dX7_call_57 : decode cX7_call 57 = .ok (.ireturn, 1) := by decide +kernel
theorem dX7_call_58 : decode cX7_call 58 = .ok (.aload_n 0, 1) := by decide +kernel
theorem dX7_call_59 : decode cX7_call 59 = .ok (.invokevirtual 205, 3) := by decide +kernel
theorem dX7_call_62 : decode cX7_call 62 = .ok (.aload_n 0, 1) := by decide +kernel
theorem dX7_call_63 : decode cX7_call 63 = .ok (.getfield 13, 3) := by decide +kernel
theorem dX7_call_66 : decode cX7_call 66 = .ok (.iload_n 1, 1) := by decide +kernel
theorem dX7_call_67 : decode cX7_call 67 = .ok (.iload_n 2, 1) := by decide +kernel
theorem dX7_call_68 : decode cX7_call 68 = .ok (.invokestatic 106, 3) := by decide +kernel
theorem dX7_call_71 : decode cX7_call 71 = .ok (.ireturn, 1) := by decide +kernel
theorem dX7_cut_0 : decode cX7_cut 0 = .ok (.aload_n 0, 1) := by decide +kernel
theorem dX7_cut_1 : decode cX7_cut 1 = .ok (.aload_n 0, 1) := by decide +kernel
theorem dX7_cut_2 : decode cX7_cut 2 = .ok (.getfield 13, 3) := by decide +kernel
theorem dX7_cut_5 : decode cX7_cut 5 = .ok (.iload_n 1, 1) := by decide +kernel
theorem dX7_cut_6 : decode cX7_cut 6 = .ok (.invokestatic 112, 3) := by decide +kernel
theorem dX7_cut_9 : decode cX7_cut 9 = .ok (.ifCond .eq 14, 3) := by decide +kernel
theorem dX7_cut_12 : decode cX7_cut 12 = .ok (.aload_n 0, 1) := by decide +kernel
theorem dX7_cut_13 : decode cX7_cut 13 = .ok (.getfield 13, 3) := by decide +kernel
theorem dX7_cut_16 : decode cX7_cut 16 = .ok (.iload_n 2, 1) := by decide +kernel
theorem dX7_cut_17 : decode cX7_cut 17 = .ok (.invokestatic 112, 3) := by decide +kernel
theorem dX7_cut_20 : decode cX7_cut 20 = .ok (.ifCond .ne 7, 3) := by decide +kernel
theorem dX7_cut_23 : decode cX7_cut 23 = .ok (.iconst 1, 1) := by decide +kernel
theorem dX7_cut_24 : decode cX7_cut 24 = .ok (.goto 13, 3) := by decide +kernel
theorem dX7_cut_27 : decode cX7_cut 27 = .ok (.iload_n 1, 1) := by decide +kernel
theorem dX7_cut_28 : decode cX7_cut 28 = .ok (.iload_n 2, 1) := by decide +kernel
theorem dX7_cut_29 : decode cX7_cut 29 = .ok (.if_icmp .ne 7, 3) := by decide +kernel
theorem dX7_cut_32 : decode cX7_cut 32 = .ok (.iconst 2, 1) := by decide +kernel
theorem dX7_cut_33 : decode cX7_cut 33 = .ok (.goto 4, 3) := by decide +kernel
theorem dX7_cut_36 : decode cX7_cut 36 = .ok (.iconst 0, 1) := by decide +kernel
theorem dX7_cut_37 : decode cX7_cut 37 = .ok (.invokevirtual 129, 3) := by decide +kernel
theorem dX7_cut_40 : decode cX7_cut 40 = .ok (.ifCond .eq 5, 3) := by decide +kernel
theorem dX7_cut_43 : decode cX7_cut 43 = .ok (.iconst 0, 1) := by decide +kernel
theorem dX7_cut_44 : decode cX7_cut 44 = .ok (.ireturn, 1) := by decide +kernel
theorem dX7_cut_45 : decode cX7_cut 45 = .ok (.aload_n 0, 1) := by decide +kernel
theorem dX7_cut_46 : decode cX7_cut 46 = .ok (.invokevirtual 205, 3) := by decide +kernel
theorem dX7_cut_49 : decode cX7_cut 49 = .ok (.aload_n 0, 1) := by decide +kernel
theorem dX7_cut_50 : decode cX7_cut 50 = .ok (.getfield 13, 3) := by decide +kernel
theorem dX7_cut_53 : decode cX7_cut 53 = .ok (.iload_n 1, 1) := by decide +kernel
theorem dX7_cut_54 : decode cX7_cut 54 = .ok (.iload_n 2, 1) := by decide +kernel
theorem dX7_cut_55 : decode cX7_cut 55 = .ok (.iload_n 3, 1) := by decide +kernel
theorem dX7_cut_56 : decode cX7_cut 56 = .ok (.invokestatic 165, 3) := by decide +kernel
theorem dX7_cut_59 : decode cX7_cut 59 = .ok (.ireturn, 1) := by decide +kernel
theorem dX7_leave_0 : decode cX7_leave 0 = .ok (.aload_n 0, 1) := by decide +kernel
theorem dX7_leave_1 : decode cX7_leave 1 = .ok (.aload_n 0, 1) := by decide +kernel
theorem dX7_leave_2 : decode cX7_leave 2 = .ok (.getfield 13, 3) := by decide +kernel
theorem dX7_leave_5 : decode cX7_leave 5 = .ok (.iload_n 1, 1) := by decide +kernel
theorem dX7_leave_6 : decode cX7_leave 6 = .ok (.invokestatic 112, 3) := by decide +kernel
theorem dX7_leave_9 : decode cX7_leave 9 = .ok (.ifCond .ne 7, 3) := by decide +kernel
theorem dX7_leave_12 : decode cX7_leave 12 = .ok (.iconst 1, 1) := by decide +kernel
theorem dX7_leave_13 : decode cX7_leave 13 = .ok (.goto 19, 3) := by decide +kernel
theorem dX7_leave_16 : decode cX7_leave 16 = .ok (.aload_n 0, 1) := by decide +kernel
theorem dX7_leave_17 : decode cX7_leave 17 = .ok (.getfield 13, 3) := by decide +kernel
theorem dX7_leave_20 : decode cX7_leave 20 = .ok (.iload_n 1, 1) := by decide +kernel
theorem dX7_leave_21 : decode cX7_leave 21 = .ok (.invokestatic 169, 3) := by decide +kernel
theorem dX7_leave_24 : decode cX7_leave 24 = .ok (.ifCond .eq 7, 3) := by decide +kernel
theorem dX7_leave_27 : decode cX7_leave 27 = .ok (.iconst 2, 1) := by decide +kernel
theorem dX7_leave_28 : decode cX7_leave 28 = .ok (.goto 4, 3) := by decide +kernel
theorem dX7_leave_31 : decode cX7_leave 31 = .ok (.iconst 0, 1) := by decide +kernel
theorem dX7_leave_32 : decode cX7_leave 32 = .ok (.invokevirtual 129, 3) := by decide +kernel
theorem dX7_leave_35 : decode cX7_leave 35 = .ok (.ifCond .eq 5, 3) := by decide +kernel
theorem dX7_leave_38 : decode cX7_leave 38 = .ok (.iconst 0, 1) := by decide +kernel
theorem dX7_leave_39 : decode cX7_leave 39 = .ok (.ireturn, 1) := by decide +kernel
theorem dX7_leave_40 : decode cX7_leave 40 = .ok (.aload_n 0, 1) := by decide +kernel
theorem dX7_leave_41 : decode cX7_leave 41 = .ok (.invokevirtual 205, 3) := by decide +kernel
theorem dX7_leave_44 : decode cX7_leave 44 = .ok (.aload_n 0, 1) := by decide +kernel
theorem dX7_leave_45 : decode cX7_leave 45 = .ok (.getfield 13, 3) := by decide +kernel
theorem dX7_leave_48 : decode cX7_leave 48 = .ok (.iload_n 1, 1) := by decide +kernel
theorem dX7_leave_49 : decode cX7_leave 49 = .ok (.invokestatic 172, 3) := by decide +kernel
theorem dX7_leave_52 : decode cX7_leave 52 = .ok (.ireturn, 1) := by decide +kernel
theorem dX7_back_0 : decode cX7_back 0 = .ok (.aload_n 0, 1) := by decide +kernel
theorem dX7_back_1 : decode cX7_back 1 = .ok (.aload_n 0, 1) := by decide +kernel
theorem dX7_back_2 : decode cX7_back 2 = .ok (.getfield 13, 3) := by decide +kernel
theorem dX7_back_5 : decode cX7_back 5 = .ok (.iload_n 1, 1) := by decide +kernel
theorem dX7_back_6 : decode cX7_back 6 = .ok (.invokestatic 112, 3) := by decide +kernel
theorem dX7_back_9 : decode cX7_back 9 = .ok (.ifCond .ne 7, 3) := by decide +kernel
theorem dX7_back_12 : decode cX7_back 12 = .ok (.iconst 1, 1) := by decide +kernel
theorem dX7_back_13 : decode cX7_back 13 = .ok (.goto 19, 3) := by decide +kernel
theorem dX7_back_16 : decode cX7_back 16 = .ok (.aload_n 0, 1) := by decide +kernel
theorem dX7_back_17 : decode cX7_back 17 = .ok (.getfield 13, 3) := by decide +kernel
theorem dX7_back_20 : decode cX7_back 20 = .ok (.iload_n 1, 1) := by decide +kernel
theorem dX7_back_21 : decode cX7_back 21 = .ok (.invokestatic 169, 3) := by decide +kernel
theorem dX7_back_24 : decode cX7_back 24 = .ok (.ifCond .eq 7, 3) := by decide +kernel
theorem dX7_back_27 : decode cX7_back 27 = .ok (.iconst 0, 1) := by decide +kernel
theorem dX7_back_28 : decode cX7_back 28 = .ok (.goto 4, 3) := by decide +kernel
theorem dX7_back_31 : decode cX7_back 31 = .ok (.iconst 2, 1) := by decide +kernel
theorem dX7_back_32 : decode cX7_back 32 = .ok (.invokevirtual 129, 3) := by decide +kernel
theorem dX7_back_35 : decode cX7_back 35 = .ok (.ifCond .eq 5, 3) := by decide +kernel
theorem dX7_back_38 : decode cX7_back 38 = .ok (.iconst 0, 1) := by decide +kernel
theorem dX7_back_39 : decode cX7_back 39 = .ok (.ireturn, 1) := by decide +kernel
theorem dX7_back_40 : decode cX7_back 40 = .ok (.aload_n 0, 1) := by decide +kernel
theorem dX7_back_41 : decode cX7_back 41 = .ok (.invokevirtual 205, 3) := by decide +kernel
theorem dX7_back_44 : decode cX7_back 44 = .ok (.aload_n 0, 1) := by decide +kernel
theorem dX7_back_45 : decode cX7_back 45 = .ok (.getfield 13, 3) := by decide +kernel
theorem dX7_back_48 : decode cX7_back 48 = .ok (.iload_n 1, 1) := by decide +kernel
theorem dX7_back_49 : decode cX7_back 49 = .ok (.invokestatic 175, 3) := by decide +kernel
theorem dX7_back_52 : decode cX7_back 52 = .ok (.ireturn, 1) := by decide +kernel
theorem dX7_set_0 : decode cX7_set 0 = .ok (.aload_n 0, 1) := by decide +kernel
theorem dX7_set_1 : decode cX7_set 1 = .ok (.iload_n 1, 1) := by decide +kernel
theorem dX7_set_2 : decode cX7_set 2 = .ok (.i2l, 1) := by decide +kernel
theorem dX7_set_3 : decode cX7_set 3 = .ok (.lconst 0, 1) := by decide +kernel
theorem dX7_set_4 : decode cX7_set 4 = .ok (.ldc2_w 208, 3) := by decide +kernel
theorem dX7_set_7 : decode cX7_set 7 = .ok (.invokestatic 40, 3) := by decide +kernel
theorem dX7_set_10 : decode cX7_set 10 = .ok (.ifCond .eq 7, 3) := by decide +kernel
theorem dX7_set_13 : decode cX7_set 13 = .ok (.iconst 0, 1) := by decide +kernel
theorem dX7_set_14 : decode cX7_set 14 = .ok (.goto 4, 3) := by decide +kernel
theorem dX7_set_17 : decode cX7_set 17 = .ok (.iconst 1, 1) := by decide +kernel
theorem dX7_set_18 : decode cX7_set 18 = .ok (.invokevirtual 129, 3) := by decide +kernel
theorem dX7_set_21 : decode cX7_set 21 = .ok (.ifCond .eq 5, 3) := by decide +kernel
theorem dX7_set_24 : decode cX7_set 24 = .ok (.iconst 0, 1) := by decide +kernel
theorem dX7_set_25 : decode cX7_set 25 = .ok (.ireturn, 1) := by decide +kernel
theorem dX7_set_26 : decode cX7_set 26 = .ok (.aload_n 0, 1) := by decide +kernel
theorem dX7_set_27 : decode cX7_set 27 = .ok (.invokevirtual 205, 3) := by decide +kernel
theorem dX7_set_30 : decode cX7_set 30 = .ok (.aload_n 0, 1) := by decide +kernel
theorem dX7_set_31 : decode cX7_set 31 = .ok (.getfield 13, 3) := by decide +kernel
theorem dX7_set_34 : decode cX7_set 34 = .ok (.bipush 7, 2) := by decide +kernel
theorem dX7_set_36 : decode cX7_set 36 = .ok (.iaload, 1) := by decide +kernel
theorem dX7_set_37 : decode cX7_set 37 = .ok (.istore_n 2, 1) := by decide +kernel
theorem dX7_set_38 : decode cX7_set 38 = .ok (.aload_n 0, 1) := by decide +kernel
theorem dX7_set_39 : decode cX7_set 39 = .ok (.getfield 13, 3) := by decide +kernel
theorem dX7_set_42 : decode cX7_set 42 = .ok (.bipush 7, 2) := by decide +kernel
theorem dX7_set_44 : decode cX7_set 44 = .ok (.iload_n 1, 1) := by decide +kernel
theorem dX7_set_45 : decode cX7_set 45 = .ok (.iastore, 1) := by decide +kernel
theorem dX7_set_46 : decode cX7_set 46 = .ok (.iload_n 2, 1) := by decide +kernel
theorem dX7_set_47 : decode cX7_set 47 = .ok (.ireturn, 1) := by decide +kernel
theorem dX7_ticks_0 : decode cX7_ticks 0 = .ok (.aload_n 0, 1) := by decide +kernel
theorem dX7_ticks_1 : decode cX7_ticks 1 = .ok (.iload_n 1, 1) := by decide +kernel
theorem dX7_ticks_2 : decode cX7_ticks 2 = .ok (.i2l, 1) := by decide +kernel
theorem dX7_ticks_3 : decode cX7_ticks 3 = .ok (.lconst 1, 1) := by decide +kernel
theorem dX7_ticks_4 : decode cX7_ticks 4 = .ok (.ldc2_w 210, 3) := by decide +kernel
theorem dX7_ticks_7 : decode cX7_ticks 7 = .ok (.invokestatic 40, 3) := by decide +kernel
theorem dX7_ticks_10 : decode cX7_ticks 10 = .ok (.ifCond .eq 7, 3) := by decide +kernel
theorem dX7_ticks_13 : decode cX7_ticks 13 = .ok (.iconst 0, 1) := by decide +kernel
theorem dX7_ticks_14 : decode cX7_ticks 14 = .ok (.goto 4, 3) := by decide +kernel
theorem dX7_ticks_17 : decode cX7_ticks 17 = .ok (.iconst 1, 1) := by decide +kernel
theorem dX7_ticks_18 : decode cX7_ticks 18 = .ok (.invokevirtual 129, 3) := by decide +kernel
theorem dX7_ticks_21 : decode cX7_ticks 21 = .ok (.ifCond .eq 5, 3) := by decide +kernel
theorem dX7_ticks_24 : decode cX7_ticks 24 = .ok (.iconst 0, 1) := by decide +kernel
theorem dX7_ticks_25 : decode cX7_ticks 25 = .ok (.ireturn, 1) := by decide +kernel
theorem dX7_ticks_26 : decode cX7_ticks 26 = .ok (.aload_n 0, 1) := by decide +kernel
theorem dX7_ticks_27 : decode cX7_ticks 27 = .ok (.invokevirtual 205, 3) := by decide +kernel
theorem dX7_ticks_30 : decode cX7_ticks 30 = .ok (.aload_n 0, 1) := by decide +kernel
theorem dX7_ticks_31 : decode cX7_ticks 31 = .ok (.aload_n 0, 1) := by decide +kernel
theorem dX7_ticks_32 : decode cX7_ticks 32 = .ok (.getfield 13, 3) := by decide +kernel
theorem dX7_ticks_35 : decode cX7_ticks 35 = .ok (.iload_n 1, 1) := by decide +kernel
theorem dX7_ticks_36 : decode cX7_ticks 36 = .ok (.invokevirtual 178, 3) := by decide +kernel
theorem dX7_ticks_39 : decode cX7_ticks 39 = .ok (.ireturn, 1) := by decide +kernel
theorem dX7_undo_0 : decode cX7_undo 0 = .ok (.aload_n 0, 1) := by decide +kernel
theorem dX7_undo_1 : decode cX7_undo 1 = .ok (.aload_n 0, 1) := by decide +kernel
theorem dX7_undo_2 : decode cX7_undo 2 = .ok (.getfield 193, 3) := by decide +kernel
theorem dX7_undo_5 : decode cX7_undo 5 = .ok (.ifCond .ne 7, 3) := by decide +kernel
theorem dX7_undo_8 : decode cX7_undo 8 = .ok (.iconst 1, 1) := by decide +kernel
theorem dX7_undo_9 : decode cX7_undo 9 = .ok (.goto 4, 3) := by decide +kernel
theorem dX7_undo_12 : decode cX7_undo 12 = .ok (.iconst 0, 1) := by decide +kernel
theorem dX7_undo_13 : decode cX7_undo 13 = .ok (.invokevirtual 129, 3) := by decide +kernel
theorem dX7_undo_16 : decode cX7_undo 16 = .ok (.ifCond .eq 5, 3) := by decide +kernel
theorem dX7_undo_19 : decode cX7_undo 19 = .ok (.iconst 0, 1) := by decide +kernel
theorem dX7_undo_20 : decode cX7_undo 20 = .ok (.ireturn, 1) := by decide +kernel
theorem dX7_undo_21 : decode cX7_undo 21 = .ok (.aload_n 0, 1) := by decide +kernel
theorem dX7_undo_22 : decode cX7_undo 22 = .ok (.dup, 1) := by decide +kernel
theorem dX7_undo_23 : decode cX7_undo 23 = .ok (.getfield 193, 3) := by decide +kernel
theorem dX7_undo_26 : decode cX7_undo 26 = .ok (.iconst 1, 1) := by decide +kernel
theorem dX7_undo_27 : decode cX7_undo 27 = .ok (.isub, 1) := by decide +kernel
theorem dX7_undo_28 : decode cX7_undo 28 = .ok (.putfield 193, 3) := by decide +kernel
theorem dX7_undo_31 : decode cX7_undo 31 = .ok (.aload_n 0, 1) := by decide +kernel
theorem dX7_undo_32 : decode cX7_undo 32 = .ok (.getfield 19, 3) := by decide +kernel
theorem dX7_undo_35 : decode cX7_undo 35 = .ok (.sipush 2012, 3) := by decide +kernel
theorem dX7_undo_38 : decode cX7_undo 38 = .ok (.aload_n 0, 1) := by decide +kernel
theorem dX7_undo_39 : decode cX7_undo 39 = .ok (.getfield 193, 3) := by decide +kernel
theorem dX7_undo_42 : decode cX7_undo 42 = .ok (.imul, 1) := by decide +kernel
theorem dX7_undo_43 : decode cX7_undo 43 = .ok (.aload_n 0, 1) := by decide +kernel
theorem dX7_undo_44 : decode cX7_undo 44 = .ok (.getfield 13, 3) := by decide +kernel
theorem dX7_undo_47 : decode cX7_undo 47 = .ok (.iconst 0, 1) := by decide +kernel
theorem dX7_undo_48 : decode cX7_undo 48 = .ok (.invokestatic 189, 3) := by decide +kernel
theorem dX7_undo_51 : decode cX7_undo 51 = .ok (.aload_n 0, 1) := by decide +kernel
theorem dX7_undo_52 : decode cX7_undo 52 = .ok (.getfield 193, 3) := by decide +kernel
theorem dX7_undo_55 : decode cX7_undo 55 = .ok (.ireturn, 1) := by decide +kernel
theorem dX7_isThere_0 : decode cX7_isThere 0 = .ok (.iconst 1, 1) := by decide +kernel
theorem dX7_isThere_1 : decode cX7_isThere 1 = .ok (.istore 5, 2) := by decide +kernel
theorem dX7_isThere_3 : decode cX7_isThere 3 = .ok (.iconst 0, 1) := by decide +kernel
theorem dX7_isThere_4 : decode cX7_isThere 4 = .ok (.istore 6, 2) := by decide +kernel
theorem dX7_isThere_6 : decode cX7_isThere 6 = .ok (.iload 6, 2) := by decide +kernel
theorem dX7_isThere_8 : decode cX7_isThere 8 = .ok (.aload_n 0, 1) := by decide +kernel
theorem dX7_isThere_9 : decode cX7_isThere 9 = .ok (.getfield 16, 3) := by decide +kernel
theorem dX7_isThere_12 : decode cX7_isThere 12 = .ok (.iconst 0, 1) := by decide +kernel
theorem dX7_isThere_13 : decode cX7_isThere 13 = .ok (.iaload, 1) := by decide +kernel
theorem dX7_isThere_14 : decode cX7_isThere 14 = .ok (.if_icmp .ge 94, 3) := by decide +kernel
theorem dX7_isThere_17 : decode cX7_isThere 17 = .ok (.aload_n 0, 1) := by decide +kernel
theorem dX7_isThere_18 : decode cX7_isThere 18 = .ok (.getfield 16, 3) := by decide +kernel
theorem dX7_isThere_21 : decode cX7_isThere 21 = .ok (.iload 6, 2) := by decide +kernel
theorem dX7_isThere_23 : decode cX7_isThere 23 = .ok (.iconst 1, 1) := by decide +kernel
theorem dX7_isThere_24 : decode cX7_isThere 24 = .ok (.invokestatic 44, 3) := by decide +kernel
theorem dX7_isThere_27 : decode cX7_isThere 27 = .ok (.ifCond .ne 35, 3) := by decide +kernel
theorem dX7_isThere_30 : decode cX7_isThere 30 = .ok (.aload_n 0, 1) := by decide +kernel
theorem dX7_isThere_31 : decode cX7_isThere 31 = .ok (.getfield 16, 3) := by decide +kernel
theorem dX7_isThere_34 : decode cX7_isThere 34 = .ok (.iload 6, 2) := by decide +kernel
theorem dX7_isThere_36 : decode cX7_isThere 36 = .ok (.iconst 2, 1) := by decide +kernel
theorem dX7_isThere_37 : decode cX7_isThere 37 = .ok (.invokestatic 44, 3) := by decide +kernel
theorem dX7_isThere_40 : decode cX7_isThere 40 = .ok (.iload_n 2, 1) := by decide +kernel
theorem dX7_isThere_41 : decode cX7_isThere 41 = .ok (.if_icmp .ne 21, 3) := by decide +kernel
theorem dX7_isThere_44 : decode cX7_isThere 44 = .ok (.aload_n 0, 1) := by decide +kernel
theorem dX7_isThere_45 : decode cX7_isThere 45 = .ok (.getfield 16, 3) := by decide +kernel
theorem dX7_isThere_48 : decode cX7_isThere 48 = .ok (.iload 6, 2) := by decide +kernel
theorem dX7_isThere_50 : decode cX7_isThere 50 = .ok (.iconst 3, 1) := by decide +kernel
theorem dX7_isThere_51 : decode cX7_isThere 51 = .ok (.invokestatic 44, 3) := by decide +kernel
theorem dX7_isThere_54 : decode cX7_isThere 54 = .ok (.iload_n 1, 1) := by decide +kernel
theorem dX7_isThere_55 : decode cX7_isThere 55 = .ok (.if_icmp .ne 7, 3) := by decide +kernel
theorem dX7_isThere_58 : decode cX7_isThere 58 = .ok (.iconst 1, 1) := by decide +kernel
theorem dX7_isThere_59 : decode cX7_isThere 59 = .ok (.goto 4, 3) := by decide +kernel
theorem dX7_isThere_62 : decode cX7_isThere 62 = .ok (.iconst 0, 1) := by decide +kernel
theorem dX7_isThere_63 : decode cX7_isThere 63 = .ok (.istore 7, 2) := by decide +kernel
theorem dX7_isThere_65 : decode cX7_isThere 65 = .ok (.iload 5, 2) := by decide +kernel
theorem dX7_isThere_67 : decode cX7_isThere 67 = .ok (.ifCond .eq 32, 3) := by decide +kernel
theorem dX7_isThere_70 : decode cX7_isThere 70 = .ok (.iload 7, 2) := by decide +kernel
theorem dX7_isThere_72 : decode cX7_isThere 72 = .ok (.ifCond .ne 23, 3) := by decide +kernel
theorem dX7_isThere_75 : decode cX7_isThere 75 = .ok (.iload_n 3, 1) := by decide +kernel
theorem dX7_isThere_76 : decode cX7_isThere 76 = .ok (.iload 6, 2) := by decide +kernel
theorem dX7_isThere_78 : decode cX7_isThere 78 = .ok (.invokestatic 48, 3) := by decide +kernel
theorem dX7_isThere_81 : decode cX7_isThere 81 = .ok (.ifCond .eq 14, 3) := by decide +kernel
theorem dX7_isThere_84 : decode cX7_isThere 84 = .ok (.iload 4, 2) := by decide +kernel
theorem dX7_isThere_86 : decode cX7_isThere 86 = .ok (.ifCond .ne 13, 3) := by decide +kernel
theorem dX7_isThere_89 : decode cX7_isThere 89 = .ok (.iload 6, 2) := by decide +kernel
theorem dX7_isThere_91 : decode cX7_isThere 91 = .ok (.iload_n 1, 1) := by decide +kernel
theorem dX7_isThere_92 : decode cX7_isThere 92 = .ok (.if_icmp .eq 7, 3) := by decide +kernel
theorem dX7_isThere_95 : decode cX7_isThere 95 = .ok (.iconst 1, 1) := by decide +kernel
theorem dX7_isThere_96 : decode cX7_isThere 96 = .ok (.goto 4, 3) := by decide +kernel
theorem dX7_isThere_99 : decode cX7_isThere 99 = .ok (.iconst 0, 1) := by decide +kernel
theorem dX7_isThere_100 : decode cX7_isThere 100 = .ok (.istore 5, 2) := by decide +kernel
theorem dX7_isThere_102 : decode cX7_isThere 102 = .ok (.iinc 6 1, 3) := by decide +kernel
theorem dX7_isThere_105 : decode cX7_isThere 105 = .ok (.goto (-99), 3) := by decide +kernel
theorem dX7_isThere_108 : decode cX7_isThere 108 = .ok (.iload 5, 2) := by decide +kernel
theorem dX7_isThere_110 : decode cX7_isThere 110 = .ok (.ireturn, 1) := by decide +kernel
theorem dX7_standsIn_0 : decode cX7_standsIn 0 = .ok (.aload_n 0, 1) := by decide +kernel
theorem dX7_standsIn_1 : decode cX7_standsIn 1 = .ok (.aload_n 0, 1) := by decide +kernel
theorem dX7_standsIn_2 : decode cX7_standsIn 2 = .ok (.getfield 13, 3) := by decide +kernel
theorem dX7_standsIn_5 : decode cX7_standsIn 5 = .ok (.iload_n 1, 1) := by decide +kernel
theorem dX7_standsIn_6 : decode cX7_standsIn 6 = .ok (.invokestatic 112, 3) := by decide +kernel
theorem dX7_standsIn_9 : decode cX7_standsIn 9 = .ok (.ifCond .ne 7, 3) := by decide +kernel
theorem dX7_standsIn_12 : decode cX7_standsIn 12 = .ok (.iconst 1, 1) := by decide +kernel
theorem dX7_standsIn_13 : decode cX7_standsIn 13 = .ok (.goto 30, 3) := by decide +kernel
theorem dX7_standsIn_16 : decode cX7_standsIn 16 = .ok (.iload_n 3, 1) := by decide +kernel
theorem dX7_standsIn_17 : decode cX7_standsIn 17 = .ok (.i2l, 1) := by decide +kernel
theorem dX7_standsIn_18 : decode cX7_standsIn 18 = .ok (.lconst 0, 1) := by decide +kernel
theorem dX7_standsIn_19 : decode cX7_standsIn 19 = .ok (.lconst 1, 1) := by decide +kernel
theorem dX7_standsIn_20 : decode cX7_standsIn 20 = .ok (.invokestatic 40, 3) := by decide +kernel
theorem dX7_standsIn_23 : decode cX7_standsIn 23 = .ok (.ifCond .eq 15, 3) := by decide +kernel
theorem dX7_standsIn_26 : decode cX7_standsIn 26 = .ok (.aload_n 0, 1) := by decide +kernel
theorem dX7_standsIn_27 : decode cX7_standsIn 27 = .ok (.getfield 13, 3) := by decide +kernel
theorem dX7_standsIn_30 : decode cX7_standsIn 30 = .ok (.iload_n 1, 1) := by decide +kernel
theorem dX7_standsIn_31 : decode cX7_standsIn 31 = .ok (.iload_n 2, 1) := by decide +kernel
theorem dX7_standsIn_32 : decode cX7_standsIn 32 = .ok (.invokestatic 116, 3) := by decide +kernel
theorem dX7_standsIn_35 : decode cX7_standsIn 35 = .ok (.ifCond .ne 7, 3) := by decide +kernel
theorem dX7_standsIn_38 : decode cX7_standsIn 38 = .ok (.iconst 2, 1) := by decide +kernel
theorem dX7_standsIn_39 : decode cX7_standsIn 39 = .ok (.goto 4, 3) := by decide +kernel
theorem dX7_standsIn_42 : decode cX7_standsIn 42 = .ok (.iconst 0, 1) := by decide +kernel
theorem dX7_standsIn_43 : decode cX7_standsIn 43 = .ok (.invokevirtual 129, 3) := by decide +kernel
theorem dX7_standsIn_46 : decode cX7_standsIn 46 = .ok (.ifCond .eq 5, 3) := by decide +kernel
theorem dX7_standsIn_49 : decode cX7_standsIn 49 = .ok (.iconst 0, 1) := by decide +kernel
theorem dX7_standsIn_50 : decode cX7_standsIn 50 = .ok (.ireturn, 1) := by decide +kernel
theorem dX7_standsIn_51 : decode cX7_standsIn 51 = .ok (.aload_n 0, 1) := by decide +kernel
theorem dX7_standsIn_52 : decode cX7_standsIn 52 = .ok (.getfield 13, 3) := by decide +kernel
theorem dX7_standsIn_55 : decode cX7_standsIn 55 = .ok (.iload_n 1, 1) := by decide +kernel
theorem dX7_standsIn_56 : decode cX7_standsIn 56 = .ok (.invokestatic 169, 3) := by decide +kernel
theorem dX7_standsIn_59 : decode cX7_standsIn 59 = .ok (.ifCond .eq 5, 3) := by decide +kernel
theorem dX7_standsIn_62 : decode cX7_standsIn 62 = .ok (.iconst (-1), 1) := by decide +kernel
theorem dX7_standsIn_63 : decode cX7_standsIn 63 = .ok (.ireturn, 1) := by decide +kernel
theorem dX7_standsIn_64 : decode cX7_standsIn 64 = .ok (.aload_n 0, 1) := by decide +kernel
theorem dX7_standsIn_65 : decode cX7_standsIn 65 = .ok (.getfield 13, 3) := by decide +kernel
theorem dX7_standsIn_68 : decode cX7_standsIn 68 = .ok (.iconst 0, 1) := by decide +kernel
theorem dX7_standsIn_69 : decode cX7_standsIn 69 = .ok (.aload_n 0, 1) := by decide +kernel
theorem dX7_standsIn_70 : decode cX7_standsIn 70 = .ok (.getfield 16, 3) := by decide +kernel
theorem dX7_standsIn_73 : decode cX7_standsIn 73 = .ok (.iconst 0, 1) := by decide +kernel
theorem dX7_standsIn_74 : decode cX7_standsIn 74 = .ok (.invokestatic 189, 3) := by decide +kernel
theorem dX7_standsIn_77 : decode cX7_standsIn 77 = .ok (.aload_n 0, 1) := by decide +kernel
theorem dX7_standsIn_78 : decode cX7_standsIn 78 = .ok (.getfield 16, 3) := by decide +kernel
theorem dX7_standsIn_81 : decode cX7_standsIn 81 = .ok (.bipush 6, 2) := by decide +kernel
theorem dX7_standsIn_83 : decode cX7_standsIn 83 = .ok (.iaload, 1) := by decide +kernel
theorem dX7_standsIn_84 : decode cX7_standsIn 84 = .ok (.istore 4, 2) := by decide +kernel
theorem dX7_standsIn_86 : decode cX7_standsIn 86 = .ok (.aload_n 0, 1) := by decide +kernel
theorem dX7_standsIn_87 : decode cX7_standsIn 87 = .ok (.getfield 16, 3) := by decide +kernel
theorem dX7_standsIn_90 : decode cX7_standsIn 90 = .ok (.iload_n 1, 1) := by decide +kernel
theorem dX7_standsIn_91 : decode cX7_standsIn 91 = .ok (.iload_n 2, 1) := by decide +kernel
theorem dX7_standsIn_92 : decode cX7_standsIn 92 = .ok (.invokestatic 106, 3) := by decide +kernel
theorem dX7_standsIn_95 : decode cX7_standsIn 95 = .ok (.istore 5, 2) := by decide +kernel
theorem dX7_standsIn_97 : decode cX7_standsIn 97 = .ok (.iconst 0, 1) := by decide +kernel
theorem dX7_standsIn_98 : decode cX7_standsIn 98 = .ok (.istore 6, 2) := by decide +kernel
theorem dX7_standsIn_100 : decode cX7_standsIn 100 = .ok (.iconst 0, 1) := by decide +kernel
theorem dX7_standsIn_101 : decode cX7_standsIn 101 = .ok (.istore 7, 2) := by decide +kernel
theorem dX7_standsIn_103 : decode cX7_standsIn 103 = .ok (.iload 7, 2) := by decide +kernel
theorem dX7_standsIn_105 : decode cX7_standsIn 105 = .ok (.bipush 100, 2) := by decide +kernel
theorem dX7_standsIn_107 : decode cX7_standsIn 107 = .ok (.if_icmp .gt 75, 3) := by decide +kernel
theorem dX7_standsIn_110 : decode cX7_standsIn 110 = .ok (.iload 6, 2) := by decide +kernel
theorem dX7_standsIn_112 : decode cX7_standsIn 112 = .ok (.ifCond .ne 25, 3) := by decide +kernel
theorem dX7_standsIn_115 : decode cX7_standsIn 115 = .ok (.aload_n 0, 1) := by decide +kernel
theorem dX7_standsIn_116 : decode cX7_standsIn 116 = .ok (.getfield 16, 3) := by decide +kernel
theorem dX7_standsIn_119 : decode cX7_standsIn 119 = .ok (.bipush 6, 2) := by decide +kernel
theorem dX7_standsIn_121 : decode cX7_standsIn 121 = .ok (.iaload, 1) := by decide +kernel
theorem dX7_standsIn_122 : decode cX7_standsIn 122 = .ok (.iload 4, 2) := by decide +kernel
theorem dX7_standsIn_124 : decode cX7_standsIn 124 = .ok (.if_icmp .le 17, 3) := by decide +kernel
theorem dX7_standsIn_127 : decode cX7_standsIn 127 = .ok (.aload_n 0, 1) := by decide +kernel
theorem dX7_standsIn_128 : decode cX7_standsIn 128 = .ok (.iload_n 1, 1) := by decide +kernel
theorem dX7_standsIn_129 : decode cX7_standsIn 129 = .ok (.iload 5, 2) := by decide +kernel
theorem dX7_standsIn_131 : decode cX7_standsIn 131 = .ok (.invokevirtual 212, 3) := by decide +kernel
theorem dX7_standsIn_134 : decode cX7_standsIn 134 = .ok (.ifCond .eq 7, 3) := by decide +kernel
theorem dX7_standsIn_137 : decode cX7_standsIn 137 = .ok (.iconst 1, 1) := by decide +kernel
theorem dX7_standsIn_138 : decode cX7_standsIn 138 = .ok (.goto 4, 3) := by decide +kernel
theorem dX7_standsIn_141 : decode cX7_standsIn 141 = .ok (.iconst 0, 1) := by decide +kernel
theorem dX7_standsIn_142 : decode cX7_standsIn 142 = .ok (.istore 6, 2) := by decide +kernel
theorem dX7_standsIn_144 : decode cX7_standsIn 144 = .ok (.iload 6, 2) := by decide +kernel
theorem dX7_standsIn_146 : decode cX7_standsIn 146 = .ok (.ifCond .eq 22, 3) := by decide +kernel
theorem dX7_standsIn_149 : decode cX7_standsIn 149 = .ok (.iload_n 3, 1) := by decide +kernel
theorem dX7_standsIn_150 : decode cX7_standsIn 150 = .ok (.ifCond .eq 15, 3) := by decide +kernel
theorem dX7_standsIn_153 : decode cX7_standsIn 153 = .ok (.aload_n 0, 1) := by decide +kernel
theorem dX7_standsIn_154 : decode cX7_standsIn 154 = .ok (.iload_n 1, 1) := by decide +kernel
theorem dX7_standsIn_155 : decode cX7_standsIn 155 = .ok (.iload 5, 2) := by decide +kernel
theorem dX7_standsIn_157 : decode cX7_standsIn 157 = .ok (.iload_n 2, 1) := by decide +kernel
theorem dX7_standsIn_158 : decode cX7_standsIn 158 = .ok (.iconst 1, 1) := by decide +kernel
theorem dX7_standsIn_159 : decode cX7_standsIn 159 = .ok (.invokevirtual 215, 3) := by decide +kernel
theorem dX7_standsIn_162 : decode cX7_standsIn 162 = .ok (.ifCond .eq 6, 3) := by decide +kernel
theorem dX7_standsIn_165 : decode cX7_standsIn 165 = .ok (.iload 7, 2) := by decide +kernel
theorem dX7_standsIn_167 : decode cX7_standsIn 167 = .ok (.ireturn, 1) := by decide +kernel
theorem dX7_standsIn_168 : decode cX7_standsIn 168 = .ok (.aload_n 0, 1) := by decide +kernel
theorem dX7_standsIn_169 : decode cX7_standsIn 169 = .ok (.aload_n 0, 1) := by decide +kernel
theorem dX7_standsIn_170 : decode cX7_standsIn 170 = .ok (.getfield 16, 3) := by decide +kernel
theorem dX7_standsIn_173 : decode cX7_standsIn 173 = .ok (.invokevirtual 109, 3) := by decide +kernel
theorem dX7_standsIn_176 : decode cX7_standsIn 176 = .ok (.iinc 7 1, 3) := by decide +kernel
theorem dX7_standsIn_179 : decode cX7_standsIn 179 = .ok (.goto (-76), 3) := by decide +kernel
theorem dX7_standsIn_182 : decode cX7_standsIn 182 = .ok (.iconst (-1), 1) := by decide +kernel
theorem dX7_standsIn_183 : decode cX7_standsIn 183 = .ok (.ireturn, 1) := by decide +kernel
theorem dX7_standsNow_0 : decode cX7_standsNow 0 = .ok (.aload_n 0, 1) := by decide +kernel
theorem dX7_standsNow_1 : decode cX7_standsNow 1 = .ok (.getfield 16, 3) := by decide +kernel
theorem dX7_standsNow_4 : decode cX7_standsNow 4 = .ok (.iload_n 1, 1) := by decide +kernel
theorem dX7_standsNow_5 : decode cX7_standsNow 5 = .ok (.iconst 2, 1) := by decide +kernel
theorem dX7_standsNow_6 : decode cX7_standsNow 6 = .ok (.invokestatic 44, 3) := by decide +kernel
theorem dX7_standsNow_9 : decode cX7_standsNow 9 = .ok (.iload_n 2, 1) := by decide +kernel
theorem dX7_standsNow_10 : decode cX7_standsNow 10 = .ok (.if_icmp .ne 20, 3) := by decide +kernel
theorem dX7_standsNow_13 : decode cX7_standsNow 13 = .ok (.aload_n 0, 1) := by decide +kernel
theorem dX7_standsNow_14 : decode cX7_standsNow 14 = .ok (.getfield 16, 3) := by decide +kernel
theorem dX7_standsNow_17 : decode cX7_standsNow 17 = .ok (.iload_n 1, 1) := by decide +kernel
theorem dX7_standsNow_18 : decode cX7_standsNow 18 = .ok (.iconst 3, 1) := by decide +kernel
theorem dX7_standsNow_19 : decode cX7_standsNow 19 = .ok (.invokestatic 44, 3) := by decide +kernel
theorem dX7_standsNow_22 : decode cX7_standsNow 22 = .ok (.iload_n 1, 1) := by decide +kernel
theorem dX7_standsNow_23 : decode cX7_standsNow 23 = .ok (.if_icmp .ne 7, 3) := by decide +kernel
theorem dX7_standsNow_26 : decode cX7_standsNow 26 = .ok (.iconst 1, 1) := by decide +kernel
theorem dX7_standsNow_27 : decode cX7_standsNow 27 = .ok (.goto 4, 3) := by decide +kernel
theorem dX7_standsNow_30 : decode cX7_standsNow 30 = .ok (.iconst 0, 1) := by decide +kernel
theorem dX7_standsNow_31 : decode cX7_standsNow 31 = .ok (.ireturn, 1) := by decide +kernel
theorem dX7_compare_0 : decode cX7_compare 0 = .ok (.aload_n 0, 1) := by decide +kernel
theorem dX7_compare_1 : decode cX7_compare 1 = .ok (.aload_n 0, 1) := by decide +kernel
theorem dX7_compare_2 : decode cX7_compare 2 = .ok (.getfield 13, 3) := by decide +kernel
theorem dX7_compare_5 : decode cX7_compare 5 = .ok (.iload_n 1, 1) := by decide +kernel
theorem dX7_compare_6 : decode cX7_compare 6 = .ok (.invokestatic 112, 3) := by decide +kernel
theorem dX7_compare_9 : decode cX7_compare 9 = .ok (.ifCond .eq 14, 3) := by decide +kernel
theorem dX7_compare_12 : decode cX7_compare 12 = .ok (.aload_n 0, 1) := by decide +kernel
theorem dX7_compare_13 : decode cX7_compare 13 = .ok (.getfield 13, 3) := by decide +kernel
theorem dX7_compare_16 : decode cX7_compare 16 = .ok (.iload_n 2, 1) := by decide +kernel
theorem dX7_compare_17 : decode cX7_compare 17 = .ok (.invokestatic 112, 3) := by decide +kernel
theorem dX7_compare_20 : decode cX7_compare 20 = .ok (.ifCond .ne 7, 3) := by decide +kernel
theorem dX7_compare_23 : decode cX7_compare 23 = .ok (.iconst 1, 1) := by decide +kernel
theorem dX7_compare_24 : decode cX7_compare 24 = .ok (.goto 18, 3) := by decide +kernel
theorem dX7_compare_27 : decode cX7_compare 27 = .ok (.iload_n 3, 1) := by decide +kernel
theorem dX7_compare_28 : decode cX7_compare 28 = .ok (.i2l, 1) := by decide +kernel
theorem dX7_compare_29 : decode cX7_compare 29 = .ok (.lconst 0, 1) := by decide +kernel
theorem dX7_compare_30 : decode cX7_compare 30 = .ok (.lconst 1, 1) := by decide +kernel
theorem dX7_compare_31 : decode cX7_compare 31 = .ok (.invokestatic 40, 3) := by decide +kernel
theorem dX7_compare_34 : decode cX7_compare 34 = .ok (.ifCond .eq 7, 3) := by decide +kernel
theorem dX7_compare_37 : decode cX7_compare 37 = .ok (.iconst 0, 1) := by decide +kernel
theorem dX7_compare_38 : decode cX7_compare 38 = .ok (.goto 4, 3) := by decide +kernel
theorem dX7_compare_41 : decode cX7_compare 41 = .ok (.iconst 2, 1) := by decide +kernel
theorem dX7_compare_42 : decode cX7_compare 42 = .ok (.invokevirtual 129, 3) := by decide +kernel
theorem dX7_compare_45 : decode cX7_compare 45 = .ok (.ifCond .eq 5, 3) := by decide +kernel
theorem dX7_compare_48 : decode cX7_compare 48 = .ok (.iconst 0, 1) := by decide +kernel
theorem dX7_compare_49 : decode cX7_compare 49 = .ok (.ireturn, 1) := by decide +kernel
theorem dX7_compare_50 : decode cX7_compare 50 = .ok (.aload_n 0, 1) := by decide +kernel
theorem dX7_compare_51 : decode cX7_compare 51 = .ok (.getfield 13, 3) := by decide +kernel
theorem dX7_compare_54 : decode cX7_compare 54 = .ok (.iload_n 1, 1) := by decide +kernel
theorem dX7_compare_55 : decode cX7_compare 55 = .ok (.iload_n 2, 1) := by decide +kernel
theorem dX7_compare_56 : decode cX7_compare 56 = .ok (.iload_n 3, 1) := by decide +kernel
theorem dX7_compare_57 : decode cX7_compare 57 = .ok (.invokestatic 219, 3) := by decide +kernel
theorem dX7_compare_60 : decode cX7_compare 60 = .ok (.ireturn, 1) := by decide +kernel
theorem dX7_compared_0 : decode cX7_compared 0 = .ok (.iconst 0, 1) := by decide +kernel
theorem dX7_compared_1 : decode cX7_compared 1 = .ok (.istore 4, 2) := by decide +kernel
theorem dX7_compared_3 : decode cX7_compared 3 = .ok (.iconst 0, 1) := by decide +kernel
theorem dX7_compared_4 : decode cX7_compared 4 = .ok (.istore 5, 2) := by decide +kernel
theorem dX7_compared_6 : decode cX7_compared 6 = .ok (.iload 5, 2) := by decide +kernel
theorem dX7_compared_8 : decode cX7_compared 8 = .ok (.aload_n 0, 1) := by decide +kernel
theorem dX7_compared_9 : decode cX7_compared 9 = .ok (.iload_n 1, 1) := by decide +kernel
theorem dX7_compared_10 : decode cX7_compared 10 = .ok (.bipush 67, 2) := by decide +kernel
theorem dX7_compared_12 : decode cX7_compared 12 = .ok (.invokestatic 44, 3) := by decide +kernel
theorem dX7_compared_15 : decode cX7_compared 15 = .ok (.if_icmp .ge 145, 3) := by decide +kernel
theorem dX7_compared_18 : decode cX7_compared 18 = .ok (.iconst 0, 1) := by decide +kernel
theorem dX7_compared_19 : decode cX7_compared 19 = .ok (.istore 6, 2) := by decide +kernel
theorem dX7_compared_21 : decode cX7_compared 21 = .ok (.iload 6, 2) := by decide +kernel
theorem dX7_compared_23 : decode cX7_compared 23 = .ok (.aload_n 0, 1) := by decide +kernel
theorem dX7_compared_24 : decode cX7_compared 24 = .ok (.iload_n 2, 1) := by decide +kernel
theorem dX7_compared_25 : decode cX7_compared 25 = .ok (.bipush 67, 2) := by decide +kernel
theorem dX7_compared_27 : decode cX7_compared 27 = .ok (.invokestatic 44, 3) := by decide +kernel
theorem dX7_compared_30 : decode cX7_compared 30 = .ok (.if_icmp .ge 124, 3) := by decide +kernel
theorem dX7_compared_33 : decode cX7_compared 33 = .ok (.aload_n 0, 1) := by decide +kernel
theorem dX7_compared_34 : decode cX7_compared 34 = .ok (.iload_n 1, 1) := by decide +kernel
theorem dX7_compared_35 : decode cX7_compared 35 = .ok (.bipush 68, 2) := by decide +kernel
theorem dX7_compared_37 : decode cX7_compared 37 = .ok (.iconst 3, 1) := by decide +kernel
theorem dX7_compared_38 : decode cX7_compared 38 = .ok (.iload 5, 2) := by decide +kernel
theorem dX7_compared_40 : decode cX7_compared 40 = .ok (.imul, 1) := by decide +kernel
theorem dX7_compared_41 : decode cX7_compared 41 = .ok (.iadd, 1) := by decide +kernel
theorem dX7_compared_42 : decode cX7_compared 42 = .ok (.invokestatic 44, 3) := by decide +kernel
theorem dX7_compared_45 : decode cX7_compared 45 = .ok (.aload_n 0, 1) := by decide +kernel
theorem dX7_compared_46 : decode cX7_compared 46 = .ok (.iload_n 2, 1) := by decide +kernel
theorem dX7_compared_47 : decode cX7_compared 47 = .ok (.bipush 68, 2) := by decide +kernel
theorem dX7_compared_49 : decode cX7_compared 49 = .ok (.iconst 3, 1) := by decide +kernel
theorem dX7_compared_50 : decode cX7_compared 50 = .ok (.iload 6, 2) := by decide +kernel
theorem dX7_compared_52 : decode cX7_compared 52 = .ok (.imul, 1) := by decide +kernel
theorem dX7_compared_53 : decode cX7_compared 53 = .ok (.iadd, 1) := by decide +kernel
theorem dX7_compared_54 : decode cX7_compared 54 = .ok (.invokestatic 44, 3) := by decide +kernel
theorem dX7_compared_57 : decode cX7_compared 57 = .ok (.if_icmp .ne 38, 3) := by decide +kernel
theorem dX7_compared_60 : decode cX7_compared 60 = .ok (.aload_n 0, 1) := by decide +kernel
theorem dX7_compared_61 : decode cX7_compared 61 = .ok (.iload_n 1, 1) := by decide +kernel
theorem dX7_compared_62 : decode cX7_compared 62 = .ok (.bipush 68, 2) := by decide +kernel
theorem dX7_compared_64 : decode cX7_compared 64 = .ok (.iconst 3, 1) := by decide +kernel
theorem dX7_compared_65 : decode cX7_compared 65 = .ok (.iload 5, 2) := by decide +kernel
theorem dX7_compared_67 : decode cX7_compared 67 = .ok (.imul, 1) := by decide +kernel
theorem dX7_compared_68 : decode cX7_compared 68 = .ok (.iadd, 1) := by decide +kernel
theorem dX7_compared_69 : decode cX7_compared 69 = .ok (.iconst 1, 1) := by decide +kernel
theorem dX7_compared_70 : decode cX7_compared 70 = .ok (.iadd, 1) := by decide +kernel
theorem dX7_compared_71 : decode cX7_compared 71 = .ok (.invokestatic 44, 3) := by decide +kernel
theorem dX7_compared_74 : decode cX7_compared 74 = .ok (.aload_n 0, 1) := by decide +kernel
theorem dX7_compared_75 : decode cX7_compared 75 = .ok (.iload_n 2, 1) := by decide +kernel
theorem dX7_compared_76 : decode cX7_compared 76 = .ok (.bipush 68, 2) := by decide +kernel
theorem dX7_compared_78 : decode cX7_compared 78 = .ok (.iconst 3, 1) := by decide +kernel
theorem dX7_compared_79 : decode cX7_compared 79 = .ok (.iload 6, 2) := by decide +kernel
theorem dX7_compared_81 : decode cX7_compared 81 = .ok (.imul, 1) := by decide +kernel
theorem dX7_compared_82 : decode cX7_compared 82 = .ok (.iadd, 1) := by decide +kernel
theorem dX7_compared_83 : decode cX7_compared 83 = .ok (.iconst 1, 1) := by decide +kernel
theorem dX7_compared_84 : decode cX7_compared 84 = .ok (.iadd, 1) := by decide +kernel
theorem dX7_compared_85 : decode cX7_compared 85 = .ok (.invokestatic 44, 3) := by decide +kernel
theorem dX7_compared_88 : decode cX7_compared 88 = .ok (.if_icmp .ne 7, 3) := by decide +kernel
theorem dX7_compared_91 : decode cX7_compared 91 = .ok (.iconst 1, 1) := by decide +kernel
theorem dX7_compared_92 : decode cX7_compared 92 = .ok (.goto 4, 3) := by decide +kernel
theorem dX7_compared_95 : decode cX7_compared 95 = .ok (.iconst 0, 1) := by decide +kernel
theorem dX7_compared_96 : decode cX7_compared 96 = .ok (.istore 7, 2) := by decide +kernel
theorem dX7_compared_98 : decode cX7_compared 98 = .ok (.iload 4, 2) := by decide +kernel
theorem dX7_compared_100 : decode cX7_compared 100 = .ok (.iload 7, 2) := by decide +kernel
theorem dX7_compared_102 : decode cX7_compared 102 = .ok (.ifCond .eq 42, 3) := by decide +kernel
theorem dX7_compared_105 : decode cX7_compared 105 = .ok (.iload_n 3, 1) := by decide +kernel
theorem dX7_compared_106 : decode cX7_compared 106 = .ok (.ifCond .eq 34, 3) := by decide +kernel
theorem dX7_compared_109 : decode cX7_compared 109 = .ok (.aload_n 0, 1) := by decide +kernel
theorem dX7_compared_110 : decode cX7_compared 110 = .ok (.iload_n 1, 1) := by decide +kernel
theorem dX7_compared_111 : decode cX7_compared 111 = .ok (.bipush 68, 2) := by decide +kernel
theorem dX7_compared_113 : decode cX7_compared 113 = .ok (.iconst 3, 1) := by decide +kernel
theorem dX7_compared_114 : decode cX7_compared 114 = .ok (.iload 5, 2) := by decide +kernel
theorem dX7_compared_116 : decode cX7_compared 116 = .ok (.imul, 1) := by decide +kernel
theorem dX7_compared_117 : decode cX7_compared 117 = .ok (.iadd, 1) := by decide +kernel
theorem dX7_compared_118 : decode cX7_compared 118 = .ok (.iconst 2, 1) := by decide +kernel
theorem dX7_compared_119 : decode cX7_compared 119 = .ok (.iadd, 1) := by decide +kernel
theorem dX7_compared_120 : decode cX7_compared 120 = .ok (.invokestatic 44, 3) := by decide +kernel
theorem dX7_compared_123 : decode cX7_compared 123 = .ok (.aload_n 0, 1) := by decide +kernel
theorem dX7_compared_124 : decode cX7_compared 124 = .ok (.iload_n 2, 1) := by decide +kernel
theorem dX7_compared_125 : decode cX7_compared 125 = .ok (.bipush 68, 2) := by decide +kernel
theorem dX7_compared_127 : decode cX7_compared 127 = .ok (.iconst 3, 1) := by decide +kernel
theorem dX7_compared_128 : decode cX7_compared 128 = .ok (.iload 6, 2) := by decide +kernel
theorem dX7_compared_130 : decode cX7_compared 130 = .ok (.imul, 1) := by decide +kernel
theorem dX7_compared_131 : decode cX7_compared 131 = .ok (.iadd, 1) := by decide +kernel
theorem dX7_compared_132 : decode cX7_compared 132 = .ok (.iconst 2, 1) := by decide +kernel
theorem dX7_compared_133 : decode cX7_compared 133 = .ok (.iadd, 1) := by decide +kernel
theorem dX7_compared_134 : decode cX7_compared 134 = .ok (.invokestatic 44, 3) := by decide +kernel
theorem dX7_compared_137 : decode cX7_compared 137 = .ok (.if_icmp .eq 7, 3) := by decide +kernel
theorem dX7_compared_140 : decode cX7_compared 140 = .ok (.iconst 1, 1) := by decide +kernel
theorem dX7_compared_141 : decode cX7_compared 141 = .ok (.goto 4, 3) := by decide +kernel
theorem dX7_compared_144 : decode cX7_compared 144 = .ok (.iconst 0, 1) := by decide +kernel
theorem dX7_compared_145 : decode cX7_compared 145 = .ok (.iadd, 1) := by decide +kernel
theorem dX7_compared_146 : decode cX7_compared 146 = .ok (.istore 4, 2) := by decide +kernel
theorem dX7_compared_148 : decode cX7_compared 148 = .ok (.iinc 6 1, 3) := by decide +kernel
theorem dX7_compared_151 : decode cX7_compared 151 = .ok (.goto (-130), 3) := by decide +kernel
theorem dX7_compared_154 : decode cX7_compared 154 = .ok (.iinc 5 1, 3) := by decide +kernel
theorem dX7_compared_157 : decode cX7_compared 157 = .ok (.goto (-151), 3) := by decide +kernel
theorem dX7_compared_160 : decode cX7_compared 160 = .ok (.iload 4, 2) := by decide +kernel
theorem dX7_compared_162 : decode cX7_compared 162 = .ok (.ireturn, 1) := by decide +kernel
theorem dX7_lacks_0 : decode cX7_lacks 0 = .ok (.aload_n 0, 1) := by decide +kernel
theorem dX7_lacks_1 : decode cX7_lacks 1 = .ok (.aload_n 0, 1) := by decide +kernel
theorem dX7_lacks_2 : decode cX7_lacks 2 = .ok (.getfield 13, 3) := by decide +kernel
theorem dX7_lacks_5 : decode cX7_lacks 5 = .ok (.iload_n 1, 1) := by decide +kernel
theorem dX7_lacks_6 : decode cX7_lacks 6 = .ok (.invokestatic 112, 3) := by decide +kernel
theorem dX7_lacks_9 : decode cX7_lacks 9 = .ok (.ifCond .eq 7, 3) := by decide +kernel
theorem dX7_lacks_12 : decode cX7_lacks 12 = .ok (.iconst 0, 1) := by decide +kernel
theorem dX7_lacks_13 : decode cX7_lacks 13 = .ok (.goto 4, 3) := by decide +kernel
theorem dX7_lacks_16 : decode cX7_lacks 16 = .ok (.iconst 1, 1) := by decide +kernel
theorem dX7_lacks_17 : decode cX7_lacks 17 = .ok (.invokevirtual 129, 3) := by decide +kernel
theorem dX7_lacks_20 : decode cX7_lacks 20 = .ok (.ifCond .eq 5, 3) := by decide +kernel
theorem dX7_lacks_23 : decode cX7_lacks 23 = .ok (.iconst 0, 1) := by decide +kernel
theorem dX7_lacks_24 : decode cX7_lacks 24 = .ok (.ireturn, 1) := by decide +kernel
theorem dX7_lacks_25 : decode cX7_lacks 25 = .ok (.iconst 0, 1) := by decide +kernel
theorem dX7_lacks_26 : decode cX7_lacks 26 = .ok (.istore_n 2, 1) := by decide +kernel
theorem dX7_lacks_27 : decode cX7_lacks 27 = .ok (.iconst 0, 1) := by decide +kernel
theorem dX7_lacks_28 : decode cX7_lacks 28 = .ok (.istore_n 3, 1) := by decide +kernel
theorem dX7_lacks_29 : decode cX7_lacks 29 = .ok (.iload_n 3, 1) := by decide +kernel
theorem dX7_lacks_30 : decode cX7_lacks 30 = .ok (.aload_n 0, 1) := by decide +kernel
theorem dX7_lacks_31 : decode cX7_lacks 31 = .ok (.getfield 13, 3) := by decide +kernel
theorem dX7_lacks_34 : decode cX7_lacks 34 = .ok (.iconst 0, 1) := by decide +kernel
theorem dX7_lacks_35 : decode cX7_lacks 35 = .ok (.iaload, 1) := by decide +kernel
theorem dX7_lacks_36 : decode cX7_lacks 36 = .ok (.if_icmp .ge 37, 3) := by decide +kernel
theorem dX7_lacks_39 : decode cX7_lacks 39 = .ok (.iload_n 2, 1) := by decide +kernel
theorem dX7_lacks_40 : decode cX7_lacks 40 = .ok (.aload_n 0, 1) := by decide +kernel
theorem dX7_lacks_41 : decode cX7_lacks 41 = .ok (.getfield 13, 3) := by decide +kernel
theorem dX7_lacks_44 : decode cX7_lacks 44 = .ok (.iload_n 1, 1) := by decide +kernel
theorem dX7_lacks_45 : decode cX7_lacks 45 = .ok (.iload_n 3, 1) := by decide +kernel
theorem dX7_lacks_46 : decode cX7_lacks 46 = .ok (.invokestatic 223, 3) := by decide +kernel
theorem dX7_lacks_49 : decode cX7_lacks 49 = .ok (.ifCond .eq 15, 3) := by decide +kernel
theorem dX7_lacks_52 : decode cX7_lacks 52 = .ok (.aload_n 0, 1) := by decide +kernel

theorem dX6_init_75 : decode cX6_init 75 = .ok (.getfield 36, 3) := by decide +kernel
theorem dX6_init_78 : decode cX6_init 78 = .ok (.iload_n 1, 1) := by decide +kernel
theorem dX6_init_79 : decode cX6_init 79 = .ok (.new 16, 3) := by decide +kernel
theorem dX6_init_82 : decode cX6_init 82 = .ok (.dup, 1) := by decide +kernel
theorem dX6_init_83 : decode cX6_init 83 = .ok (.invokespecial 18, 3) := by decide +kernel
theorem dX6_init_86 : decode cX6_init 86 = .ok (.aastore, 1) := by decide +kernel
theorem dX6_init_87 : decode cX6_init 87 = .ok (.iinc 1 1, 3) := by decide +kernel
theorem dX6_init_90 : decode cX6_init 90 = .ok (.goto (-21), 3) := by decide +kernel
theorem dX6_init_93 : decode cX6_init 93 = .ok (.aload_n 0, 1) := by decide +kernel
theorem dX6_init_94 : decode cX6_init 94 = .ok (.iconst 2, 1) := by decide +kernel
theorem dX6_init_95 : decode cX6_init 95 = .ok (.newarray .boolean, 2) := by decide +kernel
theorem dX6_init_97 : decode cX6_init 97 = .ok (.putfield 40, 3) := by decide +kernel
theorem dX6_init_100 : decode cX6_init 100 = .ok (.return_, 1) := by decide +kernel
theorem dX6_append_0 : decode cX6_append 0 = .ok (.iload_n 1, 1) := by decide +kernel
theorem dX6_append_1 : decode cX6_append 1 = .ok (.ifCond .lt 10, 3) := by decide +kernel
theorem dX6_append_4 : decode cX6_append 4 = .ok (.iload_n 1, 1) := by decide +kernel
theorem dX6_append_5 : decode cX6_append 5 = .ok (.sipush 255, 3) := by decide +kernel
theorem dX6_append_8 : decode cX6_append 8 = .ok (.if_icmp .le 13, 3) := by decide +kernel
theorem dX6_append_11 : decode cX6_append 11 = .ok (.new 44, 3) := by decide +kernel
theorem dX6_append_14 : decode cX6_append 14 = .ok (.dup, 1) := by decide +kernel
theorem dX6_append_15 : decode cX6_append 15 = .ok (.ldc 46, 2) := by decide +kernel
theorem dX6_append_17 : decode cX6_append 17 = .ok (.invokespecial 48, 3) := by decide +kernel
theorem dX6_append_20 : decode cX6_append 20 = .ok (.athrow, 1) := by decide +kernel
theorem dX6_append_21 : decode cX6_append 21 = .ok (.aload_n 0, 1) := by decide +kernel
theorem dX6_append_22 : decode cX6_append 22 = .ok (.getfield 10, 3) := by decide +kernel
theorem dX6_append_25 : decode cX6_append 25 = .ok (.getfield 51, 3) := by decide +kernel
theorem dX6_append_28 : decode cX6_append 28 = .ok (.bipush 120, 2) := by decide +kernel
theorem dX6_append_30 : decode cX6_append 30 = .ok (.if_icmp .lt 13, 3) := by decide +kernel
theorem dX6_append_33 : decode cX6_append 33 = .ok (.new 55, 3) := by decide +kernel
theorem dX6_append_36 : decode cX6_append 36 = .ok (.dup, 1) := by decide +kernel
theorem dX6_append_37 : decode cX6_append 37 = .ok (.ldc 57, 2) := by decide +kernel
theorem dX6_append_39 : decode cX6_append 39 = .ok (.invokespecial 59, 3) := by decide +kernel
theorem dX6_append_42 : decode cX6_append 42 = .ok (.athrow, 1) := by decide +kernel
theorem dX6_append_43 : decode cX6_append 43 = .ok (.aload_n 0, 1) := by decide +kernel
theorem dX6_append_44 : decode cX6_append 44 = .ok (.getfield 10, 3) := by decide +kernel
theorem dX6_append_47 : decode cX6_append 47 = .ok (.iload_n 1, 1) := by decide +kernel
theorem dX6_append_48 : decode cX6_append 48 = .ok (.invokevirtual 60, 3) := by decide +kernel
theorem dX6_append_51 : decode cX6_append 51 = .ok (.aload_n 0, 1) := by decide +kernel
theorem dX6_append_52 : decode cX6_append 52 = .ok (.getfield 10, 3) := by decide +kernel
theorem dX6_append_55 : decode cX6_append 55 = .ok (.getfield 51, 3) := by decide +kernel
theorem dX6_append_58 : decode cX6_append 58 = .ok (.ireturn, 1) := by decide +kernel
theorem dX6_clearText_0 : decode cX6_clearText 0 = .ok (.aload_n 0, 1) := by decide +kernel
theorem dX6_clearText_1 : decode cX6_clearText 1 = .ok (.getfield 10, 3) := by decide +kernel
theorem dX6_clearText_4 : decode cX6_clearText 4 = .ok (.getfield 51, 3) := by decide +kernel
theorem dX6_clearText_7 : decode cX6_clearText 7 = .ok (.istore_n 1, 1) := by decide +kernel
theorem dX6_clearText_8 : decode cX6_clearText 8 = .ok (.aload_n 0, 1) := by decide +kernel
theorem dX6_clearText_9 : decode cX6_clearText 9 = .ok (.getfield 10, 3) := by decide +kernel
theorem dX6_clearText_12 : decode cX6_clearText 12 = .ok (.iconst 0, 1) := by decide +kernel
theorem dX6_clearText_13 : decode cX6_clearText 13 = .ok (.putfield 51, 3) := by decide +kernel
theorem dX6_clearText_16 : decode cX6_clearText 16 = .ok (.iload_n 1, 1) := by decide +kernel
theorem dX6_clearText_17 : decode cX6_clearText 17 = .ok (.ireturn, 1) := by decide +kernel
theorem dX6_errorPosition_0 : decode cX6_errorPosition 0 = .ok (.aload_n 0, 1) := by decide +kernel
theorem dX6_errorPosition_1 : decode cX6_errorPosition 1 = .ok (.getfield 10, 3) := by decide +kernel
theorem dX6_errorPosition_4 : decode cX6_errorPosition 4 = .ok (.invokevirtual 64, 3) := by decide +kernel
theorem dX6_errorPosition_7 : decode cX6_errorPosition 7 = .ok (.ireturn, 1) := by decide +kernel
theorem dX6_load_0 : decode cX6_load 0 = .ok (.aload_n 0, 1) := by decide +kernel
theorem dX6_load_1 : decode cX6_load 1 = .ok (.getfield 10, 3) := by decide +kernel
theorem dX6_load_4 : decode cX6_load 4 = .ok (.invokevirtual 64, 3) := by decide +kernel
theorem dX6_load_7 : decode cX6_load 7 = .ok (.iconst (-1), 1) := by decide +kernel
theorem dX6_load_8 : decode cX6_load 8 = .ok (.if_icmp .eq 13, 3) := by decide +kernel
theorem dX6_load_11 : decode cX6_load 11 = .ok (.new 55, 3) := by decide +kernel
theorem dX6_load_14 : decode cX6_load 14 = .ok (.dup, 1) := by decide +kernel
theorem dX6_load_15 : decode cX6_load 15 = .ok (.ldc 68, 2) := by decide +kernel
theorem dX6_load_17 : decode cX6_load 17 = .ok (.invokespecial 59, 3) := by decide +kernel
theorem dX6_load_20 : decode cX6_load 20 = .ok (.athrow, 1) := by decide +kernel
theorem dX6_load_21 : decode cX6_load 21 = .ok (.aload_n 0, 1) := by decide +kernel
theorem dX6_load_22 : decode cX6_load 22 = .ok (.getfield 19, 3) := by decide +kernel
theorem dX6_load_25 : decode cX6_load 25 = .ok (.aload_n 0, 1) := by decide +kernel
theorem dX6_load_26 : decode cX6_load 26 = .ok (.getfield 23, 3) := by decide +kernel
theorem dX6_load_29 : decode cX6_load 29 = .ok (.invokevirtual 70, 3) := by decide +kernel
theorem dX6_load_32 : decode cX6_load 32 = .ok (.aload_n 0, 1) := by decide +kernel
theorem dX6_load_33 : decode cX6_load 33 = .ok (.getfield 32, 3) := by decide +kernel
theorem dX6_load_36 : decode cX6_load 36 = .ok (.iconst 0, 1) := by decide +kernel
theorem dX6_load_37 : decode cX6_load 37 = .ok (.putfield 74, 3) := by decide +kernel
theorem dX6_load_40 : decode cX6_load 40 = .ok (.iconst 0, 1) := by decide +kernel
theorem dX6_load_41 : decode cX6_load 41 = .ok (.istore_n 1, 1) := by decide +kernel
theorem dX6_load_42 : decode cX6_load 42 = .ok (.iload_n 1, 1) := by decide +kernel
theorem dX6_load_43 : decode cX6_load 43 = .ok (.iconst 2, 1) := by decide +kernel
theorem dX6_load_44 : decode cX6_load 44 = .ok (.if_icmp .ge 16, 3) := by decide +kernel
theorem dX6_load_47 : decode cX6_load 47 = .ok (.aload_n 0, 1) := by decide +kernel
theorem dX6_load_48 : decode cX6_load 48 = .ok (.getfield 40, 3) := by decide +kernel
theorem dX6_load_51 : decode cX6_load 51 = .ok (.iload_n 1, 1) := by decide +kernel
theorem dX6_load_52 : decode cX6_load 52 = .ok (.iconst 0, 1) := by decide +kernel
theorem dX6_load_53 : decode cX6_load 53 = .ok (.bastore, 1) := by decide +kernel
theorem dX6_load_54 : decode cX6_load 54 = .ok (.iinc 1 1, 3) := by decide +kernel
theorem dX6_load_57 : decode cX6_load 57 = .ok (.goto (-15), 3) := by decide +kernel
theorem dX6_load_60 : decode cX6_load 60 = .ok (.iconst 0, 1) := by decide +kernel
theorem dX6_load_61 : decode cX6_load 61 = .ok (.istore_n 1, 1) := by decide +kernel
theorem dX6_load_62 : decode cX6_load 62 = .ok (.iconst 1, 1) := by decide +kernel
theorem dX6_load_63 : decode cX6_load 63 = .ok (.istore_n 2, 1) := by decide +kernel
theorem dX6_load_64 : decode cX6_load 64 = .ok (.iload_n 2, 1) := by decide +kernel
theorem dX6_load_65 : decode cX6_load 65 = .ok (.aload_n 0, 1) := by decide +kernel
theorem dX6_load_66 : decode cX6_load 66 = .ok (.getfield 10, 3) := by decide +kernel
theorem dX6_load_69 : decode cX6_load 69 = .ok (.getfield 51, 3) := by decide +kernel
theorem dX6_load_72 : decode cX6_load 72 = .ok (.if_icmp .ge 56, 3) := by decide +kernel
theorem dX6_load_75 : decode cX6_load 75 = .ok (.aload_n 0, 1) := by decide +kernel
theorem dX6_load_76 : decode cX6_load 76 = .ok (.getfield 19, 3) := by decide +kernel
theorem dX6_load_79 : decode cX6_load 79 = .ok (.aload_n 0, 1) := by decide +kernel
theorem dX6_load_80 : decode cX6_load 80 = .ok (.getfield 10, 3) := by decide +kernel
theorem dX6_load_83 : decode cX6_load 83 = .ok (.iload_n 2, 1) := by decide +kernel
theorem dX6_load_84 : decode cX6_load 84 = .ok (.invokevirtual 77, 3) := by decide +kernel
theorem dX6_load_87 : decode cX6_load 87 = .ok (.aload_n 0, 1) := by decide +kernel
theorem dX6_load_88 : decode cX6_load 88 = .ok (.getfield 10, 3) := by decide +kernel
theorem dX6_load_91 : decode cX6_load 91 = .ok (.iload_n 2, 1) := by decide +kernel
theorem dX6_load_92 : decode cX6_load 92 = .ok (.invokevirtual 81, 3) := by decide +kernel
theorem dX6_load_95 : decode cX6_load 95 = .ok (.aload_n 0, 1) := by decide +kernel
theorem dX6_load_96 : decode cX6_load 96 = .ok (.getfield 10, 3) := by decide +kernel
theorem dX6_load_99 : decode cX6_load 99 = .ok (.iload_n 2, 1) := by decide +kernel
theorem dX6_load_100 : decode cX6_load 100 = .ok (.invokevirtual 84, 3) := by decide +kernel
theorem dX6_load_103 : decode cX6_load 103 = .ok (.invokevirtual 87, 3) := by decide +kernel
theorem dX6_load_106 : decode cX6_load 106 = .ok (.ifCond .ne 6, 3) := by decide +kernel
theorem dX6_load_109 : decode cX6_load 109 = .ok (.iinc 1 1, 3) := by decide +kernel
theorem dX6_load_112 : decode cX6_load 112 = .ok (.iload_n 2, 1) := by decide +kernel
theorem dX6_load_113 : decode cX6_load 113 = .ok (.iconst 1, 1) := by decide +kernel
theorem dX6_load_114 : decode cX6_load 114 = .ok (.aload_n 0, 1) := by decide +kernel
theorem dX6_load_115 : decode cX6_load 115 = .ok (.getfield 10, 3) := by decide +kernel
theorem dX6_load_118 : decode cX6_load 118 = .ok (.iload_n 2, 1) := by decide +kernel
theorem dX6_load_119 : decode cX6_load 119 = .ok (.invokevirtual 91, 3) := by decide +kernel
theorem dX6_load_122 : decode cX6_load 122 = .ok (.iadd, 1) := by decide +kernel
theorem dX6_load_123 : decode cX6_load 123 = .ok (.iadd, 1) := by decide +kernel
theorem dX6_load_124 : decode cX6_load 124 = .ok (.istore_n 2, 1) := by decide +kernel
theorem dX6_load_125 : decode cX6_load 125 = .ok (.goto (-61), 3) := by decide +kernel
theorem dX6_load_128 : decode cX6_load 128 = .ok (.iload_n 1, 1) := by decide +kernel
theorem dX6_load_129 : decode cX6_load 129 = .ok (.ireturn, 1) := by decide +kernel
theorem dX6_about_0 : decode cX6_about 0 = .ok (.iload_n 1, 1) := by decide +kernel
theorem dX6_about_1 : decode cX6_about 1 = .ok (.tableswitch 143 0 9 #[55, 63, 71, 82, 93, 101, 109, 117, 126, 135], 55) := by decide +kernel
theorem dX6_about_56 : decode cX6_about 56 = .ok (.aload_n 0, 1) := by decide +kernel
theorem dX6_about_57 : decode cX6_about 57 = .ok (.getfield 19, 3) := by decide +kernel
theorem dX6_about_60 : decode cX6_about 60 = .ok (.getfield 94, 3) := by decide +kernel
theorem dX6_about_63 : decode cX6_about 63 = .ok (.ireturn, 1) := by decide +kernel
theorem dX6_about_64 : decode cX6_about 64 = .ok (.aload_n 0, 1) := by decide +kernel
theorem dX6_about_65 : decode cX6_about 65 = .ok (.getfield 19, 3) := by decide +kernel
theorem dX6_about_68 : decode cX6_about 68 = .ok (.getfield 95, 3) := by decide +kernel
theorem dX6_about_71 : decode cX6_about 71 = .ok (.ireturn, 1) := by decide +kernel
theorem dX6_about_72 : decode cX6_about 72 = .ok (.aload_n 0, 1) := by decide +kernel
theorem dX6_about_73 : decode cX6_about 73 = .ok (.getfield 19, 3) := by decide +kernel
theorem dX6_about_76 : decode cX6_about 76 = .ok (.getfield 98, 3) := by decide +kernel
theorem dX6_about_79 : decode cX6_about 79 = .ok (.getfield 102, 3) := by decide +kernel
theorem dX6_about_82 : decode cX6_about 82 = .ok (.ireturn, 1) := by decide +kernel
theorem dX6_about_83 : decode cX6_about 83 = .ok (.aload_n 0, 1) := by decide +kernel
theorem dX6_about_84 : decode cX6_about 84 = .ok (.getfield 19, 3) := by decide +kernel
theorem dX6_about_87 : decode cX6_about 87 = .ok (.getfield 98, 3) := by decide +kernel
theorem dX6_about_90 : decode cX6_about 90 = .ok (.getfield 105, 3) := by decide +kernel
theorem dX6_about_93 : decode cX6_about 93 = .ok (.ireturn, 1) := by decide +kernel
theorem dX6_about_94 : decode cX6_about 94 = .ok (.aload_n 0, 1) := by decide +kernel
theorem dX6_about_95 : decode cX6_about 95 = .ok (.getfield 19, 3) := by decide +kernel
theorem dX6_about_98 : decode cX6_about 98 = .ok (.getfield 108, 3) := by decide +kernel
theorem dX6_about_101 : decode cX6_about 101 = .ok (.ireturn, 1) := by decide +kernel
theorem dX6_about_102 : decode cX6_about 102 = .ok (.aload_n 0, 1) := by decide +kernel
theorem dX6_about_103 : decode cX6_about 103 = .ok (.getfield 19, 3) := by decide +kernel
theorem dX6_about_106 : decode cX6_about 106 = .ok (.getfield 111, 3) := by decide +kernel
theorem dX6_about_109 : decode cX6_about 109 = .ok (.ireturn, 1) := by decide +kernel
theorem dX6_about_110 : decode cX6_about 110 = .ok (.aload_n 0, 1) := by decide +kernel
theorem dX6_about_111 : decode cX6_about 111 = .ok (.getfield 19, 3) := by decide +kernel
theorem dX6_about_114 : decode cX6_about 114 = .ok (.getfield 114, 3) := by decide +kernel
theorem dX6_about_117 : decode cX6_about 117 = .ok (.ireturn, 1) := by decide +kernel
theorem dX6_about_118 : decode cX6_about 118 = .ok (.aload_n 0, 1) := by decide +kernel
theorem dX6_about_119 : decode cX6_about 119 = .ok (.getfield 19, 3) := by decide +kernel
theorem dX6_about_122 : decode cX6_about 122 = .ok (.iconst 0, 1) := by decide +kernel
theorem dX6_about_123 : decode cX6_about 123 = .ok (.invokevirtual 117, 3) := by decide +kernel
theorem dX6_about_126 : decode cX6_about 126 = .ok (.ireturn, 1) := by decide +kernel
theorem dX6_about_127 : decode cX6_about 127 = .ok (.aload_n 0, 1) := by decide +kernel
theorem dX6_about_128 : decode cX6_about 128 = .ok (.getfield 19, 3) := by decide +kernel
theorem dX6_about_131 : decode cX6_about 131 = .ok (.iconst 2, 1) := by decide +kernel
theorem dX6_about_132 : decode cX6_about 132 = .ok (.invokevirtual 117, 3) := by decide +kernel
theorem dX6_about_135 : decode cX6_about 135 = .ok (.ireturn, 1) := by decide +kernel
theorem dX6_about_136 : decode cX6_about 136 = .ok (.aload_n 0, 1) := by decide +kernel
theorem dX6_about_137 : decode cX6_about 137 = .ok (.getfield 19, 3) := by decide +kernel
theorem dX6_about_140 : decode cX6_about 140 = .ok (.getfield 120, 3) := by decide +kernel
theorem dX6_about_143 : decode cX6_about 143 = .ok (.ireturn, 1) := by decide +kernel
theorem dX6_about_144 : decode cX6_about 144 = .ok (.new 44, 3) := by decide +kernel
theorem dX6_about_147 : decode cX6_about 147 = .ok (.dup, 1) := by decide +kernel
theorem dX6_about_148 : decode cX6_about 148 = .ok (.ldc 123, 2) := by decide +kernel
theorem dX6_about_150 : decode cX6_about 150 = .ok (.invokespecial 48, 3) := by decide +kernel
theorem dX6_about_153 : decode cX6_about 153 = .ok (.athrow, 1) := by decide +kernel
theorem dX6_memberOf_0 : decode cX6_memberOf 0 = .ok (.aload_n 0, 1) := by decide +kernel
theorem dX6_memberOf_1 : decode cX6_memberOf 1 = .ok (.iload_n 1, 1) := by decide +kernel
theorem dX6_memberOf_2 : decode cX6_memberOf 2 = .ok (.invokevirtual 125, 3) := by decide +kernel
theorem dX6_memberOf_5 : decode cX6_memberOf 5 = .ok (.aload_n 0, 1) := by decide +kernel
theorem dX6_memberOf_6 : decode cX6_memberOf 6 = .ok (.getfield 19, 3) := by decide +kernel
theorem dX6_memberOf_9 : decode cX6_memberOf 9 = .ok (.getfield 128, 3) := by decide +kernel
theorem dX6_memberOf_12 : decode cX6_memberOf 12 = .ok (.iload_n 1, 1) := by decide +kernel
theorem dX6_memberOf_13 : decode cX6_memberOf 13 = .ok (.aaload, 1) := by decide +kernel
theorem dX6_memberOf_14 : decode cX6_memberOf 14 = .ok (.astore_n 3, 1) := by decide +kernel
theorem dX6_memberOf_15 : decode cX6_memberOf 15 = .ok (.iload_n 2, 1) := by decide +kernel
theorem dX6_memberOf_16 : decode cX6_memberOf 16 = .ok (.tableswitch 130 0 11 #[64, 69, 74, 79, 84, 89, 94, 99, 104, 109, 114, 122], 64) := by decide +kernel
theorem dX6_memberOf_80 : decode cX6_memberOf 80 = .ok (.aload_n 3, 1) := by decide +kernel
theorem dX6_memberOf_81 : decode cX6_memberOf 81 = .ok (.getfield 132, 3) := by decide +kernel
theorem dX6_memberOf_84 : decode cX6_memberOf 84 = .ok (.ireturn, 1) := by decide +kernel
theorem dX6_memberOf_85 : decode cX6_memberOf 85 = .ok (.aload_n 3, 1) := by decide +kernel
theorem dX6_memberOf_86 : decode cX6_memberOf 86 = .ok (.getfield 137, 3) := by decide +kernel
theorem dX6_memberOf_89 : decode cX6_memberOf 89 = .ok (.ireturn, 1) := by decide +kernel
theorem dX6_memberOf_90 : decode cX6_memberOf 90 = .ok (.aload_n 3, 1) := by decide +kernel
theorem dX6_memberOf_91 : decode cX6_memberOf 91 = .ok (.getfield 140, 3) := by decide +kernel
theorem dX6_memberOf_94 : decode cX6_memberOf 94 = .ok (.ireturn, 1) := by decide +kernel
theorem dX6_memberOf_95 : decode cX6_memberOf 95 = .ok (.aload_n 3, 1) := by decide +kernel
theorem dX6_memberOf_96 : decode cX6_memberOf 96 = .ok (.getfield 143, 3) := by decide +kernel
theorem dX6_memberOf_99 : decode cX6_memberOf 99 = .ok (.ireturn, 1) := by decide +kernel
theorem dX6_memberOf_100 : decode cX6_memberOf 100 = .ok (.aload_n 3, 1) := by decide +kernel
theorem dX6_memberOf_101 : decode cX6_memberOf 101 = .ok (.getfield 146, 3) := by decide +kernel
theorem dX6_memberOf_104 : decode cX6_memberOf 104 = .ok (.ireturn, 1) := by decide +kernel
theorem dX6_memberOf_105 : decode cX6_memberOf 105 = .ok (.aload_n 3, 1) := by decide +kernel
theorem dX6_memberOf_106 : decode cX6_memberOf 106 = .ok (.getfield 149, 3) := by decide +kernel
theorem dX6_memberOf_109 : decode cX6_memberOf 109 = .ok (.ireturn, 1) := by decide +kernel
theorem dX6_memberOf_110 : decode cX6_memberOf 110 = .ok (.aload_n 3, 1) := by decide +kernel
theorem dX6_memberOf_111 : decode cX6_memberOf 111 = .ok (.getfield 152, 3) := by decide +kernel
theorem dX6_memberOf_114 : decode cX6_memberOf 114 = .ok (.ireturn, 1) := by decide +kernel
theorem dX6_memberOf_115 : decode cX6_memberOf 115 = .ok (.aload_n 3, 1) := by decide +kernel
theorem dX6_memberOf_116 : decode cX6_memberOf 116 = .ok (.getfield 155, 3) := by decide +kernel
theorem dX6_memberOf_119 : decode cX6_memberOf 119 = .ok (.ireturn, 1) := by decide +kernel
theorem dX6_memberOf_120 : decode cX6_memberOf 120 = .ok (.aload_n 3, 1) := by decide +kernel
theorem dX6_memberOf_121 : decode cX6_memberOf 121 = .ok (.getfield 156, 3) := by decide +kernel
theorem dX6_memberOf_124 : decode cX6_memberOf 124 = .ok (.ireturn, 1) := by decide +kernel
theorem dX6_memberOf_125 : decode cX6_memberOf 125 = .ok (.aload_n 3, 1) := by decide +kernel
theorem dX6_memberOf_126 : decode cX6_memberOf 126 = .ok (.getfield 159, 3) := by decide +kernel
theorem dX6_memberOf_129 : decode cX6_memberOf 129 = .ok (.ireturn, 1) := by decide +kernel
theorem dX6_memberOf_130 : decode cX6_memberOf 130 = .ok (.aload_n 3, 1) := by decide +kernel
theorem dX6_memberOf_131 : decode cX6_memberOf 131 = .ok (.getfield 162, 3) := by decide +kernel
theorem dX6_memberOf_134 : decode cX6_memberOf 134 = .ok (.getfield 166, 3) := by decide +kernel
theorem dX6_memberOf_137 : decode cX6_memberOf 137 = .ok (.ireturn, 1) := by decide +kernel
theorem dX6_memberOf_138 : decode cX6_memberOf 138 = .ok (.aload_n 3, 1) := by decide +kernel
theorem dX6_memberOf_139 : decode cX6_memberOf 139 = .ok (.getfield 169, 3) := by decide +kernel
theorem dX6_memberOf_142 : decode cX6_memberOf 142 = .ok (.getfield 166, 3) := by decide +kernel
theorem dX6_memberOf_145 : decode cX6_memberOf 145 = .ok (.ireturn, 1) := by decide +kernel
theorem dX6_memberOf_146 : decode cX6_memberOf 146 = .ok (.new 44, 3) := by decide +kernel
theorem dX6_memberOf_149 : decode cX6_memberOf 149 = .ok (.dup, 1) := by decide +kernel
theorem dX6_memberOf_150 : decode cX6_memberOf 150 = .ok (.ldc 172, 2) := by decide +kernel
theorem dX6_memberOf_152 : decode cX6_memberOf 152 = .ok (.invokespecial 48, 3) := by decide +kernel
theorem dX6_memberOf_155 : decode cX6_memberOf 155 = .ok (.athrow, 1) := by decide +kernel
theorem dX6_session_0 : decode cX6_session 0 = .ok (.aload_n 0, 1) := by decide +kernel
theorem dX6_session_1 : decode cX6_session 1 = .ok (.iload_n 1, 1) := by decide +kernel
theorem dX6_session_2 : decode cX6_session 2 = .ok (.invokevirtual 125, 3) := by decide +kernel
theorem dX6_session_5 : decode cX6_session 5 = .ok (.aload_n 0, 1) := by decide +kernel
theorem dX6_session_6 : decode cX6_session 6 = .ok (.getfield 19, 3) := by decide +kernel
theorem dX6_session_9 : decode cX6_session 9 = .ok (.getfield 128, 3) := by decide +kernel
theorem dX6_session_12 : decode cX6_session 12 = .ok (.iload_n 1, 1) := by decide +kernel
theorem dX6_session_13 : decode cX6_session 13 = .ok (.aaload, 1) := by decide +kernel
theorem dX6_session_14 : decode cX6_session 14 = .ok (.getfield 169, 3) := by decide +kernel
theorem dX6_session_17 : decode cX6_session 17 = .ok (.astore 4, 2) := by decide +kernel
theorem dX6_session_19 : decode cX6_session 19 = .ok (.iload_n 2, 1) := by decide +kernel
theorem dX6_session_20 : decode cX6_session 20 = .ok (.ifCond .lt 12, 3) := by decide +kernel
theorem dX6_session_23 : decode cX6_session 23 = .ok (.iload_n 2, 1) := by decide +kernel
theorem dX6_session_24 : decode cX6_session 24 = .ok (.aload 4, 2) := by decide +kernel
theorem dX6_session_26 : decode cX6_session 26 = .ok (.getfield 166, 3) := by decide +kernel
theorem dX6_session_29 : decode cX6_session 29 = .ok (.if_icmp .lt 13, 3) := by decide +kernel
theorem dX6_session_32 : decode cX6_session 32 = .ok (.new 174, 3) := by decide +kernel
theorem dX6_session_35 : decode cX6_session 35 = .ok (.dup, 1) := by decide +kernel
theorem dX6_session_36 : decode cX6_session 36 = .ok (.ldc 176, 2) := by decide +kernel
theorem dX6_session_38 : decode cX6_session 38 = .ok (.invokespecial 178, 3) := by decide +kernel
theorem dX6_session_41 : decode cX6_session 41 = .ok (.athrow, 1) := by decide +kernel
theorem dX6_session_42 : decode cX6_session 42 = .ok (.iload_n 3, 1) := by decide +kernel
theorem dX6_session_43 : decode cX6_session 43 = .ok (.tableswitch 49 0 2 #[25, 33, 41], 25) := by decide +kernel
theorem dX6_session_68 : decode cX6_session 68 = .ok (.aload 4, 2) := by decide +kernel
theorem dX6_session_70 : decode cX6_session 70 = .ok (.getfield 179, 3) := by decide +kernel
theorem dX6_session_73 : decode cX6_session 73 = .ok (.iload_n 2, 1) := by decide +kernel
theorem dX6_session_74 : decode cX6_session 74 = .ok (.iaload, 1) := by decide +kernel
theorem dX6_session_75 : decode cX6_session 75 = .ok (.ireturn, 1) := by decide +kernel
theorem dX6_session_76 : decode cX6_session 76 = .ok (.aload 4, 2) := by decide +kernel
theorem dX6_session_78 : decode cX6_session 78 = .ok (.getfield 183, 3) := by decide +kernel
theorem dX6_session_81 : decode cX6_session 81 = .ok (.iload_n 2, 1) := by decide +kernel
theorem dX6_session_82 : decode cX6_session 82 = .ok (.iaload, 1) := by decide +kernel
theorem dX6_session_83 : decode cX6_session 83 = .ok (.ireturn, 1) := by decide +kernel
theorem dX6_session_84 : decode cX6_session 84 = .ok (.aload 4, 2) := by decide +kernel
theorem dX6_session_86 : decode cX6_session 86 = .ok (.getfield 186, 3) := by decide +kernel
theorem dX6_session_89 : decode cX6_session 89 = .ok (.iload_n 2, 1) := by decide +kernel
theorem dX6_session_90 : decode cX6_session 90 = .ok (.iaload, 1) := by decide +kernel
theorem dX6_session_91 : decode cX6_session 91 = .ok (.ireturn, 1) := by decide +kernel
theorem dX6_session_92 : decode cX6_session 92 = .ok (.new 44, 3) := by decide +kernel
theorem dX6_session_95 : decode cX6_session 95 = .ok (.dup, 1) := by decide +kernel
theorem dX6_session_96 : decode cX6_session 96 = .ok (.ldc 188, 2) := by decide +kernel
theorem dX6_session_98 : decode cX6_session 98 = .ok (.invokespecial 48, 3) := by decide +kernel
theorem dX6_session_101 : decode cX6_session 101 = .ok (.athrow, 1) := by decide +kernel
theorem dX6_note_0 : decode cX6_note 0 = .ok (.iload_n 1, 1) := by decide +kernel
theorem dX6_note_1 : decode cX6_note 1 = .ok (.ifCond .lt 17, 3) := by decide +kernel
theorem dX6_note_4 : decode cX6_note 4 = .ok (.iload_n 1, 1) := by decide +kernel
theorem dX6_note_5 : decode cX6_note 5 = .ok (.aload_n 0, 1) := by decide +kernel
theorem dX6_note_6 : decode cX6_note 6 = .ok (.getfield 19, 3) := by decide +kernel
theorem dX6_note_9 : decode cX6_note 9 = .ok (.getfield 98, 3) := by decide +kernel
theorem dX6_note_12 : decode cX6_note 12 = .ok (.getfield 102, 3) := by decide +kernel
theorem dX6_note_15 : decode cX6_note 15 = .ok (.if_icmp .lt 13, 3) := by decide +kernel
theorem dX6_note_18 : decode cX6_note 18 = .ok (.new 174, 3) := by decide +kernel
theorem dX6_note_21 : decode cX6_note 21 = .ok (.dup, 1) := by decide +kernel
theorem dX6_note_22 : decode cX6_note 22 = .ok (.ldc 190, 2) := by decide +kernel
theorem dX6_note_24 : decode cX6_note 24 = .ok (.invokespecial 178, 3) := by decide +kernel
theorem dX6_note_27 : decode cX6_note 27 = .ok (.athrow, 1) := by decide +kernel
theorem dX6_note_28 : decode cX6_note 28 = .ok (.iload_n 2, 1) := by decide +kernel
theorem dX6_note_29 : decode cX6_note 29 = .ok (.ifCond .lt 9, 3) := by decide +kernel
theorem dX6_note_32 : decode cX6_note 32 = .ok (.iload_n 2, 1) := by decide +kernel
theorem dX6_note_33 : decode cX6_note 33 = .ok (.bipush 6, 2) := by decide +kernel
theorem dX6_note_35 : decode cX6_note 35 = .ok (.if_icmp .lt 13, 3) := by decide +kernel
theorem dX6_note_38 : decode cX6_note 38 = .ok (.new 44, 3) := by decide +kernel
theorem dX6_note_41 : decode cX6_note 41 = .ok (.dup, 1) := by decide +kernel
theorem dX6_note_42 : decode cX6_note 42 = .ok (.ldc 192, 2) := by decide +kernel
theorem dX6_note_44 : decode cX6_note 44 = .ok (.invokespecial 48, 3) := by decide +kernel
theorem dX6_note_47 : decode cX6_note 47 = .ok (.athrow, 1) := by decide +kernel
theorem dX6_note_48 : decode cX6_note 48 = .ok (.aload_n 0, 1) := by decide +kernel
theorem dX6_note_49 : decode cX6_note 49 = .ok (.getfield 19, 3) := by decide +kernel
theorem dX6_note_52 : decode cX6_note 52 = .ok (.getfield 98, 3) := by decide +kernel
theorem dX6_note_55 : decode cX6_note 55 = .ok (.getfield 194, 3) := by decide +kernel
theorem dX6_note_58 : decode cX6_note 58 = .ok (.iload_n 1, 1) := by decide +kernel
theorem dX6_note_59 : decode cX6_note 59 = .ok (.bipush 9, 2) := by decide +kernel
theorem dX6_note_61 : decode cX6_note 61 = .ok (.imul, 1) := by decide +kernel
theorem dX6_note_62 : decode cX6_note 62 = .ok (.iload_n 2, 1) := by decide +kernel
theorem dX6_note_63 : decode cX6_note 63 = .ok (.iadd, 1) := by decide +kernel
theorem dX6_note_64 : decode cX6_note 64 = .ok (.iaload, 1) := by decide +kernel
theorem dX6_note_65 : decode cX6_note 65 = .ok (.ireturn, 1) := by decide +kernel
theorem dX6_isCut_0 : decode cX6_isCut 0 = .ok (.aload_n 0, 1) := by decide +kernel
theorem dX6_isCut_1 : decode cX6_isCut 1 = .ok (.iload_n 1, 1) := by decide +kernel
theorem dX6_isCut_2 : decode cX6_isCut 2 = .ok (.invokevirtual 125, 3) := by decide +kernel
theorem dX6_isCut_5 : decode cX6_isCut 5 = .ok (.aload_n 0, 1) := by decide +kernel
theorem dX6_isCut_6 : decode cX6_isCut 6 = .ok (.iload_n 2, 1) := by decide +kernel
theorem dX6_isCut_7 : decode cX6_isCut 7 = .ok (.invokevirtual 125, 3) := by decide +kernel
theorem dX6_isCut_10 : decode cX6_isCut 10 = .ok (.aload_n 0, 1) := by decide +kernel
theorem dX6_isCut_11 : decode cX6_isCut 11 = .ok (.getfield 19, 3) := by decide +kernel
theorem dX6_isCut_14 : decode cX6_isCut 14 = .ok (.getfield 98, 3) := by decide +kernel
theorem dX6_isCut_17 : decode cX6_isCut 17 = .ok (.iload_n 1, 1) := by decide +kernel
theorem dX6_isCut_18 : decode cX6_isCut 18 = .ok (.iload_n 2, 1) := by decide +kernel
theorem dX6_isCut_19 : decode cX6_isCut 19 = .ok (.invokevirtual 197, 3) := by decide +kernel
theorem dX6_isCut_22 : decode cX6_isCut 22 = .ok (.ifCond .eq 7, 3) := by decide +kernel
theorem dX6_isCut_25 : decode cX6_isCut 25 = .ok (.iconst 1, 1) := by decide +kernel
theorem dX6_isCut_26 : decode cX6_isCut 26 = .ok (.goto 4, 3) := by decide +kernel
theorem dX6_isCut_29 : decode cX6_isCut 29 = .ok (.iconst 0, 1) := by decide +kernel
theorem dX6_isCut_30 : decode cX6_isCut 30 = .ok (.ireturn, 1) := by decide +kernel
theorem dX6_member_0 : decode cX6_member 0 = .ok (.iload_n 1, 1) := by decide +kernel
theorem dX6_member_1 : decode cX6_member 1 = .ok (.invokestatic 201, 3) := by decide +kernel
theorem dX6_member_4 : decode cX6_member 4 = .ok (.ifCond .ne 13, 3) := by decide +kernel
theorem dX6_member_7 : decode cX6_member 7 = .ok (.new 44, 3) := by decide +kernel
theorem dX6_member_10 : decode cX6_member 10 = .ok (.dup, 1) := by decide +kernel
theorem dX6_member_11 : decode cX6_member 11 = .ok (.ldc 205, 2) := by decide +kernel
theorem dX6_member_13 : decode cX6_member 13 = .ok (.invokespecial 48, 3) := by decide +kernel
theorem dX6_member_16 : decode cX6_member 16 = .ok (.athrow, 1) := by decide +kernel
theorem dX6_member_17 : decode cX6_member 17 = .ok (.aload_n 0, 1) := by decide +kernel
theorem dX6_member_18 : decode cX6_member 18 = .ok (.getfield 19, 3) := by decide +kernel
theorem dX6_member_21 : decode cX6_member 21 = .ok (.getfield 94, 3) := by decide +kernel
theorem dX6_member_24 : decode cX6_member 24 = .ok (.bipush 6, 2) := by decide +kernel
theorem dX6_member_26 : decode cX6_member 26 = .ok (.if_icmp .lt 13, 3) := by decide +kernel
theorem dX6_member_29 : decode cX6_member 29 = .ok (.new 55, 3) := by decide +kernel
theorem dX6_member_32 : decode cX6_member 32 = .ok (.dup, 1) := by decide +kernel
theorem dX6_member_33 : decode cX6_member 33 = .ok (.ldc 207, 2) := by decide +kernel
theorem dX6_member_35 : decode cX6_member 35 = .ok (.invokespecial 59, 3) := by decide +kernel
theorem dX6_member_38 : decode cX6_member 38 = .ok (.athrow, 1) := by decide +kernel
theorem dX6_member_39 : decode cX6_member 39 = .ok (.aload_n 0, 1) := by decide +kernel
theorem dX6_member_40 : decode cX6_member 40 = .ok (.getfield 32, 3) := by decide +kernel
theorem dX6_member_43 : decode cX6_member 43 = .ok (.aload_n 0, 1) := by decide +kernel
theorem dX6_member_44 : decode cX6_member 44 = .ok (.getfield 19, 3) := by decide +kernel
theorem dX6_member_47 : decode cX6_member 47 = .ok (.invokevirtual 209, 3) := by decide +kernel
theorem dX6_member_50 : decode cX6_member 50 = .ok (.aload_n 0, 1) := by decide +kernel
theorem dX6_member_51 : decode cX6_member 51 = .ok (.getfield 19, 3) := by decide +kernel
theorem dX6_member_54 : decode cX6_member 54 = .ok (.iload_n 1, 1) := by decide +kernel
theorem dX6_member_55 : decode cX6_member 55 = .ok (.invokevirtual 212, 3) := by decide +kernel
theorem dX6_member_58 : decode cX6_member 58 = .ok (.ireturn, 1) := by decide +kernel
theorem dX6_say_0 : decode cX6_say 0 = .ok (.aload_n 0, 1) := by decide +kernel
theorem dX6_say_1 : decode cX6_say 1 = .ok (.iload_n 1, 1) := by decide +kernel
theorem dX6_say_2 : decode cX6_say 2 = .ok (.invokevirtual 125, 3) := by decide +kernel
theorem dX6_say_5 : decode cX6_say 5 = .ok (.aload_n 0, 1) := by decide +kernel
theorem dX6_say_6 : decode cX6_say 6 = .ok (.getfield 19, 3) := by decide +kernel
theorem dX6_say_9 : decode cX6_say 9 = .ok (.getfield 128, 3) := by decide +kernel
theorem dX6_say_12 : decode cX6_say 12 = .ok (.iload_n 1, 1) := by decide +kernel
theorem dX6_say_13 : decode cX6_say 13 = .ok (.aaload, 1) := by decide +kernel
theorem dX6_say_14 : decode cX6_say 14 = .ok (.invokevirtual 215, 3) := by decide +kernel
theorem dX6_say_17 : decode cX6_say 17 = .ok (.ifCond .ne 13, 3) := by decide +kernel
theorem dX6_say_20 : decode cX6_say 20 = .ok (.new 55, 3) := by decide +kernel
theorem dX6_say_23 : decode cX6_say 23 = .ok (.dup, 1) := by decide +kernel
theorem dX6_say_24 : decode cX6_say 24 = .ok (.ldc 219, 2) := by decide +kernel
theorem dX6_say_26 : decode cX6_say 26 = .ok (.invokespecial 59, 3) := by decide +kernel
theorem dX6_say_29 : decode cX6_say 29 = .ok (.athrow, 1) := by decide +kernel
theorem dX6_say_30 : decode cX6_say 30 = .ok (.aload_n 0, 1) := by decide +kernel
theorem dX6_say_31 : decode cX6_say 31 = .ok (.getfield 32, 3) := by decide +kernel
theorem dX6_say_34 : decode cX6_say 34 = .ok (.aload_n 0, 1) := by decide +kernel
theorem dX6_say_35 : decode cX6_say 35 = .ok (.getfield 19, 3) := by decide +kernel
theorem dX6_say_38 : decode cX6_say 38 = .ok (.invokevirtual 209, 3) := by decide +kernel
theorem dX6_say_41 : decode cX6_say 41 = .ok (.aload_n 0, 1) := by decide +kernel
theorem dX6_say_42 : decode cX6_say 42 = .ok (.getfield 19, 3) := by decide +kernel
theorem dX6_say_45 : decode cX6_say 45 = .ok (.iload_n 1, 1) := by decide +kernel
theorem dX6_say_46 : decode cX6_say 46 = .ok (.invokevirtual 221, 3) := by decide +kernel
theorem dX6_say_49 : decode cX6_say 49 = .ok (.ireturn, 1) := by decide +kernel
theorem dX6_call_0 : decode cX6_call 0 = .ok (.aload_n 0, 1) := by decide +kernel
theorem dX6_call_1 : decode cX6_call 1 = .ok (.iload_n 1, 1) := by decide +kernel
theorem dX6_call_2 : decode cX6_call 2 = .ok (.invokevirtual 125, 3) := by decide +kernel
theorem dX6_call_5 : decode cX6_call 5 = .ok (.aload_n 0, 1) := by decide +kernel
theorem dX6_call_6 : decode cX6_call 6 = .ok (.getfield 19, 3) := by decide +kernel
theorem dX6_call_9 : decode cX6_call 9 = .ok (.iload_n 1, 1) := by decide +kernel
theorem dX6_call_10 : decode cX6_call 10 = .ok (.iload_n 2, 1) := by decide +kernel
theorem dX6_call_11 : decode cX6_call 11 = .ok (.invokevirtual 224, 3) := by decide +kernel
theorem dX6_call_14 : decode cX6_call 14 = .ok (.ifCond .ne 13, 3) := by decide +kernel
theorem dX6_call_17 : decode cX6_call 17 = .ok (.new 44, 3) := by decide +kernel
theorem dX6_call_20 : decode cX6_call 20 = .ok (.dup, 1) := by decide +kernel
theorem dX6_call_21 : decode cX6_call 21 = .ok (.ldc 227, 2) := by decide +kernel
theorem dX6_call_23 : decode cX6_call 23 = .ok (.invokespecial 48, 3) := by decide +kernel
theorem dX6_call_26 : decode cX6_call 26 = .ok (.athrow, 1) := by decide +kernel
theorem dX6_call_27 : decode cX6_call 27 = .ok (.aload_n 0, 1) := by decide +kernel
theorem dX6_call_28 : decode cX6_call 28 = .ok (.getfield 19, 3) := by decide +kernel
theorem dX6_call_31 : decode cX6_call 31 = .ok (.iload_n 1, 1) := by decide +kernel
theorem dX6_call_32 : decode cX6_call 32 = .ok (.invokevirtual 229, 3) := by decide +kernel
theorem dX6_call_35 : decode cX6_call 35 = .ok (.ifCond .eq 13, 3) := by decide +kernel
theorem dX6_call_38 : decode cX6_call 38 = .ok (.new 55, 3) := by decide +kernel
theorem dX6_call_41 : decode cX6_call 41 = .ok (.dup, 1) := by decide +kernel
theorem dX6_call_42 : decode cX6_call 42 = .ok (.ldc 232, 2) := by decide +kernel
theorem dX6_call_44 : decode cX6_call 44 = .ok (.invokespecial 59, 3) := by decide +kernel
theorem dX6_call_47 : decode cX6_call 47 = .ok (.athrow, 1) := by decide +kernel
theorem dX6_call_48 : decode cX6_call 48 = .ok (.aload_n 0, 1) := by decide +kernel
theorem dX6_call_49 : decode cX6_call 49 = .ok (.getfield 32, 3) := by decide +kernel
theorem dX6_call_52 : decode cX6_call 52 = .ok (.aload_n 0, 1) := by decide +kernel
theorem dX6_call_53 : decode cX6_call 53 = .ok (.getfield 19, 3) := by decide +kernel
theorem dX6_call_56 : decode cX6_call 56 = .ok (.invokevirtual 209, 3) := by decide +kernel
theorem dX6_call_59 : decode cX6_call 59 = .ok (.aload_n 0, 1) := by decide +kernel
theorem dX6_call_60 : decode cX6_call 60 = .ok (.getfield 19, 3) := by decide +kernel
theorem dX6_call_63 : decode cX6_call 63 = .ok (.iload_n 1, 1) := by decide +kernel
theorem dX6_call_64 : decode cX6_call 64 = .ok (.iload_n 2, 1) := by decide +kernel
theorem dX6_call_65 : decode cX6_call 65 = .ok (.invokevirtual 234, 3) := by decide +kernel
theorem dX6_call_68 : decode cX6_call 68 = .ok (.ireturn, 1) := by decide +kernel
theorem dX6_cut_0 : decode cX6_cut 0 = .ok (.aload_n 0, 1) := by decide +kernel
theorem dX6_cut_1 : decode cX6_cut 1 = .ok (.iload_n 1, 1) := by decide +kernel
theorem dX6_cut_2 : decode cX6_cut 2 = .ok (.invokevirtual 125, 3) := by decide +kernel
theorem dX6_cut_5 : decode cX6_cut 5 = .ok (.aload_n 0, 1) := by decide +kernel
theorem dX6_cut_6 : decode cX6_cut 6 = .ok (.iload_n 2, 1) := by decide +kernel
theorem dX6_cut_7 : decode cX6_cut 7 = .ok (.invokevirtual 125, 3) := by decide +kernel
theorem dX6_cut_10 : decode cX6_cut 10 = .ok (.iload_n 1, 1) := by decide +kernel
theorem dX6_cut_11 : decode cX6_cut 11 = .ok (.iload_n 2, 1) := by decide +kernel
theorem dX6_cut_12 : decode cX6_cut 12 = .ok (.if_icmp .ne 13, 3) := by decide +kernel
theorem dX6_cut_15 : decode cX6_cut 15 = .ok (.new 44, 3) := by decide +kernel
theorem dX6_cut_18 : decode cX6_cut 18 = .ok (.dup, 1) := by decide +kernel
theorem dX6_cut_19 : decode cX6_cut 19 = .ok (.ldc 238, 2) := by decide +kernel
theorem dX6_cut_21 : decode cX6_cut 21 = .ok (.invokespecial 48, 3) := by decide +kernel
theorem dX6_cut_24 : decode cX6_cut 24 = .ok (.athrow, 1) := by decide +kernel
theorem dX6_cut_25 : decode cX6_cut 25 = .ok (.aload_n 0, 1) := by decide +kernel
theorem dX6_cut_26 : decode cX6_cut 26 = .ok (.getfield 32, 3) := by decide +kernel
theorem dX6_cut_29 : decode cX6_cut 29 = .ok (.aload_n 0, 1) := by decide +kernel
theorem dX6_cut_30 : decode cX6_cut 30 = .ok (.getfield 19, 3) := by decide +kernel
theorem dX6_cut_33 : decode cX6_cut 33 = .ok (.invokevirtual 209, 3) := by decide +kernel
theorem dX6_cut_36 : decode cX6_cut 36 = .ok (.aload_n 0, 1) := by decide +kernel
theorem dX6_cut_37 : decode cX6_cut 37 = .ok (.getfield 19, 3) := by decide +kernel
theorem dX6_cut_40 : decode cX6_cut 40 = .ok (.getfield 98, 3) := by decide +kernel
theorem dX6_cut_43 : decode cX6_cut 43 = .ok (.iload_n 1, 1) := by decide +kernel
theorem dX6_cut_44 : decode cX6_cut 44 = .ok (.iload_n 2, 1) := by decide +kernel
theorem dX6_cut_45 : decode cX6_cut 45 = .ok (.iload_n 3, 1) := by decide +kernel
theorem dX6_cut_46 : decode cX6_cut 46 = .ok (.invokevirtual 240, 3) := by decide +kernel
theorem dX6_cut_49 : decode cX6_cut 49 = .ok (.aload_n 0, 1) := by decide +kernel
theorem dX6_cut_50 : decode cX6_cut 50 = .ok (.getfield 19, 3) := by decide +kernel
theorem dX6_cut_53 : decode cX6_cut 53 = .ok (.getfield 98, 3) := by decide +kernel
theorem dX6_cut_56 : decode cX6_cut 56 = .ok (.getfield 244, 3) := by decide +kernel
theorem dX6_cut_59 : decode cX6_cut 59 = .ok (.ireturn, 1) := by decide +kernel
theorem dX6_leave_0 : decode cX6_leave 0 = .ok (.aload_n 0, 1) := by decide +kernel
theorem dX6_leave_1 : decode cX6_leave 1 = .ok (.iload_n 1, 1) := by decide +kernel
theorem dX6_leave_2 : decode cX6_leave 2 = .ok (.invokevirtual 125, 3) := by decide +kernel
theorem dX6_leave_5 : decode cX6_leave 5 = .ok (.aload_n 0, 1) := by decide +kernel
theorem dX6_leave_6 : decode cX6_leave 6 = .ok (.getfield 19, 3) := by decide +kernel
theorem dX6_leave_9 : decode cX6_leave 9 = .ok (.iload_n 1, 1) := by decide +kernel
theorem dX6_leave_10 : decode cX6_leave 10 = .ok (.invokevirtual 229, 3) := by decide +kernel
theorem dX6_leave_13 : decode cX6_leave 13 = .ok (.ifCond .eq 13, 3) := by decide +kernel
theorem dX6_leave_16 : decode cX6_leave 16 = .ok (.new 55, 3) := by decide +kernel
theorem dX6_leave_19 : decode cX6_leave 19 = .ok (.dup, 1) := by decide +kernel
theorem dX6_leave_20 : decode cX6_leave 20 = .ok (.ldc 232, 2) := by decide +kernel
theorem dX6_leave_22 : decode cX6_leave 22 = .ok (.invokespecial 59, 3) := by decide +kernel
theorem dX6_leave_25 : decode cX6_leave 25 = .ok (.athrow, 1) := by decide +kernel
theorem dX6_leave_26 : decode cX6_leave 26 = .ok (.aload_n 0, 1) := by decide +kernel
theorem dX6_leave_27 : decode cX6_leave 27 = .ok (.getfield 32, 3) := by decide +kernel
theorem dX6_leave_30 : decode cX6_leave 30 = .ok (.aload_n 0, 1) := by decide +kernel
theorem dX6_leave_31 : decode cX6_leave 31 = .ok (.getfield 19, 3) := by decide +kernel
theorem dX6_leave_34 : decode cX6_leave 34 = .ok (.invokevirtual 209, 3) := by decide +kernel
theorem dX6_leave_37 : decode cX6_leave 37 = .ok (.aload_n 0, 1) := by decide +kernel
theorem dX6_leave_38 : decode cX6_leave 38 = .ok (.getfield 19, 3) := by decide +kernel
theorem dX6_leave_41 : decode cX6_leave 41 = .ok (.getfield 128, 3) := by decide +kernel
theorem dX6_leave_44 : decode cX6_leave 44 = .ok (.iload_n 1, 1) := by decide +kernel
theorem dX6_leave_45 : decode cX6_leave 45 = .ok (.aaload, 1) := by decide +kernel
theorem dX6_leave_46 : decode cX6_leave 46 = .ok (.invokevirtual 247, 3) := by decide +kernel
theorem dX6_leave_49 : decode cX6_leave 49 = .ok (.aload_n 0, 1) := by decide +kernel
theorem dX6_leave_50 : decode cX6_leave 50 = .ok (.getfield 19, 3) := by decide +kernel
theorem dX6_leave_53 : decode cX6_leave 53 = .ok (.getfield 128, 3) := by decide +kernel
theorem dX6_leave_56 : decode cX6_leave 56 = .ok (.iload_n 1, 1) := by decide +kernel
theorem dX6_leave_57 : decode cX6_leave 57 = .ok (.aaload, 1) := by decide +kernel
theorem dX6_leave_58 : decode cX6_leave 58 = .ok (.getfield 140, 3) := by decide +kernel
theorem dX6_leave_61 : decode cX6_leave 61 = .ok (.ireturn, 1) := by decide +kernel
theorem dX6_back_0 : decode cX6_back 0 = .ok (.aload_n 0, 1) := by decide +kernel
theorem dX6_back_1 : decode cX6_back 1 = .ok (.iload_n 1, 1) := by decide +kernel
theorem dX6_back_2 : decode cX6_back 2 = .ok (.invokevirtual 125, 3) := by decide +kernel
theorem dX6_back_5 : decode cX6_back 5 = .ok (.aload_n 0, 1) := by decide +kernel
theorem dX6_back_6 : decode cX6_back 6 = .ok (.getfield 19, 3) := by decide +kernel
theorem dX6_back_9 : decode cX6_back 9 = .ok (.iload_n 1, 1) := by decide +kernel
theorem dX6_back_10 : decode cX6_back 10 = .ok (.invokevirtual 229, 3) := by decide +kernel
theorem dX6_back_13 : decode cX6_back 13 = .ok (.ifCond .ne 13, 3) := by decide +kernel
theorem dX6_back_16 : decode cX6_back 16 = .ok (.new 55, 3) := by decide +kernel
theorem dX6_back_19 : decode cX6_back 19 = .ok (.dup, 1) := by decide +kernel
theorem dX6_back_20 : decode cX6_back 20 = .ok (.ldc 250, 2) := by decide +kernel
theorem dX6_back_22 : decode cX6_back 22 = .ok (.invokespecial 59, 3) := by decide +kernel
theorem dX6_back_25 : decode cX6_back 25 = .ok (.athrow, 1) := by decide +kernel
theorem dX6_back_26 : decode cX6_back 26 = .ok (.aload_n 0, 1) := by decide +kernel
theorem dX6_back_27 : decode cX6_back 27 = .ok (.getfield 32, 3) := by decide +kernel
theorem dX6_back_30 : decode cX6_back 30 = .ok (.aload_n 0, 1) := by decide +kernel
theorem dX6_back_31 : decode cX6_back 31 = .ok (.getfield 19, 3) := by decide +kernel
theorem dX6_back_34 : decode cX6_back 34 = .ok (.invokevirtual 209, 3) := by decide +kernel
theorem dX6_back_37 : decode cX6_back 37 = .ok (.aload_n 0, 1) := by decide +kernel
theorem dX6_back_38 : decode cX6_back 38 = .ok (.getfield 19, 3) := by decide +kernel
theorem dX6_back_41 : decode cX6_back 41 = .ok (.getfield 128, 3) := by decide +kernel
theorem dX6_back_44 : decode cX6_back 44 = .ok (.iload_n 1, 1) := by decide +kernel
theorem dX6_back_45 : decode cX6_back 45 = .ok (.aaload, 1) := by decide +kernel
theorem dX6_back_46 : decode cX6_back 46 = .ok (.invokevirtual 252, 3) := by decide +kernel
theorem dX6_back_49 : decode cX6_back 49 = .ok (.aload_n 0, 1) := by decide +kernel
theorem dX6_back_50 : decode cX6_back 50 = .ok (.getfield 19, 3) := by decide +kernel
theorem dX6_back_53 : decode cX6_back 53 = .ok (.getfield 128, 3) := by decide +kernel
theorem dX6_back_56 : decode cX6_back 56 = .ok (.iload_n 1, 1) := by decide +kernel
theorem dX6_back_57 : decode cX6_back 57 = .ok (.aaload, 1) := by decide +kernel
theorem dX6_back_58 : decode cX6_back 58 = .ok (.getfield 140, 3) := by decide +kernel
theorem dX6_back_61 : decode cX6_back 61 = .ok (.ireturn, 1) := by decide +kernel
theorem dX6_set_0 : decode cX6_set 0 = .ok (.iload_n 1, 1) := by decide +kernel
theorem dX6_set_1 : decode cX6_set 1 = .ok (.invokestatic 255, 3) := by decide +kernel
theorem dX6_set_4 : decode cX6_set 4 = .ok (.ifCond .ne 14, 3) := by decide +kernel
theorem dX6_set_7 : decode cX6_set 7 = .ok (.new 44, 3) := by decide +kernel
theorem dX6_set_10 : decode cX6_set 10 = .ok (.dup, 1) := by decide +kernel
theorem dX6_set_11 : decode cX6_set 11 = .ok (.ldc_w 258, 3) := by decide +kernel
theorem dX6_set_14 : decode cX6_set 14 = .ok (.invokespecial 48, 3) := by decide +kernel
theorem dX6_set_17 : decode cX6_set 17 = .ok (.athrow, 1) := by decide +kernel
theorem dX6_set_18 : decode cX6_set 18 = .ok (.aload_n 0, 1) := by decide +kernel
theorem dX6_set_19 : decode cX6_set 19 = .ok (.getfield 32, 3) := by decide +kernel
theorem dX6_set_22 : decode cX6_set 22 = .ok (.aload_n 0, 1) := by decide +kernel
theorem dX6_set_23 : decode cX6_set 23 = .ok (.getfield 19, 3) := by decide +kernel
theorem dX6_set_26 : decode cX6_set 26 = .ok (.invokevirtual 209, 3) := by decide +kernel
theorem dX6_set_29 : decode cX6_set 29 = .ok (.aload_n 0, 1) := by decide +kernel
theorem dX6_set_30 : decode cX6_set 30 = .ok (.getfield 19, 3) := by decide +kernel
theorem dX6_set_33 : decode cX6_set 33 = .ok (.getfield 120, 3) := by decide +kernel
theorem dX6_set_36 : decode cX6_set 36 = .ok (.istore_n 2, 1) := by decide +kernel
theorem dX6_set_37 : decode cX6_set 37 = .ok (.aload_n 0, 1) := by decide +kernel
theorem dX6_set_38 : decode cX6_set 38 = .ok (.getfield 19, 3) := by decide +kernel
theorem dX6_set_41 : decode cX6_set 41 = .ok (.iload_n 1, 1) := by decide +kernel
theorem dX6_set_42 : decode cX6_set 42 = .ok (.putfield 120, 3) := by decide +kernel
theorem dX6_set_45 : decode cX6_set 45 = .ok (.iload_n 2, 1) := by decide +kernel
theorem dX6_set_46 : decode cX6_set 46 = .ok (.ireturn, 1) := by decide +kernel
theorem dX6_ticks_0 : decode cX6_ticks 0 = .ok (.iload_n 1, 1) := by decide +kernel
theorem dX6_ticks_1 : decode cX6_ticks 1 = .ok (.invokestatic 260, 3) := by decide +kernel
theorem dX6_ticks_4 : decode cX6_ticks 4 = .ok (.ifCond .ne 14, 3) := by decide +kernel
theorem dX6_ticks_7 : decode cX6_ticks 7 = .ok (.new 44, 3) := by decide +kernel
theorem dX6_ticks_10 : decode cX6_ticks 10 = .ok (.dup, 1) := by decide +kernel
theorem dX6_ticks_11 : decode cX6_ticks 11 = .ok (.ldc_w 263, 3) := by decide +kernel
theorem dX6_ticks_14 : decode cX6_ticks 14 = .ok (.invokespecial 48, 3) := by decide +kernel
theorem dX6_ticks_17 : decode cX6_ticks 17 = .ok (.athrow, 1) := by decide +kernel
theorem dX6_ticks_18 : decode cX6_ticks 18 = .ok (.aload_n 0, 1) := by decide +kernel
theorem dX6_ticks_19 : decode cX6_ticks 19 = .ok (.getfield 32, 3) := by decide +kernel
theorem dX6_ticks_22 : decode cX6_ticks 22 = .ok (.aload_n 0, 1) := by decide +kernel
theorem dX6_ticks_23 : decode cX6_ticks 23 = .ok (.getfield 19, 3) := by decide +kernel
theorem dX6_ticks_26 : decode cX6_ticks 26 = .ok (.invokevirtual 209, 3) := by decide +kernel
theorem dX6_ticks_29 : decode cX6_ticks 29 = .ok (.aload_n 0, 1) := by decide +kernel
theorem dX6_ticks_30 : decode cX6_ticks 30 = .ok (.getfield 19, 3) := by decide +kernel
theorem dX6_ticks_33 : decode cX6_ticks 33 = .ok (.getfield 114, 3) := by decide +kernel
theorem dX6_ticks_36 : decode cX6_ticks 36 = .ok (.istore_n 2, 1) := by decide +kernel
theorem dX6_ticks_37 : decode cX6_ticks 37 = .ok (.aload_n 0, 1) := by decide +kernel
theorem dX6_ticks_38 : decode cX6_ticks 38 = .ok (.getfield 19, 3) := by decide +kernel
theorem dX6_ticks_41 : decode cX6_ticks 41 = .ok (.iload_n 1, 1) := by decide +kernel
theorem dX6_ticks_42 : decode cX6_ticks 42 = .ok (.invokevirtual 265, 3) := by decide +kernel
theorem dX6_ticks_45 : decode cX6_ticks 45 = .ok (.aload_n 0, 1) := by decide +kernel
theorem dX6_ticks_46 : decode cX6_ticks 46 = .ok (.getfield 19, 3) := by decide +kernel
theorem dX6_ticks_49 : decode cX6_ticks 49 = .ok (.getfield 114, 3) := by decide +kernel
theorem dX6_ticks_52 : decode cX6_ticks 52 = .ok (.iload_n 2, 1) := by decide +kernel
theorem dX6_ticks_53 : decode cX6_ticks 53 = .ok (.isub, 1) := by decide +kernel
theorem dX6_ticks_54 : decode cX6_ticks 54 = .ok (.ireturn, 1) := by decide +kernel
theorem dX6_undo_0 : decode cX6_undo 0 = .ok (.aload_n 0, 1) := by decide +kernel
theorem dX6_undo_1 : decode cX6_undo 1 = .ok (.getfield 32, 3) := by decide +kernel
theorem dX6_undo_4 : decode cX6_undo 4 = .ok (.getfield 74, 3) := by decide +kernel
theorem dX6_undo_7 : decode cX6_undo 7 = .ok (.ifCond .gt 14, 3) := by decide +kernel
theorem dX6_undo_10 : decode cX6_undo 10 = .ok (.new 55, 3) := by decide +kernel
theorem dX6_undo_13 : decode cX6_undo 13 = .ok (.dup, 1) := by decide +kernel
theorem dX6_undo_14 : decode cX6_undo 14 = .ok (.ldc_w 268, 3) := by decide +kernel
theorem dX6_undo_17 : decode cX6_undo 17 = .ok (.invokespecial 59, 3) := by decide +kernel
theorem dX6_undo_20 : decode cX6_undo 20 = .ok (.athrow, 1) := by decide +kernel
theorem dX6_undo_21 : decode cX6_undo 21 = .ok (.aload_n 0, 1) := by decide +kernel
theorem dX6_undo_22 : decode cX6_undo 22 = .ok (.getfield 19, 3) := by decide +kernel
theorem dX6_undo_25 : decode cX6_undo 25 = .ok (.aload_n 0, 1) := by decide +kernel
theorem dX6_undo_26 : decode cX6_undo 26 = .ok (.getfield 32, 3) := by decide +kernel
theorem dX6_undo_29 : decode cX6_undo 29 = .ok (.invokevirtual 270, 3) := by decide +kernel
theorem dX6_undo_32 : decode cX6_undo 32 = .ok (.invokevirtual 70, 3) := by decide +kernel
theorem dX6_undo_35 : decode cX6_undo 35 = .ok (.aload_n 0, 1) := by decide +kernel
theorem dX6_undo_36 : decode cX6_undo 36 = .ok (.getfield 32, 3) := by decide +kernel
theorem dX6_undo_39 : decode cX6_undo 39 = .ok (.getfield 74, 3) := by decide +kernel
theorem dX6_undo_42 : decode cX6_undo 42 = .ok (.ireturn, 1) := by decide +kernel
theorem dX6_standsIn_0 : decode cX6_standsIn 0 = .ok (.aload_n 0, 1) := by decide +kernel
theorem dX6_standsIn_1 : decode cX6_standsIn 1 = .ok (.iload_n 1, 1) := by decide +kernel
theorem dX6_standsIn_2 : decode cX6_standsIn 2 = .ok (.invokevirtual 125, 3) := by decide +kernel
theorem dX6_standsIn_5 : decode cX6_standsIn 5 = .ok (.iload_n 3, 1) := by decide +kernel
theorem dX6_standsIn_6 : decode cX6_standsIn 6 = .ok (.ifCond .lt 20, 3) := by decide +kernel
theorem dX6_standsIn_9 : decode cX6_standsIn 9 = .ok (.iload_n 3, 1) := by decide +kernel
theorem dX6_standsIn_10 : decode cX6_standsIn 10 = .ok (.iconst 1, 1) := by decide +kernel
theorem dX6_standsIn_11 : decode cX6_standsIn 11 = .ok (.if_icmp .gt 15, 3) := by decide +kernel
theorem dX6_standsIn_14 : decode cX6_standsIn 14 = .ok (.aload_n 0, 1) := by decide +kernel
theorem dX6_standsIn_15 : decode cX6_standsIn 15 = .ok (.getfield 19, 3) := by decide +kernel
theorem dX6_standsIn_18 : decode cX6_standsIn 18 = .ok (.iload_n 1, 1) := by decide +kernel
theorem dX6_standsIn_19 : decode cX6_standsIn 19 = .ok (.iload_n 2, 1) := by decide +kernel
theorem dX6_standsIn_20 : decode cX6_standsIn 20 = .ok (.invokevirtual 224, 3) := by decide +kernel
theorem dX6_standsIn_23 : decode cX6_standsIn 23 = .ok (.ifCond .ne 14, 3) := by decide +kernel
theorem dX6_standsIn_26 : decode cX6_standsIn 26 = .ok (.new 44, 3) := by decide +kernel
theorem dX6_standsIn_29 : decode cX6_standsIn 29 = .ok (.dup, 1) := by decide +kernel
theorem dX6_standsIn_30 : decode cX6_standsIn 30 = .ok (.ldc_w 274, 3) := by decide +kernel
theorem dX6_standsIn_33 : decode cX6_standsIn 33 = .ok (.invokespecial 48, 3) := by decide +kernel
theorem dX6_standsIn_36 : decode cX6_standsIn 36 = .ok (.athrow, 1) := by decide +kernel
theorem dX6_standsIn_37 : decode cX6_standsIn 37 = .ok (.aload_n 0, 1) := by decide +kernel
theorem dX6_standsIn_38 : decode cX6_standsIn 38 = .ok (.getfield 19, 3) := by decide +kernel
theorem dX6_standsIn_41 : decode cX6_standsIn 41 = .ok (.iload_n 1, 1) := by decide +kernel
theorem dX6_standsIn_42 : decode cX6_standsIn 42 = .ok (.invokevirtual 229, 3) := by decide +kernel
theorem dX6_standsIn_45 : decode cX6_standsIn 45 = .ok (.ifCond .eq 5, 3) := by decide +kernel
theorem dX6_standsIn_48 : decode cX6_standsIn 48 = .ok (.iconst (-1), 1) := by decide +kernel
theorem dX6_standsIn_49 : decode cX6_standsIn 49 = .ok (.ireturn, 1) := by decide +kernel
theorem dX6_standsIn_50 : decode cX6_standsIn 50 = .ok (.aload_n 0, 1) := by decide +kernel
theorem dX6_standsIn_51 : decode cX6_standsIn 51 = .ok (.getfield 26, 3) := by decide +kernel
theorem dX6_standsIn_54 : decode cX6_standsIn 54 = .ok (.aload_n 0, 1) := by decide +kernel
theorem dX6_standsIn_55 : decode cX6_standsIn 55 = .ok (.getfield 19, 3) := by decide +kernel
theorem dX6_standsIn_58 : decode cX6_standsIn 58 = .ok (.invokevirtual 70, 3) := by decide +kernel
theorem dX6_standsIn_61 : decode cX6_standsIn 61 = .ok (.aload_n 0, 1) := by decide +kernel
theorem dX6_standsIn_62 : decode cX6_standsIn 62 = .ok (.getfield 26, 3) := by decide +kernel
theorem dX6_standsIn_65 : decode cX6_standsIn 65 = .ok (.iload_n 1, 1) := by decide +kernel
theorem dX6_standsIn_66 : decode cX6_standsIn 66 = .ok (.iload_n 2, 1) := by decide +kernel
theorem dX6_standsIn_67 : decode cX6_standsIn 67 = .ok (.invokevirtual 234, 3) := by decide +kernel
theorem dX6_standsIn_70 : decode cX6_standsIn 70 = .ok (.istore 4, 2) := by decide +kernel
theorem dX6_standsIn_72 : decode cX6_standsIn 72 = .ok (.iconst 0, 1) := by decide +kernel
theorem dX6_standsIn_73 : decode cX6_standsIn 73 = .ok (.istore 5, 2) := by decide +kernel
theorem dX6_standsIn_75 : decode cX6_standsIn 75 = .ok (.iload 5, 2) := by decide +kernel
theorem dX6_standsIn_77 : decode cX6_standsIn 77 = .ok (.bipush 100, 2) := by decide +kernel
theorem dX6_standsIn_79 : decode cX6_standsIn 79 = .ok (.if_icmp .gt 59, 3) := by decide +kernel
theorem dX6_standsIn_82 : decode cX6_standsIn 82 = .ok (.iload_n 3, 1) := by decide +kernel
theorem dX6_standsIn_83 : decode cX6_standsIn 83 = .ok (.ifCond .ne 24, 3) := by decide +kernel
theorem dX6_standsIn_86 : decode cX6_standsIn 86 = .ok (.aload_n 0, 1) := by decide +kernel
theorem dX6_standsIn_87 : decode cX6_standsIn 87 = .ok (.getfield 26, 3) := by decide +kernel
theorem dX6_standsIn_90 : decode cX6_standsIn 90 = .ok (.getfield 128, 3) := by decide +kernel
theorem dX6_standsIn_93 : decode cX6_standsIn 93 = .ok (.iload_n 1, 1) := by decide +kernel
theorem dX6_standsIn_94 : decode cX6_standsIn 94 = .ok (.aaload, 1) := by decide +kernel
theorem dX6_standsIn_95 : decode cX6_standsIn 95 = .ok (.iload 4, 2) := by decide +kernel
theorem dX6_standsIn_97 : decode cX6_standsIn 97 = .ok (.iload_n 1, 1) := by decide +kernel
theorem dX6_standsIn_98 : decode cX6_standsIn 98 = .ok (.invokevirtual 276, 3) := by decide +kernel
theorem dX6_standsIn_101 : decode cX6_standsIn 101 = .ok (.ifCond .eq 23, 3) := by decide +kernel
theorem dX6_standsIn_104 : decode cX6_standsIn 104 = .ok (.goto 17, 3) := by decide +kernel
theorem dX6_standsIn_107 : decode cX6_standsIn 107 = .ok (.aload_n 0, 1) := by decide +kernel
theorem dX6_standsIn_108 : decode cX6_standsIn 108 = .ok (.getfield 26, 3) := by decide +kernel
theorem dX6_standsIn_111 : decode cX6_standsIn 111 = .ok (.iload_n 2, 1) := by decide +kernel
theorem dX6_standsIn_112 : decode cX6_standsIn 112 = .ok (.iload 4, 2) := by decide +kernel
theorem dX6_standsIn_114 : decode cX6_standsIn 114 = .ok (.iload_n 1, 1) := by decide +kernel
theorem dX6_standsIn_115 : decode cX6_standsIn 115 = .ok (.invokevirtual 279, 3) := by decide +kernel
theorem dX6_standsIn_118 : decode cX6_standsIn 118 = .ok (.ifCond .eq 6, 3) := by decide +kernel
theorem dX6_standsIn_121 : decode cX6_standsIn 121 = .ok (.iload 5, 2) := by decide +kernel
theorem dX6_standsIn_123 : decode cX6_standsIn 123 = .ok (.ireturn, 1) := by decide +kernel
theorem dX6_standsIn_124 : decode cX6_standsIn 124 = .ok (.aload_n 0, 1) := by decide +kernel
theorem dX6_standsIn_125 : decode cX6_standsIn 125 = .ok (.getfield 26, 3) := by decide +kernel
theorem dX6_standsIn_128 : decode cX6_standsIn 128 = .ok (.iconst 1, 1) := by decide +kernel
theorem dX6_standsIn_129 : decode cX6_standsIn 129 = .ok (.invokevirtual 265, 3) := by decide +kernel
theorem dX6_standsIn_132 : decode cX6_standsIn 132 = .ok (.iinc 5 1, 3) := by decide +kernel
theorem dX6_standsIn_135 : decode cX6_standsIn 135 = .ok (.goto (-60), 3) := by decide +kernel
theorem dX6_standsIn_138 : decode cX6_standsIn 138 = .ok (.iconst (-1), 1) := by decide +kernel
theorem dX6_standsIn_139 : decode cX6_standsIn 139 = .ok (.ireturn, 1) := by decide +kernel
theorem dX6_compare_0 : decode cX6_compare 0 = .ok (.aload_n 0, 1) := by decide +kernel
theorem dX6_compare_1 : decode cX6_compare 1 = .ok (.iload_n 1, 1) := by decide +kernel
theorem dX6_compare_2 : decode cX6_compare 2 = .ok (.invokevirtual 125, 3) := by decide +kernel
theorem dX6_compare_5 : decode cX6_compare 5 = .ok (.aload_n 0, 1) := by decide +kernel
theorem dX6_compare_6 : decode cX6_compare 6 = .ok (.iload_n 2, 1) := by decide +kernel
theorem dX6_compare_7 : decode cX6_compare 7 = .ok (.invokevirtual 125, 3) := by decide +kernel
theorem dX6_compare_10 : decode cX6_compare 10 = .ok (.iload_n 3, 1) := by decide +kernel
theorem dX6_compare_11 : decode cX6_compare 11 = .ok (.lookupswitch 47 #[(0, 25), (1, 36)], 25) := by decide +kernel
theorem dX6_compare_36 : decode cX6_compare 36 = .ok (.aload_n 0, 1) := by decide +kernel
theorem dX6_compare_37 : decode cX6_compare 37 = .ok (.getfield 19, 3) := by decide +kernel
theorem dX6_compare_40 : decode cX6_compare 40 = .ok (.iload_n 1, 1) := by decide +kernel
theorem dX6_compare_41 : decode cX6_compare 41 = .ok (.iload_n 2, 1) := by decide +kernel
theorem dX6_compare_42 : decode cX6_compare 42 = .ok (.iconst 0, 1) := by decide +kernel
theorem dX6_compare_43 : decode cX6_compare 43 = .ok (.invokevirtual 282, 3) := by decide +kernel
theorem dX6_compare_46 : decode cX6_compare 46 = .ok (.ireturn, 1) := by decide +kernel
theorem dX6_compare_47 : decode cX6_compare 47 = .ok (.aload_n 0, 1) := by decide +kernel
theorem dX6_compare_48 : decode cX6_compare 48 = .ok (.getfield 19, 3) := by decide +kernel
theorem dX6_compare_51 : decode cX6_compare 51 = .ok (.iload_n 1, 1) := by decide +kernel
theorem dX6_compare_52 : decode cX6_compare 52 = .ok (.iload_n 2, 1) := by decide +kernel
theorem dX6_compare_53 : decode cX6_compare 53 = .ok (.iconst 1, 1) := by decide +kernel
theorem dX6_compare_54 : decode cX6_compare 54 = .ok (.invokevirtual 282, 3) := by decide +kernel
theorem dX6_compare_57 : decode cX6_compare 57 = .ok (.ireturn, 1) := by decide +kernel
theorem dX6_compare_58 : decode cX6_compare 58 = .ok (.new 44, 3) := by decide +kernel
theorem dX6_compare_61 : decode cX6_compare 61 = .ok (.dup, 1) := by decide +kernel
theorem dX6_compare_62 : decode cX6_compare 62 = .ok (.ldc_w 286, 3) := by decide +kernel
theorem dX6_compare_65 : decode cX6_compare 65 = .ok (.invokespecial 48, 3) := by decide +kernel
theorem dX6_compare_68 : decode cX6_compare 68 = .ok (.athrow, 1) := by decide +kernel
theorem dX6_lacks_0 : decode cX6_lacks 0 = .ok (.aload_n 0, 1) := by decide +kernel
theorem dX6_lacks_1 : decode cX6_lacks 1 = .ok (.iload_n 1, 1) := by decide +kernel
theorem dX6_lacks_2 : decode cX6_lacks 2 = .ok (.invokevirtual 125, 3) := by decide +kernel
theorem dX6_lacks_5 : decode cX6_lacks 5 = .ok (.aload_n 0, 1) := by decide +kernel
theorem dX6_lacks_6 : decode cX6_lacks 6 = .ok (.getfield 19, 3) := by decide +kernel
theorem dX6_lacks_9 : decode cX6_lacks 9 = .ok (.iload_n 1, 1) := by decide +kernel
theorem dX6_lacks_10 : decode cX6_lacks 10 = .ok (.invokevirtual 288, 3) := by decide +kernel
theorem dX6_lacks_13 : decode cX6_lacks 13 = .ok (.invokestatic 291, 3) := by decide +kernel
theorem dX6_lacks_16 : decode cX6_lacks 16 = .ok (.ireturn, 1) := by decide +kernel
theorem dX6_together_0 : decode cX6_together 0 = .ok (.iconst 0, 1) := by decide +kernel
theorem dX6_together_1 : decode cX6_together 1 = .ok (.istore_n 1, 1) := by decide +kernel
theorem dX6_together_2 : decode cX6_together 2 = .ok (.iconst 0, 1) := by decide +kernel
theorem dX6_together_3 : decode cX6_together 3 = .ok (.istore_n 2, 1) := by decide +kernel
theorem dX6_together_4 : decode cX6_together 4 = .ok (.iload_n 2, 1) := by decide +kernel
theorem dX6_together_5 : decode cX6_together 5 = .ok (.aload_n 0, 1) := by decide +kernel
theorem dX6_together_6 : decode cX6_together 6 = .ok (.getfield 19, 3) := by decide +kernel
theorem dX6_together_9 : decode cX6_together 9 = .ok (.getfield 94, 3) := by decide +kernel
theorem dX6_together_12 : decode cX6_together 12 = .ok (.if_icmp .ge 31, 3) := by decide +kernel
theorem dX6_together_15 : decode cX6_together 15 = .ok (.aload_n 0, 1) := by decide +kernel
theorem dX6_together_16 : decode cX6_together 16 = .ok (.getfield 19, 3) := by decide +kernel
theorem dX6_together_19 : decode cX6_together 19 = .ok (.iload_n 2, 1) := by decide +kernel
theorem dX6_together_20 : decode cX6_together 20 = .ok (.invokevirtual 296, 3) := by decide +kernel
theorem dX6_together_23 : decode cX6_together 23 = .ok (.istore_n 3, 1) := by decide +kernel
theorem dX6_together_24 : decode cX6_together 24 = .ok (.iload_n 3, 1) := by decide +kernel
theorem dX6_together_25 : decode cX6_together 25 = .ok (.invokestatic 291, 3) := by decide +kernel
theorem dX6_together_28 : decode cX6_together 28 = .ok (.iload_n 1, 1) := by decide +kernel
theorem dX6_together_29 : decode cX6_together 29 = .ok (.invokestatic 291, 3) := by decide +kernel
theorem dX6_together_32 : decode cX6_together 32 = .ok (.if_icmp .le 5, 3) := by decide +kernel
theorem dX6_together_35 : decode cX6_together 35 = .ok (.iload_n 3, 1) := by decide +kernel
theorem dX6_together_36 : decode cX6_together 36 = .ok (.istore_n 1, 1) := by decide +kernel
theorem dX6_together_37 : decode cX6_together 37 = .ok (.iinc 2 1, 3) := by decide +kernel
theorem dX6_together_40 : decode cX6_together 40 = .ok (.goto (-36), 3) := by decide +kernel
theorem dX6_together_43 : decode cX6_together 43 = .ok (.iload_n 1, 1) := by decide +kernel
theorem dX6_together_44 : decode cX6_together 44 = .ok (.ireturn, 1) := by decide +kernel
theorem dX6_runScript_0 : decode cX6_runScript 0 = .ok (.iload_n 1, 1) := by decide +kernel
theorem dX6_runScript_1 : decode cX6_runScript 1 = .ok (.iconst 1, 1) := by decide +kernel
theorem dX6_runScript_2 : decode cX6_runScript 2 = .ok (.if_icmp .lt 8, 3) := by decide +kernel
theorem dX6_runScript_5 : decode cX6_runScript 5 = .ok (.iload_n 1, 1) := by decide +kernel
theorem dX6_runScript_6 : decode cX6_runScript 6 = .ok (.iconst 3, 1) := by decide +kernel
theorem dX6_runScript_7 : decode cX6_runScript 7 = .ok (.if_icmp .le 14, 3) := by decide +kernel
theorem dX6_runScript_10 : decode cX6_runScript 10 = .ok (.new 44, 3) := by decide +kernel
theorem dX6_runScript_13 : decode cX6_runScript 13 = .ok (.dup, 1) := by decide +kernel
theorem dX6_runScript_14 : decode cX6_runScript 14 = .ok (.ldc_w 299, 3) := by decide +kernel
theorem dX6_runScript_17 : decode cX6_runScript 17 = .ok (.invokespecial 48, 3) := by decide +kernel
theorem dX6_runScript_20 : decode cX6_runScript 20 = .ok (.athrow, 1) := by decide +kernel
theorem dX6_runScript_21 : decode cX6_runScript 21 = .ok (.lconst 1, 1) := by decide +kernel
theorem dX6_runScript_22 : decode cX6_runScript 22 = .ok (.lstore 4, 2) := by decide +kernel
theorem dX6_runScript_24 : decode cX6_runScript 24 = .ok (.iconst 0, 1) := by decide +kernel
theorem dX6_runScript_25 : decode cX6_runScript 25 = .ok (.istore 6, 2) := by decide +kernel
theorem dX6_runScript_27 : decode cX6_runScript 27 = .ok (.iload 6, 2) := by decide +kernel
theorem dX6_runScript_29 : decode cX6_runScript 29 = .ok (.iload_n 1, 1) := by decide +kernel
theorem dX6_runScript_30 : decode cX6_runScript 30 = .ok (.if_icmp .ge 17, 3) := by decide +kernel
theorem dX6_runScript_33 : decode cX6_runScript 33 = .ok (.lload 4, 2) := by decide +kernel
theorem dX6_runScript_35 : decode cX6_runScript 35 = .ok (.ldc2_w 301, 3) := by decide +kernel
theorem dX6_runScript_38 : decode cX6_runScript 38 = .ok (.lmul, 1) := by decide +kernel
theorem dX6_runScript_39 : decode cX6_runScript 39 = .ok (.lstore 4, 2) := by decide +kernel
theorem dX6_runScript_41 : decode cX6_runScript 41 = .ok (.iinc 6 1, 3) := by decide +kernel
theorem dX6_runScript_44 : decode cX6_runScript 44 = .ok (.goto (-17), 3) := by decide +kernel
theorem dX6_runScript_47 : decode cX6_runScript 47 = .ok (.lload_n 2, 1) := by decide +kernel
theorem dX6_runScript_48 : decode cX6_runScript 48 = .ok (.lconst 0, 1) := by decide +kernel
theorem dX6_runScript_49 : decode cX6_runScript 49 = .ok (.lcmp, 1) := by decide +kernel
theorem dX6_runScript_50 : decode cX6_runScript 50 = .ok (.ifCond .lt 10, 3) := by decide +kernel
theorem dX6_runScript_53 : decode cX6_runScript 53 = .ok (.lload_n 2, 1) := by decide +kernel
theorem dX6_runScript_54 : decode cX6_runScript 54 = .ok (.lload 4, 2) := by decide +kernel
theorem dX6_runScript_56 : decode cX6_runScript 56 = .ok (.lcmp, 1) := by decide +kernel
theorem dX6_runScript_57 : decode cX6_runScript 57 = .ok (.ifCond .lt 14, 3) := by decide +kernel
theorem dX6_runScript_60 : decode cX6_runScript 60 = .ok (.new 44, 3) := by decide +kernel
theorem dX6_runScript_63 : decode cX6_runScript 63 = .ok (.dup, 1) := by decide +kernel
theorem dX6_runScript_64 : decode cX6_runScript 64 = .ok (.ldc_w 303, 3) := by decide +kernel
theorem dX6_runScript_67 : decode cX6_runScript 67 = .ok (.invokespecial 48, 3) := by decide +kernel
theorem dX6_runScript_70 : decode cX6_runScript 70 = .ok (.athrow, 1) := by decide +kernel
theorem dX6_runScript_71 : decode cX6_runScript 71 = .ok (.aload_n 0, 1) := by decide +kernel
theorem dX6_runScript_72 : decode cX6_runScript 72 = .ok (.getfield 26, 3) := by decide +kernel
theorem dX6_runScript_75 : decode cX6_runScript 75 = .ok (.aload_n 0, 1) := by decide +kernel
theorem dX6_runScript_76 : decode cX6_runScript 76 = .ok (.getfield 19, 3) := by decide +kernel
theorem dX6_runScript_79 : decode cX6_runScript 79 = .ok (.invokevirtual 70, 3) := by decide +kernel
theorem dX6_runScript_82 : decode cX6_runScript 82 = .ok (.lload_n 2, 1) := by decide +kernel
theorem dX6_runScript_83 : decode cX6_runScript 83 = .ok (.lstore 6, 2) := by decide +kernel
theorem dX6_runScript_85 : decode cX6_runScript 85 = .ok (.iload_n 1, 1) := by decide +kernel
theorem dX6_runScript_86 : decode cX6_runScript 86 = .ok (.istore 8, 2) := by decide +kernel
theorem dX6_runScript_88 : decode cX6_runScript 88 = .ok (.iload 8, 2) := by decide +kernel
theorem dX6_runScript_90 : decode cX6_runScript 90 = .ok (.iconst 3, 1) := by decide +kernel
theorem dX6_runScript_91 : decode cX6_runScript 91 = .ok (.if_icmp .ge 17, 3) := by decide +kernel
theorem dX6_runScript_94 : decode cX6_runScript 94 = .ok (.lload 6, 2) := by decide +kernel
theorem dX6_runScript_96 : decode cX6_runScript 96 = .ok (.ldc2_w 301, 3) := by decide +kernel
theorem dX6_runScript_99 : decode cX6_runScript 99 = .ok (.lmul, 1) := by decide +kernel
theorem dX6_runScript_100 : decode cX6_runScript 100 = .ok (.lstore 6, 2) := by decide +kernel
theorem dX6_runScript_102 : decode cX6_runScript 102 = .ok (.iinc 8 1, 3) := by decide +kernel
theorem dX6_runScript_105 : decode cX6_runScript 105 = .ok (.goto (-17), 3) := by decide +kernel
theorem dX6_runScript_108 : decode cX6_runScript 108 = .ok (.iconst 0, 1) := by decide +kernel
theorem dX6_runScript_109 : decode cX6_runScript 109 = .ok (.istore 8, 2) := by decide +kernel
theorem dX6_runScript_111 : decode cX6_runScript 111 = .ok (.iload 8, 2) := by decide +kernel
theorem dX6_runScript_113 : decode cX6_runScript 113 = .ok (.iload_n 1, 1) := by decide +kernel
theorem dX6_runScript_114 : decode cX6_runScript 114 = .ok (.if_icmp .ge 38, 3) := by decide +kernel
theorem dX6_runScript_117 : decode cX6_runScript 117 = .ok (.aload_n 0, 1) := by decide +kernel
theorem dX6_runScript_118 : decode cX6_runScript 118 = .ok (.lload 6, 2) := by decide +kernel
theorem dX6_runScript_120 : decode cX6_runScript 120 = .ok (.ldc2_w 305, 3) := by decide +kernel
theorem dX6_runScript_123 : decode cX6_runScript 123 = .ok (.ldiv, 1) := by decide +kernel
theorem dX6_runScript_124 : decode cX6_runScript 124 = .ok (.l2i, 1) := by decide +kernel
theorem dX6_runScript_125 : decode cX6_runScript 125 = .ok (.invokevirtual 307, 3) := by decide +kernel
theorem dX6_runScript_128 : decode cX6_runScript 128 = .ok (.ifCond .ne 6, 3) := by decide +kernel
theorem dX6_runScript_131 : decode cX6_runScript 131 = .ok (.iload 8, 2) := by decide +kernel
theorem dX6_runScript_133 : decode cX6_runScript 133 = .ok (.ireturn, 1) := by decide +kernel
theorem dX6_runScript_134 : decode cX6_runScript 134 = .ok (.lload 6, 2) := by decide +kernel
theorem dX6_runScript_136 : decode cX6_runScript 136 = .ok (.ldc2_w 305, 3) := by decide +kernel
theorem dX6_runScript_139 : decode cX6_runScript 139 = .ok (.lrem, 1) := by decide +kernel
theorem dX6_runScript_140 : decode cX6_runScript 140 = .ok (.ldc2_w 301, 3) := by decide +kernel
theorem dX6_runScript_143 : decode cX6_runScript 143 = .ok (.lmul, 1) := by decide +kernel
theorem dX6_runScript_144 : decode cX6_runScript 144 = .ok (.lstore 6, 2) := by decide +kernel
theorem dX6_runScript_146 : decode cX6_runScript 146 = .ok (.iinc 8 1, 3) := by decide +kernel
theorem dX6_runScript_149 : decode cX6_runScript 149 = .ok (.goto (-38), 3) := by decide +kernel
theorem dX6_runScript_152 : decode cX6_runScript 152 = .ok (.iconst (-1), 1) := by decide +kernel
theorem dX6_runScript_153 : decode cX6_runScript 153 = .ok (.ireturn, 1) := by decide +kernel
theorem dX6_simulate_0 : decode cX6_simulate 0 = .ok (.iload_n 3, 1) := by decide +kernel
theorem dX6_simulate_1 : decode cX6_simulate 1 = .ok (.iconst 1, 1) := by decide +kernel
theorem dX6_simulate_2 : decode cX6_simulate 2 = .ok (.if_icmp .lt 9, 3) := by decide +kernel
theorem dX6_simulate_5 : decode cX6_simulate 5 = .ok (.iload_n 3, 1) := by decide +kernel
theorem dX6_simulate_6 : decode cX6_simulate 6 = .ok (.bipush 60, 2) := by decide +kernel
theorem dX6_simulate_8 : decode cX6_simulate 8 = .ok (.if_icmp .le 14, 3) := by decide +kernel
theorem dX6_simulate_11 : decode cX6_simulate 11 = .ok (.new 44, 3) := by decide +kernel
theorem dX6_simulate_14 : decode cX6_simulate 14 = .ok (.dup, 1) := by decide +kernel
theorem dX6_simulate_15 : decode cX6_simulate 15 = .ok (.ldc_w 310, 3) := by decide +kernel
theorem dX6_simulate_18 : decode cX6_simulate 18 = .ok (.invokespecial 48, 3) := by decide +kernel
theorem dX6_simulate_21 : decode cX6_simulate 21 = .ok (.athrow, 1) := by decide +kernel
theorem dX6_simulate_22 : decode cX6_simulate 22 = .ok (.aload_n 0, 1) := by decide +kernel
theorem dX6_simulate_23 : decode cX6_simulate 23 = .ok (.getfield 26, 3) := by decide +kernel
theorem dX6_simulate_26 : decode cX6_simulate 26 = .ok (.aload_n 0, 1) := by decide +kernel
theorem dX6_simulate_27 : decode cX6_simulate 27 = .ok (.getfield 19, 3) := by decide +kernel
theorem dX6_simulate_30 : decode cX6_simulate 30 = .ok (.invokevirtual 70, 3) := by decide +kernel
theorem dX6_simulate_33 : decode cX6_simulate 33 = .ok (.lload_n 1, 1) := by decide +kernel
theorem dX6_simulate_34 : decode cX6_simulate 34 = .ok (.lstore 4, 2) := by decide +kernel
theorem dX6_simulate_36 : decode cX6_simulate 36 = .ok (.iconst 0, 1) := by decide +kernel
theorem dX6_simulate_37 : decode cX6_simulate 37 = .ok (.istore 6, 2) := by decide +kernel
theorem dX6_simulate_39 : decode cX6_simulate 39 = .ok (.iload 6, 2) := by decide +kernel
theorem dX6_simulate_41 : decode cX6_simulate 41 = .ok (.iload_n 3, 1) := by decide +kernel
theorem dX6_simulate_42 : decode cX6_simulate 42 = .ok (.if_icmp .ge 31, 3) := by decide +kernel
theorem dX6_simulate_45 : decode cX6_simulate 45 = .ok (.lload 4, 2) := by decide +kernel
theorem dX6_simulate_47 : decode cX6_simulate 47 = .ok (.ldc2_w 312, 3) := by decide +kernel
theorem dX6_simulate_50 : decode cX6_simulate 50 = .ok (.lmul, 1) := by decide +kernel
theorem dX6_simulate_51 : decode cX6_simulate 51 = .ok (.ldc2_w 314, 3) := by decide +kernel
theorem dX6_simulate_54 : decode cX6_simulate 54 = .ok (.ladd, 1) := by decide +kernel
theorem dX6_simulate_55 : decode cX6_simulate 55 = .ok (.lstore 4, 2) := by decide +kernel
theorem dX6_simulate_57 : decode cX6_simulate 57 = .ok (.aload_n 0, 1) := by decide +kernel
theorem dX6_simulate_58 : decode cX6_simulate 58 = .ok (.lload 4, 2) := by decide +kernel
theorem dX6_simulate_60 : decode cX6_simulate 60 = .ok (.bipush 33, 2) := by decide +kernel
theorem dX6_simulate_62 : decode cX6_simulate 62 = .ok (.lushr, 1) := by decide +kernel
theorem dX6_simulate_63 : decode cX6_simulate 63 = .ok (.l2i, 1) := by decide +kernel
theorem dX6_simulate_64 : decode cX6_simulate 64 = .ok (.invokevirtual 316, 3) := by decide +kernel
theorem dX6_simulate_67 : decode cX6_simulate 67 = .ok (.iinc 6 1, 3) := by decide +kernel
theorem dX6_simulate_70 : decode cX6_simulate 70 = .ok (.goto (-31), 3) := by decide +kernel
theorem dX6_simulate_73 : decode cX6_simulate 73 = .ok (.aload_n 0, 1) := by decide +kernel
theorem dX6_simulate_74 : decode cX6_simulate 74 = .ok (.getfield 26, 3) := by decide +kernel
theorem dX6_simulate_77 : decode cX6_simulate 77 = .ok (.getfield 114, 3) := by decide +kernel
theorem dX6_simulate_80 : decode cX6_simulate 80 = .ok (.aload_n 0, 1) := by decide +kernel
theorem dX6_simulate_81 : decode cX6_simulate 81 = .ok (.getfield 19, 3) := by decide +kernel
theorem dX6_simulate_84 : decode cX6_simulate 84 = .ok (.getfield 114, 3) := by decide +kernel
theorem dX6_simulate_87 : decode cX6_simulate 87 = .ok (.isub, 1) := by decide +kernel
theorem dX6_simulate_88 : decode cX6_simulate 88 = .ok (.istore 6, 2) := by decide +kernel
theorem dX6_simulate_90 : decode cX6_simulate 90 = .ok (.aload_n 0, 1) := by decide +kernel
theorem dX6_simulate_91 : decode cX6_simulate 91 = .ok (.getfield 26, 3) := by decide +kernel
theorem dX6_simulate_94 : decode cX6_simulate 94 = .ok (.getfield 108, 3) := by decide +kernel
theorem dX6_simulate_97 : decode cX6_simulate 97 = .ok (.aload_n 0, 1) := by decide +kernel
theorem dX6_simulate_98 : decode cX6_simulate 98 = .ok (.getfield 19, 3) := by decide +kernel
theorem dX6_simulate_101 : decode cX6_simulate 101 = .ok (.getfield 108, 3) := by decide +kernel
theorem dX6_simulate_104 : decode cX6_simulate 104 = .ok (.isub, 1) := by decide +kernel
theorem dX6_simulate_105 : decode cX6_simulate 105 = .ok (.istore 7, 2) := by decide +kernel
theorem dX6_simulate_107 : decode cX6_simulate 107 = .ok (.aload_n 0, 1) := by decide +kernel
theorem dX6_simulate_108 : decode cX6_simulate 108 = .ok (.getfield 26, 3) := by decide +kernel
theorem dX6_simulate_111 : decode cX6_simulate 111 = .ok (.getfield 111, 3) := by decide +kernel
theorem dX6_simulate_114 : decode cX6_simulate 114 = .ok (.aload_n 0, 1) := by decide +kernel
theorem dX6_simulate_115 : decode cX6_simulate 115 = .ok (.getfield 19, 3) := by decide +kernel
theorem dX6_simulate_118 : decode cX6_simulate 118 = .ok (.getfield 111, 3) := by decide +kernel
theorem dX6_simulate_121 : decode cX6_simulate 121 = .ok (.isub, 1) := by decide +kernel
theorem dX6_simulate_122 : decode cX6_simulate 122 = .ok (.bipush 99, 2) := by decide +kernel
theorem dX6_simulate_124 : decode cX6_simulate 124 = .ok (.invokestatic 319, 3) := by decide +kernel
theorem dX6_simulate_127 : decode cX6_simulate 127 = .ok (.istore 8, 2) := by decide +kernel
theorem dX6_simulate_129 : decode cX6_simulate 129 = .ok (.sipush 10000, 3) := by decide +kernel
theorem dX6_simulate_132 : decode cX6_simulate 132 = .ok (.iload 6, 2) := by decide +kernel
theorem dX6_simulate_134 : decode cX6_simulate 134 = .ok (.imul, 1) := by decide +kernel
theorem dX6_simulate_135 : decode cX6_simulate 135 = .ok (.bipush 100, 2) := by decide +kernel
theorem dX6_simulate_137 : decode cX6_simulate 137 = .ok (.iload 7, 2) := by decide +kernel
theorem dX6_simulate_139 : decode cX6_simulate 139 = .ok (.imul, 1) := by decide +kernel
theorem dX6_simulate_140 : decode cX6_simulate 140 = .ok (.iadd, 1) := by decide +kernel
theorem dX6_simulate_141 : decode cX6_simulate 141 = .ok (.iload 8, 2) := by decide +kernel
theorem dX6_simulate_143 : decode cX6_simulate 143 = .ok (.iadd, 1) := by decide +kernel
theorem dX6_simulate_144 : decode cX6_simulate 144 = .ok (.ireturn, 1) := by decide +kernel
theorem dX6_save_0 : decode cX6_save 0 = .ok (.iload_n 1, 1) := by decide +kernel
theorem dX6_save_1 : decode cX6_save 1 = .ok (.invokestatic 324, 3) := by decide +kernel
theorem dX6_save_4 : decode cX6_save 4 = .ok (.aload_n 0, 1) := by decide +kernel
theorem dX6_save_5 : decode cX6_save 5 = .ok (.getfield 36, 3) := by decide +kernel
theorem dX6_save_8 : decode cX6_save 8 = .ok (.iload_n 1, 1) := by decide +kernel
theorem dX6_save_9 : decode cX6_save 9 = .ok (.aaload, 1) := by decide +kernel
theorem dX6_save_10 : decode cX6_save 10 = .ok (.aload_n 0, 1) := by decide +kernel
theorem dX6_save_11 : decode cX6_save 11 = .ok (.getfield 19, 3) := by decide +kernel
theorem dX6_save_14 : decode cX6_save 14 = .ok (.invokevirtual 70, 3) := by decide +kernel
theorem dX6_save_17 : decode cX6_save 17 = .ok (.aload_n 0, 1) := by decide +kernel
theorem dX6_save_18 : decode cX6_save 18 = .ok (.getfield 40, 3) := by decide +kernel
theorem dX6_save_21 : decode cX6_save 21 = .ok (.iload_n 1, 1) := by decide +kernel
theorem dX6_save_22 : decode cX6_save 22 = .ok (.iconst 1, 1) := by decide +kernel
theorem dX6_save_23 : decode cX6_save 23 = .ok (.bastore, 1) := by decide +kernel
theorem dX6_save_24 : decode cX6_save 24 = .ok (.aload_n 0, 1) := by decide +kernel
theorem dX6_save_25 : decode cX6_save 25 = .ok (.getfield 19, 3) := by decide +kernel
theorem dX6_save_28 : decode cX6_save 28 = .ok (.getfield 95, 3) := by decide +kernel
theorem dX6_save_31 : decode cX6_save 31 = .ok (.ireturn, 1) := by decide +kernel
theorem dX6_restore_0 : decode cX6_restore 0 = .ok (.iload_n 1, 1) := by decide +kernel
theorem dX6_restore_1 : decode cX6_restore 1 = .ok (.invokestatic 324, 3) := by decide +kernel
theorem dX6_restore_4 : decode cX6_restore 4 = .ok (.aload_n 0, 1) := by decide +kernel
theorem dX6_restore_5 : decode cX6_restore 5 = .ok (.getfield 40, 3) := by decide +kernel
theorem dX6_restore_8 : decode cX6_restore 8 = .ok (.iload_n 1, 1) := by decide +kernel
theorem dX6_restore_9 : decode cX6_restore 9 = .ok (.baload, 1) := by decide +kernel
theorem dX6_restore_10 : decode cX6_restore 10 = .ok (.ifCond .ne 14, 3) := by decide +kernel
theorem dX6_restore_13 : decode cX6_restore 13 = .ok (.new 55, 3) := by decide +kernel
theorem dX6_restore_16 : decode cX6_restore 16 = .ok (.dup, 1) := by decide +kernel
theorem dX6_restore_17 : decode cX6_restore 17 = .ok (.ldc_w 327, 3) := by decide +kernel
theorem dX6_restore_20 : decode cX6_restore 20 = .ok (.invokespecial 59, 3) := by decide +kernel
theorem dX6_restore_23 : decode cX6_restore 23 = .ok (.athrow, 1) := by decide +kernel
theorem dX6_restore_24 : decode cX6_restore 24 = .ok (.aload_n 0, 1) := by decide +kernel
theorem dX6_restore_25 : decode cX6_restore 25 = .ok (.getfield 19, 3) := by decide +kernel
theorem dX6_restore_28 : decode cX6_restore 28 = .ok (.aload_n 0, 1) := by decide +kernel
theorem dX6_restore_29 : decode cX6_restore 29 = .ok (.getfield 36, 3) := by decide +kernel
theorem dX6_restore_32 : decode cX6_restore 32 = .ok (.iload_n 1, 1) := by decide +kernel
theorem dX6_restore_33 : decode cX6_restore 33 = .ok (.aaload, 1) := by decide +kernel
theorem dX6_restore_34 : decode cX6_restore 34 = .ok (.invokevirtual 70, 3) := by decide +kernel
theorem dX6_restore_37 : decode cX6_restore 37 = .ok (.aload_n 0, 1) := by decide +kernel
theorem dX6_restore_38 : decode cX6_restore 38 = .ok (.getfield 32, 3) := by decide +kernel
theorem dX6_restore_41 : decode cX6_restore 41 = .ok (.iconst 0, 1) := by decide +kernel
theorem dX6_restore_42 : decode cX6_restore 42 = .ok (.putfield 74, 3) := by decide +kernel
theorem dX6_restore_45 : decode cX6_restore 45 = .ok (.aload_n 0, 1) := by decide +kernel
theorem dX6_restore_46 : decode cX6_restore 46 = .ok (.getfield 19, 3) := by decide +kernel
theorem dX6_restore_49 : decode cX6_restore 49 = .ok (.getfield 95, 3) := by decide +kernel
theorem dX6_restore_52 : decode cX6_restore 52 = .ok (.ireturn, 1) := by decide +kernel
theorem dX6_checkMember_0 : decode cX6_checkMember 0 = .ok (.aload_n 0, 1) := by decide +kernel
theorem dX6_checkMember_1 : decode cX6_checkMember 1 = .ok (.getfield 19, 3) := by decide +kernel
theorem dX6_checkMember_4 : decode cX6_checkMember 4 = .ok (.iload_n 1, 1) := by decide +kernel
theorem dX6_checkMember_5 : decode cX6_checkMember 5 = .ok (.invokevirtual 329, 3) := by decide +kernel
theorem dX6_checkMember_8 : decode cX6_checkMember 8 = .ok (.ifCond .ne 14, 3) := by decide +kernel
theorem dX6_checkMember_11 : decode cX6_checkMember 11 = .ok (.new 174, 3) := by decide +kernel
theorem dX6_checkMember_14 : decode cX6_checkMember 14 = .ok (.dup, 1) := by decide +kernel
theorem dX6_checkMember_15 : decode cX6_checkMember 15 = .ok (.ldc_w 332, 3) := by decide +kernel
theorem dX6_checkMember_18 : decode cX6_checkMember 18 = .ok (.invokespecial 178, 3) := by decide +kernel
theorem dX6_checkMember_21 : decode cX6_checkMember 21 = .ok (.athrow, 1) := by decide +kernel
theorem dX6_checkMember_22 : decode cX6_checkMember 22 = .ok (.return_, 1) := by decide +kernel
theorem dX6_checkSlot_0 : decode cX6_checkSlot 0 = .ok (.iload_n 0, 1) := by decide +kernel
theorem dX6_checkSlot_1 : decode cX6_checkSlot 1 = .ok (.ifCond .lt 8, 3) := by decide +kernel
theorem dX6_checkSlot_4 : decode cX6_checkSlot 4 = .ok (.iload_n 0, 1) := by decide +kernel
theorem dX6_checkSlot_5 : decode cX6_checkSlot 5 = .ok (.iconst 2, 1) := by decide +kernel
theorem dX6_checkSlot_6 : decode cX6_checkSlot 6 = .ok (.if_icmp .lt 14, 3) := by decide +kernel
theorem dX6_checkSlot_9 : decode cX6_checkSlot 9 = .ok (.new 174, 3) := by decide +kernel
theorem dX6_checkSlot_12 : decode cX6_checkSlot 12 = .ok (.dup, 1) := by decide +kernel
theorem dX6_checkSlot_13 : decode cX6_checkSlot 13 = .ok (.ldc_w 334, 3) := by decide +kernel
theorem dX6_checkSlot_16 : decode cX6_checkSlot 16 = .ok (.invokespecial 178, 3) := by decide +kernel
theorem dX6_checkSlot_19 : decode cX6_checkSlot 19 = .ok (.athrow, 1) := by decide +kernel
theorem dX6_checkSlot_20 : decode cX6_checkSlot 20 = .ok (.return_, 1) := by decide +kernel
theorem dX6_succeeds_0 : decode cX6_succeeds 0 = .ok (.iload_n 1, 1) := by decide +kernel
theorem dX6_succeeds_1 : decode cX6_succeeds 1 = .ok (.sipush 1000, 3) := by decide +kernel
theorem dX6_succeeds_4 : decode cX6_succeeds 4 = .ok (.idiv, 1) := by decide +kernel
theorem dX6_succeeds_5 : decode cX6_succeeds 5 = .ok (.bipush 10, 2) := by decide +kernel
theorem dX6_succeeds_7 : decode cX6_succeeds 7 = .ok (.irem, 1) := by decide +kernel
theorem dX6_succeeds_8 : decode cX6_succeeds 8 = .ok (.istore_n 2, 1) := by decide +kernel
theorem dX6_succeeds_9 : decode cX6_succeeds 9 = .ok (.iload_n 1, 1) := by decide +kernel
theorem dX6_succeeds_10 : decode cX6_succeeds 10 = .ok (.bipush 100, 2) := by decide +kernel
theorem dX6_succeeds_12 : decode cX6_succeeds 12 = .ok (.idiv, 1) := by decide +kernel
theorem dX6_succeeds_13 : decode cX6_succeeds 13 = .ok (.bipush 10, 2) := by decide +kernel
theorem dX6_succeeds_15 : decode cX6_succeeds 15 = .ok (.irem, 1) := by decide +kernel
theorem dX6_succeeds_16 : decode cX6_succeeds 16 = .ok (.istore_n 3, 1) := by decide +kernel
theorem dX6_succeeds_17 : decode cX6_succeeds 17 = .ok (.iload_n 1, 1) := by decide +kernel
theorem dX6_succeeds_18 : decode cX6_succeeds 18 = .ok (.bipush 100, 2) := by decide +kernel
theorem dX6_succeeds_20 : decode cX6_succeeds 20 = .ok (.irem, 1) := by decide +kernel
theorem dX6_succeeds_21 : decode cX6_succeeds 21 = .ok (.istore 4, 2) := by decide +kernel
theorem dX6_succeeds_23 : decode cX6_succeeds 23 = .ok (.iload_n 1, 1) := by decide +kernel
theorem dX6_succeeds_24 : decode cX6_succeeds 24 = .ok (.sipush 10000, 3) := by decide +kernel
theorem dX6_succeeds_27 : decode cX6_succeeds 27 = .ok (.idiv, 1) := by decide +kernel
theorem dX6_succeeds_28 : decode cX6_succeeds 28 = .ok (.tableswitch 396 1 9 #[52, 81, 106, 151, 200, 229, 267, 305, 346], 52) := by decide +kernel
theorem dX6_succeeds_80 : decode cX6_succeeds 80 = .ok (.iload_n 3, 1) := by decide +kernel
theorem dX6_succeeds_81 : decode cX6_succeeds 81 = .ok (.ifCond .ne 26, 3) := by decide +kernel
theorem dX6_succeeds_84 : decode cX6_succeeds 84 = .ok (.iload 4, 2) := by decide +kernel
theorem dX6_succeeds_86 : decode cX6_succeeds 86 = .ok (.ifCond .ne 21, 3) := by decide +kernel
theorem dX6_succeeds_89 : decode cX6_succeeds 89 = .ok (.aload_n 0, 1) := by decide +kernel
theorem dX6_succeeds_90 : decode cX6_succeeds 90 = .ok (.getfield 26, 3) := by decide +kernel
theorem dX6_succeeds_93 : decode cX6_succeeds 93 = .ok (.bipush 115, 2) := by decide +kernel
theorem dX6_succeeds_95 : decode cX6_succeeds 95 = .ok (.iload_n 2, 1) := by decide +kernel
theorem dX6_succeeds_96 : decode cX6_succeeds 96 = .ok (.iconst 0, 1) := by decide +kernel
theorem dX6_succeeds_97 : decode cX6_succeeds 97 = .ok (.invokevirtual 87, 3) := by decide +kernel
theorem dX6_succeeds_100 : decode cX6_succeeds 100 = .ok (.ifCond .eq 7, 3) := by decide +kernel
theorem dX6_succeeds_103 : decode cX6_succeeds 103 = .ok (.iconst 1, 1) := by decide +kernel
theorem dX6_succeeds_104 : decode cX6_succeeds 104 = .ok (.goto 4, 3) := by decide +kernel
theorem dX6_succeeds_107 : decode cX6_succeeds 107 = .ok (.iconst 0, 1) := by decide +kernel
theorem dX6_succeeds_108 : decode cX6_succeeds 108 = .ok (.ireturn, 1) := by decide +kernel
theorem dX6_succeeds_109 : decode cX6_succeeds 109 = .ok (.iload_n 3, 1) := by decide +kernel
theorem dX6_succeeds_110 : decode cX6_succeeds 110 = .ok (.ifCond .ne 22, 3) := by decide +kernel
theorem dX6_succeeds_113 : decode cX6_succeeds 113 = .ok (.aload_n 0, 1) := by decide +kernel
theorem dX6_succeeds_114 : decode cX6_succeeds 114 = .ok (.getfield 26, 3) := by decide +kernel
theorem dX6_succeeds_117 : decode cX6_succeeds 117 = .ok (.bipush 99, 2) := by decide +kernel
theorem dX6_succeeds_119 : decode cX6_succeeds 119 = .ok (.iload_n 2, 1) := by decide +kernel
theorem dX6_succeeds_120 : decode cX6_succeeds 120 = .ok (.iload 4, 2) := by decide +kernel
theorem dX6_succeeds_122 : decode cX6_succeeds 122 = .ok (.invokevirtual 87, 3) := by decide +kernel
theorem dX6_succeeds_125 : decode cX6_succeeds 125 = .ok (.ifCond .eq 7, 3) := by decide +kernel
theorem dX6_succeeds_128 : decode cX6_succeeds 128 = .ok (.iconst 1, 1) := by decide +kernel
theorem dX6_succeeds_129 : decode cX6_succeeds 129 = .ok (.goto 4, 3) := by decide +kernel
theorem dX6_succeeds_132 : decode cX6_succeeds 132 = .ok (.iconst 0, 1) := by decide +kernel
theorem dX6_succeeds_133 : decode cX6_succeeds 133 = .ok (.ireturn, 1) := by decide +kernel
theorem dX6_succeeds_134 : decode cX6_succeeds 134 = .ok (.iload 4, 2) := by decide +kernel
theorem dX6_succeeds_136 : decode cX6_succeeds 136 = .ok (.bipush 10, 2) := by decide +kernel
theorem dX6_succeeds_138 : decode cX6_succeeds 138 = .ok (.if_icmp .ne 17, 3) := by decide +kernel
theorem dX6_succeeds_141 : decode cX6_succeeds 141 = .ok (.aload_n 0, 1) := by decide +kernel
theorem dX6_succeeds_142 : decode cX6_succeeds 142 = .ok (.getfield 26, 3) := by decide +kernel
theorem dX6_succeeds_145 : decode cX6_succeeds 145 = .ok (.bipush 120, 2) := by decide +kernel
theorem dX6_succeeds_147 : decode cX6_succeeds 147 = .ok (.iload_n 2, 1) := by decide +kernel
theorem dX6_succeeds_148 : decode cX6_succeeds 148 = .ok (.iload_n 3, 1) := by decide +kernel
theorem dX6_succeeds_149 : decode cX6_succeeds 149 = .ok (.invokevirtual 87, 3) := by decide +kernel
theorem dX6_succeeds_152 : decode cX6_succeeds 152 = .ok (.ifCond .ne 21, 3) := by decide +kernel
theorem dX6_succeeds_155 : decode cX6_succeeds 155 = .ok (.iload 4, 2) := by decide +kernel
theorem dX6_succeeds_157 : decode cX6_succeeds 157 = .ok (.ifCond .ne 20, 3) := by decide +kernel
theorem dX6_succeeds_160 : decode cX6_succeeds 160 = .ok (.aload_n 0, 1) := by decide +kernel
theorem dX6_succeeds_161 : decode cX6_succeeds 161 = .ok (.getfield 26, 3) := by decide +kernel
theorem dX6_succeeds_164 : decode cX6_succeeds 164 = .ok (.iconst 0, 1) := by decide +kernel
theorem dX6_succeeds_165 : decode cX6_succeeds 165 = .ok (.iload_n 2, 1) := by decide +kernel
theorem dX6_succeeds_166 : decode cX6_succeeds 166 = .ok (.iload_n 3, 1) := by decide +kernel
theorem dX6_succeeds_167 : decode cX6_succeeds 167 = .ok (.invokevirtual 87, 3) := by decide +kernel
theorem dX6_succeeds_170 : decode cX6_succeeds 170 = .ok (.ifCond .eq 7, 3) := by decide +kernel
theorem dX6_succeeds_173 : decode cX6_succeeds 173 = .ok (.iconst 1, 1) := by decide +kernel
theorem dX6_succeeds_174 : decode cX6_succeeds 174 = .ok (.goto 4, 3) := by decide +kernel
theorem dX6_succeeds_177 : decode cX6_succeeds 177 = .ok (.iconst 0, 1) := by decide +kernel
theorem dX6_succeeds_178 : decode cX6_succeeds 178 = .ok (.ireturn, 1) := by decide +kernel
theorem dX6_succeeds_179 : decode cX6_succeeds 179 = .ok (.iload_n 3, 1) := by decide +kernel
theorem dX6_succeeds_180 : decode cX6_succeeds 180 = .ok (.ifCond .ne 46, 3) := by decide +kernel
theorem dX6_succeeds_183 : decode cX6_succeeds 183 = .ok (.iload 4, 2) := by decide +kernel
theorem dX6_succeeds_185 : decode cX6_succeeds 185 = .ok (.ifCond .ne 17, 3) := by decide +kernel
theorem dX6_succeeds_188 : decode cX6_succeeds 188 = .ok (.aload_n 0, 1) := by decide +kernel
theorem dX6_succeeds_189 : decode cX6_succeeds 189 = .ok (.getfield 26, 3) := by decide +kernel
theorem dX6_succeeds_192 : decode cX6_succeeds 192 = .ok (.bipush 103, 2) := by decide +kernel
theorem dX6_succeeds_194 : decode cX6_succeeds 194 = .ok (.iload_n 2, 1) := by decide +kernel
theorem dX6_succeeds_195 : decode cX6_succeeds 195 = .ok (.iconst 0, 1) := by decide +kernel
theorem dX6_succeeds_196 : decode cX6_succeeds 196 = .ok (.invokevirtual 87, 3) := by decide +kernel
theorem dX6_succeeds_199 : decode cX6_succeeds 199 = .ok (.ifCond .ne 23, 3) := by decide +kernel
theorem dX6_succeeds_202 : decode cX6_succeeds 202 = .ok (.iload 4, 2) := by decide +kernel
theorem dX6_succeeds_204 : decode cX6_succeeds 204 = .ok (.iconst 1, 1) := by decide +kernel
theorem dX6_succeeds_205 : decode cX6_succeeds 205 = .ok (.if_icmp .ne 21, 3) := by decide +kernel
theorem dX6_succeeds_208 : decode cX6_succeeds 208 = .ok (.aload_n 0, 1) := by decide +kernel
theorem dX6_succeeds_209 : decode cX6_succeeds 209 = .ok (.getfield 26, 3) := by decide +kernel
theorem dX6_succeeds_212 : decode cX6_succeeds 212 = .ok (.bipush 98, 2) := by decide +kernel
theorem dX6_succeeds_214 : decode cX6_succeeds 214 = .ok (.iload_n 2, 1) := by decide +kernel
theorem dX6_succeeds_215 : decode cX6_succeeds 215 = .ok (.iconst 0, 1) := by decide +kernel
theorem dX6_succeeds_216 : decode cX6_succeeds 216 = .ok (.invokevirtual 87, 3) := by decide +kernel
theorem dX6_succeeds_219 : decode cX6_succeeds 219 = .ok (.ifCond .eq 7, 3) := by decide +kernel
theorem dX6_succeeds_222 : decode cX6_succeeds 222 = .ok (.iconst 1, 1) := by decide +kernel
theorem dX6_succeeds_223 : decode cX6_succeeds 223 = .ok (.goto 4, 3) := by decide +kernel
theorem dX6_succeeds_226 : decode cX6_succeeds 226 = .ok (.iconst 0, 1) := by decide +kernel
theorem dX6_succeeds_227 : decode cX6_succeeds 227 = .ok (.ireturn, 1) := by decide +kernel
theorem dX6_succeeds_228 : decode cX6_succeeds 228 = .ok (.iload_n 2, 1) := by decide +kernel
theorem dX6_succeeds_229 : decode cX6_succeeds 229 = .ok (.ifCond .ne 26, 3) := by decide +kernel
theorem dX6_succeeds_232 : decode cX6_succeeds 232 = .ok (.iload_n 3, 1) := by decide +kernel
theorem dX6_succeeds_233 : decode cX6_succeeds 233 = .ok (.ifCond .ne 22, 3) := by decide +kernel
theorem dX6_succeeds_236 : decode cX6_succeeds 236 = .ok (.aload_n 0, 1) := by decide +kernel
theorem dX6_succeeds_237 : decode cX6_succeeds 237 = .ok (.getfield 26, 3) := by decide +kernel
theorem dX6_succeeds_240 : decode cX6_succeeds 240 = .ok (.bipush 116, 2) := by decide +kernel
theorem dX6_succeeds_242 : decode cX6_succeeds 242 = .ok (.iload 4, 2) := by decide +kernel
theorem dX6_succeeds_244 : decode cX6_succeeds 244 = .ok (.iconst 0, 1) := by decide +kernel
theorem dX6_succeeds_245 : decode cX6_succeeds 245 = .ok (.invokevirtual 87, 3) := by decide +kernel
theorem dX6_succeeds_248 : decode cX6_succeeds 248 = .ok (.ifCond .eq 7, 3) := by decide +kernel
theorem dX6_succeeds_251 : decode cX6_succeeds 251 = .ok (.iconst 1, 1) := by decide +kernel
theorem dX6_succeeds_252 : decode cX6_succeeds 252 = .ok (.goto 4, 3) := by decide +kernel
theorem dX6_succeeds_255 : decode cX6_succeeds 255 = .ok (.iconst 0, 1) := by decide +kernel
theorem dX6_succeeds_256 : decode cX6_succeeds 256 = .ok (.ireturn, 1) := by decide +kernel
theorem dX6_succeeds_257 : decode cX6_succeeds 257 = .ok (.iload_n 3, 1) := by decide +kernel
theorem dX6_succeeds_258 : decode cX6_succeeds 258 = .ok (.ifCond .ne 35, 3) := by decide +kernel
theorem dX6_succeeds_261 : decode cX6_succeeds 261 = .ok (.aload_n 0, 1) := by decide +kernel
theorem dX6_succeeds_262 : decode cX6_succeeds 262 = .ok (.getfield 26, 3) := by decide +kernel
theorem dX6_succeeds_265 : decode cX6_succeeds 265 = .ok (.iload_n 2, 1) := by decide +kernel
theorem dX6_succeeds_266 : decode cX6_succeeds 266 = .ok (.invokevirtual 329, 3) := by decide +kernel
theorem dX6_succeeds_269 : decode cX6_succeeds 269 = .ok (.ifCond .eq 24, 3) := by decide +kernel
theorem dX6_succeeds_272 : decode cX6_succeeds 272 = .ok (.aload_n 0, 1) := by decide +kernel
theorem dX6_succeeds_273 : decode cX6_succeeds 273 = .ok (.getfield 26, 3) := by decide +kernel
theorem dX6_succeeds_276 : decode cX6_succeeds 276 = .ok (.getfield 128, 3) := by decide +kernel
theorem dX6_succeeds_279 : decode cX6_succeeds 279 = .ok (.iload_n 2, 1) := by decide +kernel
theorem dX6_succeeds_280 : decode cX6_succeeds 280 = .ok (.aaload, 1) := by decide +kernel
theorem dX6_succeeds_281 : decode cX6_succeeds 281 = .ok (.getfield 140, 3) := by decide +kernel
theorem dX6_succeeds_284 : decode cX6_succeeds 284 = .ok (.iload 4, 2) := by decide +kernel
theorem dX6_succeeds_286 : decode cX6_succeeds 286 = .ok (.if_icmp .lt 7, 3) := by decide +kernel
theorem dX6_succeeds_289 : decode cX6_succeeds 289 = .ok (.iconst 1, 1) := by decide +kernel
theorem dX6_succeeds_290 : decode cX6_succeeds 290 = .ok (.goto 4, 3) := by decide +kernel
theorem dX6_succeeds_293 : decode cX6_succeeds 293 = .ok (.iconst 0, 1) := by decide +kernel
theorem dX6_succeeds_294 : decode cX6_succeeds 294 = .ok (.ireturn, 1) := by decide +kernel
theorem dX6_succeeds_295 : decode cX6_succeeds 295 = .ok (.iload_n 3, 1) := by decide +kernel
theorem dX6_succeeds_296 : decode cX6_succeeds 296 = .ok (.ifCond .ne 35, 3) := by decide +kernel
theorem dX6_succeeds_299 : decode cX6_succeeds 299 = .ok (.aload_n 0, 1) := by decide +kernel
theorem dX6_succeeds_300 : decode cX6_succeeds 300 = .ok (.getfield 26, 3) := by decide +kernel
theorem dX6_succeeds_303 : decode cX6_succeeds 303 = .ok (.iload_n 2, 1) := by decide +kernel
theorem dX6_succeeds_304 : decode cX6_succeeds 304 = .ok (.invokevirtual 329, 3) := by decide +kernel
theorem dX6_succeeds_307 : decode cX6_succeeds 307 = .ok (.ifCond .eq 24, 3) := by decide +kernel
theorem dX6_succeeds_310 : decode cX6_succeeds 310 = .ok (.aload_n 0, 1) := by decide +kernel
theorem dX6_succeeds_311 : decode cX6_succeeds 311 = .ok (.getfield 26, 3) := by decide +kernel
theorem dX6_succeeds_314 : decode cX6_succeeds 314 = .ok (.getfield 128, 3) := by decide +kernel
theorem dX6_succeeds_317 : decode cX6_succeeds 317 = .ok (.iload_n 2, 1) := by decide +kernel
theorem dX6_succeeds_318 : decode cX6_succeeds 318 = .ok (.aaload, 1) := by decide +kernel
theorem dX6_succeeds_319 : decode cX6_succeeds 319 = .ok (.getfield 137, 3) := by decide +kernel
theorem dX6_succeeds_322 : decode cX6_succeeds 322 = .ok (.iload 4, 2) := by decide +kernel
theorem dX6_succeeds_324 : decode cX6_succeeds 324 = .ok (.if_icmp .ne 7, 3) := by decide +kernel
theorem dX6_succeeds_327 : decode cX6_succeeds 327 = .ok (.iconst 1, 1) := by decide +kernel
theorem dX6_succeeds_328 : decode cX6_succeeds 328 = .ok (.goto 4, 3) := by decide +kernel
theorem dX6_succeeds_331 : decode cX6_succeeds 331 = .ok (.iconst 0, 1) := by decide +kernel
theorem dX6_succeeds_332 : decode cX6_succeeds 332 = .ok (.ireturn, 1) := by decide +kernel
theorem dX6_succeeds_333 : decode cX6_succeeds 333 = .ok (.iload_n 3, 1) := by decide +kernel
theorem dX6_succeeds_334 : decode cX6_succeeds 334 = .ok (.ifCond .ne 38, 3) := by decide +kernel
theorem dX6_succeeds_337 : decode cX6_succeeds 337 = .ok (.aload_n 0, 1) := by decide +kernel
theorem dX6_succeeds_338 : decode cX6_succeeds 338 = .ok (.getfield 26, 3) := by decide +kernel
theorem dX6_succeeds_341 : decode cX6_succeeds 341 = .ok (.iload_n 2, 1) := by decide +kernel
theorem dX6_succeeds_342 : decode cX6_succeeds 342 = .ok (.invokevirtual 329, 3) := by decide +kernel
theorem dX6_succeeds_345 : decode cX6_succeeds 345 = .ok (.ifCond .eq 27, 3) := by decide +kernel
theorem dX6_succeeds_348 : decode cX6_succeeds 348 = .ok (.aload_n 0, 1) := by decide +kernel
theorem dX6_succeeds_349 : decode cX6_succeeds 349 = .ok (.getfield 26, 3) := by decide +kernel
theorem dX6_succeeds_352 : decode cX6_succeeds 352 = .ok (.getfield 128, 3) := by decide +kernel
theorem dX6_succeeds_355 : decode cX6_succeeds 355 = .ok (.iload_n 2, 1) := by decide +kernel
theorem dX6_succeeds_356 : decode cX6_succeeds 356 = .ok (.aaload, 1) := by decide +kernel
theorem dX6_succeeds_357 : decode cX6_succeeds 357 = .ok (.getfield 149, 3) := by decide +kernel
theorem dX6_succeeds_360 : decode cX6_succeeds 360 = .ok (.invokestatic 291, 3) := by decide +kernel
theorem dX6_succeeds_363 : decode cX6_succeeds 363 = .ok (.iload 4, 2) := by decide +kernel
theorem dX6_succeeds_365 : decode cX6_succeeds 365 = .ok (.if_icmp .lt 7, 3) := by decide +kernel
theorem dX6_succeeds_368 : decode cX6_succeeds 368 = .ok (.iconst 1, 1) := by decide +kernel
theorem dX6_succeeds_369 : decode cX6_succeeds 369 = .ok (.goto 4, 3) := by decide +kernel
theorem dX6_succeeds_372 : decode cX6_succeeds 372 = .ok (.iconst 0, 1) := by decide +kernel
theorem dX6_succeeds_373 : decode cX6_succeeds 373 = .ok (.ireturn, 1) := by decide +kernel
theorem dX6_succeeds_374 : decode cX6_succeeds 374 = .ok (.iload 4, 2) := by decide +kernel
theorem dX6_succeeds_376 : decode cX6_succeeds 376 = .ok (.bipush 10, 2) := by decide +kernel
theorem dX6_succeeds_378 : decode cX6_succeeds 378 = .ok (.if_icmp .ge 44, 3) := by decide +kernel
theorem dX6_succeeds_381 : decode cX6_succeeds 381 = .ok (.aload_n 0, 1) := by decide +kernel
theorem dX6_succeeds_382 : decode cX6_succeeds 382 = .ok (.getfield 26, 3) := by decide +kernel
theorem dX6_succeeds_385 : decode cX6_succeeds 385 = .ok (.iload_n 2, 1) := by decide +kernel
theorem dX6_succeeds_386 : decode cX6_succeeds 386 = .ok (.invokevirtual 329, 3) := by decide +kernel
theorem dX6_succeeds_389 : decode cX6_succeeds 389 = .ok (.ifCond .eq 33, 3) := by decide +kernel
theorem dX6_succeeds_392 : decode cX6_succeeds 392 = .ok (.aload_n 0, 1) := by decide +kernel
theorem dX6_succeeds_393 : decode cX6_succeeds 393 = .ok (.getfield 26, 3) := by decide +kernel
theorem dX6_succeeds_396 : decode cX6_succeeds 396 = .ok (.iload_n 3, 1) := by decide +kernel
theorem dX6_succeeds_397 : decode cX6_succeeds 397 = .ok (.invokevirtual 329, 3) := by decide +kernel
theorem dX6_succeeds_400 : decode cX6_succeeds 400 = .ok (.ifCond .eq 22, 3) := by decide +kernel
theorem dX6_succeeds_403 : decode cX6_succeeds 403 = .ok (.aload_n 0, 1) := by decide +kernel
theorem dX6_succeeds_404 : decode cX6_succeeds 404 = .ok (.getfield 26, 3) := by decide +kernel
theorem dX6_succeeds_407 : decode cX6_succeeds 407 = .ok (.iload_n 2, 1) := by decide +kernel
theorem dX6_succeeds_408 : decode cX6_succeeds 408 = .ok (.iload_n 3, 1) := by decide +kernel
theorem dX6_succeeds_409 : decode cX6_succeeds 409 = .ok (.iconst 1, 1) := by decide +kernel
theorem dX6_succeeds_410 : decode cX6_succeeds 410 = .ok (.invokevirtual 282, 3) := by decide +kernel
theorem dX6_succeeds_413 : decode cX6_succeeds 413 = .ok (.iload 4, 2) := by decide +kernel
theorem dX6_succeeds_415 : decode cX6_succeeds 415 = .ok (.if_icmp .gt 7, 3) := by decide +kernel
theorem dX6_succeeds_418 : decode cX6_succeeds 418 = .ok (.iconst 1, 1) := by decide +kernel
theorem dX6_succeeds_419 : decode cX6_succeeds 419 = .ok (.goto 4, 3) := by decide +kernel
theorem dX6_succeeds_422 : decode cX6_succeeds 422 = .ok (.iconst 0, 1) := by decide +kernel
theorem dX6_succeeds_423 : decode cX6_succeeds 423 = .ok (.ireturn, 1) := by decide +kernel
theorem dX6_succeeds_424 : decode cX6_succeeds 424 = .ok (.iconst 0, 1) := by decide +kernel
theorem dX6_succeeds_425 : decode cX6_succeeds 425 = .ok (.ireturn, 1) := by decide +kernel
theorem dX6_takeTurn_0 : decode cX6_takeTurn 0 = .ok (.iload_n 1, 1) := by decide +kernel
theorem dX6_takeTurn_1 : decode cX6_takeTurn 1 = .ok (.bipush 16, 2) := by decide +kernel
theorem dX6_takeTurn_3 : decode cX6_takeTurn 3 = .ok (.idiv, 1) := by decide +kernel
theorem dX6_takeTurn_4 : decode cX6_takeTurn 4 = .ok (.istore_n 2, 1) := by decide +kernel
theorem dX6_takeTurn_5 : decode cX6_takeTurn 5 = .ok (.iload_n 2, 1) := by decide +kernel
theorem dX6_takeTurn_6 : decode cX6_takeTurn 6 = .ok (.bipush 6, 2) := by decide +kernel
theorem dX6_takeTurn_8 : decode cX6_takeTurn 8 = .ok (.irem, 1) := by decide +kernel
theorem dX6_takeTurn_9 : decode cX6_takeTurn 9 = .ok (.istore_n 3, 1) := by decide +kernel
theorem dX6_takeTurn_10 : decode cX6_takeTurn 10 = .ok (.iload_n 1, 1) := by decide +kernel
theorem dX6_takeTurn_11 : decode cX6_takeTurn 11 = .ok (.bipush 16, 2) := by decide +kernel
theorem dX6_takeTurn_13 : decode cX6_takeTurn 13 = .ok (.irem, 1) := by decide +kernel
theorem dX6_takeTurn_14 : decode cX6_takeTurn 14 = .ok (.tableswitch 205 0 10 #[58, 76, 76, 76, 76, 76, 91, 91, 124, 158, 187], 58) := by decide +kernel
theorem dX6_takeTurn_72 : decode cX6_takeTurn 72 = .ok (.aload_n 0, 1) := by decide +kernel
theorem dX6_takeTurn_73 : decode cX6_takeTurn 73 = .ok (.getfield 26, 3) := by decide +kernel
theorem dX6_takeTurn_76 : decode cX6_takeTurn 76 = .ok (.bipush 109, 2) := by decide +kernel
theorem dX6_takeTurn_78 : decode cX6_takeTurn 78 = .ok (.iload_n 2, 1) := by decide +kernel
theorem dX6_takeTurn_79 : decode cX6_takeTurn 79 = .ok (.bipush 10, 2) := by decide +kernel
theorem dX6_takeTurn_81 : decode cX6_takeTurn 81 = .ok (.irem, 1) := by decide +kernel
theorem dX6_takeTurn_82 : decode cX6_takeTurn 82 = .ok (.iconst 0, 1) := by decide +kernel
theorem dX6_takeTurn_83 : decode cX6_takeTurn 83 = .ok (.invokevirtual 87, 3) := by decide +kernel
theorem dX6_takeTurn_86 : decode cX6_takeTurn 86 = .ok (.pop, 1) := by decide +kernel
theorem dX6_takeTurn_87 : decode cX6_takeTurn 87 = .ok (.goto 149, 3) := by decide +kernel
theorem dX6_takeTurn_90 : decode cX6_takeTurn 90 = .ok (.aload_n 0, 1) := by decide +kernel
theorem dX6_takeTurn_91 : decode cX6_takeTurn 91 = .ok (.getfield 26, 3) := by decide +kernel
theorem dX6_takeTurn_94 : decode cX6_takeTurn 94 = .ok (.bipush 115, 2) := by decide +kernel
theorem dX6_takeTurn_96 : decode cX6_takeTurn 96 = .ok (.iload_n 3, 1) := by decide +kernel
theorem dX6_takeTurn_97 : decode cX6_takeTurn 97 = .ok (.iconst 0, 1) := by decide +kernel
theorem dX6_takeTurn_98 : decode cX6_takeTurn 98 = .ok (.invokevirtual 87, 3) := by decide +kernel
theorem dX6_takeTurn_101 : decode cX6_takeTurn 101 = .ok (.pop, 1) := by decide +kernel
theorem dX6_takeTurn_102 : decode cX6_takeTurn 102 = .ok (.goto 134, 3) := by decide +kernel
theorem dX6_takeTurn_105 : decode cX6_takeTurn 105 = .ok (.aload_n 0, 1) := by decide +kernel
theorem dX6_takeTurn_106 : decode cX6_takeTurn 106 = .ok (.getfield 26, 3) := by decide +kernel
theorem dX6_takeTurn_109 : decode cX6_takeTurn 109 = .ok (.bipush 99, 2) := by decide +kernel
theorem dX6_takeTurn_111 : decode cX6_takeTurn 111 = .ok (.iload_n 3, 1) := by decide +kernel
theorem dX6_takeTurn_112 : decode cX6_takeTurn 112 = .ok (.iload_n 2, 1) := by decide +kernel
theorem dX6_takeTurn_113 : decode cX6_takeTurn 113 = .ok (.bipush 8, 2) := by decide +kernel
theorem dX6_takeTurn_115 : decode cX6_takeTurn 115 = .ok (.idiv, 1) := by decide +kernel
theorem dX6_takeTurn_116 : decode cX6_takeTurn 116 = .ok (.bipush 64, 2) := by decide +kernel
theorem dX6_takeTurn_118 : decode cX6_takeTurn 118 = .ok (.irem, 1) := by decide +kernel
theorem dX6_takeTurn_119 : decode cX6_takeTurn 119 = .ok (.aload_n 0, 1) := by decide +kernel
theorem dX6_takeTurn_120 : decode cX6_takeTurn 120 = .ok (.getfield 26, 3) := by decide +kernel
theorem dX6_takeTurn_123 : decode cX6_takeTurn 123 = .ok (.invokevirtual 336, 3) := by decide +kernel
theorem dX6_takeTurn_126 : decode cX6_takeTurn 126 = .ok (.iand, 1) := by decide +kernel
theorem dX6_takeTurn_127 : decode cX6_takeTurn 127 = .ok (.iconst 1, 1) := by decide +kernel
theorem dX6_takeTurn_128 : decode cX6_takeTurn 128 = .ok (.iload_n 3, 1) := by decide +kernel
theorem dX6_takeTurn_129 : decode cX6_takeTurn 129 = .ok (.ishl, 1) := by decide +kernel
theorem dX6_takeTurn_130 : decode cX6_takeTurn 130 = .ok (.ior, 1) := by decide +kernel
theorem dX6_takeTurn_131 : decode cX6_takeTurn 131 = .ok (.invokevirtual 87, 3) := by decide +kernel
theorem dX6_takeTurn_134 : decode cX6_takeTurn 134 = .ok (.pop, 1) := by decide +kernel
theorem dX6_takeTurn_135 : decode cX6_takeTurn 135 = .ok (.goto 101, 3) := by decide +kernel
theorem dX6_takeTurn_138 : decode cX6_takeTurn 138 = .ok (.aload_n 0, 1) := by decide +kernel
theorem dX6_takeTurn_139 : decode cX6_takeTurn 139 = .ok (.getfield 26, 3) := by decide +kernel
theorem dX6_takeTurn_142 : decode cX6_takeTurn 142 = .ok (.iload_n 2, 1) := by decide +kernel
theorem dX6_takeTurn_143 : decode cX6_takeTurn 143 = .ok (.bipush 64, 2) := by decide +kernel
theorem dX6_takeTurn_145 : decode cX6_takeTurn 145 = .ok (.idiv, 1) := by decide +kernel
theorem dX6_takeTurn_146 : decode cX6_takeTurn 146 = .ok (.iconst 3, 1) := by decide +kernel
theorem dX6_takeTurn_147 : decode cX6_takeTurn 147 = .ok (.irem, 1) := by decide +kernel
theorem dX6_takeTurn_148 : decode cX6_takeTurn 148 = .ok (.ifCond .ne 8, 3) := by decide +kernel
theorem dX6_takeTurn_151 : decode cX6_takeTurn 151 = .ok (.bipush 120, 2) := by decide +kernel
theorem dX6_takeTurn_153 : decode cX6_takeTurn 153 = .ok (.goto 4, 3) := by decide +kernel
theorem dX6_takeTurn_156 : decode cX6_takeTurn 156 = .ok (.iconst 0, 1) := by decide +kernel
theorem dX6_takeTurn_157 : decode cX6_takeTurn 157 = .ok (.iload_n 3, 1) := by decide +kernel
theorem dX6_takeTurn_158 : decode cX6_takeTurn 158 = .ok (.iload_n 2, 1) := by decide +kernel
theorem dX6_takeTurn_159 : decode cX6_takeTurn 159 = .ok (.bipush 6, 2) := by decide +kernel
theorem dX6_takeTurn_161 : decode cX6_takeTurn 161 = .ok (.idiv, 1) := by decide +kernel
theorem dX6_takeTurn_162 : decode cX6_takeTurn 162 = .ok (.bipush 6, 2) := by decide +kernel
theorem dX6_takeTurn_164 : decode cX6_takeTurn 164 = .ok (.irem, 1) := by decide +kernel
theorem dX6_takeTurn_165 : decode cX6_takeTurn 165 = .ok (.invokevirtual 87, 3) := by decide +kernel
theorem dX6_takeTurn_168 : decode cX6_takeTurn 168 = .ok (.pop, 1) := by decide +kernel
theorem dX6_takeTurn_169 : decode cX6_takeTurn 169 = .ok (.goto 67, 3) := by decide +kernel
theorem dX6_takeTurn_172 : decode cX6_takeTurn 172 = .ok (.aload_n 0, 1) := by decide +kernel
theorem dX6_takeTurn_173 : decode cX6_takeTurn 173 = .ok (.getfield 26, 3) := by decide +kernel
theorem dX6_takeTurn_176 : decode cX6_takeTurn 176 = .ok (.iload_n 2, 1) := by decide +kernel
theorem dX6_takeTurn_177 : decode cX6_takeTurn 177 = .ok (.bipush 8, 2) := by decide +kernel
theorem dX6_takeTurn_179 : decode cX6_takeTurn 179 = .ok (.idiv, 1) := by decide +kernel
theorem dX6_takeTurn_180 : decode cX6_takeTurn 180 = .ok (.iconst 3, 1) := by decide +kernel
theorem dX6_takeTurn_181 : decode cX6_takeTurn 181 = .ok (.irem, 1) := by decide +kernel
theorem dX6_takeTurn_182 : decode cX6_takeTurn 182 = .ok (.ifCond .ne 8, 3) := by decide +kernel
theorem dX6_takeTurn_185 : decode cX6_takeTurn 185 = .ok (.bipush 103, 2) := by decide +kernel
theorem dX6_takeTurn_187 : decode cX6_takeTurn 187 = .ok (.goto 5, 3) := by decide +kernel
theorem dX6_takeTurn_190 : decode cX6_takeTurn 190 = .ok (.bipush 98, 2) := by decide +kernel
theorem dX6_takeTurn_192 : decode cX6_takeTurn 192 = .ok (.iload_n 3, 1) := by decide +kernel
theorem dX6_takeTurn_193 : decode cX6_takeTurn 193 = .ok (.iconst 0, 1) := by decide +kernel
theorem dX6_takeTurn_194 : decode cX6_takeTurn 194 = .ok (.invokevirtual 87, 3) := by decide +kernel
theorem dX6_takeTurn_197 : decode cX6_takeTurn 197 = .ok (.pop, 1) := by decide +kernel
theorem dX6_takeTurn_198 : decode cX6_takeTurn 198 = .ok (.goto 38, 3) := by decide +kernel
theorem dX6_takeTurn_201 : decode cX6_takeTurn 201 = .ok (.aload_n 0, 1) := by decide +kernel
theorem dX6_takeTurn_202 : decode cX6_takeTurn 202 = .ok (.getfield 26, 3) := by decide +kernel
theorem dX6_takeTurn_205 : decode cX6_takeTurn 205 = .ok (.bipush 112, 2) := by decide +kernel
theorem dX6_takeTurn_207 : decode cX6_takeTurn 207 = .ok (.iload_n 2, 1) := by decide +kernel
theorem dX6_takeTurn_208 : decode cX6_takeTurn 208 = .ok (.bipush 41, 2) := by decide +kernel
theorem dX6_takeTurn_210 : decode cX6_takeTurn 210 = .ok (.irem, 1) := by decide +kernel
theorem dX6_takeTurn_211 : decode cX6_takeTurn 211 = .ok (.iconst 0, 1) := by decide +kernel
theorem dX6_takeTurn_212 : decode cX6_takeTurn 212 = .ok (.invokevirtual 87, 3) := by decide +kernel
theorem dX6_takeTurn_215 : decode cX6_takeTurn 215 = .ok (.pop, 1) := by decide +kernel
theorem dX6_takeTurn_216 : decode cX6_takeTurn 216 = .ok (.goto 20, 3) := by decide +kernel
theorem dX6_takeTurn_219 : decode cX6_takeTurn 219 = .ok (.aload_n 0, 1) := by decide +kernel
theorem dX6_takeTurn_220 : decode cX6_takeTurn 220 = .ok (.getfield 26, 3) := by decide +kernel
theorem dX6_takeTurn_223 : decode cX6_takeTurn 223 = .ok (.bipush 116, 2) := by decide +kernel
theorem dX6_takeTurn_225 : decode cX6_takeTurn 225 = .ok (.iconst 1, 1) := by decide +kernel
theorem dX6_takeTurn_226 : decode cX6_takeTurn 226 = .ok (.iload_n 2, 1) := by decide +kernel
theorem dX6_takeTurn_227 : decode cX6_takeTurn 227 = .ok (.bipush 8, 2) := by decide +kernel
theorem dX6_takeTurn_229 : decode cX6_takeTurn 229 = .ok (.irem, 1) := by decide +kernel
theorem dX6_takeTurn_230 : decode cX6_takeTurn 230 = .ok (.iadd, 1) := by decide +kernel
theorem dX6_takeTurn_231 : decode cX6_takeTurn 231 = .ok (.iconst 0, 1) := by decide +kernel
theorem dX6_takeTurn_232 : decode cX6_takeTurn 232 = .ok (.invokevirtual 87, 3) := by decide +kernel
theorem dX6_takeTurn_235 : decode cX6_takeTurn 235 = .ok (.pop, 1) := by decide +kernel
theorem dX6_takeTurn_236 : decode cX6_takeTurn 236 = .ok (.return_, 1) := by decide +kernel
theorem dX6_isPlace_0 : decode cX6_isPlace 0 = .ok (.iload_n 0, 1) := by decide +kernel
theorem dX6_isPlace_1 : decode cX6_isPlace 1 = .ok (.ifCond .lt 13, 3) := by decide +kernel
theorem dX6_isPlace_4 : decode cX6_isPlace 4 = .ok (.iload_n 0, 1) := by decide +kernel
theorem dX6_isPlace_5 : decode cX6_isPlace 5 = .ok (.bipush 9, 2) := by decide +kernel
theorem dX6_isPlace_7 : decode cX6_isPlace 7 = .ok (.if_icmp .gt 7, 3) := by decide +kernel
theorem dX6_isPlace_10 : decode cX6_isPlace 10 = .ok (.iconst 1, 1) := by decide +kernel
theorem dX6_isPlace_11 : decode cX6_isPlace 11 = .ok (.goto 4, 3) := by decide +kernel
theorem dX6_isPlace_14 : decode cX6_isPlace 14 = .ok (.iconst 0, 1) := by decide +kernel
theorem dX6_isPlace_15 : decode cX6_isPlace 15 = .ok (.ireturn, 1) := by decide +kernel
theorem dX6_isPatience_0 : decode cX6_isPatience 0 = .ok (.iload_n 0, 1) := by decide +kernel
theorem dX6_isPatience_1 : decode cX6_isPatience 1 = .ok (.ifCond .lt 13, 3) := by decide +kernel
theorem dX6_isPatience_4 : decode cX6_isPatience 4 = .ok (.iload_n 0, 1) := by decide +kernel
theorem dX6_isPatience_5 : decode cX6_isPatience 5 = .ok (.bipush 40, 2) := by decide +kernel
theorem dX6_isPatience_7 : decode cX6_isPatience 7 = .ok (.if_icmp .gt 7, 3) := by decide +kernel
theorem dX6_isPatience_10 : decode cX6_isPatience 10 = .ok (.iconst 1, 1) := by decide +kernel
theorem dX6_isPatience_11 : decode cX6_isPatience 11 = .ok (.goto 4, 3) := by decide +kernel
theorem dX6_isPatience_14 : decode cX6_isPatience 14 = .ok (.iconst 0, 1) := by decide +kernel
theorem dX6_isPatience_15 : decode cX6_isPatience 15 = .ok (.ireturn, 1) := by decide +kernel
theorem dX6_areTicks_0 : decode cX6_areTicks 0 = .ok (.iload_n 0, 1) := by decide +kernel
theorem dX6_areTicks_1 : decode cX6_areTicks 1 = .ok (.iconst 1, 1) := by decide +kernel
theorem dX6_areTicks_2 : decode cX6_areTicks 2 = .ok (.if_icmp .lt 13, 3) := by decide +kernel
theorem dX6_areTicks_5 : decode cX6_areTicks 5 = .ok (.iload_n 0, 1) := by decide +kernel
theorem dX6_areTicks_6 : decode cX6_areTicks 6 = .ok (.bipush 60, 2) := by decide +kernel
theorem dX6_areTicks_8 : decode cX6_areTicks 8 = .ok (.if_icmp .gt 7, 3) := by decide +kernel
theorem dX6_areTicks_11 : decode cX6_areTicks 11 = .ok (.iconst 1, 1) := by decide +kernel
theorem dX6_areTicks_12 : decode cX6_areTicks 12 = .ok (.goto 4, 3) := by decide +kernel
theorem dX6_areTicks_15 : decode cX6_areTicks 15 = .ok (.iconst 0, 1) := by decide +kernel
theorem dX6_areTicks_16 : decode cX6_areTicks 16 = .ok (.ireturn, 1) := by decide +kernel
theorem dX6_hasBit_0 : decode cX6_hasBit 0 = .ok (.iload_n 0, 1) := by decide +kernel
theorem dX6_hasBit_1 : decode cX6_hasBit 1 = .ok (.iload_n 1, 1) := by decide +kernel
theorem dX6_hasBit_2 : decode cX6_hasBit 2 = .ok (.ishr, 1) := by decide +kernel
theorem dX6_hasBit_3 : decode cX6_hasBit 3 = .ok (.iconst 1, 1) := by decide +kernel
theorem dX6_hasBit_4 : decode cX6_hasBit 4 = .ok (.iand, 1) := by decide +kernel
theorem dX6_hasBit_5 : decode cX6_hasBit 5 = .ok (.ifCond .eq 7, 3) := by decide +kernel
theorem dX6_hasBit_8 : decode cX6_hasBit 8 = .ok (.iconst 1, 1) := by decide +kernel
theorem dX6_hasBit_9 : decode cX6_hasBit 9 = .ok (.goto 4, 3) := by decide +kernel
theorem dX6_hasBit_12 : decode cX6_hasBit 12 = .ok (.iconst 0, 1) := by decide +kernel
theorem dX6_hasBit_13 : decode cX6_hasBit 13 = .ok (.ireturn, 1) := by decide +kernel
theorem dX7_init_0 : decode cX7_init 0 = .ok (.aload_n 0, 1) := by decide +kernel
theorem dX7_init_1 : decode cX7_init 1 = .ok (.invokespecial 1, 3) := by decide +kernel
theorem dX7_init_4 : decode cX7_init 4 = .ok (.aload_n 0, 1) := by decide +kernel
theorem dX7_init_5 : decode cX7_init 5 = .ok (.bipush 120, 2) := by decide +kernel
theorem dX7_init_7 : decode cX7_init 7 = .ok (.newarray .int, 2) := by decide +kernel
theorem dX7_init_9 : decode cX7_init 9 = .ok (.putfield 7, 3) := by decide +kernel
theorem dX7_init_12 : decode cX7_init 12 = .ok (.aload_n 0, 1) := by decide +kernel
theorem dX7_init_13 : decode cX7_init 13 = .ok (.sipush 2012, 3) := by decide +kernel
theorem dX7_init_16 : decode cX7_init 16 = .ok (.newarray .int, 2) := by decide +kernel
theorem dX7_init_18 : decode cX7_init 18 = .ok (.putfield 13, 3) := by decide +kernel
theorem dX7_init_21 : decode cX7_init 21 = .ok (.aload_n 0, 1) := by decide +kernel
theorem dX7_init_22 : decode cX7_init 22 = .ok (.sipush 2012, 3) := by decide +kernel
theorem dX7_init_25 : decode cX7_init 25 = .ok (.newarray .int, 2) := by decide +kernel
theorem dX7_init_27 : decode cX7_init 27 = .ok (.putfield 16, 3) := by decide +kernel
theorem dX7_init_30 : decode cX7_init 30 = .ok (.aload_n 0, 1) := by decide +kernel
theorem dX7_init_31 : decode cX7_init 31 = .ok (.sipush 28168, 3) := by decide +kernel
theorem dX7_init_34 : decode cX7_init 34 = .ok (.newarray .int, 2) := by decide +kernel
theorem dX7_init_36 : decode cX7_init 36 = .ok (.putfield 19, 3) := by decide +kernel
theorem dX7_init_39 : decode cX7_init 39 = .ok (.aload_n 0, 1) := by decide +kernel
theorem dX7_init_40 : decode cX7_init 40 = .ok (.sipush 4024, 3) := by decide +kernel
theorem dX7_init_43 : decode cX7_init 43 = .ok (.newarray .int, 2) := by decide +kernel
theorem dX7_init_45 : decode cX7_init 45 = .ok (.putfield 22, 3) := by decide +kernel
theorem dX7_init_48 : decode cX7_init 48 = .ok (.aload_n 0, 1) := by decide +kernel
theorem dX7_init_49 : decode cX7_init 49 = .ok (.iconst 2, 1) := by decide +kernel
theorem dX7_init_50 : decode cX7_init 50 = .ok (.newarray .boolean, 2) := by decide +kernel
theorem dX7_init_52 : decode cX7_init 52 = .ok (.putfield 25, 3) := by decide +kernel
theorem dX7_init_55 : decode cX7_init 55 = .ok (.aload_n 0, 1) := by decide +kernel
theorem dX7_init_56 : decode cX7_init 56 = .ok (.bipush 10, 2) := by decide +kernel
theorem dX7_init_58 : decode cX7_init 58 = .ok (.newarray .int, 2) := by decide +kernel
theorem dX7_init_60 : decode cX7_init 60 = .ok (.putfield 29, 3) := by decide +kernel
theorem dX7_init_63 : decode cX7_init 63 = .ok (.aload_n 0, 1) := by decide +kernel
theorem dX7_init_64 : decode cX7_init 64 = .ok (.getfield 13, 3) := by decide +kernel
theorem dX7_init_67 : decode cX7_init 67 = .ok (.invokestatic 32, 3) := by decide +kernel
theorem dX7_init_70 : decode cX7_init 70 = .ok (.return_, 1) := by decide +kernel
theorem dX7_thrown_0 : decode cX7_thrown 0 = .ok (.aload_n 0, 1) := by decide +kernel
theorem dX7_thrown_1 : decode cX7_thrown 1 = .ok (.getfield 36, 3) := by decide +kernel
theorem dX7_thrown_4 : decode cX7_thrown 4 = .ok (.ireturn, 1) := by decide +kernel
theorem dX7_refused_0 : decode cX7_refused 0 = .ok (.aload_n 0, 1) := by decide +kernel
theorem dX7_refused_1 : decode cX7_refused 1 = .ok (.iload_n 1, 1) := by decide +kernel
theorem dX7_refused_2 : decode cX7_refused 2 = .ok (.putfield 36, 3) := by decide +kernel
theorem dX7_refused_5 : decode cX7_refused 5 = .ok (.iload_n 1, 1) := by decide +kernel
theorem dX7_refused_6 : decode cX7_refused 6 = .ok (.ifCond .le 7, 3) := by decide +kernel
theorem dX7_refused_9 : decode cX7_refused 9 = .ok (.iconst 1, 1) := by decide +kernel
theorem dX7_refused_10 : decode cX7_refused 10 = .ok (.goto 4, 3) := by decide +kernel
theorem dX7_refused_13 : decode cX7_refused 13 = .ok (.iconst 0, 1) := by decide +kernel
theorem dX7_refused_14 : decode cX7_refused 14 = .ok (.ireturn, 1) := by decide +kernel
theorem dX7_in_0 : decode cX7_in 0 = .ok (.lload_n 0, 1) := by decide +kernel
theorem dX7_in_1 : decode cX7_in 1 = .ok (.lload_n 2, 1) := by decide +kernel
theorem dX7_in_2 : decode cX7_in 2 = .ok (.lcmp, 1) := by decide +kernel
theorem dX7_in_3 : decode cX7_in 3 = .ok (.ifCond .lt 14, 3) := by decide +kernel
theorem dX7_in_6 : decode cX7_in 6 = .ok (.lload_n 0, 1) := by decide +kernel
theorem dX7_in_7 : decode cX7_in 7 = .ok (.lload 4, 2) := by decide +kernel
theorem dX7_in_9 : decode cX7_in 9 = .ok (.lcmp, 1) := by decide +kernel
theorem dX7_in_10 : decode cX7_in 10 = .ok (.ifCond .gt 7, 3) := by decide +kernel
theorem dX7_in_13 : decode cX7_in 13 = .ok (.iconst 1, 1) := by decide +kernel
theorem dX7_in_14 : decode cX7_in 14 = .ok (.goto 4, 3) := by decide +kernel
theorem dX7_in_17 : decode cX7_in 17 = .ok (.iconst 0, 1) := by decide +kernel
theorem dX7_in_18 : decode cX7_in 18 = .ok (.ireturn, 1) := by decide +kernel
theorem dX7_copyState_0 : decode cX7_copyState 0 = .ok (.iconst 0, 1) := by decide +kernel
theorem dX7_copyState_1 : decode cX7_copyState 1 = .ok (.istore 4, 2) := by decide +kernel
theorem dX7_copyState_3 : decode cX7_copyState 3 = .ok (.iload 4, 2) := by decide +kernel
theorem dX7_copyState_5 : decode cX7_copyState 5 = .ok (.sipush 2012, 3) := by decide +kernel
theorem dX7_copyState_8 : decode cX7_copyState 8 = .ok (.if_icmp .ge 21, 3) := by decide +kernel
theorem dX7_copyState_11 : decode cX7_copyState 11 = .ok (.aload_n 2, 1) := by decide +kernel
theorem dX7_copyState_12 : decode cX7_copyState 12 = .ok (.iload_n 3, 1) := by decide +kernel
theorem dX7_copyState_13 : decode cX7_copyState 13 = .ok (.iload 4, 2) := by decide +kernel
theorem dX7_copyState_15 : decode cX7_copyState 15 = .ok (.iadd, 1) := by decide +kernel
theorem dX7_copyState_16 : decode cX7_copyState 16 = .ok (.aload_n 0, 1) := by decide +kernel
theorem dX7_copyState_17 : decode cX7_copyState 17 = .ok (.iload_n 1, 1) := by decide +kernel
theorem dX7_copyState_18 : decode cX7_copyState 18 = .ok (.iload 4, 2) := by decide +kernel
theorem dX7_copyState_20 : decode cX7_copyState 20 = .ok (.iadd, 1) := by decide +kernel
theorem dX7_copyState_21 : decode cX7_copyState 21 = .ok (.iaload, 1) := by decide +kernel
theorem dX7_copyState_22 : decode cX7_copyState 22 = .ok (.iastore, 1) := by decide +kernel
theorem dX7_copyState_23 : decode cX7_copyState 23 = .ok (.iinc 4 1, 3) := by decide +kernel
theorem dX7_copyState_26 : decode cX7_copyState 26 = .ok (.goto (-23), 3) := by decide +kernel
theorem dX7_copyState_29 : decode cX7_copyState 29 = .ok (.return_, 1) := by decide +kernel
theorem dX7_clear_0 : decode cX7_clear 0 = .ok (.iconst 0, 1) := by decide +kernel
theorem dX7_clear_1 : decode cX7_clear 1 = .ok (.istore_n 1, 1) := by decide +kernel
theorem dX7_clear_2 : decode cX7_clear 2 = .ok (.iload_n 1, 1) := by decide +kernel
theorem dX7_clear_3 : decode cX7_clear 3 = .ok (.sipush 2012, 3) := by decide +kernel
theorem dX7_clear_6 : decode cX7_clear 6 = .ok (.if_icmp .ge 13, 3) := by decide +kernel
theorem dX7_clear_9 : decode cX7_clear 9 = .ok (.aload_n 0, 1) := by decide +kernel
theorem dX7_clear_10 : decode cX7_clear 10 = .ok (.iload_n 1, 1) := by decide +kernel
theorem dX7_clear_11 : decode cX7_clear 11 = .ok (.iconst 0, 1) := by decide +kernel
theorem dX7_clear_12 : decode cX7_clear 12 = .ok (.iastore, 1) := by decide +kernel
theorem dX7_clear_13 : decode cX7_clear 13 = .ok (.iinc 1 1, 3) := by decide +kernel
theorem dX7_clear_16 : decode cX7_clear 16 = .ok (.goto (-14), 3) := by decide +kernel
theorem dX7_clear_19 : decode cX7_clear 19 = .ok (.return_, 1) := by decide +kernel
theorem dX7_of_0 : decode cX7_of 0 = .ok (.aload_n 0, 1) := by decide +kernel
theorem dX7_of_1 : decode cX7_of 1 = .ok (.bipush 14, 2) := by decide +kernel
theorem dX7_of_3 : decode cX7_of 3 = .ok (.bipush 83, 2) := by decide +kernel
theorem dX7_of_5 : decode cX7_of 5 = .ok (.iload_n 1, 1) := by decide +kernel
theorem dX7_of_6 : decode cX7_of 6 = .ok (.imul, 1) := by decide +kernel
theorem dX7_of_7 : decode cX7_of 7 = .ok (.iadd, 1) := by decide +kernel
theorem dX7_of_8 : decode cX7_of 8 = .ok (.iload_n 2, 1) := by decide +kernel
theorem dX7_of_9 : decode cX7_of 9 = .ok (.iadd, 1) := by decide +kernel
theorem dX7_of_10 : decode cX7_of 10 = .ok (.iaload, 1) := by decide +kernel
theorem dX7_of_11 : decode cX7_of 11 = .ok (.ireturn, 1) := by decide +kernel
theorem dX7_lay_0 : decode cX7_lay 0 = .ok (.aload_n 0, 1) := by decide +kernel
theorem dX7_lay_1 : decode cX7_lay 1 = .ok (.bipush 14, 2) := by decide +kernel
theorem dX7_lay_3 : decode cX7_lay 3 = .ok (.bipush 83, 2) := by decide +kernel
theorem dX7_lay_5 : decode cX7_lay 5 = .ok (.iload_n 1, 1) := by decide +kernel
theorem dX7_lay_6 : decode cX7_lay 6 = .ok (.imul, 1) := by decide +kernel
theorem dX7_lay_7 : decode cX7_lay 7 = .ok (.iadd, 1) := by decide +kernel
theorem dX7_lay_8 : decode cX7_lay 8 = .ok (.iload_n 2, 1) := by decide +kernel
theorem dX7_lay_9 : decode cX7_lay 9 = .ok (.iadd, 1) := by decide +kernel
theorem dX7_lay_10 : decode cX7_lay 10 = .ok (.iload_n 3, 1) := by decide +kernel
theorem dX7_lay_11 : decode cX7_lay 11 = .ok (.iastore, 1) := by decide +kernel
theorem dX7_lay_12 : decode cX7_lay 12 = .ok (.return_, 1) := by decide +kernel
theorem dX7_ofNote_0 : decode cX7_ofNote 0 = .ok (.aload_n 0, 1) := by decide +kernel
theorem dX7_ofNote_1 : decode cX7_ofNote 1 = .ok (.sipush 512, 3) := by decide +kernel
theorem dX7_ofNote_4 : decode cX7_ofNote 4 = .ok (.bipush 10, 2) := by decide +kernel
theorem dX7_ofNote_6 : decode cX7_ofNote 6 = .ok (.iload_n 1, 1) := by decide +kernel
theorem dX7_ofNote_7 : decode cX7_ofNote 7 = .ok (.imul, 1) := by decide +kernel
theorem dX7_ofNote_8 : decode cX7_ofNote 8 = .ok (.iadd, 1) := by decide +kernel
theorem dX7_ofNote_9 : decode cX7_ofNote 9 = .ok (.iload_n 2, 1) := by decide +kernel
theorem dX7_ofNote_10 : decode cX7_ofNote 10 = .ok (.iadd, 1) := by decide +kernel
theorem dX7_ofNote_11 : decode cX7_ofNote 11 = .ok (.iaload, 1) := by decide +kernel
theorem dX7_ofNote_12 : decode cX7_ofNote 12 = .ok (.ireturn, 1) := by decide +kernel
theorem dX7_isMember_0 : decode cX7_isMember 0 = .ok (.iload_n 1, 1) := by decide +kernel
theorem dX7_isMember_1 : decode cX7_isMember 1 = .ok (.i2l, 1) := by decide +kernel
theorem dX7_isMember_2 : decode cX7_isMember 2 = .ok (.lconst 0, 1) := by decide +kernel
theorem dX7_isMember_3 : decode cX7_isMember 3 = .ok (.aload_n 0, 1) := by decide +kernel
theorem dX7_isMember_4 : decode cX7_isMember 4 = .ok (.iconst 0, 1) := by decide +kernel
theorem dX7_isMember_5 : decode cX7_isMember 5 = .ok (.iaload, 1) := by decide +kernel
theorem dX7_isMember_6 : decode cX7_isMember 6 = .ok (.iconst 1, 1) := by decide +kernel
theorem dX7_isMember_7 : decode cX7_isMember 7 = .ok (.isub, 1) := by decide +kernel
theorem dX7_isMember_8 : decode cX7_isMember 8 = .ok (.i2l, 1) := by decide +kernel
theorem dX7_isMember_9 : decode cX7_isMember 9 = .ok (.invokestatic 40, 3) := by decide +kernel
theorem dX7_isMember_12 : decode cX7_isMember 12 = .ok (.ireturn, 1) := by decide +kernel
theorem dX7_has_0 : decode cX7_has 0 = .ok (.iload_n 0, 1) := by decide +kernel
theorem dX7_has_1 : decode cX7_has 1 = .ok (.iload_n 1, 1) := by decide +kernel
theorem dX7_has_2 : decode cX7_has 2 = .ok (.ishr, 1) := by decide +kernel
theorem dX7_has_3 : decode cX7_has 3 = .ok (.iconst 1, 1) := by decide +kernel
theorem dX7_has_4 : decode cX7_has 4 = .ok (.iand, 1) := by decide +kernel
theorem dX7_has_5 : decode cX7_has 5 = .ok (.iconst 1, 1) := by decide +kernel
theorem dX7_has_6 : decode cX7_has 6 = .ok (.if_icmp .ne 7, 3) := by decide +kernel
theorem dX7_has_9 : decode cX7_has 9 = .ok (.iconst 1, 1) := by decide +kernel
theorem dX7_has_10 : decode cX7_has 10 = .ok (.goto 4, 3) := by decide +kernel
theorem dX7_has_13 : decode cX7_has 13 = .ok (.iconst 0, 1) := by decide +kernel
theorem dX7_has_14 : decode cX7_has 14 = .ok (.ireturn, 1) := by decide +kernel
theorem dX7_bits_0 : decode cX7_bits 0 = .ok (.iconst 0, 1) := by decide +kernel
theorem dX7_bits_1 : decode cX7_bits 1 = .ok (.istore_n 1, 1) := by decide +kernel
theorem dX7_bits_2 : decode cX7_bits 2 = .ok (.iconst 0, 1) := by decide +kernel
theorem dX7_bits_3 : decode cX7_bits 3 = .ok (.istore_n 2, 1) := by decide +kernel
theorem dX7_bits_4 : decode cX7_bits 4 = .ok (.iload_n 2, 1) := by decide +kernel
theorem dX7_bits_5 : decode cX7_bits 5 = .ok (.bipush 24, 2) := by decide +kernel
theorem dX7_bits_7 : decode cX7_bits 7 = .ok (.if_icmp .ge 17, 3) := by decide +kernel
theorem dX7_bits_10 : decode cX7_bits 10 = .ok (.iload_n 1, 1) := by decide +kernel
theorem dX7_bits_11 : decode cX7_bits 11 = .ok (.iload_n 0, 1) := by decide +kernel
theorem dX7_bits_12 : decode cX7_bits 12 = .ok (.iload_n 2, 1) := by decide +kernel
theorem dX7_bits_13 : decode cX7_bits 13 = .ok (.ishr, 1) := by decide +kernel
theorem dX7_bits_14 : decode cX7_bits 14 = .ok (.iconst 1, 1) := by decide +kernel
theorem dX7_bits_15 : decode cX7_bits 15 = .ok (.iand, 1) := by decide +kernel
theorem dX7_bits_16 : decode cX7_bits 16 = .ok (.iadd, 1) := by decide +kernel
theorem dX7_bits_17 : decode cX7_bits 17 = .ok (.istore_n 1, 1) := by decide +kernel
theorem dX7_bits_18 : decode cX7_bits 18 = .ok (.iinc 2 1, 3) := by decide +kernel
theorem dX7_bits_21 : decode cX7_bits 21 = .ok (.goto (-17), 3) := by decide +kernel
theorem dX7_bits_24 : decode cX7_bits 24 = .ok (.iload_n 1, 1) := by decide +kernel
theorem dX7_bits_25 : decode cX7_bits 25 = .ok (.ireturn, 1) := by decide +kernel
theorem dX7_isOneRoll_0 : decode cX7_isOneRoll 0 = .ok (.aload_n 0, 1) := by decide +kernel
theorem dX7_isOneRoll_1 : decode cX7_isOneRoll 1 = .ok (.iload_n 1, 1) := by decide +kernel
theorem dX7_isOneRoll_2 : decode cX7_isOneRoll 2 = .ok (.iconst 2, 1) := by decide +kernel
theorem dX7_isOneRoll_3 : decode cX7_isOneRoll 3 = .ok (.invokestatic 44, 3) := by decide +kernel
theorem dX7_isOneRoll_6 : decode cX7_isOneRoll 6 = .ok (.aload_n 0, 1) := by decide +kernel
theorem dX7_isOneRoll_7 : decode cX7_isOneRoll 7 = .ok (.iload_n 2, 1) := by decide +kernel
theorem dX7_isOneRoll_8 : decode cX7_isOneRoll 8 = .ok (.iconst 2, 1) := by decide +kernel
theorem dX7_isOneRoll_9 : decode cX7_isOneRoll 9 = .ok (.invokestatic 44, 3) := by decide +kernel
theorem dX7_isOneRoll_12 : decode cX7_isOneRoll 12 = .ok (.if_icmp .ne 22, 3) := by decide +kernel
theorem dX7_isOneRoll_15 : decode cX7_isOneRoll 15 = .ok (.aload_n 0, 1) := by decide +kernel
theorem dX7_isOneRoll_16 : decode cX7_isOneRoll 16 = .ok (.iload_n 1, 1) := by decide +kernel
theorem dX7_isOneRoll_17 : decode cX7_isOneRoll 17 = .ok (.iconst 3, 1) := by decide +kernel
theorem dX7_isOneRoll_18 : decode cX7_isOneRoll 18 = .ok (.invokestatic 44, 3) := by decide +kernel
theorem dX7_isOneRoll_21 : decode cX7_isOneRoll 21 = .ok (.aload_n 0, 1) := by decide +kernel
theorem dX7_isOneRoll_22 : decode cX7_isOneRoll 22 = .ok (.iload_n 2, 1) := by decide +kernel
theorem dX7_isOneRoll_23 : decode cX7_isOneRoll 23 = .ok (.iconst 3, 1) := by decide +kernel
theorem dX7_isOneRoll_24 : decode cX7_isOneRoll 24 = .ok (.invokestatic 44, 3) := by decide +kernel
theorem dX7_isOneRoll_27 : decode cX7_isOneRoll 27 = .ok (.if_icmp .ne 7, 3) := by decide +kernel
theorem dX7_isOneRoll_30 : decode cX7_isOneRoll 30 = .ok (.iconst 1, 1) := by decide +kernel
theorem dX7_isOneRoll_31 : decode cX7_isOneRoll 31 = .ok (.goto 4, 3) := by decide +kernel
theorem dX7_isOneRoll_34 : decode cX7_isOneRoll 34 = .ok (.iconst 0, 1) := by decide +kernel
theorem dX7_isOneRoll_35 : decode cX7_isOneRoll 35 = .ok (.ireturn, 1) := by decide +kernel
theorem dX7_isSet_0 : decode cX7_isSet 0 = .ok (.iload_n 2, 1) := by decide +kernel
theorem dX7_isSet_1 : decode cX7_isSet 1 = .ok (.i2l, 1) := by decide +kernel
theorem dX7_isSet_2 : decode cX7_isSet 2 = .ok (.lconst 0, 1) := by decide +kernel
theorem dX7_isSet_3 : decode cX7_isSet 3 = .ok (.iconst 1, 1) := by decide +kernel
theorem dX7_isSet_4 : decode cX7_isSet 4 = .ok (.aload_n 0, 1) := by decide +kernel
theorem dX7_isSet_5 : decode cX7_isSet 5 = .ok (.iconst 0, 1) := by decide +kernel
theorem dX7_isSet_6 : decode cX7_isSet 6 = .ok (.iaload, 1) := by decide +kernel
theorem dX7_isSet_7 : decode cX7_isSet 7 = .ok (.ishl, 1) := by decide +kernel
theorem dX7_isSet_8 : decode cX7_isSet 8 = .ok (.iconst 1, 1) := by decide +kernel
theorem dX7_isSet_9 : decode cX7_isSet 9 = .ok (.isub, 1) := by decide +kernel
theorem dX7_isSet_10 : decode cX7_isSet 10 = .ok (.i2l, 1) := by decide +kernel
theorem dX7_isSet_11 : decode cX7_isSet 11 = .ok (.invokestatic 40, 3) := by decide +kernel
theorem dX7_isSet_14 : decode cX7_isSet 14 = .ok (.ifCond .eq 15, 3) := by decide +kernel
theorem dX7_isSet_17 : decode cX7_isSet 17 = .ok (.iload_n 2, 1) := by decide +kernel
theorem dX7_isSet_18 : decode cX7_isSet 18 = .ok (.iload_n 1, 1) := by decide +kernel
theorem dX7_isSet_19 : decode cX7_isSet 19 = .ok (.invokestatic 48, 3) := by decide +kernel
theorem dX7_isSet_22 : decode cX7_isSet 22 = .ok (.ifCond .eq 7, 3) := by decide +kernel
theorem dX7_isSet_25 : decode cX7_isSet 25 = .ok (.iconst 1, 1) := by decide +kernel
theorem dX7_isSet_26 : decode cX7_isSet 26 = .ok (.goto 4, 3) := by decide +kernel
theorem dX7_isSet_29 : decode cX7_isSet 29 = .ok (.iconst 0, 1) := by decide +kernel
theorem dX7_isSet_30 : decode cX7_isSet 30 = .ok (.ireturn, 1) := by decide +kernel
theorem dX7_far_0 : decode cX7_far 0 = .ok (.aload_n 0, 1) := by decide +kernel
theorem dX7_far_1 : decode cX7_far 1 = .ok (.iload_n 1, 1) := by decide +kernel
theorem dX7_far_2 : decode cX7_far 2 = .ok (.iconst 0, 1) := by decide +kernel
theorem dX7_far_3 : decode cX7_far 3 = .ok (.invokestatic 44, 3) := by decide +kernel
theorem dX7_far_6 : decode cX7_far 6 = .ok (.aload_n 0, 1) := by decide +kernel
theorem dX7_far_7 : decode cX7_far 7 = .ok (.iload_n 2, 1) := by decide +kernel
theorem dX7_far_8 : decode cX7_far 8 = .ok (.iconst 0, 1) := by decide +kernel
theorem dX7_far_9 : decode cX7_far 9 = .ok (.invokestatic 44, 3) := by decide +kernel
theorem dX7_far_12 : decode cX7_far 12 = .ok (.isub, 1) := by decide +kernel
theorem dX7_far_13 : decode cX7_far 13 = .ok (.istore_n 3, 1) := by decide +kernel
theorem dX7_far_14 : decode cX7_far 14 = .ok (.iload_n 3, 1) := by decide +kernel
theorem dX7_far_15 : decode cX7_far 15 = .ok (.ifCond .ge 8, 3) := by decide +kernel
theorem dX7_far_18 : decode cX7_far 18 = .ok (.iload_n 3, 1) := by decide +kernel
theorem dX7_far_19 : decode cX7_far 19 = .ok (.ineg, 1) := by decide +kernel
theorem dX7_far_20 : decode cX7_far 20 = .ok (.goto 4, 3) := by decide +kernel
theorem dX7_far_23 : decode cX7_far 23 = .ok (.iload_n 3, 1) := by decide +kernel
theorem dX7_far_24 : decode cX7_far 24 = .ok (.iconst 1, 1) := by decide +kernel
theorem dX7_far_25 : decode cX7_far 25 = .ok (.iadd, 1) := by decide +kernel
theorem dX7_far_26 : decode cX7_far 26 = .ok (.ireturn, 1) := by decide +kernel
theorem dX7_send_0 : decode cX7_send 0 = .ok (.aload_n 0, 1) := by decide +kernel
theorem dX7_send_1 : decode cX7_send 1 = .ok (.bipush 8, 2) := by decide +kernel
theorem dX7_send_3 : decode cX7_send 3 = .ok (.iload_n 2, 1) := by decide +kernel
theorem dX7_send_4 : decode cX7_send 4 = .ok (.iadd, 1) := by decide +kernel
theorem dX7_send_5 : decode cX7_send 5 = .ok (.iaload, 1) := by decide +kernel
theorem dX7_send_6 : decode cX7_send 6 = .ok (.iload_n 3, 1) := by decide +kernel
theorem dX7_send_7 : decode cX7_send 7 = .ok (.invokestatic 48, 3) := by decide +kernel
theorem dX7_send_10 : decode cX7_send 10 = .ok (.ifCond .ne 12, 3) := by decide +kernel
theorem dX7_send_13 : decode cX7_send 13 = .ok (.aload_n 0, 1) := by decide +kernel
theorem dX7_send_14 : decode cX7_send 14 = .ok (.iconst 2, 1) := by decide +kernel
theorem dX7_send_15 : decode cX7_send 15 = .ok (.iaload, 1) := by decide +kernel
theorem dX7_send_16 : decode cX7_send 16 = .ok (.sipush 150, 3) := by decide +kernel
theorem dX7_send_19 : decode cX7_send 19 = .ok (.if_icmp .ne 11, 3) := by decide +kernel
theorem dX7_send_22 : decode cX7_send 22 = .ok (.aload_n 0, 1) := by decide +kernel
theorem dX7_send_23 : decode cX7_send 23 = .ok (.iconst 3, 1) := by decide +kernel
theorem dX7_send_24 : decode cX7_send 24 = .ok (.dup2, 1) := by decide +kernel
theorem dX7_send_25 : decode cX7_send 25 = .ok (.iaload, 1) := by decide +kernel
theorem dX7_send_26 : decode cX7_send 26 = .ok (.iconst 1, 1) := by decide +kernel
theorem dX7_send_27 : decode cX7_send 27 = .ok (.iadd, 1) := by decide +kernel
theorem dX7_send_28 : decode cX7_send 28 = .ok (.iastore, 1) := by decide +kernel
theorem dX7_send_29 : decode cX7_send 29 = .ok (.return_, 1) := by decide +kernel
theorem dX7_send_30 : decode cX7_send 30 = .ok (.aload_n 0, 1) := by decide +kernel
theorem dX7_send_31 : decode cX7_send 31 = .ok (.iconst 1, 1) := by decide +kernel
theorem dX7_send_32 : decode cX7_send 32 = .ok (.iaload, 1) := by decide +kernel
theorem dX7_send_33 : decode cX7_send 33 = .ok (.aload_n 0, 1) := by decide +kernel
theorem dX7_send_34 : decode cX7_send 34 = .ok (.iload_n 2, 1) := by decide +kernel
theorem dX7_send_35 : decode cX7_send 35 = .ok (.iload_n 3, 1) := by decide +kernel
theorem dX7_send_36 : decode cX7_send 36 = .ok (.invokestatic 52, 3) := by decide +kernel
theorem dX7_send_39 : decode cX7_send 39 = .ok (.iadd, 1) := by decide +kernel
theorem dX7_send_40 : decode cX7_send 40 = .ok (.istore 7, 2) := by decide +kernel
theorem dX7_send_42 : decode cX7_send 42 = .ok (.aload_n 0, 1) := by decide +kernel
theorem dX7_send_43 : decode cX7_send 43 = .ok (.iconst 2, 1) := by decide +kernel
theorem dX7_send_44 : decode cX7_send 44 = .ok (.iaload, 1) := by decide +kernel
theorem dX7_send_45 : decode cX7_send 45 = .ok (.istore 8, 2) := by decide +kernel
theorem dX7_send_47 : decode cX7_send 47 = .ok (.iload 8, 2) := by decide +kernel
theorem dX7_send_49 : decode cX7_send 49 = .ok (.ifCond .le 69, 3) := by decide +kernel
theorem dX7_send_52 : decode cX7_send 52 = .ok (.aload_n 0, 1) := by decide +kernel
theorem dX7_send_53 : decode cX7_send 53 = .ok (.iload 8, 2) := by decide +kernel
theorem dX7_send_55 : decode cX7_send 55 = .ok (.iconst 1, 1) := by decide +kernel
theorem dX7_send_56 : decode cX7_send 56 = .ok (.isub, 1) := by decide +kernel
theorem dX7_send_57 : decode cX7_send 57 = .ok (.iconst 3, 1) := by decide +kernel
theorem dX7_send_58 : decode cX7_send 58 = .ok (.invokestatic 55, 3) := by decide +kernel
theorem dX7_send_61 : decode cX7_send 61 = .ok (.iload 7, 2) := by decide +kernel
theorem dX7_send_63 : decode cX7_send 63 = .ok (.if_icmp .le 55, 3) := by decide +kernel
theorem dX7_send_66 : decode cX7_send 66 = .ok (.iconst 0, 1) := by decide +kernel
theorem dX7_send_67 : decode cX7_send 67 = .ok (.istore 9, 2) := by decide +kernel
theorem dX7_send_69 : decode cX7_send 69 = .ok (.iload 9, 2) := by decide +kernel
theorem dX7_send_71 : decode cX7_send 71 = .ok (.bipush 10, 2) := by decide +kernel
theorem dX7_send_73 : decode cX7_send 73 = .ok (.if_icmp .ge 39, 3) := by decide +kernel
theorem dX7_send_76 : decode cX7_send 76 = .ok (.aload_n 0, 1) := by decide +kernel
theorem dX7_send_77 : decode cX7_send 77 = .ok (.sipush 512, 3) := by decide +kernel
theorem dX7_send_80 : decode cX7_send 80 = .ok (.bipush 10, 2) := by decide +kernel
theorem dX7_send_82 : decode cX7_send 82 = .ok (.iload 8, 2) := by decide +kernel
theorem dX7_send_84 : decode cX7_send 84 = .ok (.imul, 1) := by decide +kernel
theorem dX7_send_85 : decode cX7_send 85 = .ok (.iadd, 1) := by decide +kernel
theorem dX7_send_86 : decode cX7_send 86 = .ok (.iload 9, 2) := by decide +kernel
theorem dX7_send_88 : decode cX7_send 88 = .ok (.iadd, 1) := by decide +kernel
theorem dX7_send_89 : decode cX7_send 89 = .ok (.aload_n 0, 1) := by decide +kernel
theorem dX7_send_90 : decode cX7_send 90 = .ok (.sipush 512, 3) := by decide +kernel
theorem dX7_send_93 : decode cX7_send 93 = .ok (.bipush 10, 2) := by decide +kernel
theorem dX7_send_95 : decode cX7_send 95 = .ok (.iload 8, 2) := by decide +kernel
theorem dX7_send_97 : decode cX7_send 97 = .ok (.iconst 1, 1) := by decide +kernel
theorem dX7_send_98 : decode cX7_send 98 = .ok (.isub, 1) := by decide +kernel
theorem dX7_send_99 : decode cX7_send 99 = .ok (.imul, 1) := by decide +kernel
theorem dX7_send_100 : decode cX7_send 100 = .ok (.iadd, 1) := by decide +kernel
theorem dX7_send_101 : decode cX7_send 101 = .ok (.iload 9, 2) := by decide +kernel
theorem dX7_send_103 : decode cX7_send 103 = .ok (.iadd, 1) := by decide +kernel
theorem dX7_send_104 : decode cX7_send 104 = .ok (.iaload, 1) := by decide +kernel
theorem dX7_send_105 : decode cX7_send 105 = .ok (.iastore, 1) := by decide +kernel
theorem dX7_send_106 : decode cX7_send 106 = .ok (.iinc 9 1, 3) := by decide +kernel
theorem dX7_send_109 : decode cX7_send 109 = .ok (.goto (-40), 3) := by decide +kernel
theorem dX7_send_112 : decode cX7_send 112 = .ok (.iinc 8 (-1), 3) := by decide +kernel
theorem dX7_send_115 : decode cX7_send 115 = .ok (.goto (-68), 3) := by decide +kernel
theorem dX7_send_118 : decode cX7_send 118 = .ok (.sipush 512, 3) := by decide +kernel
theorem dX7_send_121 : decode cX7_send 121 = .ok (.bipush 10, 2) := by decide +kernel
theorem dX7_send_123 : decode cX7_send 123 = .ok (.iload 8, 2) := by decide +kernel
theorem dX7_send_125 : decode cX7_send 125 = .ok (.imul, 1) := by decide +kernel
theorem dX7_send_126 : decode cX7_send 126 = .ok (.iadd, 1) := by decide +kernel
theorem dX7_send_127 : decode cX7_send 127 = .ok (.istore 9, 2) := by decide +kernel
theorem dX7_send_129 : decode cX7_send 129 = .ok (.aload_n 0, 1) := by decide +kernel
theorem dX7_send_130 : decode cX7_send 130 = .ok (.iload 9, 2) := by decide +kernel
theorem dX7_send_132 : decode cX7_send 132 = .ok (.iconst 0, 1) := by decide +kernel
theorem dX7_send_133 : decode cX7_send 133 = .ok (.iadd, 1) := by decide +kernel
theorem dX7_send_134 : decode cX7_send 134 = .ok (.iload_n 1, 1) := by decide +kernel
theorem dX7_send_135 : decode cX7_send 135 = .ok (.iastore, 1) := by decide +kernel
theorem dX7_send_136 : decode cX7_send 136 = .ok (.aload_n 0, 1) := by decide +kernel
theorem dX7_send_137 : decode cX7_send 137 = .ok (.iload 9, 2) := by decide +kernel
theorem dX7_send_139 : decode cX7_send 139 = .ok (.iconst 1, 1) := by decide +kernel
theorem dX7_send_140 : decode cX7_send 140 = .ok (.iadd, 1) := by decide +kernel
theorem dX7_send_141 : decode cX7_send 141 = .ok (.iload_n 2, 1) := by decide +kernel
theorem dX7_send_142 : decode cX7_send 142 = .ok (.iastore, 1) := by decide +kernel
theorem dX7_send_143 : decode cX7_send 143 = .ok (.aload_n 0, 1) := by decide +kernel
theorem dX7_send_144 : decode cX7_send 144 = .ok (.iload 9, 2) := by decide +kernel
theorem dX7_send_146 : decode cX7_send 146 = .ok (.iconst 2, 1) := by decide +kernel
theorem dX7_send_147 : decode cX7_send 147 = .ok (.iadd, 1) := by decide +kernel
theorem dX7_send_148 : decode cX7_send 148 = .ok (.iload_n 3, 1) := by decide +kernel
theorem dX7_send_149 : decode cX7_send 149 = .ok (.iastore, 1) := by decide +kernel
theorem dX7_send_150 : decode cX7_send 150 = .ok (.aload_n 0, 1) := by decide +kernel
theorem dX7_send_151 : decode cX7_send 151 = .ok (.iload 9, 2) := by decide +kernel
theorem dX7_send_153 : decode cX7_send 153 = .ok (.iconst 3, 1) := by decide +kernel
theorem dX7_send_154 : decode cX7_send 154 = .ok (.iadd, 1) := by decide +kernel
theorem dX7_send_155 : decode cX7_send 155 = .ok (.iload 7, 2) := by decide +kernel
theorem dX7_send_157 : decode cX7_send 157 = .ok (.iastore, 1) := by decide +kernel
theorem dX7_send_158 : decode cX7_send 158 = .ok (.aload_n 0, 1) := by decide +kernel
theorem dX7_send_159 : decode cX7_send 159 = .ok (.iload 9, 2) := by decide +kernel
theorem dX7_send_161 : decode cX7_send 161 = .ok (.iconst 4, 1) := by decide +kernel
theorem dX7_send_162 : decode cX7_send 162 = .ok (.iadd, 1) := by decide +kernel
theorem dX7_send_163 : decode cX7_send 163 = .ok (.iload 4, 2) := by decide +kernel
theorem dX7_send_165 : decode cX7_send 165 = .ok (.iastore, 1) := by decide +kernel
theorem dX7_send_166 : decode cX7_send 166 = .ok (.aload_n 0, 1) := by decide +kernel
theorem dX7_send_167 : decode cX7_send 167 = .ok (.iload 9, 2) := by decide +kernel
theorem dX7_send_169 : decode cX7_send 169 = .ok (.iconst 5, 1) := by decide +kernel
theorem dX7_send_170 : decode cX7_send 170 = .ok (.iadd, 1) := by decide +kernel
theorem dX7_send_171 : decode cX7_send 171 = .ok (.iload 5, 2) := by decide +kernel
theorem dX7_send_173 : decode cX7_send 173 = .ok (.iastore, 1) := by decide +kernel
theorem dX7_send_174 : decode cX7_send 174 = .ok (.aload_n 0, 1) := by decide +kernel
theorem dX7_send_175 : decode cX7_send 175 = .ok (.iload 9, 2) := by decide +kernel
theorem dX7_send_177 : decode cX7_send 177 = .ok (.bipush 6, 2) := by decide +kernel
theorem dX7_send_179 : decode cX7_send 179 = .ok (.iadd, 1) := by decide +kernel
theorem dX7_send_180 : decode cX7_send 180 = .ok (.iload 6, 2) := by decide +kernel
theorem dX7_send_182 : decode cX7_send 182 = .ok (.iastore, 1) := by decide +kernel
theorem dX7_send_183 : decode cX7_send 183 = .ok (.aload_n 0, 1) := by decide +kernel
theorem dX7_send_184 : decode cX7_send 184 = .ok (.iload 9, 2) := by decide +kernel
theorem dX7_send_186 : decode cX7_send 186 = .ok (.bipush 7, 2) := by decide +kernel
theorem dX7_send_188 : decode cX7_send 188 = .ok (.iadd, 1) := by decide +kernel
theorem dX7_send_189 : decode cX7_send 189 = .ok (.aload_n 0, 1) := by decide +kernel
theorem dX7_send_190 : decode cX7_send 190 = .ok (.iload_n 2, 1) := by decide +kernel
theorem dX7_send_191 : decode cX7_send 191 = .ok (.iconst 2, 1) := by decide +kernel
theorem dX7_send_192 : decode cX7_send 192 = .ok (.invokestatic 44, 3) := by decide +kernel
theorem dX7_send_195 : decode cX7_send 195 = .ok (.iastore, 1) := by decide +kernel
theorem dX7_send_196 : decode cX7_send 196 = .ok (.aload_n 0, 1) := by decide +kernel
theorem dX7_send_197 : decode cX7_send 197 = .ok (.iload 9, 2) := by decide +kernel
theorem dX7_send_199 : decode cX7_send 199 = .ok (.bipush 8, 2) := by decide +kernel
theorem dX7_send_201 : decode cX7_send 201 = .ok (.iadd, 1) := by decide +kernel
theorem dX7_send_202 : decode cX7_send 202 = .ok (.aload_n 0, 1) := by decide +kernel
theorem dX7_send_203 : decode cX7_send 203 = .ok (.iload_n 2, 1) := by decide +kernel
theorem dX7_send_204 : decode cX7_send 204 = .ok (.iconst 3, 1) := by decide +kernel
theorem dX7_send_205 : decode cX7_send 205 = .ok (.invokestatic 44, 3) := by decide +kernel
theorem dX7_send_208 : decode cX7_send 208 = .ok (.iastore, 1) := by decide +kernel
theorem dX7_send_209 : decode cX7_send 209 = .ok (.aload_n 0, 1) := by decide +kernel
theorem dX7_send_210 : decode cX7_send 210 = .ok (.iload 9, 2) := by decide +kernel
theorem dX7_send_212 : decode cX7_send 212 = .ok (.bipush 9, 2) := by decide +kernel
theorem dX7_send_214 : decode cX7_send 214 = .ok (.iadd, 1) := by decide +kernel
theorem dX7_send_215 : decode cX7_send 215 = .ok (.aload_n 0, 1) := by decide +kernel
theorem dX7_send_216 : decode cX7_send 216 = .ok (.iload_n 2, 1) := by decide +kernel
theorem dX7_send_217 : decode cX7_send 217 = .ok (.iconst 4, 1) := by decide +kernel
theorem dX7_send_218 : decode cX7_send 218 = .ok (.invokestatic 44, 3) := by decide +kernel
theorem dX7_send_221 : decode cX7_send 221 = .ok (.iastore, 1) := by decide +kernel
theorem dX7_send_222 : decode cX7_send 222 = .ok (.aload_n 0, 1) := by decide +kernel
theorem dX7_send_223 : decode cX7_send 223 = .ok (.iconst 2, 1) := by decide +kernel
theorem dX7_send_224 : decode cX7_send 224 = .ok (.dup2, 1) := by decide +kernel
theorem dX7_send_225 : decode cX7_send 225 = .ok (.iaload, 1) := by decide +kernel
theorem dX7_send_226 : decode cX7_send 226 = .ok (.iconst 1, 1) := by decide +kernel
theorem dX7_send_227 : decode cX7_send 227 = .ok (.iadd, 1) := by decide +kernel
theorem dX7_send_228 : decode cX7_send 228 = .ok (.iastore, 1) := by decide +kernel
theorem dX7_send_229 : decode cX7_send 229 = .ok (.return_, 1) := by decide +kernel
theorem dX7_takeFirst_0 : decode cX7_takeFirst 0 = .ok (.iconst 0, 1) := by decide +kernel
theorem dX7_takeFirst_1 : decode cX7_takeFirst 1 = .ok (.istore_n 2, 1) := by decide +kernel
theorem dX7_takeFirst_2 : decode cX7_takeFirst 2 = .ok (.iload_n 2, 1) := by decide +kernel
theorem dX7_takeFirst_3 : decode cX7_takeFirst 3 = .ok (.bipush 10, 2) := by decide +kernel
theorem dX7_takeFirst_5 : decode cX7_takeFirst 5 = .ok (.if_icmp .ge 22, 3) := by decide +kernel
theorem dX7_takeFirst_8 : decode cX7_takeFirst 8 = .ok (.aload_n 0, 1) := by decide +kernel
theorem dX7_takeFirst_9 : decode cX7_takeFirst 9 = .ok (.getfield 29, 3) := by decide +kernel
theorem dX7_takeFirst_12 : decode cX7_takeFirst 12 = .ok (.iload_n 2, 1) := by decide +kernel
theorem dX7_takeFirst_13 : decode cX7_takeFirst 13 = .ok (.aload_n 1, 1) := by decide +kernel
theorem dX7_takeFirst_14 : decode cX7_takeFirst 14 = .ok (.sipush 512, 3) := by decide +kernel
theorem dX7_takeFirst_17 : decode cX7_takeFirst 17 = .ok (.iload_n 2, 1) := by decide +kernel
theorem dX7_takeFirst_18 : decode cX7_takeFirst 18 = .ok (.iadd, 1) := by decide +kernel
theorem dX7_takeFirst_19 : decode cX7_takeFirst 19 = .ok (.iaload, 1) := by decide +kernel
theorem dX7_takeFirst_20 : decode cX7_takeFirst 20 = .ok (.iastore, 1) := by decide +kernel
theorem dX7_takeFirst_21 : decode cX7_takeFirst 21 = .ok (.iinc 2 1, 3) := by decide +kernel
theorem dX7_takeFirst_24 : decode cX7_takeFirst 24 = .ok (.goto (-22), 3) := by decide +kernel
theorem dX7_takeFirst_27 : decode cX7_takeFirst 27 = .ok (.aload_n 1, 1) := by decide +kernel
theorem dX7_takeFirst_28 : decode cX7_takeFirst 28 = .ok (.iconst 2, 1) := by decide +kernel
theorem dX7_takeFirst_29 : decode cX7_takeFirst 29 = .ok (.dup2, 1) := by decide +kernel
theorem dX7_takeFirst_30 : decode cX7_takeFirst 30 = .ok (.iaload, 1) := by decide +kernel
theorem dX7_takeFirst_31 : decode cX7_takeFirst 31 = .ok (.iconst 1, 1) := by decide +kernel
theorem dX7_takeFirst_32 : decode cX7_takeFirst 32 = .ok (.isub, 1) := by decide +kernel
theorem dX7_takeFirst_33 : decode cX7_takeFirst 33 = .ok (.iastore, 1) := by decide +kernel
theorem dX7_takeFirst_34 : decode cX7_takeFirst 34 = .ok (.sipush 512, 3) := by decide +kernel
theorem dX7_takeFirst_37 : decode cX7_takeFirst 37 = .ok (.istore_n 2, 1) := by decide +kernel
theorem dX7_takeFirst_38 : decode cX7_takeFirst 38 = .ok (.iload_n 2, 1) := by decide +kernel
theorem dX7_takeFirst_39 : decode cX7_takeFirst 39 = .ok (.sipush 512, 3) := by decide +kernel
theorem dX7_takeFirst_42 : decode cX7_takeFirst 42 = .ok (.bipush 10, 2) := by decide +kernel
theorem dX7_takeFirst_44 : decode cX7_takeFirst 44 = .ok (.aload_n 1, 1) := by decide +kernel
theorem dX7_takeFirst_45 : decode cX7_takeFirst 45 = .ok (.iconst 2, 1) := by decide +kernel
theorem dX7_takeFirst_46 : decode cX7_takeFirst 46 = .ok (.iaload, 1) := by decide +kernel
theorem dX7_takeFirst_47 : decode cX7_takeFirst 47 = .ok (.imul, 1) := by decide +kernel
theorem dX7_takeFirst_48 : decode cX7_takeFirst 48 = .ok (.iadd, 1) := by decide +kernel
theorem dX7_takeFirst_49 : decode cX7_takeFirst 49 = .ok (.if_icmp .ge 18, 3) := by decide +kernel
theorem dX7_takeFirst_52 : decode cX7_takeFirst 52 = .ok (.aload_n 1, 1) := by decide +kernel
theorem dX7_takeFirst_53 : decode cX7_takeFirst 53 = .ok (.iload_n 2, 1) := by decide +kernel
theorem dX7_takeFirst_54 : decode cX7_takeFirst 54 = .ok (.aload_n 1, 1) := by decide +kernel
theorem dX7_takeFirst_55 : decode cX7_takeFirst 55 = .ok (.iload_n 2, 1) := by decide +kernel
theorem dX7_takeFirst_56 : decode cX7_takeFirst 56 = .ok (.bipush 10, 2) := by decide +kernel
theorem dX7_takeFirst_58 : decode cX7_takeFirst 58 = .ok (.iadd, 1) := by decide +kernel
theorem dX7_takeFirst_59 : decode cX7_takeFirst 59 = .ok (.iaload, 1) := by decide +kernel
theorem dX7_takeFirst_60 : decode cX7_takeFirst 60 = .ok (.iastore, 1) := by decide +kernel
theorem dX7_takeFirst_61 : decode cX7_takeFirst 61 = .ok (.iinc 2 1, 3) := by decide +kernel
theorem dX7_takeFirst_64 : decode cX7_takeFirst 64 = .ok (.goto (-26), 3) := by decide +kernel
theorem dX7_takeFirst_67 : decode cX7_takeFirst 67 = .ok (.return_, 1) := by decide +kernel
theorem dX7_over_0 : decode cX7_over 0 = .ok (.bipush 14, 2) := by decide +kernel
theorem dX7_over_2 : decode cX7_over 2 = .ok (.bipush 83, 2) := by decide +kernel
theorem dX7_over_4 : decode cX7_over 4 = .ok (.iload_n 1, 1) := by decide +kernel
theorem dX7_over_5 : decode cX7_over 5 = .ok (.imul, 1) := by decide +kernel
theorem dX7_over_6 : decode cX7_over 6 = .ok (.iadd, 1) := by decide +kernel
theorem dX7_over_7 : decode cX7_over 7 = .ok (.istore_n 3, 1) := by decide +kernel
theorem dX7_over_8 : decode cX7_over 8 = .ok (.aload_n 0, 1) := by decide +kernel
theorem dX7_over_9 : decode cX7_over 9 = .ok (.iload_n 3, 1) := by decide +kernel
theorem dX7_over_10 : decode cX7_over 10 = .ok (.bipush 67, 2) := by decide +kernel
theorem dX7_over_12 : decode cX7_over 12 = .ok (.iadd, 1) := by decide +kernel
theorem dX7_over_13 : decode cX7_over 13 = .ok (.iaload, 1) := by decide +kernel
theorem dX7_over_14 : decode cX7_over 14 = .ok (.iconst 5, 1) := by decide +kernel
theorem dX7_over_15 : decode cX7_over 15 = .ok (.if_icmp .ne 49, 3) := by decide +kernel
theorem dX7_over_18 : decode cX7_over 18 = .ok (.iconst 0, 1) := by decide +kernel
theorem dX7_over_19 : decode cX7_over 19 = .ok (.istore 4, 2) := by decide +kernel
theorem dX7_over_21 : decode cX7_over 21 = .ok (.iload 4, 2) := by decide +kernel
theorem dX7_over_23 : decode cX7_over 23 = .ok (.bipush 12, 2) := by decide +kernel
theorem dX7_over_25 : decode cX7_over 25 = .ok (.if_icmp .ge 29, 3) := by decide +kernel
theorem dX7_over_28 : decode cX7_over 28 = .ok (.aload_n 0, 1) := by decide +kernel
theorem dX7_over_29 : decode cX7_over 29 = .ok (.iload_n 3, 1) := by decide +kernel
theorem dX7_over_30 : decode cX7_over 30 = .ok (.bipush 68, 2) := by decide +kernel
theorem dX7_over_32 : decode cX7_over 32 = .ok (.iadd, 1) := by decide +kernel
theorem dX7_over_33 : decode cX7_over 33 = .ok (.iload 4, 2) := by decide +kernel
theorem dX7_over_35 : decode cX7_over 35 = .ok (.iadd, 1) := by decide +kernel
theorem dX7_over_36 : decode cX7_over 36 = .ok (.aload_n 0, 1) := by decide +kernel
theorem dX7_over_37 : decode cX7_over 37 = .ok (.iload_n 3, 1) := by decide +kernel
theorem dX7_over_38 : decode cX7_over 38 = .ok (.bipush 68, 2) := by decide +kernel
theorem dX7_over_40 : decode cX7_over 40 = .ok (.iadd, 1) := by decide +kernel
theorem dX7_over_41 : decode cX7_over 41 = .ok (.iload 4, 2) := by decide +kernel
theorem dX7_over_43 : decode cX7_over 43 = .ok (.iadd, 1) := by decide +kernel
theorem dX7_over_44 : decode cX7_over 44 = .ok (.iconst 3, 1) := by decide +kernel
theorem dX7_over_45 : decode cX7_over 45 = .ok (.iadd, 1) := by decide +kernel
theorem dX7_over_46 : decode cX7_over 46 = .ok (.iaload, 1) := by decide +kernel
theorem dX7_over_47 : decode cX7_over 47 = .ok (.iastore, 1) := by decide +kernel
theorem dX7_over_48 : decode cX7_over 48 = .ok (.iinc 4 1, 3) := by decide +kernel
theorem dX7_over_51 : decode cX7_over 51 = .ok (.goto (-30), 3) := by decide +kernel
theorem dX7_over_54 : decode cX7_over 54 = .ok (.aload_n 0, 1) := by decide +kernel
theorem dX7_over_55 : decode cX7_over 55 = .ok (.iload_n 3, 1) := by decide +kernel
theorem dX7_over_56 : decode cX7_over 56 = .ok (.bipush 67, 2) := by decide +kernel
theorem dX7_over_58 : decode cX7_over 58 = .ok (.iadd, 1) := by decide +kernel
theorem dX7_over_59 : decode cX7_over 59 = .ok (.dup2, 1) := by decide +kernel
theorem dX7_over_60 : decode cX7_over 60 = .ok (.iaload, 1) := by decide +kernel
theorem dX7_over_61 : decode cX7_over 61 = .ok (.iconst 1, 1) := by decide +kernel
theorem dX7_over_62 : decode cX7_over 62 = .ok (.isub, 1) := by decide +kernel
theorem dX7_over_63 : decode cX7_over 63 = .ok (.iastore, 1) := by decide +kernel
theorem dX7_over_64 : decode cX7_over 64 = .ok (.iload_n 3, 1) := by decide +kernel
theorem dX7_over_65 : decode cX7_over 65 = .ok (.bipush 68, 2) := by decide +kernel
theorem dX7_over_67 : decode cX7_over 67 = .ok (.iadd, 1) := by decide +kernel
theorem dX7_over_68 : decode cX7_over 68 = .ok (.iconst 3, 1) := by decide +kernel
theorem dX7_over_69 : decode cX7_over 69 = .ok (.aload_n 0, 1) := by decide +kernel
theorem dX7_over_70 : decode cX7_over 70 = .ok (.iload_n 3, 1) := by decide +kernel
theorem dX7_over_71 : decode cX7_over 71 = .ok (.bipush 67, 2) := by decide +kernel
theorem dX7_over_73 : decode cX7_over 73 = .ok (.iadd, 1) := by decide +kernel
theorem dX7_over_74 : decode cX7_over 74 = .ok (.iaload, 1) := by decide +kernel
theorem dX7_over_75 : decode cX7_over 75 = .ok (.imul, 1) := by decide +kernel
theorem dX7_over_76 : decode cX7_over 76 = .ok (.iadd, 1) := by decide +kernel
theorem dX7_over_77 : decode cX7_over 77 = .ok (.istore 4, 2) := by decide +kernel
theorem dX7_over_79 : decode cX7_over 79 = .ok (.aload_n 0, 1) := by decide +kernel
theorem dX7_over_80 : decode cX7_over 80 = .ok (.iload 4, 2) := by decide +kernel
theorem dX7_over_82 : decode cX7_over 82 = .ok (.aload_n 0, 1) := by decide +kernel
theorem dX7_over_83 : decode cX7_over 83 = .ok (.iload_n 3, 1) := by decide +kernel
theorem dX7_over_84 : decode cX7_over 84 = .ok (.iconst 2, 1) := by decide +kernel
theorem dX7_over_85 : decode cX7_over 85 = .ok (.iadd, 1) := by decide +kernel
theorem dX7_over_86 : decode cX7_over 86 = .ok (.iaload, 1) := by decide +kernel
theorem dX7_over_87 : decode cX7_over 87 = .ok (.iastore, 1) := by decide +kernel
theorem dX7_over_88 : decode cX7_over 88 = .ok (.aload_n 0, 1) := by decide +kernel
theorem dX7_over_89 : decode cX7_over 89 = .ok (.iload 4, 2) := by decide +kernel
theorem dX7_over_91 : decode cX7_over 91 = .ok (.iconst 1, 1) := by decide +kernel
theorem dX7_over_92 : decode cX7_over 92 = .ok (.iadd, 1) := by decide +kernel
theorem dX7_over_93 : decode cX7_over 93 = .ok (.aload_n 0, 1) := by decide +kernel
theorem dX7_over_94 : decode cX7_over 94 = .ok (.iload_n 3, 1) := by decide +kernel
theorem dX7_over_95 : decode cX7_over 95 = .ok (.iconst 3, 1) := by decide +kernel
theorem dX7_over_96 : decode cX7_over 96 = .ok (.iadd, 1) := by decide +kernel
theorem dX7_over_97 : decode cX7_over 97 = .ok (.iaload, 1) := by decide +kernel
theorem dX7_over_98 : decode cX7_over 98 = .ok (.iastore, 1) := by decide +kernel
theorem dX7_over_99 : decode cX7_over 99 = .ok (.aload_n 0, 1) := by decide +kernel
theorem dX7_over_100 : decode cX7_over 100 = .ok (.iload 4, 2) := by decide +kernel
theorem dX7_over_102 : decode cX7_over 102 = .ok (.iconst 2, 1) := by decide +kernel
theorem dX7_over_103 : decode cX7_over 103 = .ok (.iadd, 1) := by decide +kernel
theorem dX7_over_104 : decode cX7_over 104 = .ok (.iload_n 2, 1) := by decide +kernel
theorem dX7_over_105 : decode cX7_over 105 = .ok (.iastore, 1) := by decide +kernel
theorem dX7_over_106 : decode cX7_over 106 = .ok (.aload_n 0, 1) := by decide +kernel
theorem dX7_over_107 : decode cX7_over 107 = .ok (.iload_n 3, 1) := by decide +kernel
theorem dX7_over_108 : decode cX7_over 108 = .ok (.bipush 67, 2) := by decide +kernel
theorem dX7_over_110 : decode cX7_over 110 = .ok (.iadd, 1) := by decide +kernel
theorem dX7_over_111 : decode cX7_over 111 = .ok (.dup2, 1) := by decide +kernel
theorem dX7_over_112 : decode cX7_over 112 = .ok (.iaload, 1) := by decide +kernel
theorem dX7_over_113 : decode cX7_over 113 = .ok (.iconst 1, 1) := by decide +kernel
theorem dX7_over_114 : decode cX7_over 114 = .ok (.iadd, 1) := by decide +kernel
theorem dX7_over_115 : decode cX7_over 115 = .ok (.iastore, 1) := by decide +kernel
theorem dX7_over_116 : decode cX7_over 116 = .ok (.return_, 1) := by decide +kernel
theorem dX7_enter_0 : decode cX7_enter 0 = .ok (.aload_n 0, 1) := by decide +kernel
theorem dX7_enter_1 : decode cX7_enter 1 = .ok (.iload_n 1, 1) := by decide +kernel
theorem dX7_enter_2 : decode cX7_enter 2 = .ok (.iconst 1, 1) := by decide +kernel
theorem dX7_enter_3 : decode cX7_enter 3 = .ok (.iconst 0, 1) := by decide +kernel
theorem dX7_enter_4 : decode cX7_enter 4 = .ok (.invokestatic 58, 3) := by decide +kernel
theorem dX7_enter_7 : decode cX7_enter 7 = .ok (.aload_n 0, 1) := by decide +kernel
theorem dX7_enter_8 : decode cX7_enter 8 = .ok (.iload_n 1, 1) := by decide +kernel
theorem dX7_enter_9 : decode cX7_enter 9 = .ok (.iconst 2, 1) := by decide +kernel
theorem dX7_enter_10 : decode cX7_enter 10 = .ok (.iload_n 2, 1) := by decide +kernel
theorem dX7_enter_11 : decode cX7_enter 11 = .ok (.invokestatic 58, 3) := by decide +kernel
theorem dX7_enter_14 : decode cX7_enter 14 = .ok (.aload_n 0, 1) := by decide +kernel
theorem dX7_enter_15 : decode cX7_enter 15 = .ok (.iload_n 1, 1) := by decide +kernel
theorem dX7_enter_16 : decode cX7_enter 16 = .ok (.iconst 3, 1) := by decide +kernel
theorem dX7_enter_17 : decode cX7_enter 17 = .ok (.iload_n 3, 1) := by decide +kernel
theorem dX7_enter_18 : decode cX7_enter 18 = .ok (.invokestatic 58, 3) := by decide +kernel
theorem dX7_enter_21 : decode cX7_enter 21 = .ok (.aload_n 0, 1) := by decide +kernel
theorem dX7_enter_22 : decode cX7_enter 22 = .ok (.iload_n 1, 1) := by decide +kernel
theorem dX7_enter_23 : decode cX7_enter 23 = .ok (.iconst 4, 1) := by decide +kernel
theorem dX7_enter_24 : decode cX7_enter 24 = .ok (.iload 4, 2) := by decide +kernel
theorem dX7_enter_26 : decode cX7_enter 26 = .ok (.invokestatic 58, 3) := by decide +kernel
theorem dX7_enter_29 : decode cX7_enter 29 = .ok (.aload_n 0, 1) := by decide +kernel
theorem dX7_enter_30 : decode cX7_enter 30 = .ok (.iload_n 1, 1) := by decide +kernel
theorem dX7_enter_31 : decode cX7_enter 31 = .ok (.iconst 5, 1) := by decide +kernel
theorem dX7_enter_32 : decode cX7_enter 32 = .ok (.iconst 0, 1) := by decide +kernel
theorem dX7_enter_33 : decode cX7_enter 33 = .ok (.invokestatic 58, 3) := by decide +kernel
theorem dX7_enter_36 : decode cX7_enter 36 = .ok (.aload_n 0, 1) := by decide +kernel
theorem dX7_enter_37 : decode cX7_enter 37 = .ok (.iload_n 1, 1) := by decide +kernel
theorem dX7_enter_38 : decode cX7_enter 38 = .ok (.bipush 7, 2) := by decide +kernel
theorem dX7_enter_40 : decode cX7_enter 40 = .ok (.iconst 0, 1) := by decide +kernel
theorem dX7_enter_41 : decode cX7_enter 41 = .ok (.invokestatic 58, 3) := by decide +kernel
theorem dX7_enter_44 : decode cX7_enter 44 = .ok (.return_, 1) := by decide +kernel
theorem dX7_callsNone_0 : decode cX7_callsNone 0 = .ok (.aload_n 0, 1) := by decide +kernel
theorem dX7_callsNone_1 : decode cX7_callsNone 1 = .ok (.iload_n 1, 1) := by decide +kernel
theorem dX7_callsNone_2 : decode cX7_callsNone 2 = .ok (.bipush 8, 2) := by decide +kernel
theorem dX7_callsNone_4 : decode cX7_callsNone 4 = .ok (.iconst 0, 1) := by decide +kernel
theorem dX7_callsNone_5 : decode cX7_callsNone 5 = .ok (.invokestatic 58, 3) := by decide +kernel
theorem dX7_callsNone_8 : decode cX7_callsNone 8 = .ok (.aload_n 0, 1) := by decide +kernel
theorem dX7_callsNone_9 : decode cX7_callsNone 9 = .ok (.iload_n 1, 1) := by decide +kernel
theorem dX7_callsNone_10 : decode cX7_callsNone 10 = .ok (.bipush 9, 2) := by decide +kernel
theorem dX7_callsNone_12 : decode cX7_callsNone 12 = .ok (.iconst 0, 1) := by decide +kernel
theorem dX7_callsNone_13 : decode cX7_callsNone 13 = .ok (.invokestatic 58, 3) := by decide +kernel
theorem dX7_callsNone_16 : decode cX7_callsNone 16 = .ok (.aload_n 0, 1) := by decide +kernel
theorem dX7_callsNone_17 : decode cX7_callsNone 17 = .ok (.iload_n 1, 1) := by decide +kernel
theorem dX7_callsNone_18 : decode cX7_callsNone 18 = .ok (.bipush 10, 2) := by decide +kernel
theorem dX7_callsNone_20 : decode cX7_callsNone 20 = .ok (.iconst 0, 1) := by decide +kernel
theorem dX7_callsNone_21 : decode cX7_callsNone 21 = .ok (.invokestatic 58, 3) := by decide +kernel
theorem dX7_callsNone_24 : decode cX7_callsNone 24 = .ok (.return_, 1) := by decide +kernel
theorem dX7_told_0 : decode cX7_told 0 = .ok (.iload_n 2, 1) := by decide +kernel
theorem dX7_told_1 : decode cX7_told 1 = .ok (.aload_n 0, 1) := by decide +kernel
theorem dX7_told_2 : decode cX7_told 2 = .ok (.iload_n 1, 1) := by decide +kernel
theorem dX7_told_3 : decode cX7_told 3 = .ok (.bipush 6, 2) := by decide +kernel
theorem dX7_told_5 : decode cX7_told 5 = .ok (.invokestatic 44, 3) := by decide +kernel
theorem dX7_told_8 : decode cX7_told 8 = .ok (.if_icmp .lt 13, 3) := by decide +kernel
theorem dX7_told_11 : decode cX7_told 11 = .ok (.iload_n 2, 1) := by decide +kernel
theorem dX7_told_12 : decode cX7_told 12 = .ok (.aload_n 0, 1) := by decide +kernel
theorem dX7_told_13 : decode cX7_told 13 = .ok (.iload_n 1, 1) := by decide +kernel
theorem dX7_told_14 : decode cX7_told 14 = .ok (.iconst 2, 1) := by decide +kernel
theorem dX7_told_15 : decode cX7_told 15 = .ok (.invokestatic 44, 3) := by decide +kernel
theorem dX7_told_18 : decode cX7_told 18 = .ok (.if_icmp .gt 4, 3) := by decide +kernel
theorem dX7_told_21 : decode cX7_told 21 = .ok (.return_, 1) := by decide +kernel
theorem dX7_told_22 : decode cX7_told 22 = .ok (.aload_n 0, 1) := by decide +kernel
theorem dX7_told_23 : decode cX7_told 23 = .ok (.iload_n 1, 1) := by decide +kernel
theorem dX7_told_24 : decode cX7_told 24 = .ok (.iload 5, 2) := by decide +kernel
theorem dX7_told_26 : decode cX7_told 26 = .ok (.invokestatic 62, 3) := by decide +kernel
theorem dX7_told_29 : decode cX7_told 29 = .ok (.aload_n 0, 1) := by decide +kernel
theorem dX7_told_30 : decode cX7_told 30 = .ok (.iload_n 1, 1) := by decide +kernel
theorem dX7_told_31 : decode cX7_told 31 = .ok (.iload_n 2, 1) := by decide +kernel
theorem dX7_told_32 : decode cX7_told 32 = .ok (.iload_n 3, 1) := by decide +kernel
theorem dX7_told_33 : decode cX7_told 33 = .ok (.iload 4, 2) := by decide +kernel
theorem dX7_told_35 : decode cX7_told 35 = .ok (.invokestatic 66, 3) := by decide +kernel
theorem dX7_told_38 : decode cX7_told 38 = .ok (.bipush 14, 2) := by decide +kernel
theorem dX7_told_40 : decode cX7_told 40 = .ok (.bipush 83, 2) := by decide +kernel
theorem dX7_told_42 : decode cX7_told 42 = .ok (.iload_n 1, 1) := by decide +kernel
theorem dX7_told_43 : decode cX7_told 43 = .ok (.imul, 1) := by decide +kernel
theorem dX7_told_44 : decode cX7_told 44 = .ok (.iadd, 1) := by decide +kernel
theorem dX7_told_45 : decode cX7_told 45 = .ok (.istore 6, 2) := by decide +kernel
theorem dX7_told_47 : decode cX7_told 47 = .ok (.iconst 0, 1) := by decide +kernel
theorem dX7_told_48 : decode cX7_told 48 = .ok (.istore 7, 2) := by decide +kernel
theorem dX7_told_50 : decode cX7_told 50 = .ok (.iconst 0, 1) := by decide +kernel
theorem dX7_told_51 : decode cX7_told 51 = .ok (.istore 8, 2) := by decide +kernel
theorem dX7_told_53 : decode cX7_told 53 = .ok (.iload 8, 2) := by decide +kernel
theorem dX7_told_55 : decode cX7_told 55 = .ok (.aload_n 0, 1) := by decide +kernel
theorem dX7_told_56 : decode cX7_told 56 = .ok (.iload 6, 2) := by decide +kernel
theorem dX7_told_58 : decode cX7_told 58 = .ok (.bipush 30, 2) := by decide +kernel
theorem dX7_told_60 : decode cX7_told 60 = .ok (.iadd, 1) := by decide +kernel
theorem dX7_told_61 : decode cX7_told 61 = .ok (.iaload, 1) := by decide +kernel
theorem dX7_told_62 : decode cX7_told 62 = .ok (.if_icmp .ge 111, 3) := by decide +kernel
theorem dX7_told_65 : decode cX7_told 65 = .ok (.iload 6, 2) := by decide +kernel
theorem dX7_told_67 : decode cX7_told 67 = .ok (.bipush 31, 2) := by decide +kernel
theorem dX7_told_69 : decode cX7_told 69 = .ok (.iadd, 1) := by decide +kernel
theorem dX7_told_70 : decode cX7_told 70 = .ok (.iconst 3, 1) := by decide +kernel
theorem dX7_told_71 : decode cX7_told 71 = .ok (.iload 8, 2) := by decide +kernel
theorem dX7_told_73 : decode cX7_told 73 = .ok (.imul, 1) := by decide +kernel
theorem dX7_told_74 : decode cX7_told 74 = .ok (.iadd, 1) := by decide +kernel
theorem dX7_told_75 : decode cX7_told 75 = .ok (.istore 9, 2) := by decide +kernel
theorem dX7_told_77 : decode cX7_told 77 = .ok (.aload_n 0, 1) := by decide +kernel
theorem dX7_told_78 : decode cX7_told 78 = .ok (.iload 9, 2) := by decide +kernel
theorem dX7_told_80 : decode cX7_told 80 = .ok (.iaload, 1) := by decide +kernel
theorem dX7_told_81 : decode cX7_told 81 = .ok (.iload_n 2, 1) := by decide +kernel
theorem dX7_told_82 : decode cX7_told 82 = .ok (.if_icmp .ne 30, 3) := by decide +kernel
theorem dX7_told_85 : decode cX7_told 85 = .ok (.aload_n 0, 1) := by decide +kernel
theorem dX7_told_86 : decode cX7_told 86 = .ok (.iload 9, 2) := by decide +kernel
theorem dX7_told_88 : decode cX7_told 88 = .ok (.iconst 1, 1) := by decide +kernel
theorem dX7_told_89 : decode cX7_told 89 = .ok (.iadd, 1) := by decide +kernel
theorem dX7_told_90 : decode cX7_told 90 = .ok (.iaload, 1) := by decide +kernel
theorem dX7_told_91 : decode cX7_told 91 = .ok (.iload_n 3, 1) := by decide +kernel
theorem dX7_told_92 : decode cX7_told 92 = .ok (.if_icmp .ne 20, 3) := by decide +kernel
theorem dX7_told_95 : decode cX7_told 95 = .ok (.aload_n 0, 1) := by decide +kernel
theorem dX7_told_96 : decode cX7_told 96 = .ok (.iload 6, 2) := by decide +kernel
theorem dX7_told_98 : decode cX7_told 98 = .ok (.iconst 5, 1) := by decide +kernel
theorem dX7_told_99 : decode cX7_told 99 = .ok (.iadd, 1) := by decide +kernel
theorem dX7_told_100 : decode cX7_told 100 = .ok (.dup2, 1) := by decide +kernel
theorem dX7_told_101 : decode cX7_told 101 = .ok (.iaload, 1) := by decide +kernel
theorem dX7_told_102 : decode cX7_told 102 = .ok (.iconst 1, 1) := by decide +kernel
theorem dX7_told_103 : decode cX7_told 103 = .ok (.aload_n 0, 1) := by decide +kernel
theorem dX7_told_104 : decode cX7_told 104 = .ok (.iload 9, 2) := by decide +kernel
theorem dX7_told_106 : decode cX7_told 106 = .ok (.iconst 2, 1) := by decide +kernel
theorem dX7_told_107 : decode cX7_told 107 = .ok (.iadd, 1) := by decide +kernel
theorem dX7_told_108 : decode cX7_told 108 = .ok (.iaload, 1) := by decide +kernel
theorem dX7_told_109 : decode cX7_told 109 = .ok (.ishl, 1) := by decide +kernel
theorem dX7_told_110 : decode cX7_told 110 = .ok (.ior, 1) := by decide +kernel
theorem dX7_told_111 : decode cX7_told 111 = .ok (.iastore, 1) := by decide +kernel
theorem dX7_told_112 : decode cX7_told 112 = .ok (.aload_n 0, 1) := by decide +kernel
theorem dX7_told_113 : decode cX7_told 113 = .ok (.iload 9, 2) := by decide +kernel
theorem dX7_told_115 : decode cX7_told 115 = .ok (.iaload, 1) := by decide +kernel
theorem dX7_told_116 : decode cX7_told 116 = .ok (.iload_n 2, 1) := by decide +kernel
theorem dX7_told_117 : decode cX7_told 117 = .ok (.if_icmp .le 50, 3) := by decide +kernel
theorem dX7_told_120 : decode cX7_told 120 = .ok (.iload 6, 2) := by decide +kernel
theorem dX7_told_122 : decode cX7_told 122 = .ok (.bipush 31, 2) := by decide +kernel
theorem dX7_told_124 : decode cX7_told 124 = .ok (.iadd, 1) := by decide +kernel
theorem dX7_told_125 : decode cX7_told 125 = .ok (.iconst 3, 1) := by decide +kernel
theorem dX7_told_126 : decode cX7_told 126 = .ok (.iload 7, 2) := by decide +kernel
theorem dX7_told_128 : decode cX7_told 128 = .ok (.imul, 1) := by decide +kernel
theorem dX7_told_129 : decode cX7_told 129 = .ok (.iadd, 1) := by decide +kernel
theorem dX7_told_130 : decode cX7_told 130 = .ok (.istore 10, 2) := by decide +kernel
theorem dX7_told_132 : decode cX7_told 132 = .ok (.aload_n 0, 1) := by decide +kernel
theorem dX7_told_133 : decode cX7_told 133 = .ok (.iload 10, 2) := by decide +kernel
theorem dX7_told_135 : decode cX7_told 135 = .ok (.aload_n 0, 1) := by decide +kernel
theorem dX7_told_136 : decode cX7_told 136 = .ok (.iload 9, 2) := by decide +kernel
theorem dX7_told_138 : decode cX7_told 138 = .ok (.iaload, 1) := by decide +kernel
theorem dX7_told_139 : decode cX7_told 139 = .ok (.iastore, 1) := by decide +kernel
theorem dX7_told_140 : decode cX7_told 140 = .ok (.aload_n 0, 1) := by decide +kernel
theorem dX7_told_141 : decode cX7_told 141 = .ok (.iload 10, 2) := by decide +kernel
theorem dX7_told_143 : decode cX7_told 143 = .ok (.iconst 1, 1) := by decide +kernel
theorem dX7_told_144 : decode cX7_told 144 = .ok (.iadd, 1) := by decide +kernel
theorem dX7_told_145 : decode cX7_told 145 = .ok (.aload_n 0, 1) := by decide +kernel
theorem dX7_told_146 : decode cX7_told 146 = .ok (.iload 9, 2) := by decide +kernel
theorem dX7_told_148 : decode cX7_told 148 = .ok (.iconst 1, 1) := by decide +kernel
theorem dX7_told_149 : decode cX7_told 149 = .ok (.iadd, 1) := by decide +kernel
theorem dX7_told_150 : decode cX7_told 150 = .ok (.iaload, 1) := by decide +kernel
theorem dX7_told_151 : decode cX7_told 151 = .ok (.iastore, 1) := by decide +kernel
theorem dX7_told_152 : decode cX7_told 152 = .ok (.aload_n 0, 1) := by decide +kernel
theorem dX7_told_153 : decode cX7_told 153 = .ok (.iload 10, 2) := by decide +kernel
theorem dX7_told_155 : decode cX7_told 155 = .ok (.iconst 2, 1) := by decide +kernel
theorem dX7_told_156 : decode cX7_told 156 = .ok (.iadd, 1) := by decide +kernel
theorem dX7_told_157 : decode cX7_told 157 = .ok (.aload_n 0, 1) := by decide +kernel
theorem dX7_told_158 : decode cX7_told 158 = .ok (.iload 9, 2) := by decide +kernel
theorem dX7_told_160 : decode cX7_told 160 = .ok (.iconst 2, 1) := by decide +kernel
theorem dX7_told_161 : decode cX7_told 161 = .ok (.iadd, 1) := by decide +kernel
theorem dX7_told_162 : decode cX7_told 162 = .ok (.iaload, 1) := by decide +kernel
theorem dX7_told_163 : decode cX7_told 163 = .ok (.iastore, 1) := by decide +kernel
theorem dX7_told_164 : decode cX7_told 164 = .ok (.iinc 7 1, 3) := by decide +kernel
theorem dX7_told_167 : decode cX7_told 167 = .ok (.iinc 8 1, 3) := by decide +kernel
theorem dX7_told_170 : decode cX7_told 170 = .ok (.goto (-117), 3) := by decide +kernel
theorem dX7_told_173 : decode cX7_told 173 = .ok (.aload_n 0, 1) := by decide +kernel
theorem dX7_told_174 : decode cX7_told 174 = .ok (.iload 6, 2) := by decide +kernel
theorem dX7_told_176 : decode cX7_told 176 = .ok (.bipush 30, 2) := by decide +kernel
theorem dX7_told_178 : decode cX7_told 178 = .ok (.iadd, 1) := by decide +kernel
theorem dX7_told_179 : decode cX7_told 179 = .ok (.iload 7, 2) := by decide +kernel
theorem dX7_told_181 : decode cX7_told 181 = .ok (.iastore, 1) := by decide +kernel
theorem dX7_told_182 : decode cX7_told 182 = .ok (.return_, 1) := by decide +kernel
theorem dX7_heardBy_0 : decode cX7_heardBy 0 = .ok (.bipush 14, 2) := by decide +kernel
theorem dX7_heardBy_2 : decode cX7_heardBy 2 = .ok (.bipush 83, 2) := by decide +kernel
theorem dX7_heardBy_4 : decode cX7_heardBy 4 = .ok (.iload_n 1, 1) := by decide +kernel
theorem dX7_heardBy_5 : decode cX7_heardBy 5 = .ok (.imul, 1) := by decide +kernel
theorem dX7_heardBy_6 : decode cX7_heardBy 6 = .ok (.iadd, 1) := by decide +kernel
theorem dX7_heardBy_7 : decode cX7_heardBy 7 = .ok (.bipush 12, 2) := by decide +kernel
theorem dX7_heardBy_9 : decode cX7_heardBy 9 = .ok (.iadd, 1) := by decide +kernel
theorem dX7_heardBy_10 : decode cX7_heardBy 10 = .ok (.istore_n 3, 1) := by decide +kernel
theorem dX7_heardBy_11 : decode cX7_heardBy 11 = .ok (.iconst 0, 1) := by decide +kernel
theorem dX7_heardBy_12 : decode cX7_heardBy 12 = .ok (.istore 4, 2) := by decide +kernel
theorem dX7_heardBy_14 : decode cX7_heardBy 14 = .ok (.iconst 0, 1) := by decide +kernel
theorem dX7_heardBy_15 : decode cX7_heardBy 15 = .ok (.istore 5, 2) := by decide +kernel
theorem dX7_heardBy_17 : decode cX7_heardBy 17 = .ok (.iload 5, 2) := by decide +kernel
theorem dX7_heardBy_19 : decode cX7_heardBy 19 = .ok (.bipush 6, 2) := by decide +kernel
theorem dX7_heardBy_21 : decode cX7_heardBy 21 = .ok (.if_icmp .ge 95, 3) := by decide +kernel
theorem dX7_heardBy_24 : decode cX7_heardBy 24 = .ok (.aload_n 0, 1) := by decide +kernel
theorem dX7_heardBy_25 : decode cX7_heardBy 25 = .ok (.iload_n 3, 1) := by decide +kernel
theorem dX7_heardBy_26 : decode cX7_heardBy 26 = .ok (.iconst 3, 1) := by decide +kernel
theorem dX7_heardBy_27 : decode cX7_heardBy 27 = .ok (.iload 5, 2) := by decide +kernel
theorem dX7_heardBy_29 : decode cX7_heardBy 29 = .ok (.imul, 1) := by decide +kernel
theorem dX7_heardBy_30 : decode cX7_heardBy 30 = .ok (.iadd, 1) := by decide +kernel
theorem dX7_heardBy_31 : decode cX7_heardBy 31 = .ok (.iaload, 1) := by decide +kernel
theorem dX7_heardBy_32 : decode cX7_heardBy 32 = .ok (.aload_n 0, 1) := by decide +kernel
theorem dX7_heardBy_33 : decode cX7_heardBy 33 = .ok (.iload_n 3, 1) := by decide +kernel
theorem dX7_heardBy_34 : decode cX7_heardBy 34 = .ok (.iconst 3, 1) := by decide +kernel
theorem dX7_heardBy_35 : decode cX7_heardBy 35 = .ok (.iload_n 2, 1) := by decide +kernel
theorem dX7_heardBy_36 : decode cX7_heardBy 36 = .ok (.imul, 1) := by decide +kernel
theorem dX7_heardBy_37 : decode cX7_heardBy 37 = .ok (.iadd, 1) := by decide +kernel
theorem dX7_heardBy_38 : decode cX7_heardBy 38 = .ok (.iaload, 1) := by decide +kernel
theorem dX7_heardBy_39 : decode cX7_heardBy 39 = .ok (.if_icmp .ne 29, 3) := by decide +kernel
theorem dX7_heardBy_42 : decode cX7_heardBy 42 = .ok (.aload_n 0, 1) := by decide +kernel
theorem dX7_heardBy_43 : decode cX7_heardBy 43 = .ok (.iload_n 3, 1) := by decide +kernel
theorem dX7_heardBy_44 : decode cX7_heardBy 44 = .ok (.iconst 3, 1) := by decide +kernel
theorem dX7_heardBy_45 : decode cX7_heardBy 45 = .ok (.iload 5, 2) := by decide +kernel
theorem dX7_heardBy_47 : decode cX7_heardBy 47 = .ok (.imul, 1) := by decide +kernel
theorem dX7_heardBy_48 : decode cX7_heardBy 48 = .ok (.iadd, 1) := by decide +kernel
theorem dX7_heardBy_49 : decode cX7_heardBy 49 = .ok (.iconst 1, 1) := by decide +kernel
theorem dX7_heardBy_50 : decode cX7_heardBy 50 = .ok (.iadd, 1) := by decide +kernel
theorem dX7_heardBy_51 : decode cX7_heardBy 51 = .ok (.iaload, 1) := by decide +kernel
theorem dX7_heardBy_52 : decode cX7_heardBy 52 = .ok (.aload_n 0, 1) := by decide +kernel
theorem dX7_heardBy_53 : decode cX7_heardBy 53 = .ok (.iload_n 3, 1) := by decide +kernel
theorem dX7_heardBy_54 : decode cX7_heardBy 54 = .ok (.iconst 3, 1) := by decide +kernel
theorem dX7_heardBy_55 : decode cX7_heardBy 55 = .ok (.iload_n 2, 1) := by decide +kernel
theorem dX7_heardBy_56 : decode cX7_heardBy 56 = .ok (.imul, 1) := by decide +kernel
theorem dX7_heardBy_57 : decode cX7_heardBy 57 = .ok (.iadd, 1) := by decide +kernel
theorem dX7_heardBy_58 : decode cX7_heardBy 58 = .ok (.iconst 1, 1) := by decide +kernel
theorem dX7_heardBy_59 : decode cX7_heardBy 59 = .ok (.iadd, 1) := by decide +kernel
theorem dX7_heardBy_60 : decode cX7_heardBy 60 = .ok (.iaload, 1) := by decide +kernel
theorem dX7_heardBy_61 : decode cX7_heardBy 61 = .ok (.if_icmp .ne 7, 3) := by decide +kernel
theorem dX7_heardBy_64 : decode cX7_heardBy 64 = .ok (.iconst 1, 1) := by decide +kernel
theorem dX7_heardBy_65 : decode cX7_heardBy 65 = .ok (.goto 4, 3) := by decide +kernel
theorem dX7_heardBy_68 : decode cX7_heardBy 68 = .ok (.iconst 0, 1) := by decide +kernel
theorem dX7_heardBy_69 : decode cX7_heardBy 69 = .ok (.istore 6, 2) := by decide +kernel
theorem dX7_heardBy_71 : decode cX7_heardBy 71 = .ok (.iload 4, 2) := by decide +kernel
theorem dX7_heardBy_73 : decode cX7_heardBy 73 = .ok (.aload_n 0, 1) := by decide +kernel
theorem dX7_heardBy_74 : decode cX7_heardBy 74 = .ok (.iload_n 1, 1) := by decide +kernel
theorem dX7_heardBy_75 : decode cX7_heardBy 75 = .ok (.bipush 10, 2) := by decide +kernel
theorem dX7_heardBy_77 : decode cX7_heardBy 77 = .ok (.invokestatic 44, 3) := by decide +kernel
theorem dX7_heardBy_80 : decode cX7_heardBy 80 = .ok (.iload 5, 2) := by decide +kernel
theorem dX7_heardBy_82 : decode cX7_heardBy 82 = .ok (.invokestatic 48, 3) := by decide +kernel
theorem dX7_heardBy_85 : decode cX7_heardBy 85 = .ok (.ifCond .eq 21, 3) := by decide +kernel
theorem dX7_heardBy_88 : decode cX7_heardBy 88 = .ok (.iload 6, 2) := by decide +kernel
theorem dX7_heardBy_90 : decode cX7_heardBy 90 = .ok (.ifCond .eq 16, 3) := by decide +kernel
theorem dX7_heardBy_93 : decode cX7_heardBy 93 = .ok (.aload_n 0, 1) := by decide +kernel
theorem dX7_heardBy_94 : decode cX7_heardBy 94 = .ok (.iload_n 3, 1) := by decide +kernel
theorem dX7_heardBy_95 : decode cX7_heardBy 95 = .ok (.iconst 3, 1) := by decide +kernel
theorem dX7_heardBy_96 : decode cX7_heardBy 96 = .ok (.iload 5, 2) := by decide +kernel
theorem dX7_heardBy_98 : decode cX7_heardBy 98 = .ok (.imul, 1) := by decide +kernel
theorem dX7_heardBy_99 : decode cX7_heardBy 99 = .ok (.iadd, 1) := by decide +kernel
theorem dX7_heardBy_100 : decode cX7_heardBy 100 = .ok (.iconst 2, 1) := by decide +kernel
theorem dX7_heardBy_101 : decode cX7_heardBy 101 = .ok (.iadd, 1) := by decide +kernel
theorem dX7_heardBy_102 : decode cX7_heardBy 102 = .ok (.iaload, 1) := by decide +kernel
theorem dX7_heardBy_103 : decode cX7_heardBy 103 = .ok (.goto 4, 3) := by decide +kernel
theorem dX7_heardBy_106 : decode cX7_heardBy 106 = .ok (.iconst 0, 1) := by decide +kernel
theorem dX7_heardBy_107 : decode cX7_heardBy 107 = .ok (.ior, 1) := by decide +kernel
theorem dX7_heardBy_108 : decode cX7_heardBy 108 = .ok (.istore 4, 2) := by decide +kernel
theorem dX7_heardBy_110 : decode cX7_heardBy 110 = .ok (.iinc 5 1, 3) := by decide +kernel
theorem dX7_heardBy_113 : decode cX7_heardBy 113 = .ok (.goto (-96), 3) := by decide +kernel
theorem dX7_heardBy_116 : decode cX7_heardBy 116 = .ok (.iload 4, 2) := by decide +kernel
theorem dX7_heardBy_118 : decode cX7_heardBy 118 = .ok (.ireturn, 1) := by decide +kernel
theorem dX7_answers_0 : decode cX7_answers 0 = .ok (.bipush 14, 2) := by decide +kernel
theorem dX7_answers_2 : decode cX7_answers 2 = .ok (.bipush 83, 2) := by decide +kernel
theorem dX7_answers_4 : decode cX7_answers 4 = .ok (.iload_n 1, 1) := by decide +kernel
theorem dX7_answers_5 : decode cX7_answers 5 = .ok (.imul, 1) := by decide +kernel
theorem dX7_answers_6 : decode cX7_answers 6 = .ok (.iadd, 1) := by decide +kernel
theorem dX7_answers_7 : decode cX7_answers 7 = .ok (.bipush 12, 2) := by decide +kernel
theorem dX7_answers_9 : decode cX7_answers 9 = .ok (.iadd, 1) := by decide +kernel
theorem dX7_answers_10 : decode cX7_answers 10 = .ok (.iconst 3, 1) := by decide +kernel
theorem dX7_answers_11 : decode cX7_answers 11 = .ok (.iload_n 2, 1) := by decide +kernel
theorem dX7_answers_12 : decode cX7_answers 12 = .ok (.imul, 1) := by decide +kernel
theorem dX7_answers_13 : decode cX7_answers 13 = .ok (.iadd, 1) := by decide +kernel
theorem dX7_answers_14 : decode cX7_answers 14 = .ok (.istore 6, 2) := by decide +kernel
theorem dX7_answers_16 : decode cX7_answers 16 = .ok (.aload_n 0, 1) := by decide +kernel
theorem dX7_answers_17 : decode cX7_answers 17 = .ok (.iload 6, 2) := by decide +kernel
theorem dX7_answers_19 : decode cX7_answers 19 = .ok (.iload_n 3, 1) := by decide +kernel
theorem dX7_answers_20 : decode cX7_answers 20 = .ok (.iastore, 1) := by decide +kernel
theorem dX7_answers_21 : decode cX7_answers 21 = .ok (.aload_n 0, 1) := by decide +kernel
theorem dX7_answers_22 : decode cX7_answers 22 = .ok (.iload 6, 2) := by decide +kernel
theorem dX7_answers_24 : decode cX7_answers 24 = .ok (.iconst 1, 1) := by decide +kernel
theorem dX7_answers_25 : decode cX7_answers 25 = .ok (.iadd, 1) := by decide +kernel
theorem dX7_answers_26 : decode cX7_answers 26 = .ok (.iload 4, 2) := by decide +kernel
theorem dX7_answers_28 : decode cX7_answers 28 = .ok (.iastore, 1) := by decide +kernel
theorem dX7_answers_29 : decode cX7_answers 29 = .ok (.aload_n 0, 1) := by decide +kernel
theorem dX7_answers_30 : decode cX7_answers 30 = .ok (.iload 6, 2) := by decide +kernel
theorem dX7_answers_32 : decode cX7_answers 32 = .ok (.iconst 2, 1) := by decide +kernel
theorem dX7_answers_33 : decode cX7_answers 33 = .ok (.iadd, 1) := by decide +kernel
theorem dX7_answers_34 : decode cX7_answers 34 = .ok (.iload 5, 2) := by decide +kernel
theorem dX7_answers_36 : decode cX7_answers 36 = .ok (.iastore, 1) := by decide +kernel
theorem dX7_answers_37 : decode cX7_answers 37 = .ok (.aload_n 0, 1) := by decide +kernel
theorem dX7_answers_38 : decode cX7_answers 38 = .ok (.iload_n 1, 1) := by decide +kernel
theorem dX7_answers_39 : decode cX7_answers 39 = .ok (.bipush 10, 2) := by decide +kernel
theorem dX7_answers_41 : decode cX7_answers 41 = .ok (.aload_n 0, 1) := by decide +kernel
theorem dX7_answers_42 : decode cX7_answers 42 = .ok (.iload_n 1, 1) := by decide +kernel
theorem dX7_answers_43 : decode cX7_answers 43 = .ok (.bipush 10, 2) := by decide +kernel
theorem dX7_answers_45 : decode cX7_answers 45 = .ok (.invokestatic 44, 3) := by decide +kernel
theorem dX7_answers_48 : decode cX7_answers 48 = .ok (.iconst 1, 1) := by decide +kernel
theorem dX7_answers_49 : decode cX7_answers 49 = .ok (.iload_n 2, 1) := by decide +kernel
theorem dX7_answers_50 : decode cX7_answers 50 = .ok (.ishl, 1) := by decide +kernel
theorem dX7_answers_51 : decode cX7_answers 51 = .ok (.ior, 1) := by decide +kernel
theorem dX7_answers_52 : decode cX7_answers 52 = .ok (.invokestatic 58, 3) := by decide +kernel
theorem dX7_answers_55 : decode cX7_answers 55 = .ok (.aload_n 0, 1) := by decide +kernel
theorem dX7_answers_56 : decode cX7_answers 56 = .ok (.iload_n 1, 1) := by decide +kernel
theorem dX7_answers_57 : decode cX7_answers 57 = .ok (.bipush 10, 2) := by decide +kernel
theorem dX7_answers_59 : decode cX7_answers 59 = .ok (.invokestatic 44, 3) := by decide +kernel
theorem dX7_answers_62 : decode cX7_answers 62 = .ok (.aload_n 0, 1) := by decide +kernel
theorem dX7_answers_63 : decode cX7_answers 63 = .ok (.iload_n 1, 1) := by decide +kernel
theorem dX7_answers_64 : decode cX7_answers 64 = .ok (.bipush 9, 2) := by decide +kernel
theorem dX7_answers_66 : decode cX7_answers 66 = .ok (.invokestatic 44, 3) := by decide +kernel
theorem dX7_answers_69 : decode cX7_answers 69 = .ok (.if_icmp .ne 8, 3) := by decide +kernel
theorem dX7_answers_72 : decode cX7_answers 72 = .ok (.aload_n 0, 1) := by decide +kernel
theorem dX7_answers_73 : decode cX7_answers 73 = .ok (.iload_n 1, 1) := by decide +kernel
theorem dX7_answers_74 : decode cX7_answers 74 = .ok (.invokestatic 70, 3) := by decide +kernel
theorem dX7_answers_77 : decode cX7_answers 77 = .ok (.return_, 1) := by decide +kernel
theorem dX7_stands_0 : decode cX7_stands 0 = .ok (.aload_n 0, 1) := by decide +kernel
theorem dX7_stands_1 : decode cX7_stands 1 = .ok (.iload_n 1, 1) := by decide +kernel
theorem dX7_stands_2 : decode cX7_stands 2 = .ok (.bipush 8, 2) := by decide +kernel
theorem dX7_stands_4 : decode cX7_stands 4 = .ok (.invokestatic 44, 3) := by decide +kernel
theorem dX7_stands_7 : decode cX7_stands 7 = .ok (.istore_n 2, 1) := by decide +kernel
theorem dX7_stands_8 : decode cX7_stands 8 = .ok (.aload_n 0, 1) := by decide +kernel
theorem dX7_stands_9 : decode cX7_stands 9 = .ok (.iload_n 1, 1) := by decide +kernel
theorem dX7_stands_10 : decode cX7_stands 10 = .ok (.bipush 9, 2) := by decide +kernel
theorem dX7_stands_12 : decode cX7_stands 12 = .ok (.invokestatic 44, 3) := by decide +kernel
theorem dX7_stands_15 : decode cX7_stands 15 = .ok (.istore_n 3, 1) := by decide +kernel
theorem dX7_stands_16 : decode cX7_stands 16 = .ok (.aload_n 0, 1) := by decide +kernel
theorem dX7_stands_17 : decode cX7_stands 17 = .ok (.bipush 6, 2) := by decide +kernel
theorem dX7_stands_19 : decode cX7_stands 19 = .ok (.dup2, 1) := by decide +kernel
theorem dX7_stands_20 : decode cX7_stands 20 = .ok (.iaload, 1) := by decide +kernel
theorem dX7_stands_21 : decode cX7_stands 21 = .ok (.iconst 1, 1) := by decide +kernel
theorem dX7_stands_22 : decode cX7_stands 22 = .ok (.iadd, 1) := by decide +kernel
theorem dX7_stands_23 : decode cX7_stands 23 = .ok (.iastore, 1) := by decide +kernel
theorem dX7_stands_24 : decode cX7_stands 24 = .ok (.aload_n 0, 1) := by decide +kernel
theorem dX7_stands_25 : decode cX7_stands 25 = .ok (.iload_n 1, 1) := by decide +kernel
theorem dX7_stands_26 : decode cX7_stands 26 = .ok (.iload_n 2, 1) := by decide +kernel
theorem dX7_stands_27 : decode cX7_stands 27 = .ok (.iload_n 1, 1) := by decide +kernel
theorem dX7_stands_28 : decode cX7_stands 28 = .ok (.iload_n 3, 1) := by decide +kernel
theorem dX7_stands_29 : decode cX7_stands 29 = .ok (.aload_n 0, 1) := by decide +kernel
theorem dX7_stands_30 : decode cX7_stands 30 = .ok (.iload_n 1, 1) := by decide +kernel
theorem dX7_stands_31 : decode cX7_stands 31 = .ok (.iload_n 1, 1) := by decide +kernel
theorem dX7_stands_32 : decode cX7_stands 32 = .ok (.invokestatic 74, 3) := by decide +kernel
theorem dX7_stands_35 : decode cX7_stands 35 = .ok (.invokestatic 77, 3) := by decide +kernel
theorem dX7_stands_38 : decode cX7_stands 38 = .ok (.iconst 0, 1) := by decide +kernel
theorem dX7_stands_39 : decode cX7_stands 39 = .ok (.istore 4, 2) := by decide +kernel
theorem dX7_stands_41 : decode cX7_stands 41 = .ok (.iload 4, 2) := by decide +kernel

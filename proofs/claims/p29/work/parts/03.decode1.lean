theorem dX0_init_0 : decode cX0_init 0 = .ok (.aload_n 0, 1) := by decide +kernel
theorem dX0_init_1 : decode cX0_init 1 = .ok (.invokespecial 3, 3) := by decide +kernel
theorem dX0_init_4 : decode cX0_init 4 = .ok (.aload_n 0, 1) := by decide +kernel
theorem dX0_init_5 : decode cX0_init 5 = .ok (.bipush 6, 2) := by decide +kernel
theorem dX0_init_7 : decode cX0_init 7 = .ok (.anewarray 9, 3) := by decide +kernel
theorem dX0_init_10 : decode cX0_init 10 = .ok (.putfield 11, 3) := by decide +kernel
theorem dX0_init_13 : decode cX0_init 13 = .ok (.aload_n 0, 1) := by decide +kernel
theorem dX0_init_14 : decode cX0_init 14 = .ok (.new 17, 3) := by decide +kernel
theorem dX0_init_17 : decode cX0_init 17 = .ok (.dup, 1) := by decide +kernel
theorem dX0_init_18 : decode cX0_init 18 = .ok (.invokespecial 19, 3) := by decide +kernel
theorem dX0_init_21 : decode cX0_init 21 = .ok (.putfield 20, 3) := by decide +kernel
theorem dX0_init_24 : decode cX0_init 24 = .ok (.aload_n 0, 1) := by decide +kernel
theorem dX0_init_25 : decode cX0_init 25 = .ok (.bipush 9, 2) := by decide +kernel
theorem dX0_init_27 : decode cX0_init 27 = .ok (.newarray .int, 2) := by decide +kernel
theorem dX0_init_29 : decode cX0_init 29 = .ok (.putfield 24, 3) := by decide +kernel
theorem dX0_init_32 : decode cX0_init 32 = .ok (.iconst 0, 1) := by decide +kernel
theorem dX0_init_33 : decode cX0_init 33 = .ok (.istore_n 1, 1) := by decide +kernel
theorem dX0_init_34 : decode cX0_init 34 = .ok (.iload_n 1, 1) := by decide +kernel
theorem dX0_init_35 : decode cX0_init 35 = .ok (.bipush 6, 2) := by decide +kernel
theorem dX0_init_37 : decode cX0_init 37 = .ok (.if_icmp .ge 23, 3) := by decide +kernel
theorem dX0_init_40 : decode cX0_init 40 = .ok (.aload_n 0, 1) := by decide +kernel
theorem dX0_init_41 : decode cX0_init 41 = .ok (.getfield 11, 3) := by decide +kernel
theorem dX0_init_44 : decode cX0_init 44 = .ok (.iload_n 1, 1) := by decide +kernel
theorem dX0_init_45 : decode cX0_init 45 = .ok (.new 9, 3) := by decide +kernel
theorem dX0_init_48 : decode cX0_init 48 = .ok (.dup, 1) := by decide +kernel
theorem dX0_init_49 : decode cX0_init 49 = .ok (.iload_n 1, 1) := by decide +kernel
theorem dX0_init_50 : decode cX0_init 50 = .ok (.invokespecial 28, 3) := by decide +kernel
theorem dX0_init_53 : decode cX0_init 53 = .ok (.aastore, 1) := by decide +kernel
theorem dX0_init_54 : decode cX0_init 54 = .ok (.iinc 1 1, 3) := by decide +kernel
theorem dX0_init_57 : decode cX0_init 57 = .ok (.goto (-23), 3) := by decide +kernel
theorem dX0_init_60 : decode cX0_init 60 = .ok (.return_, 1) := by decide +kernel
theorem dX0_copyFrom_0 : decode cX0_copyFrom 0 = .ok (.iconst 0, 1) := by decide +kernel
theorem dX0_copyFrom_1 : decode cX0_copyFrom 1 = .ok (.istore_n 2, 1) := by decide +kernel
theorem dX0_copyFrom_2 : decode cX0_copyFrom 2 = .ok (.iload_n 2, 1) := by decide +kernel
theorem dX0_copyFrom_3 : decode cX0_copyFrom 3 = .ok (.bipush 6, 2) := by decide +kernel
theorem dX0_copyFrom_5 : decode cX0_copyFrom 5 = .ok (.if_icmp .ge 24, 3) := by decide +kernel
theorem dX0_copyFrom_8 : decode cX0_copyFrom 8 = .ok (.aload_n 0, 1) := by decide +kernel
theorem dX0_copyFrom_9 : decode cX0_copyFrom 9 = .ok (.getfield 11, 3) := by decide +kernel
theorem dX0_copyFrom_12 : decode cX0_copyFrom 12 = .ok (.iload_n 2, 1) := by decide +kernel
theorem dX0_copyFrom_13 : decode cX0_copyFrom 13 = .ok (.aaload, 1) := by decide +kernel
theorem dX0_copyFrom_14 : decode cX0_copyFrom 14 = .ok (.aload_n 1, 1) := by decide +kernel
theorem dX0_copyFrom_15 : decode cX0_copyFrom 15 = .ok (.getfield 11, 3) := by decide +kernel
theorem dX0_copyFrom_18 : decode cX0_copyFrom 18 = .ok (.iload_n 2, 1) := by decide +kernel
theorem dX0_copyFrom_19 : decode cX0_copyFrom 19 = .ok (.aaload, 1) := by decide +kernel
theorem dX0_copyFrom_20 : decode cX0_copyFrom 20 = .ok (.invokevirtual 31, 3) := by decide +kernel
theorem dX0_copyFrom_23 : decode cX0_copyFrom 23 = .ok (.iinc 2 1, 3) := by decide +kernel
theorem dX0_copyFrom_26 : decode cX0_copyFrom 26 = .ok (.goto (-24), 3) := by decide +kernel
theorem dX0_copyFrom_29 : decode cX0_copyFrom 29 = .ok (.aload_n 0, 1) := by decide +kernel
theorem dX0_copyFrom_30 : decode cX0_copyFrom 30 = .ok (.getfield 20, 3) := by decide +kernel
theorem dX0_copyFrom_33 : decode cX0_copyFrom 33 = .ok (.aload_n 1, 1) := by decide +kernel
theorem dX0_copyFrom_34 : decode cX0_copyFrom 34 = .ok (.getfield 20, 3) := by decide +kernel
theorem dX0_copyFrom_37 : decode cX0_copyFrom 37 = .ok (.invokevirtual 35, 3) := by decide +kernel
theorem dX0_copyFrom_40 : decode cX0_copyFrom 40 = .ok (.aload_n 0, 1) := by decide +kernel
theorem dX0_copyFrom_41 : decode cX0_copyFrom 41 = .ok (.aload_n 1, 1) := by decide +kernel
theorem dX0_copyFrom_42 : decode cX0_copyFrom 42 = .ok (.getfield 38, 3) := by decide +kernel
theorem dX0_copyFrom_45 : decode cX0_copyFrom 45 = .ok (.putfield 38, 3) := by decide +kernel
theorem dX0_copyFrom_48 : decode cX0_copyFrom 48 = .ok (.aload_n 0, 1) := by decide +kernel
theorem dX0_copyFrom_49 : decode cX0_copyFrom 49 = .ok (.aload_n 1, 1) := by decide +kernel
theorem dX0_copyFrom_50 : decode cX0_copyFrom 50 = .ok (.getfield 42, 3) := by decide +kernel
theorem dX0_copyFrom_53 : decode cX0_copyFrom 53 = .ok (.putfield 42, 3) := by decide +kernel
theorem dX0_copyFrom_56 : decode cX0_copyFrom 56 = .ok (.aload_n 0, 1) := by decide +kernel
theorem dX0_copyFrom_57 : decode cX0_copyFrom 57 = .ok (.aload_n 1, 1) := by decide +kernel
theorem dX0_copyFrom_58 : decode cX0_copyFrom 58 = .ok (.getfield 45, 3) := by decide +kernel
theorem dX0_copyFrom_61 : decode cX0_copyFrom 61 = .ok (.putfield 45, 3) := by decide +kernel
theorem dX0_copyFrom_64 : decode cX0_copyFrom 64 = .ok (.aload_n 0, 1) := by decide +kernel
theorem dX0_copyFrom_65 : decode cX0_copyFrom 65 = .ok (.aload_n 1, 1) := by decide +kernel
theorem dX0_copyFrom_66 : decode cX0_copyFrom 66 = .ok (.getfield 48, 3) := by decide +kernel
theorem dX0_copyFrom_69 : decode cX0_copyFrom 69 = .ok (.putfield 48, 3) := by decide +kernel
theorem dX0_copyFrom_72 : decode cX0_copyFrom 72 = .ok (.aload_n 0, 1) := by decide +kernel
theorem dX0_copyFrom_73 : decode cX0_copyFrom 73 = .ok (.aload_n 1, 1) := by decide +kernel
theorem dX0_copyFrom_74 : decode cX0_copyFrom 74 = .ok (.getfield 51, 3) := by decide +kernel
theorem dX0_copyFrom_77 : decode cX0_copyFrom 77 = .ok (.putfield 51, 3) := by decide +kernel
theorem dX0_copyFrom_80 : decode cX0_copyFrom 80 = .ok (.aload_n 0, 1) := by decide +kernel
theorem dX0_copyFrom_81 : decode cX0_copyFrom 81 = .ok (.aload_n 1, 1) := by decide +kernel
theorem dX0_copyFrom_82 : decode cX0_copyFrom 82 = .ok (.getfield 54, 3) := by decide +kernel
theorem dX0_copyFrom_85 : decode cX0_copyFrom 85 = .ok (.putfield 54, 3) := by decide +kernel
theorem dX0_copyFrom_88 : decode cX0_copyFrom 88 = .ok (.return_, 1) := by decide +kernel
theorem dX0_hasMember_0 : decode cX0_hasMember 0 = .ok (.iload_n 1, 1) := by decide +kernel
theorem dX0_hasMember_1 : decode cX0_hasMember 1 = .ok (.ifCond .lt 15, 3) := by decide +kernel
theorem dX0_hasMember_4 : decode cX0_hasMember 4 = .ok (.iload_n 1, 1) := by decide +kernel
theorem dX0_hasMember_5 : decode cX0_hasMember 5 = .ok (.aload_n 0, 1) := by decide +kernel
theorem dX0_hasMember_6 : decode cX0_hasMember 6 = .ok (.getfield 38, 3) := by decide +kernel
theorem dX0_hasMember_9 : decode cX0_hasMember 9 = .ok (.if_icmp .ge 7, 3) := by decide +kernel
theorem dX0_hasMember_12 : decode cX0_hasMember 12 = .ok (.iconst 1, 1) := by decide +kernel
theorem dX0_hasMember_13 : decode cX0_hasMember 13 = .ok (.goto 4, 3) := by decide +kernel
theorem dX0_hasMember_16 : decode cX0_hasMember 16 = .ok (.iconst 0, 1) := by decide +kernel
theorem dX0_hasMember_17 : decode cX0_hasMember 17 = .ok (.ireturn, 1) := by decide +kernel
theorem dX0_isGone_0 : decode cX0_isGone 0 = .ok (.aload_n 0, 1) := by decide +kernel
theorem dX0_isGone_1 : decode cX0_isGone 1 = .ok (.getfield 11, 3) := by decide +kernel
theorem dX0_isGone_4 : decode cX0_isGone 4 = .ok (.iload_n 1, 1) := by decide +kernel
theorem dX0_isGone_5 : decode cX0_isGone 5 = .ok (.aaload, 1) := by decide +kernel
theorem dX0_isGone_6 : decode cX0_isGone 6 = .ok (.getfield 57, 3) := by decide +kernel
theorem dX0_isGone_9 : decode cX0_isGone 9 = .ok (.iconst 2, 1) := by decide +kernel
theorem dX0_isGone_10 : decode cX0_isGone 10 = .ok (.if_icmp .ne 7, 3) := by decide +kernel
theorem dX0_isGone_13 : decode cX0_isGone 13 = .ok (.iconst 1, 1) := by decide +kernel
theorem dX0_isGone_14 : decode cX0_isGone 14 = .ok (.goto 4, 3) := by decide +kernel
theorem dX0_isGone_17 : decode cX0_isGone 17 = .ok (.iconst 0, 1) := by decide +kernel
theorem dX0_isGone_18 : decode cX0_isGone 18 = .ok (.ireturn, 1) := by decide +kernel
theorem dX0_everybody_0 : decode cX0_everybody 0 = .ok (.iconst 1, 1) := by decide +kernel
theorem dX0_everybody_1 : decode cX0_everybody 1 = .ok (.aload_n 0, 1) := by decide +kernel
theorem dX0_everybody_2 : decode cX0_everybody 2 = .ok (.getfield 38, 3) := by decide +kernel
theorem dX0_everybody_5 : decode cX0_everybody 5 = .ok (.ishl, 1) := by decide +kernel
theorem dX0_everybody_6 : decode cX0_everybody 6 = .ok (.iconst 1, 1) := by decide +kernel
theorem dX0_everybody_7 : decode cX0_everybody 7 = .ok (.isub, 1) := by decide +kernel
theorem dX0_everybody_8 : decode cX0_everybody 8 = .ok (.ireturn, 1) := by decide +kernel
theorem dX0_isRollWith_0 : decode cX0_isRollWith 0 = .ok (.iload_n 2, 1) := by decide +kernel
theorem dX0_isRollWith_1 : decode cX0_isRollWith 1 = .ok (.aload_n 0, 1) := by decide +kernel
theorem dX0_isRollWith_2 : decode cX0_isRollWith 2 = .ok (.invokevirtual 60, 3) := by decide +kernel
theorem dX0_isRollWith_5 : decode cX0_isRollWith 5 = .ok (.iconst (-1), 1) := by decide +kernel
theorem dX0_isRollWith_6 : decode cX0_isRollWith 6 = .ok (.ixor, 1) := by decide +kernel
theorem dX0_isRollWith_7 : decode cX0_isRollWith 7 = .ok (.iand, 1) := by decide +kernel
theorem dX0_isRollWith_8 : decode cX0_isRollWith 8 = .ok (.ifCond .ne 15, 3) := by decide +kernel
theorem dX0_isRollWith_11 : decode cX0_isRollWith 11 = .ok (.iload_n 2, 1) := by decide +kernel
theorem dX0_isRollWith_12 : decode cX0_isRollWith 12 = .ok (.iload_n 1, 1) := by decide +kernel
theorem dX0_isRollWith_13 : decode cX0_isRollWith 13 = .ok (.invokestatic 64, 3) := by decide +kernel
theorem dX0_isRollWith_16 : decode cX0_isRollWith 16 = .ok (.ifCond .eq 7, 3) := by decide +kernel
theorem dX0_isRollWith_19 : decode cX0_isRollWith 19 = .ok (.iconst 1, 1) := by decide +kernel
theorem dX0_isRollWith_20 : decode cX0_isRollWith 20 = .ok (.goto 4, 3) := by decide +kernel
theorem dX0_isRollWith_23 : decode cX0_isRollWith 23 = .ok (.iconst 0, 1) := by decide +kernel
theorem dX0_isRollWith_24 : decode cX0_isRollWith 24 = .ok (.ireturn, 1) := by decide +kernel
theorem dX0_whoAre_0 : decode cX0_whoAre 0 = .ok (.iconst 0, 1) := by decide +kernel
theorem dX0_whoAre_1 : decode cX0_whoAre 1 = .ok (.istore_n 2, 1) := by decide +kernel
theorem dX0_whoAre_2 : decode cX0_whoAre 2 = .ok (.iconst 0, 1) := by decide +kernel
theorem dX0_whoAre_3 : decode cX0_whoAre 3 = .ok (.istore_n 3, 1) := by decide +kernel
theorem dX0_whoAre_4 : decode cX0_whoAre 4 = .ok (.iload_n 3, 1) := by decide +kernel
theorem dX0_whoAre_5 : decode cX0_whoAre 5 = .ok (.aload_n 0, 1) := by decide +kernel
theorem dX0_whoAre_6 : decode cX0_whoAre 6 = .ok (.getfield 38, 3) := by decide +kernel
theorem dX0_whoAre_9 : decode cX0_whoAre 9 = .ok (.if_icmp .ge 28, 3) := by decide +kernel
theorem dX0_whoAre_12 : decode cX0_whoAre 12 = .ok (.aload_n 0, 1) := by decide +kernel
theorem dX0_whoAre_13 : decode cX0_whoAre 13 = .ok (.getfield 11, 3) := by decide +kernel
theorem dX0_whoAre_16 : decode cX0_whoAre 16 = .ok (.iload_n 3, 1) := by decide +kernel
theorem dX0_whoAre_17 : decode cX0_whoAre 17 = .ok (.aaload, 1) := by decide +kernel
theorem dX0_whoAre_18 : decode cX0_whoAre 18 = .ok (.getfield 57, 3) := by decide +kernel
theorem dX0_whoAre_21 : decode cX0_whoAre 21 = .ok (.iload_n 1, 1) := by decide +kernel
theorem dX0_whoAre_22 : decode cX0_whoAre 22 = .ok (.if_icmp .ne 9, 3) := by decide +kernel
theorem dX0_whoAre_25 : decode cX0_whoAre 25 = .ok (.iload_n 2, 1) := by decide +kernel
theorem dX0_whoAre_26 : decode cX0_whoAre 26 = .ok (.iconst 1, 1) := by decide +kernel
theorem dX0_whoAre_27 : decode cX0_whoAre 27 = .ok (.iload_n 3, 1) := by decide +kernel
theorem dX0_whoAre_28 : decode cX0_whoAre 28 = .ok (.ishl, 1) := by decide +kernel
theorem dX0_whoAre_29 : decode cX0_whoAre 29 = .ok (.ior, 1) := by decide +kernel
theorem dX0_whoAre_30 : decode cX0_whoAre 30 = .ok (.istore_n 2, 1) := by decide +kernel
theorem dX0_whoAre_31 : decode cX0_whoAre 31 = .ok (.iinc 3 1, 3) := by decide +kernel
theorem dX0_whoAre_34 : decode cX0_whoAre 34 = .ok (.goto (-30), 3) := by decide +kernel
theorem dX0_whoAre_37 : decode cX0_whoAre 37 = .ok (.iload_n 2, 1) := by decide +kernel
theorem dX0_whoAre_38 : decode cX0_whoAre 38 = .ok (.ireturn, 1) := by decide +kernel
theorem dX0_allSitIn_0 : decode cX0_allSitIn 0 = .ok (.iconst 0, 1) := by decide +kernel
theorem dX0_allSitIn_1 : decode cX0_allSitIn 1 = .ok (.istore 4, 2) := by decide +kernel
theorem dX0_allSitIn_3 : decode cX0_allSitIn 3 = .ok (.iload 4, 2) := by decide +kernel
theorem dX0_allSitIn_5 : decode cX0_allSitIn 5 = .ok (.aload_n 0, 1) := by decide +kernel
theorem dX0_allSitIn_6 : decode cX0_allSitIn 6 = .ok (.getfield 38, 3) := by decide +kernel
theorem dX0_allSitIn_9 : decode cX0_allSitIn 9 = .ok (.if_icmp .ge 48, 3) := by decide +kernel
theorem dX0_allSitIn_12 : decode cX0_allSitIn 12 = .ok (.iload_n 1, 1) := by decide +kernel
theorem dX0_allSitIn_13 : decode cX0_allSitIn 13 = .ok (.iload 4, 2) := by decide +kernel
theorem dX0_allSitIn_15 : decode cX0_allSitIn 15 = .ok (.invokestatic 64, 3) := by decide +kernel
theorem dX0_allSitIn_18 : decode cX0_allSitIn 18 = .ok (.ifCond .eq 33, 3) := by decide +kernel
theorem dX0_allSitIn_21 : decode cX0_allSitIn 21 = .ok (.aload_n 0, 1) := by decide +kernel
theorem dX0_allSitIn_22 : decode cX0_allSitIn 22 = .ok (.getfield 11, 3) := by decide +kernel
theorem dX0_allSitIn_25 : decode cX0_allSitIn 25 = .ok (.iload 4, 2) := by decide +kernel
theorem dX0_allSitIn_27 : decode cX0_allSitIn 27 = .ok (.aaload, 1) := by decide +kernel
theorem dX0_allSitIn_28 : decode cX0_allSitIn 28 = .ok (.getfield 57, 3) := by decide +kernel
theorem dX0_allSitIn_31 : decode cX0_allSitIn 31 = .ok (.ifCond .ne 18, 3) := by decide +kernel
theorem dX0_allSitIn_34 : decode cX0_allSitIn 34 = .ok (.aload_n 0, 1) := by decide +kernel
theorem dX0_allSitIn_35 : decode cX0_allSitIn 35 = .ok (.getfield 11, 3) := by decide +kernel
theorem dX0_allSitIn_38 : decode cX0_allSitIn 38 = .ok (.iload 4, 2) := by decide +kernel
theorem dX0_allSitIn_40 : decode cX0_allSitIn 40 = .ok (.aaload, 1) := by decide +kernel
theorem dX0_allSitIn_41 : decode cX0_allSitIn 41 = .ok (.iload_n 2, 1) := by decide +kernel
theorem dX0_allSitIn_42 : decode cX0_allSitIn 42 = .ok (.iload_n 3, 1) := by decide +kernel
theorem dX0_allSitIn_43 : decode cX0_allSitIn 43 = .ok (.invokevirtual 68, 3) := by decide +kernel
theorem dX0_allSitIn_46 : decode cX0_allSitIn 46 = .ok (.ifCond .ne 5, 3) := by decide +kernel
theorem dX0_allSitIn_49 : decode cX0_allSitIn 49 = .ok (.iconst 0, 1) := by decide +kernel
theorem dX0_allSitIn_50 : decode cX0_allSitIn 50 = .ok (.ireturn, 1) := by decide +kernel
theorem dX0_allSitIn_51 : decode cX0_allSitIn 51 = .ok (.iinc 4 1, 3) := by decide +kernel
theorem dX0_allSitIn_54 : decode cX0_allSitIn 54 = .ok (.goto (-51), 3) := by decide +kernel
theorem dX0_allSitIn_57 : decode cX0_allSitIn 57 = .ok (.iconst 1, 1) := by decide +kernel
theorem dX0_allSitIn_58 : decode cX0_allSitIn 58 = .ok (.ireturn, 1) := by decide +kernel
theorem dX0_groupOf_0 : decode cX0_groupOf 0 = .ok (.iconst 0, 1) := by decide +kernel
theorem dX0_groupOf_1 : decode cX0_groupOf 1 = .ok (.istore_n 2, 1) := by decide +kernel
theorem dX0_groupOf_2 : decode cX0_groupOf 2 = .ok (.iconst 0, 1) := by decide +kernel
theorem dX0_groupOf_3 : decode cX0_groupOf 3 = .ok (.istore_n 3, 1) := by decide +kernel
theorem dX0_groupOf_4 : decode cX0_groupOf 4 = .ok (.iload_n 3, 1) := by decide +kernel
theorem dX0_groupOf_5 : decode cX0_groupOf 5 = .ok (.aload_n 0, 1) := by decide +kernel
theorem dX0_groupOf_6 : decode cX0_groupOf 6 = .ok (.getfield 38, 3) := by decide +kernel
theorem dX0_groupOf_9 : decode cX0_groupOf 9 = .ok (.if_icmp .ge 58, 3) := by decide +kernel
theorem dX0_groupOf_12 : decode cX0_groupOf 12 = .ok (.aload_n 0, 1) := by decide +kernel
theorem dX0_groupOf_13 : decode cX0_groupOf 13 = .ok (.getfield 11, 3) := by decide +kernel
theorem dX0_groupOf_16 : decode cX0_groupOf 16 = .ok (.iload_n 3, 1) := by decide +kernel
theorem dX0_groupOf_17 : decode cX0_groupOf 17 = .ok (.aaload, 1) := by decide +kernel
theorem dX0_groupOf_18 : decode cX0_groupOf 18 = .ok (.astore 4, 2) := by decide +kernel
theorem dX0_groupOf_20 : decode cX0_groupOf 20 = .ok (.aload 4, 2) := by decide +kernel
theorem dX0_groupOf_22 : decode cX0_groupOf 22 = .ok (.getfield 57, 3) := by decide +kernel
theorem dX0_groupOf_25 : decode cX0_groupOf 25 = .ok (.iconst 2, 1) := by decide +kernel
theorem dX0_groupOf_26 : decode cX0_groupOf 26 = .ok (.if_icmp .eq 35, 3) := by decide +kernel
theorem dX0_groupOf_29 : decode cX0_groupOf 29 = .ok (.aload 4, 2) := by decide +kernel
theorem dX0_groupOf_31 : decode cX0_groupOf 31 = .ok (.aload_n 0, 1) := by decide +kernel
theorem dX0_groupOf_32 : decode cX0_groupOf 32 = .ok (.getfield 11, 3) := by decide +kernel
theorem dX0_groupOf_35 : decode cX0_groupOf 35 = .ok (.iload_n 1, 1) := by decide +kernel
theorem dX0_groupOf_36 : decode cX0_groupOf 36 = .ok (.aaload, 1) := by decide +kernel
theorem dX0_groupOf_37 : decode cX0_groupOf 37 = .ok (.getfield 71, 3) := by decide +kernel
theorem dX0_groupOf_40 : decode cX0_groupOf 40 = .ok (.aload_n 0, 1) := by decide +kernel
theorem dX0_groupOf_41 : decode cX0_groupOf 41 = .ok (.getfield 11, 3) := by decide +kernel
theorem dX0_groupOf_44 : decode cX0_groupOf 44 = .ok (.iload_n 1, 1) := by decide +kernel
theorem dX0_groupOf_45 : decode cX0_groupOf 45 = .ok (.aaload, 1) := by decide +kernel
theorem dX0_groupOf_46 : decode cX0_groupOf 46 = .ok (.getfield 74, 3) := by decide +kernel
theorem dX0_groupOf_49 : decode cX0_groupOf 49 = .ok (.invokevirtual 68, 3) := by decide +kernel
theorem dX0_groupOf_52 : decode cX0_groupOf 52 = .ok (.ifCond .eq 9, 3) := by decide +kernel
theorem dX0_groupOf_55 : decode cX0_groupOf 55 = .ok (.iload_n 2, 1) := by decide +kernel
theorem dX0_groupOf_56 : decode cX0_groupOf 56 = .ok (.iconst 1, 1) := by decide +kernel
theorem dX0_groupOf_57 : decode cX0_groupOf 57 = .ok (.iload_n 3, 1) := by decide +kernel
theorem dX0_groupOf_58 : decode cX0_groupOf 58 = .ok (.ishl, 1) := by decide +kernel
theorem dX0_groupOf_59 : decode cX0_groupOf 59 = .ok (.ior, 1) := by decide +kernel
theorem dX0_groupOf_60 : decode cX0_groupOf 60 = .ok (.istore_n 2, 1) := by decide +kernel
theorem dX0_groupOf_61 : decode cX0_groupOf 61 = .ok (.iinc 3 1, 3) := by decide +kernel
theorem dX0_groupOf_64 : decode cX0_groupOf 64 = .ok (.goto (-60), 3) := by decide +kernel
theorem dX0_groupOf_67 : decode cX0_groupOf 67 = .ok (.iload_n 2, 1) := by decide +kernel
theorem dX0_groupOf_68 : decode cX0_groupOf 68 = .ok (.iload_n 1, 1) := by decide +kernel
theorem dX0_groupOf_69 : decode cX0_groupOf 69 = .ok (.invokestatic 64, 3) := by decide +kernel
theorem dX0_groupOf_72 : decode cX0_groupOf 72 = .ok (.ifCond .eq 7, 3) := by decide +kernel
theorem dX0_groupOf_75 : decode cX0_groupOf 75 = .ok (.iload_n 2, 1) := by decide +kernel
theorem dX0_groupOf_76 : decode cX0_groupOf 76 = .ok (.goto 4, 3) := by decide +kernel
theorem dX0_groupOf_79 : decode cX0_groupOf 79 = .ok (.iconst 0, 1) := by decide +kernel
theorem dX0_groupOf_80 : decode cX0_groupOf 80 = .ok (.ireturn, 1) := by decide +kernel
theorem dX0_speechesMissedBy_0 : decode cX0_speechesMissedBy 0 = .ok (.iconst 0, 1) := by decide +kernel
theorem dX0_speechesMissedBy_1 : decode cX0_speechesMissedBy 1 = .ok (.istore_n 2, 1) := by decide +kernel
theorem dX0_speechesMissedBy_2 : decode cX0_speechesMissedBy 2 = .ok (.iconst 0, 1) := by decide +kernel
theorem dX0_speechesMissedBy_3 : decode cX0_speechesMissedBy 3 = .ok (.istore_n 3, 1) := by decide +kernel
theorem dX0_speechesMissedBy_4 : decode cX0_speechesMissedBy 4 = .ok (.iload_n 3, 1) := by decide +kernel
theorem dX0_speechesMissedBy_5 : decode cX0_speechesMissedBy 5 = .ok (.aload_n 0, 1) := by decide +kernel
theorem dX0_speechesMissedBy_6 : decode cX0_speechesMissedBy 6 = .ok (.getfield 38, 3) := by decide +kernel
theorem dX0_speechesMissedBy_9 : decode cX0_speechesMissedBy 9 = .ok (.if_icmp .ge 67, 3) := by decide +kernel
theorem dX0_speechesMissedBy_12 : decode cX0_speechesMissedBy 12 = .ok (.aload_n 0, 1) := by decide +kernel
theorem dX0_speechesMissedBy_13 : decode cX0_speechesMissedBy 13 = .ok (.getfield 11, 3) := by decide +kernel
theorem dX0_speechesMissedBy_16 : decode cX0_speechesMissedBy 16 = .ok (.iload_n 3, 1) := by decide +kernel
theorem dX0_speechesMissedBy_17 : decode cX0_speechesMissedBy 17 = .ok (.aaload, 1) := by decide +kernel
theorem dX0_speechesMissedBy_18 : decode cX0_speechesMissedBy 18 = .ok (.astore 4, 2) := by decide +kernel
theorem dX0_speechesMissedBy_20 : decode cX0_speechesMissedBy 20 = .ok (.aload_n 0, 1) := by decide +kernel
theorem dX0_speechesMissedBy_21 : decode cX0_speechesMissedBy 21 = .ok (.getfield 11, 3) := by decide +kernel
theorem dX0_speechesMissedBy_24 : decode cX0_speechesMissedBy 24 = .ok (.iload_n 1, 1) := by decide +kernel
theorem dX0_speechesMissedBy_25 : decode cX0_speechesMissedBy 25 = .ok (.aaload, 1) := by decide +kernel
theorem dX0_speechesMissedBy_26 : decode cX0_speechesMissedBy 26 = .ok (.getfield 77, 3) := by decide +kernel
theorem dX0_speechesMissedBy_29 : decode cX0_speechesMissedBy 29 = .ok (.iload_n 3, 1) := by decide +kernel
theorem dX0_speechesMissedBy_30 : decode cX0_speechesMissedBy 30 = .ok (.invokestatic 64, 3) := by decide +kernel
theorem dX0_speechesMissedBy_33 : decode cX0_speechesMissedBy 33 = .ok (.ifCond .eq 37, 3) := by decide +kernel
theorem dX0_speechesMissedBy_36 : decode cX0_speechesMissedBy 36 = .ok (.aload 4, 2) := by decide +kernel
theorem dX0_speechesMissedBy_38 : decode cX0_speechesMissedBy 38 = .ok (.aload_n 0, 1) := by decide +kernel
theorem dX0_speechesMissedBy_39 : decode cX0_speechesMissedBy 39 = .ok (.getfield 11, 3) := by decide +kernel
theorem dX0_speechesMissedBy_42 : decode cX0_speechesMissedBy 42 = .ok (.iload_n 1, 1) := by decide +kernel
theorem dX0_speechesMissedBy_43 : decode cX0_speechesMissedBy 43 = .ok (.aaload, 1) := by decide +kernel
theorem dX0_speechesMissedBy_44 : decode cX0_speechesMissedBy 44 = .ok (.getfield 71, 3) := by decide +kernel
theorem dX0_speechesMissedBy_47 : decode cX0_speechesMissedBy 47 = .ok (.aload_n 0, 1) := by decide +kernel
theorem dX0_speechesMissedBy_48 : decode cX0_speechesMissedBy 48 = .ok (.getfield 11, 3) := by decide +kernel
theorem dX0_speechesMissedBy_51 : decode cX0_speechesMissedBy 51 = .ok (.iload_n 1, 1) := by decide +kernel
theorem dX0_speechesMissedBy_52 : decode cX0_speechesMissedBy 52 = .ok (.aaload, 1) := by decide +kernel
theorem dX0_speechesMissedBy_53 : decode cX0_speechesMissedBy 53 = .ok (.getfield 74, 3) := by decide +kernel
theorem dX0_speechesMissedBy_56 : decode cX0_speechesMissedBy 56 = .ok (.invokevirtual 68, 3) := by decide +kernel
theorem dX0_speechesMissedBy_59 : decode cX0_speechesMissedBy 59 = .ok (.ifCond .eq 11, 3) := by decide +kernel
theorem dX0_speechesMissedBy_62 : decode cX0_speechesMissedBy 62 = .ok (.iload_n 2, 1) := by decide +kernel
theorem dX0_speechesMissedBy_63 : decode cX0_speechesMissedBy 63 = .ok (.aload 4, 2) := by decide +kernel
theorem dX0_speechesMissedBy_65 : decode cX0_speechesMissedBy 65 = .ok (.getfield 80, 3) := by decide +kernel
theorem dX0_speechesMissedBy_68 : decode cX0_speechesMissedBy 68 = .ok (.ior, 1) := by decide +kernel
theorem dX0_speechesMissedBy_69 : decode cX0_speechesMissedBy 69 = .ok (.istore_n 2, 1) := by decide +kernel
theorem dX0_speechesMissedBy_70 : decode cX0_speechesMissedBy 70 = .ok (.iinc 3 1, 3) := by decide +kernel
theorem dX0_speechesMissedBy_73 : decode cX0_speechesMissedBy 73 = .ok (.goto (-69), 3) := by decide +kernel
theorem dX0_speechesMissedBy_76 : decode cX0_speechesMissedBy 76 = .ok (.iload_n 2, 1) := by decide +kernel
theorem dX0_speechesMissedBy_77 : decode cX0_speechesMissedBy 77 = .ok (.aload_n 0, 1) := by decide +kernel
theorem dX0_speechesMissedBy_78 : decode cX0_speechesMissedBy 78 = .ok (.getfield 11, 3) := by decide +kernel
theorem dX0_speechesMissedBy_81 : decode cX0_speechesMissedBy 81 = .ok (.iload_n 1, 1) := by decide +kernel
theorem dX0_speechesMissedBy_82 : decode cX0_speechesMissedBy 82 = .ok (.aaload, 1) := by decide +kernel
theorem dX0_speechesMissedBy_83 : decode cX0_speechesMissedBy 83 = .ok (.getfield 80, 3) := by decide +kernel
theorem dX0_speechesMissedBy_86 : decode cX0_speechesMissedBy 86 = .ok (.iconst (-1), 1) := by decide +kernel
theorem dX0_speechesMissedBy_87 : decode cX0_speechesMissedBy 87 = .ok (.ixor, 1) := by decide +kernel
theorem dX0_speechesMissedBy_88 : decode cX0_speechesMissedBy 88 = .ok (.iand, 1) := by decide +kernel
theorem dX0_speechesMissedBy_89 : decode cX0_speechesMissedBy 89 = .ok (.ireturn, 1) := by decide +kernel
theorem dX0_sharedSessions_0 : decode cX0_sharedSessions 0 = .ok (.aload_n 0, 1) := by decide +kernel
theorem dX0_sharedSessions_1 : decode cX0_sharedSessions 1 = .ok (.getfield 11, 3) := by decide +kernel
theorem dX0_sharedSessions_4 : decode cX0_sharedSessions 4 = .ok (.iload_n 1, 1) := by decide +kernel
theorem dX0_sharedSessions_5 : decode cX0_sharedSessions 5 = .ok (.aaload, 1) := by decide +kernel
theorem dX0_sharedSessions_6 : decode cX0_sharedSessions 6 = .ok (.getfield 83, 3) := by decide +kernel
theorem dX0_sharedSessions_9 : decode cX0_sharedSessions 9 = .ok (.astore 4, 2) := by decide +kernel
theorem dX0_sharedSessions_11 : decode cX0_sharedSessions 11 = .ok (.aload_n 0, 1) := by decide +kernel
theorem dX0_sharedSessions_12 : decode cX0_sharedSessions 12 = .ok (.getfield 11, 3) := by decide +kernel
theorem dX0_sharedSessions_15 : decode cX0_sharedSessions 15 = .ok (.iload_n 2, 1) := by decide +kernel
theorem dX0_sharedSessions_16 : decode cX0_sharedSessions 16 = .ok (.aaload, 1) := by decide +kernel
theorem dX0_sharedSessions_17 : decode cX0_sharedSessions 17 = .ok (.getfield 83, 3) := by decide +kernel
theorem dX0_sharedSessions_20 : decode cX0_sharedSessions 20 = .ok (.astore 5, 2) := by decide +kernel
theorem dX0_sharedSessions_22 : decode cX0_sharedSessions 22 = .ok (.iconst 0, 1) := by decide +kernel
theorem dX0_sharedSessions_23 : decode cX0_sharedSessions 23 = .ok (.istore 6, 2) := by decide +kernel
theorem dX0_sharedSessions_25 : decode cX0_sharedSessions 25 = .ok (.iconst 0, 1) := by decide +kernel
theorem dX0_sharedSessions_26 : decode cX0_sharedSessions 26 = .ok (.istore 7, 2) := by decide +kernel
theorem dX0_sharedSessions_28 : decode cX0_sharedSessions 28 = .ok (.iload 7, 2) := by decide +kernel
theorem dX0_sharedSessions_30 : decode cX0_sharedSessions 30 = .ok (.aload 4, 2) := by decide +kernel
theorem dX0_sharedSessions_32 : decode cX0_sharedSessions 32 = .ok (.getfield 87, 3) := by decide +kernel
theorem dX0_sharedSessions_35 : decode cX0_sharedSessions 35 = .ok (.if_icmp .ge 104, 3) := by decide +kernel
theorem dX0_sharedSessions_38 : decode cX0_sharedSessions 38 = .ok (.iconst 0, 1) := by decide +kernel
theorem dX0_sharedSessions_39 : decode cX0_sharedSessions 39 = .ok (.istore 8, 2) := by decide +kernel
theorem dX0_sharedSessions_41 : decode cX0_sharedSessions 41 = .ok (.iload 8, 2) := by decide +kernel
theorem dX0_sharedSessions_43 : decode cX0_sharedSessions 43 = .ok (.aload 5, 2) := by decide +kernel
theorem dX0_sharedSessions_45 : decode cX0_sharedSessions 45 = .ok (.getfield 87, 3) := by decide +kernel
theorem dX0_sharedSessions_48 : decode cX0_sharedSessions 48 = .ok (.if_icmp .ge 85, 3) := by decide +kernel
theorem dX0_sharedSessions_51 : decode cX0_sharedSessions 51 = .ok (.aload 4, 2) := by decide +kernel
theorem dX0_sharedSessions_53 : decode cX0_sharedSessions 53 = .ok (.getfield 90, 3) := by decide +kernel
theorem dX0_sharedSessions_56 : decode cX0_sharedSessions 56 = .ok (.iload 7, 2) := by decide +kernel
theorem dX0_sharedSessions_58 : decode cX0_sharedSessions 58 = .ok (.iaload, 1) := by decide +kernel
theorem dX0_sharedSessions_59 : decode cX0_sharedSessions 59 = .ok (.aload 5, 2) := by decide +kernel
theorem dX0_sharedSessions_61 : decode cX0_sharedSessions 61 = .ok (.getfield 90, 3) := by decide +kernel
theorem dX0_sharedSessions_64 : decode cX0_sharedSessions 64 = .ok (.iload 8, 2) := by decide +kernel
theorem dX0_sharedSessions_66 : decode cX0_sharedSessions 66 = .ok (.iaload, 1) := by decide +kernel
theorem dX0_sharedSessions_67 : decode cX0_sharedSessions 67 = .ok (.if_icmp .ne 26, 3) := by decide +kernel
theorem dX0_sharedSessions_70 : decode cX0_sharedSessions 70 = .ok (.aload 4, 2) := by decide +kernel
theorem dX0_sharedSessions_72 : decode cX0_sharedSessions 72 = .ok (.getfield 93, 3) := by decide +kernel
theorem dX0_sharedSessions_75 : decode cX0_sharedSessions 75 = .ok (.iload 7, 2) := by decide +kernel
theorem dX0_sharedSessions_77 : decode cX0_sharedSessions 77 = .ok (.iaload, 1) := by decide +kernel
theorem dX0_sharedSessions_78 : decode cX0_sharedSessions 78 = .ok (.aload 5, 2) := by decide +kernel
theorem dX0_sharedSessions_80 : decode cX0_sharedSessions 80 = .ok (.getfield 93, 3) := by decide +kernel
theorem dX0_sharedSessions_83 : decode cX0_sharedSessions 83 = .ok (.iload 8, 2) := by decide +kernel
theorem dX0_sharedSessions_85 : decode cX0_sharedSessions 85 = .ok (.iaload, 1) := by decide +kernel
theorem dX0_sharedSessions_86 : decode cX0_sharedSessions 86 = .ok (.if_icmp .ne 7, 3) := by decide +kernel
theorem dX0_sharedSessions_89 : decode cX0_sharedSessions 89 = .ok (.iconst 1, 1) := by decide +kernel
theorem dX0_sharedSessions_90 : decode cX0_sharedSessions 90 = .ok (.goto 4, 3) := by decide +kernel
theorem dX0_sharedSessions_93 : decode cX0_sharedSessions 93 = .ok (.iconst 0, 1) := by decide +kernel
theorem dX0_sharedSessions_94 : decode cX0_sharedSessions 94 = .ok (.istore 9, 2) := by decide +kernel
theorem dX0_sharedSessions_96 : decode cX0_sharedSessions 96 = .ok (.iload 9, 2) := by decide +kernel
theorem dX0_sharedSessions_98 : decode cX0_sharedSessions 98 = .ok (.ifCond .eq 29, 3) := by decide +kernel
theorem dX0_sharedSessions_101 : decode cX0_sharedSessions 101 = .ok (.iload_n 3, 1) := by decide +kernel
theorem dX0_sharedSessions_102 : decode cX0_sharedSessions 102 = .ok (.ifCond .eq 22, 3) := by decide +kernel
theorem dX0_sharedSessions_105 : decode cX0_sharedSessions 105 = .ok (.aload 4, 2) := by decide +kernel
theorem dX0_sharedSessions_107 : decode cX0_sharedSessions 107 = .ok (.getfield 96, 3) := by decide +kernel
theorem dX0_sharedSessions_110 : decode cX0_sharedSessions 110 = .ok (.iload 7, 2) := by decide +kernel
theorem dX0_sharedSessions_112 : decode cX0_sharedSessions 112 = .ok (.iaload, 1) := by decide +kernel
theorem dX0_sharedSessions_113 : decode cX0_sharedSessions 113 = .ok (.aload 5, 2) := by decide +kernel
theorem dX0_sharedSessions_115 : decode cX0_sharedSessions 115 = .ok (.getfield 96, 3) := by decide +kernel
theorem dX0_sharedSessions_118 : decode cX0_sharedSessions 118 = .ok (.iload 8, 2) := by decide +kernel
theorem dX0_sharedSessions_120 : decode cX0_sharedSessions 120 = .ok (.iaload, 1) := by decide +kernel
theorem dX0_sharedSessions_121 : decode cX0_sharedSessions 121 = .ok (.if_icmp .eq 6, 3) := by decide +kernel
theorem dX0_sharedSessions_124 : decode cX0_sharedSessions 124 = .ok (.iinc 6 1, 3) := by decide +kernel
theorem dX0_sharedSessions_127 : decode cX0_sharedSessions 127 = .ok (.iinc 8 1, 3) := by decide +kernel
theorem dX0_sharedSessions_130 : decode cX0_sharedSessions 130 = .ok (.goto (-89), 3) := by decide +kernel
theorem dX0_sharedSessions_133 : decode cX0_sharedSessions 133 = .ok (.iinc 7 1, 3) := by decide +kernel
theorem dX0_sharedSessions_136 : decode cX0_sharedSessions 136 = .ok (.goto (-108), 3) := by decide +kernel
theorem dX0_sharedSessions_139 : decode cX0_sharedSessions 139 = .ok (.iload 6, 2) := by decide +kernel
theorem dX0_sharedSessions_141 : decode cX0_sharedSessions 141 = .ok (.ireturn, 1) := by decide +kernel
theorem dX0_carryOut_0 : decode cX0_carryOut 0 = .ok (.iload_n 1, 1) := by decide +kernel
theorem dX0_carryOut_1 : decode cX0_carryOut 1 = .ok (.lookupswitch 154 #[(0, 109), (109, 51), (112, 77), (116, 93), (120, 109)], 51) := by decide +kernel
theorem dX0_carryOut_52 : decode cX0_carryOut 52 = .ok (.iload_n 2, 1) := by decide +kernel
theorem dX0_carryOut_53 : decode cX0_carryOut 53 = .ok (.invokestatic 98, 3) := by decide +kernel
theorem dX0_carryOut_56 : decode cX0_carryOut 56 = .ok (.ifCond .eq 12, 3) := by decide +kernel
theorem dX0_carryOut_59 : decode cX0_carryOut 59 = .ok (.aload_n 0, 1) := by decide +kernel
theorem dX0_carryOut_60 : decode cX0_carryOut 60 = .ok (.getfield 38, 3) := by decide +kernel
theorem dX0_carryOut_63 : decode cX0_carryOut 63 = .ok (.bipush 6, 2) := by decide +kernel
theorem dX0_carryOut_65 : decode cX0_carryOut 65 = .ok (.if_icmp .lt 5, 3) := by decide +kernel
theorem dX0_carryOut_68 : decode cX0_carryOut 68 = .ok (.iconst 0, 1) := by decide +kernel
theorem dX0_carryOut_69 : decode cX0_carryOut 69 = .ok (.ireturn, 1) := by decide +kernel
theorem dX0_carryOut_70 : decode cX0_carryOut 70 = .ok (.aload_n 0, 1) := by decide +kernel
theorem dX0_carryOut_71 : decode cX0_carryOut 71 = .ok (.iload_n 2, 1) := by decide +kernel
theorem dX0_carryOut_72 : decode cX0_carryOut 72 = .ok (.invokevirtual 102, 3) := by decide +kernel
theorem dX0_carryOut_75 : decode cX0_carryOut 75 = .ok (.pop, 1) := by decide +kernel
theorem dX0_carryOut_76 : decode cX0_carryOut 76 = .ok (.iconst 1, 1) := by decide +kernel
theorem dX0_carryOut_77 : decode cX0_carryOut 77 = .ok (.ireturn, 1) := by decide +kernel
theorem dX0_carryOut_78 : decode cX0_carryOut 78 = .ok (.iload_n 2, 1) := by decide +kernel
theorem dX0_carryOut_79 : decode cX0_carryOut 79 = .ok (.invokestatic 106, 3) := by decide +kernel
theorem dX0_carryOut_82 : decode cX0_carryOut 82 = .ok (.ifCond .ne 5, 3) := by decide +kernel
theorem dX0_carryOut_85 : decode cX0_carryOut 85 = .ok (.iconst 0, 1) := by decide +kernel
theorem dX0_carryOut_86 : decode cX0_carryOut 86 = .ok (.ireturn, 1) := by decide +kernel
theorem dX0_carryOut_87 : decode cX0_carryOut 87 = .ok (.aload_n 0, 1) := by decide +kernel
theorem dX0_carryOut_88 : decode cX0_carryOut 88 = .ok (.iload_n 2, 1) := by decide +kernel
theorem dX0_carryOut_89 : decode cX0_carryOut 89 = .ok (.putfield 45, 3) := by decide +kernel
theorem dX0_carryOut_92 : decode cX0_carryOut 92 = .ok (.iconst 1, 1) := by decide +kernel
theorem dX0_carryOut_93 : decode cX0_carryOut 93 = .ok (.ireturn, 1) := by decide +kernel
theorem dX0_carryOut_94 : decode cX0_carryOut 94 = .ok (.iload_n 2, 1) := by decide +kernel
theorem dX0_carryOut_95 : decode cX0_carryOut 95 = .ok (.invokestatic 109, 3) := by decide +kernel
theorem dX0_carryOut_98 : decode cX0_carryOut 98 = .ok (.ifCond .ne 5, 3) := by decide +kernel
theorem dX0_carryOut_101 : decode cX0_carryOut 101 = .ok (.iconst 0, 1) := by decide +kernel
theorem dX0_carryOut_102 : decode cX0_carryOut 102 = .ok (.ireturn, 1) := by decide +kernel
theorem dX0_carryOut_103 : decode cX0_carryOut 103 = .ok (.aload_n 0, 1) := by decide +kernel
theorem dX0_carryOut_104 : decode cX0_carryOut 104 = .ok (.iload_n 2, 1) := by decide +kernel
theorem dX0_carryOut_105 : decode cX0_carryOut 105 = .ok (.invokevirtual 112, 3) := by decide +kernel
theorem dX0_carryOut_108 : decode cX0_carryOut 108 = .ok (.iconst 1, 1) := by decide +kernel
theorem dX0_carryOut_109 : decode cX0_carryOut 109 = .ok (.ireturn, 1) := by decide +kernel
theorem dX0_carryOut_110 : decode cX0_carryOut 110 = .ok (.aload_n 0, 1) := by decide +kernel
theorem dX0_carryOut_111 : decode cX0_carryOut 111 = .ok (.iload_n 2, 1) := by decide +kernel
theorem dX0_carryOut_112 : decode cX0_carryOut 112 = .ok (.invokevirtual 115, 3) := by decide +kernel
theorem dX0_carryOut_115 : decode cX0_carryOut 115 = .ok (.ifCond .eq 16, 3) := by decide +kernel
theorem dX0_carryOut_118 : decode cX0_carryOut 118 = .ok (.aload_n 0, 1) := by decide +kernel
theorem dX0_carryOut_119 : decode cX0_carryOut 119 = .ok (.iload_n 3, 1) := by decide +kernel
theorem dX0_carryOut_120 : decode cX0_carryOut 120 = .ok (.invokevirtual 115, 3) := by decide +kernel
theorem dX0_carryOut_123 : decode cX0_carryOut 123 = .ok (.ifCond .eq 8, 3) := by decide +kernel
theorem dX0_carryOut_126 : decode cX0_carryOut 126 = .ok (.iload_n 2, 1) := by decide +kernel
theorem dX0_carryOut_127 : decode cX0_carryOut 127 = .ok (.iload_n 3, 1) := by decide +kernel
theorem dX0_carryOut_128 : decode cX0_carryOut 128 = .ok (.if_icmp .ne 5, 3) := by decide +kernel
theorem dX0_carryOut_131 : decode cX0_carryOut 131 = .ok (.iconst 0, 1) := by decide +kernel
theorem dX0_carryOut_132 : decode cX0_carryOut 132 = .ok (.ireturn, 1) := by decide +kernel
theorem dX0_carryOut_133 : decode cX0_carryOut 133 = .ok (.aload_n 0, 1) := by decide +kernel
theorem dX0_carryOut_134 : decode cX0_carryOut 134 = .ok (.getfield 20, 3) := by decide +kernel
theorem dX0_carryOut_137 : decode cX0_carryOut 137 = .ok (.iload_n 2, 1) := by decide +kernel
theorem dX0_carryOut_138 : decode cX0_carryOut 138 = .ok (.iload_n 3, 1) := by decide +kernel
theorem dX0_carryOut_139 : decode cX0_carryOut 139 = .ok (.iload_n 1, 1) := by decide +kernel
theorem dX0_carryOut_140 : decode cX0_carryOut 140 = .ok (.bipush 120, 2) := by decide +kernel
theorem dX0_carryOut_142 : decode cX0_carryOut 142 = .ok (.if_icmp .ne 7, 3) := by decide +kernel
theorem dX0_carryOut_145 : decode cX0_carryOut 145 = .ok (.iconst 1, 1) := by decide +kernel
theorem dX0_carryOut_146 : decode cX0_carryOut 146 = .ok (.goto 4, 3) := by decide +kernel
theorem dX0_carryOut_149 : decode cX0_carryOut 149 = .ok (.iconst 0, 1) := by decide +kernel
theorem dX0_carryOut_150 : decode cX0_carryOut 150 = .ok (.invokevirtual 118, 3) := by decide +kernel
theorem dX0_carryOut_153 : decode cX0_carryOut 153 = .ok (.iconst 1, 1) := by decide +kernel
theorem dX0_carryOut_154 : decode cX0_carryOut 154 = .ok (.ireturn, 1) := by decide +kernel
theorem dX0_carryOut_155 : decode cX0_carryOut 155 = .ok (.aload_n 0, 1) := by decide +kernel
theorem dX0_carryOut_156 : decode cX0_carryOut 156 = .ok (.iload_n 2, 1) := by decide +kernel
theorem dX0_carryOut_157 : decode cX0_carryOut 157 = .ok (.invokevirtual 115, 3) := by decide +kernel
theorem dX0_carryOut_160 : decode cX0_carryOut 160 = .ok (.ifCond .eq 17, 3) := by decide +kernel
theorem dX0_carryOut_163 : decode cX0_carryOut 163 = .ok (.aload_n 0, 1) := by decide +kernel
theorem dX0_carryOut_164 : decode cX0_carryOut 164 = .ok (.iload_n 2, 1) := by decide +kernel
theorem dX0_carryOut_165 : decode cX0_carryOut 165 = .ok (.iload_n 1, 1) := by decide +kernel
theorem dX0_carryOut_166 : decode cX0_carryOut 166 = .ok (.iload_n 3, 1) := by decide +kernel
theorem dX0_carryOut_167 : decode cX0_carryOut 167 = .ok (.invokevirtual 122, 3) := by decide +kernel
theorem dX0_carryOut_170 : decode cX0_carryOut 170 = .ok (.ifCond .eq 7, 3) := by decide +kernel
theorem dX0_carryOut_173 : decode cX0_carryOut 173 = .ok (.iconst 1, 1) := by decide +kernel
theorem dX0_carryOut_174 : decode cX0_carryOut 174 = .ok (.goto 4, 3) := by decide +kernel
theorem dX0_carryOut_177 : decode cX0_carryOut 177 = .ok (.iconst 0, 1) := by decide +kernel
theorem dX0_carryOut_178 : decode cX0_carryOut 178 = .ok (.ireturn, 1) := by decide +kernel
theorem dX0_carryOutBy_0 : decode cX0_carryOutBy 0 = .ok (.iload_n 2, 1) := by decide +kernel
theorem dX0_carryOutBy_1 : decode cX0_carryOutBy 1 = .ok (.lookupswitch 135 #[(98, 114), (99, 65), (103, 93), (115, 43)], 43) := by decide +kernel
theorem dX0_carryOutBy_44 : decode cX0_carryOutBy 44 = .ok (.aload_n 0, 1) := by decide +kernel
theorem dX0_carryOutBy_45 : decode cX0_carryOutBy 45 = .ok (.getfield 11, 3) := by decide +kernel
theorem dX0_carryOutBy_48 : decode cX0_carryOutBy 48 = .ok (.iload_n 1, 1) := by decide +kernel
theorem dX0_carryOutBy_49 : decode cX0_carryOutBy 49 = .ok (.aaload, 1) := by decide +kernel
theorem dX0_carryOutBy_50 : decode cX0_carryOutBy 50 = .ok (.invokevirtual 126, 3) := by decide +kernel
theorem dX0_carryOutBy_53 : decode cX0_carryOutBy 53 = .ok (.ifCond .ne 5, 3) := by decide +kernel
theorem dX0_carryOutBy_56 : decode cX0_carryOutBy 56 = .ok (.iconst 0, 1) := by decide +kernel
theorem dX0_carryOutBy_57 : decode cX0_carryOutBy 57 = .ok (.ireturn, 1) := by decide +kernel
theorem dX0_carryOutBy_58 : decode cX0_carryOutBy 58 = .ok (.aload_n 0, 1) := by decide +kernel
theorem dX0_carryOutBy_59 : decode cX0_carryOutBy 59 = .ok (.iload_n 1, 1) := by decide +kernel
theorem dX0_carryOutBy_60 : decode cX0_carryOutBy 60 = .ok (.invokevirtual 130, 3) := by decide +kernel
theorem dX0_carryOutBy_63 : decode cX0_carryOutBy 63 = .ok (.pop, 1) := by decide +kernel
theorem dX0_carryOutBy_64 : decode cX0_carryOutBy 64 = .ok (.iconst 1, 1) := by decide +kernel
theorem dX0_carryOutBy_65 : decode cX0_carryOutBy 65 = .ok (.ireturn, 1) := by decide +kernel
theorem dX0_carryOutBy_66 : decode cX0_carryOutBy 66 = .ok (.aload_n 0, 1) := by decide +kernel
theorem dX0_carryOutBy_67 : decode cX0_carryOutBy 67 = .ok (.iload_n 1, 1) := by decide +kernel
theorem dX0_carryOutBy_68 : decode cX0_carryOutBy 68 = .ok (.iload_n 3, 1) := by decide +kernel
theorem dX0_carryOutBy_69 : decode cX0_carryOutBy 69 = .ok (.invokevirtual 133, 3) := by decide +kernel
theorem dX0_carryOutBy_72 : decode cX0_carryOutBy 72 = .ok (.ifCond .eq 11, 3) := by decide +kernel
theorem dX0_carryOutBy_75 : decode cX0_carryOutBy 75 = .ok (.aload_n 0, 1) := by decide +kernel
theorem dX0_carryOutBy_76 : decode cX0_carryOutBy 76 = .ok (.iload_n 1, 1) := by decide +kernel
theorem dX0_carryOutBy_77 : decode cX0_carryOutBy 77 = .ok (.invokevirtual 136, 3) := by decide +kernel
theorem dX0_carryOutBy_80 : decode cX0_carryOutBy 80 = .ok (.ifCond .eq 5, 3) := by decide +kernel
theorem dX0_carryOutBy_83 : decode cX0_carryOutBy 83 = .ok (.iconst 0, 1) := by decide +kernel
theorem dX0_carryOutBy_84 : decode cX0_carryOutBy 84 = .ok (.ireturn, 1) := by decide +kernel
theorem dX0_carryOutBy_85 : decode cX0_carryOutBy 85 = .ok (.aload_n 0, 1) := by decide +kernel
theorem dX0_carryOutBy_86 : decode cX0_carryOutBy 86 = .ok (.iload_n 1, 1) := by decide +kernel
theorem dX0_carryOutBy_87 : decode cX0_carryOutBy 87 = .ok (.iload_n 3, 1) := by decide +kernel
theorem dX0_carryOutBy_88 : decode cX0_carryOutBy 88 = .ok (.invokevirtual 139, 3) := by decide +kernel
theorem dX0_carryOutBy_91 : decode cX0_carryOutBy 91 = .ok (.pop, 1) := by decide +kernel
theorem dX0_carryOutBy_92 : decode cX0_carryOutBy 92 = .ok (.iconst 1, 1) := by decide +kernel
theorem dX0_carryOutBy_93 : decode cX0_carryOutBy 93 = .ok (.ireturn, 1) := by decide +kernel
theorem dX0_carryOutBy_94 : decode cX0_carryOutBy 94 = .ok (.aload_n 0, 1) := by decide +kernel
theorem dX0_carryOutBy_95 : decode cX0_carryOutBy 95 = .ok (.iload_n 1, 1) := by decide +kernel
theorem dX0_carryOutBy_96 : decode cX0_carryOutBy 96 = .ok (.invokevirtual 136, 3) := by decide +kernel
theorem dX0_carryOutBy_99 : decode cX0_carryOutBy 99 = .ok (.ifCond .eq 5, 3) := by decide +kernel
theorem dX0_carryOutBy_102 : decode cX0_carryOutBy 102 = .ok (.iconst 0, 1) := by decide +kernel
theorem dX0_carryOutBy_103 : decode cX0_carryOutBy 103 = .ok (.ireturn, 1) := by decide +kernel
theorem dX0_carryOutBy_104 : decode cX0_carryOutBy 104 = .ok (.aload_n 0, 1) := by decide +kernel
theorem dX0_carryOutBy_105 : decode cX0_carryOutBy 105 = .ok (.getfield 11, 3) := by decide +kernel
theorem dX0_carryOutBy_108 : decode cX0_carryOutBy 108 = .ok (.iload_n 1, 1) := by decide +kernel
theorem dX0_carryOutBy_109 : decode cX0_carryOutBy 109 = .ok (.aaload, 1) := by decide +kernel
theorem dX0_carryOutBy_110 : decode cX0_carryOutBy 110 = .ok (.invokevirtual 143, 3) := by decide +kernel
theorem dX0_carryOutBy_113 : decode cX0_carryOutBy 113 = .ok (.iconst 1, 1) := by decide +kernel
theorem dX0_carryOutBy_114 : decode cX0_carryOutBy 114 = .ok (.ireturn, 1) := by decide +kernel
theorem dX0_carryOutBy_115 : decode cX0_carryOutBy 115 = .ok (.aload_n 0, 1) := by decide +kernel
theorem dX0_carryOutBy_116 : decode cX0_carryOutBy 116 = .ok (.iload_n 1, 1) := by decide +kernel
theorem dX0_carryOutBy_117 : decode cX0_carryOutBy 117 = .ok (.invokevirtual 136, 3) := by decide +kernel
theorem dX0_carryOutBy_120 : decode cX0_carryOutBy 120 = .ok (.ifCond .ne 5, 3) := by decide +kernel
theorem dX0_carryOutBy_123 : decode cX0_carryOutBy 123 = .ok (.iconst 0, 1) := by decide +kernel
theorem dX0_carryOutBy_124 : decode cX0_carryOutBy 124 = .ok (.ireturn, 1) := by decide +kernel
theorem dX0_carryOutBy_125 : decode cX0_carryOutBy 125 = .ok (.aload_n 0, 1) := by decide +kernel
theorem dX0_carryOutBy_126 : decode cX0_carryOutBy 126 = .ok (.getfield 11, 3) := by decide +kernel
theorem dX0_carryOutBy_129 : decode cX0_carryOutBy 129 = .ok (.iload_n 1, 1) := by decide +kernel
theorem dX0_carryOutBy_130 : decode cX0_carryOutBy 130 = .ok (.aaload, 1) := by decide +kernel
theorem dX0_carryOutBy_131 : decode cX0_carryOutBy 131 = .ok (.invokevirtual 146, 3) := by decide +kernel
theorem dX0_carryOutBy_134 : decode cX0_carryOutBy 134 = .ok (.iconst 1, 1) := by decide +kernel
theorem dX0_carryOutBy_135 : decode cX0_carryOutBy 135 = .ok (.ireturn, 1) := by decide +kernel
theorem dX0_carryOutBy_136 : decode cX0_carryOutBy 136 = .ok (.iconst 0, 1) := by decide +kernel
theorem dX0_carryOutBy_137 : decode cX0_carryOutBy 137 = .ok (.ireturn, 1) := by decide +kernel
theorem dX0_addMember_0 : decode cX0_addMember 0 = .ok (.aload_n 0, 1) := by decide +kernel
theorem dX0_addMember_1 : decode cX0_addMember 1 = .ok (.getfield 11, 3) := by decide +kernel
theorem dX0_addMember_4 : decode cX0_addMember 4 = .ok (.aload_n 0, 1) := by decide +kernel
theorem dX0_addMember_5 : decode cX0_addMember 5 = .ok (.getfield 38, 3) := by decide +kernel
theorem dX0_addMember_8 : decode cX0_addMember 8 = .ok (.aaload, 1) := by decide +kernel
theorem dX0_addMember_9 : decode cX0_addMember 9 = .ok (.iload_n 1, 1) := by decide +kernel
theorem dX0_addMember_10 : decode cX0_addMember 10 = .ok (.putfield 149, 3) := by decide +kernel
theorem dX0_addMember_13 : decode cX0_addMember 13 = .ok (.aload_n 0, 1) := by decide +kernel
theorem dX0_addMember_14 : decode cX0_addMember 14 = .ok (.dup, 1) := by decide +kernel
theorem dX0_addMember_15 : decode cX0_addMember 15 = .ok (.getfield 38, 3) := by decide +kernel
theorem dX0_addMember_18 : decode cX0_addMember 18 = .ok (.iconst 1, 1) := by decide +kernel
theorem dX0_addMember_19 : decode cX0_addMember 19 = .ok (.iadd, 1) := by decide +kernel
theorem dX0_addMember_20 : decode cX0_addMember 20 = .ok (.putfield 38, 3) := by decide +kernel
theorem dX0_addMember_23 : decode cX0_addMember 23 = .ok (.aload_n 0, 1) := by decide +kernel
theorem dX0_addMember_24 : decode cX0_addMember 24 = .ok (.getfield 38, 3) := by decide +kernel
theorem dX0_addMember_27 : decode cX0_addMember 27 = .ok (.iconst 1, 1) := by decide +kernel
theorem dX0_addMember_28 : decode cX0_addMember 28 = .ok (.isub, 1) := by decide +kernel
theorem dX0_addMember_29 : decode cX0_addMember 29 = .ok (.ireturn, 1) := by decide +kernel
theorem dX0_speak_0 : decode cX0_speak 0 = .ok (.aload_n 0, 1) := by decide +kernel
theorem dX0_speak_1 : decode cX0_speak 1 = .ok (.getfield 11, 3) := by decide +kernel
theorem dX0_speak_4 : decode cX0_speak 4 = .ok (.iload_n 1, 1) := by decide +kernel
theorem dX0_speak_5 : decode cX0_speak 5 = .ok (.aaload, 1) := by decide +kernel
theorem dX0_speak_6 : decode cX0_speak 6 = .ok (.astore_n 2, 1) := by decide +kernel
theorem dX0_speak_7 : decode cX0_speak 7 = .ok (.iconst 4, 1) := by decide +kernel
theorem dX0_speak_8 : decode cX0_speak 8 = .ok (.iload_n 1, 1) := by decide +kernel
theorem dX0_speak_9 : decode cX0_speak 9 = .ok (.imul, 1) := by decide +kernel
theorem dX0_speak_10 : decode cX0_speak 10 = .ok (.aload_n 2, 1) := by decide +kernel
theorem dX0_speak_11 : decode cX0_speak 11 = .ok (.getfield 152, 3) := by decide +kernel
theorem dX0_speak_14 : decode cX0_speak 14 = .ok (.iadd, 1) := by decide +kernel
theorem dX0_speak_15 : decode cX0_speak 15 = .ok (.istore_n 3, 1) := by decide +kernel
theorem dX0_speak_16 : decode cX0_speak 16 = .ok (.aload_n 2, 1) := by decide +kernel
theorem dX0_speak_17 : decode cX0_speak 17 = .ok (.dup, 1) := by decide +kernel
theorem dX0_speak_18 : decode cX0_speak 18 = .ok (.getfield 152, 3) := by decide +kernel
theorem dX0_speak_21 : decode cX0_speak 21 = .ok (.iconst 1, 1) := by decide +kernel
theorem dX0_speak_22 : decode cX0_speak 22 = .ok (.iadd, 1) := by decide +kernel
theorem dX0_speak_23 : decode cX0_speak 23 = .ok (.putfield 152, 3) := by decide +kernel
theorem dX0_speak_26 : decode cX0_speak 26 = .ok (.aload_n 2, 1) := by decide +kernel
theorem dX0_speak_27 : decode cX0_speak 27 = .ok (.dup, 1) := by decide +kernel
theorem dX0_speak_28 : decode cX0_speak 28 = .ok (.getfield 80, 3) := by decide +kernel
theorem dX0_speak_31 : decode cX0_speak 31 = .ok (.iconst 1, 1) := by decide +kernel
theorem dX0_speak_32 : decode cX0_speak 32 = .ok (.iload_n 3, 1) := by decide +kernel
theorem dX0_speak_33 : decode cX0_speak 33 = .ok (.ishl, 1) := by decide +kernel
theorem dX0_speak_34 : decode cX0_speak 34 = .ok (.ior, 1) := by decide +kernel
theorem dX0_speak_35 : decode cX0_speak 35 = .ok (.putfield 80, 3) := by decide +kernel
theorem dX0_speak_38 : decode cX0_speak 38 = .ok (.aload_n 0, 1) := by decide +kernel
theorem dX0_speak_39 : decode cX0_speak 39 = .ok (.dup, 1) := by decide +kernel
theorem dX0_speak_40 : decode cX0_speak 40 = .ok (.getfield 48, 3) := by decide +kernel
theorem dX0_speak_43 : decode cX0_speak 43 = .ok (.iconst 1, 1) := by decide +kernel
theorem dX0_speak_44 : decode cX0_speak 44 = .ok (.iadd, 1) := by decide +kernel
theorem dX0_speak_45 : decode cX0_speak 45 = .ok (.putfield 48, 3) := by decide +kernel
theorem dX0_speak_48 : decode cX0_speak 48 = .ok (.iconst 0, 1) := by decide +kernel
theorem dX0_speak_49 : decode cX0_speak 49 = .ok (.istore 4, 2) := by decide +kernel
theorem dX0_speak_51 : decode cX0_speak 51 = .ok (.iload 4, 2) := by decide +kernel
theorem dX0_speak_53 : decode cX0_speak 53 = .ok (.aload_n 0, 1) := by decide +kernel
theorem dX0_speak_54 : decode cX0_speak 54 = .ok (.getfield 38, 3) := by decide +kernel
theorem dX0_speak_57 : decode cX0_speak 57 = .ok (.if_icmp .ge 52, 3) := by decide +kernel
theorem dX0_speak_60 : decode cX0_speak 60 = .ok (.iload 4, 2) := by decide +kernel
theorem dX0_speak_62 : decode cX0_speak 62 = .ok (.iload_n 1, 1) := by decide +kernel
theorem dX0_speak_63 : decode cX0_speak 63 = .ok (.if_icmp .eq 40, 3) := by decide +kernel
theorem dX0_speak_66 : decode cX0_speak 66 = .ok (.aload_n 2, 1) := by decide +kernel
theorem dX0_speak_67 : decode cX0_speak 67 = .ok (.getfield 77, 3) := by decide +kernel
theorem dX0_speak_70 : decode cX0_speak 70 = .ok (.iload 4, 2) := by decide +kernel
theorem dX0_speak_72 : decode cX0_speak 72 = .ok (.invokestatic 64, 3) := by decide +kernel
theorem dX0_speak_75 : decode cX0_speak 75 = .ok (.ifCond .eq 28, 3) := by decide +kernel
theorem dX0_speak_78 : decode cX0_speak 78 = .ok (.aload_n 0, 1) := by decide +kernel
theorem dX0_speak_79 : decode cX0_speak 79 = .ok (.getfield 20, 3) := by decide +kernel
theorem dX0_speak_82 : decode cX0_speak 82 = .ok (.iconst 0, 1) := by decide +kernel
theorem dX0_speak_83 : decode cX0_speak 83 = .ok (.aload_n 2, 1) := by decide +kernel
theorem dX0_speak_84 : decode cX0_speak 84 = .ok (.aload_n 0, 1) := by decide +kernel
theorem dX0_speak_85 : decode cX0_speak 85 = .ok (.getfield 11, 3) := by decide +kernel
theorem dX0_speak_88 : decode cX0_speak 88 = .ok (.iload 4, 2) := by decide +kernel
theorem dX0_speak_90 : decode cX0_speak 90 = .ok (.aaload, 1) := by decide +kernel
theorem dX0_speak_91 : decode cX0_speak 91 = .ok (.aload_n 0, 1) := by decide +kernel
theorem dX0_speak_92 : decode cX0_speak 92 = .ok (.getfield 42, 3) := by decide +kernel
theorem dX0_speak_95 : decode cX0_speak 95 = .ok (.aload_n 2, 1) := by decide +kernel
theorem dX0_speak_96 : decode cX0_speak 96 = .ok (.getfield 71, 3) := by decide +kernel
theorem dX0_speak_99 : decode cX0_speak 99 = .ok (.iload_n 3, 1) := by decide +kernel
theorem dX0_speak_100 : decode cX0_speak 100 = .ok (.invokevirtual 153, 3) := by decide +kernel
theorem dX0_speak_103 : decode cX0_speak 103 = .ok (.iinc 4 1, 3) := by decide +kernel
theorem dX0_speak_106 : decode cX0_speak 106 = .ok (.goto (-55), 3) := by decide +kernel
theorem dX0_speak_109 : decode cX0_speak 109 = .ok (.iload_n 3, 1) := by decide +kernel
theorem dX0_speak_110 : decode cX0_speak 110 = .ok (.ireturn, 1) := by decide +kernel
theorem dX0_callRoll_0 : decode cX0_callRoll 0 = .ok (.aload_n 0, 1) := by decide +kernel
theorem dX0_callRoll_1 : decode cX0_callRoll 1 = .ok (.getfield 11, 3) := by decide +kernel
theorem dX0_callRoll_4 : decode cX0_callRoll 4 = .ok (.iload_n 1, 1) := by decide +kernel
theorem dX0_callRoll_5 : decode cX0_callRoll 5 = .ok (.aaload, 1) := by decide +kernel
theorem dX0_callRoll_6 : decode cX0_callRoll 6 = .ok (.astore_n 3, 1) := by decide +kernel
theorem dX0_callRoll_7 : decode cX0_callRoll 7 = .ok (.aload_n 3, 1) := by decide +kernel
theorem dX0_callRoll_8 : decode cX0_callRoll 8 = .ok (.iload_n 2, 1) := by decide +kernel
theorem dX0_callRoll_9 : decode cX0_callRoll 9 = .ok (.aload_n 0, 1) := by decide +kernel
theorem dX0_callRoll_10 : decode cX0_callRoll 10 = .ok (.getfield 42, 3) := by decide +kernel
theorem dX0_callRoll_13 : decode cX0_callRoll 13 = .ok (.invokevirtual 157, 3) := by decide +kernel
theorem dX0_callRoll_16 : decode cX0_callRoll 16 = .ok (.aload_n 3, 1) := by decide +kernel
theorem dX0_callRoll_17 : decode cX0_callRoll 17 = .ok (.getfield 161, 3) := by decide +kernel
theorem dX0_callRoll_20 : decode cX0_callRoll 20 = .ok (.istore 4, 2) := by decide +kernel
theorem dX0_callRoll_22 : decode cX0_callRoll 22 = .ok (.iconst 0, 1) := by decide +kernel
theorem dX0_callRoll_23 : decode cX0_callRoll 23 = .ok (.istore 5, 2) := by decide +kernel
theorem dX0_callRoll_25 : decode cX0_callRoll 25 = .ok (.iload 5, 2) := by decide +kernel
theorem dX0_callRoll_27 : decode cX0_callRoll 27 = .ok (.aload_n 0, 1) := by decide +kernel
theorem dX0_callRoll_28 : decode cX0_callRoll 28 = .ok (.getfield 38, 3) := by decide +kernel
theorem dX0_callRoll_31 : decode cX0_callRoll 31 = .ok (.if_icmp .ge 47, 3) := by decide +kernel
theorem dX0_callRoll_34 : decode cX0_callRoll 34 = .ok (.iload 5, 2) := by decide +kernel
theorem dX0_callRoll_36 : decode cX0_callRoll 36 = .ok (.iload_n 1, 1) := by decide +kernel
theorem dX0_callRoll_37 : decode cX0_callRoll 37 = .ok (.if_icmp .eq 35, 3) := by decide +kernel
theorem dX0_callRoll_40 : decode cX0_callRoll 40 = .ok (.iload_n 2, 1) := by decide +kernel
theorem dX0_callRoll_41 : decode cX0_callRoll 41 = .ok (.iload 5, 2) := by decide +kernel
theorem dX0_callRoll_43 : decode cX0_callRoll 43 = .ok (.invokestatic 64, 3) := by decide +kernel
theorem dX0_callRoll_46 : decode cX0_callRoll 46 = .ok (.ifCond .eq 26, 3) := by decide +kernel
theorem dX0_callRoll_49 : decode cX0_callRoll 49 = .ok (.aload_n 0, 1) := by decide +kernel
theorem dX0_callRoll_50 : decode cX0_callRoll 50 = .ok (.getfield 20, 3) := by decide +kernel
theorem dX0_callRoll_53 : decode cX0_callRoll 53 = .ok (.iconst 1, 1) := by decide +kernel
theorem dX0_callRoll_54 : decode cX0_callRoll 54 = .ok (.aload_n 3, 1) := by decide +kernel
theorem dX0_callRoll_55 : decode cX0_callRoll 55 = .ok (.aload_n 0, 1) := by decide +kernel
theorem dX0_callRoll_56 : decode cX0_callRoll 56 = .ok (.getfield 11, 3) := by decide +kernel
theorem dX0_callRoll_59 : decode cX0_callRoll 59 = .ok (.iload 5, 2) := by decide +kernel
theorem dX0_callRoll_61 : decode cX0_callRoll 61 = .ok (.aaload, 1) := by decide +kernel
theorem dX0_callRoll_62 : decode cX0_callRoll 62 = .ok (.aload_n 0, 1) := by decide +kernel
theorem dX0_callRoll_63 : decode cX0_callRoll 63 = .ok (.getfield 42, 3) := by decide +kernel
theorem dX0_callRoll_66 : decode cX0_callRoll 66 = .ok (.iload 4, 2) := by decide +kernel
theorem dX0_callRoll_68 : decode cX0_callRoll 68 = .ok (.iload_n 2, 1) := by decide +kernel
theorem dX0_callRoll_69 : decode cX0_callRoll 69 = .ok (.invokevirtual 153, 3) := by decide +kernel
theorem dX0_callRoll_72 : decode cX0_callRoll 72 = .ok (.iinc 5 1, 3) := by decide +kernel
theorem dX0_callRoll_75 : decode cX0_callRoll 75 = .ok (.goto (-50), 3) := by decide +kernel
theorem dX0_callRoll_78 : decode cX0_callRoll 78 = .ok (.aload_n 3, 1) := by decide +kernel
theorem dX0_callRoll_79 : decode cX0_callRoll 79 = .ok (.invokevirtual 164, 3) := by decide +kernel
theorem dX0_callRoll_82 : decode cX0_callRoll 82 = .ok (.ifCond .eq 8, 3) := by decide +kernel
theorem dX0_callRoll_85 : decode cX0_callRoll 85 = .ok (.aload_n 0, 1) := by decide +kernel
theorem dX0_callRoll_86 : decode cX0_callRoll 86 = .ok (.aload_n 3, 1) := by decide +kernel
theorem dX0_callRoll_87 : decode cX0_callRoll 87 = .ok (.invokevirtual 167, 3) := by decide +kernel
theorem dX0_callRoll_90 : decode cX0_callRoll 90 = .ok (.iload 4, 2) := by decide +kernel
theorem dX0_callRoll_92 : decode cX0_callRoll 92 = .ok (.ireturn, 1) := by decide +kernel
theorem dX0_letTicksGo_0 : decode cX0_letTicksGo 0 = .ok (.iconst 0, 1) := by decide +kernel
theorem dX0_letTicksGo_1 : decode cX0_letTicksGo 1 = .ok (.istore_n 2, 1) := by decide +kernel
theorem dX0_letTicksGo_2 : decode cX0_letTicksGo 2 = .ok (.iload_n 2, 1) := by decide +kernel
theorem dX0_letTicksGo_3 : decode cX0_letTicksGo 3 = .ok (.iload_n 1, 1) := by decide +kernel
theorem dX0_letTicksGo_4 : decode cX0_letTicksGo 4 = .ok (.if_icmp .ge 106, 3) := by decide +kernel
theorem dX0_letTicksGo_7 : decode cX0_letTicksGo 7 = .ok (.aload_n 0, 1) := by decide +kernel
theorem dX0_letTicksGo_8 : decode cX0_letTicksGo 8 = .ok (.dup, 1) := by decide +kernel
theorem dX0_letTicksGo_9 : decode cX0_letTicksGo 9 = .ok (.getfield 42, 3) := by decide +kernel
theorem dX0_letTicksGo_12 : decode cX0_letTicksGo 12 = .ok (.iconst 1, 1) := by decide +kernel
theorem dX0_letTicksGo_13 : decode cX0_letTicksGo 13 = .ok (.iadd, 1) := by decide +kernel
theorem dX0_letTicksGo_14 : decode cX0_letTicksGo 14 = .ok (.putfield 42, 3) := by decide +kernel
theorem dX0_letTicksGo_17 : decode cX0_letTicksGo 17 = .ok (.aload_n 0, 1) := by decide +kernel
theorem dX0_letTicksGo_18 : decode cX0_letTicksGo 18 = .ok (.getfield 20, 3) := by decide +kernel
theorem dX0_letTicksGo_21 : decode cX0_letTicksGo 21 = .ok (.getfield 170, 3) := by decide +kernel
theorem dX0_letTicksGo_24 : decode cX0_letTicksGo 24 = .ok (.istore_n 3, 1) := by decide +kernel
theorem dX0_letTicksGo_25 : decode cX0_letTicksGo 25 = .ok (.iload_n 3, 1) := by decide +kernel
theorem dX0_letTicksGo_26 : decode cX0_letTicksGo 26 = .ok (.ifCond .le 27, 3) := by decide +kernel
theorem dX0_letTicksGo_29 : decode cX0_letTicksGo 29 = .ok (.aload_n 0, 1) := by decide +kernel
theorem dX0_letTicksGo_30 : decode cX0_letTicksGo 30 = .ok (.getfield 20, 3) := by decide +kernel
theorem dX0_letTicksGo_33 : decode cX0_letTicksGo 33 = .ok (.aload_n 0, 1) := by decide +kernel
theorem dX0_letTicksGo_34 : decode cX0_letTicksGo 34 = .ok (.getfield 42, 3) := by decide +kernel
theorem dX0_letTicksGo_37 : decode cX0_letTicksGo 37 = .ok (.invokevirtual 171, 3) := by decide +kernel
theorem dX0_letTicksGo_40 : decode cX0_letTicksGo 40 = .ok (.ifCond .eq 13, 3) := by decide +kernel
theorem dX0_letTicksGo_43 : decode cX0_letTicksGo 43 = .ok (.aload_n 0, 1) := by decide +kernel
theorem dX0_letTicksGo_44 : decode cX0_letTicksGo 44 = .ok (.invokevirtual 174, 3) := by decide +kernel
theorem dX0_letTicksGo_47 : decode cX0_letTicksGo 47 = .ok (.iinc 3 (-1), 3) := by decide +kernel
theorem dX0_letTicksGo_50 : decode cX0_letTicksGo 50 = .ok (.goto (-25), 3) := by decide +kernel
theorem dX0_letTicksGo_53 : decode cX0_letTicksGo 53 = .ok (.iconst 0, 1) := by decide +kernel
theorem dX0_letTicksGo_54 : decode cX0_letTicksGo 54 = .ok (.istore_n 3, 1) := by decide +kernel
theorem dX0_letTicksGo_55 : decode cX0_letTicksGo 55 = .ok (.iload_n 3, 1) := by decide +kernel
theorem dX0_letTicksGo_56 : decode cX0_letTicksGo 56 = .ok (.aload_n 0, 1) := by decide +kernel
theorem dX0_letTicksGo_57 : decode cX0_letTicksGo 57 = .ok (.getfield 38, 3) := by decide +kernel
theorem dX0_letTicksGo_60 : decode cX0_letTicksGo 60 = .ok (.if_icmp .ge 44, 3) := by decide +kernel
theorem dX0_letTicksGo_63 : decode cX0_letTicksGo 63 = .ok (.aload_n 0, 1) := by decide +kernel
theorem dX0_letTicksGo_64 : decode cX0_letTicksGo 64 = .ok (.getfield 11, 3) := by decide +kernel
theorem dX0_letTicksGo_67 : decode cX0_letTicksGo 67 = .ok (.iload_n 3, 1) := by decide +kernel
theorem dX0_letTicksGo_68 : decode cX0_letTicksGo 68 = .ok (.aaload, 1) := by decide +kernel
theorem dX0_letTicksGo_69 : decode cX0_letTicksGo 69 = .ok (.aload_n 0, 1) := by decide +kernel
theorem dX0_letTicksGo_70 : decode cX0_letTicksGo 70 = .ok (.getfield 42, 3) := by decide +kernel
theorem dX0_letTicksGo_73 : decode cX0_letTicksGo 73 = .ok (.aload_n 0, 1) := by decide +kernel
theorem dX0_letTicksGo_74 : decode cX0_letTicksGo 74 = .ok (.getfield 45, 3) := by decide +kernel
theorem dX0_letTicksGo_77 : decode cX0_letTicksGo 77 = .ok (.invokevirtual 177, 3) := by decide +kernel
theorem dX0_letTicksGo_80 : decode cX0_letTicksGo 80 = .ok (.ifCond .eq 18, 3) := by decide +kernel
theorem dX0_letTicksGo_83 : decode cX0_letTicksGo 83 = .ok (.aload_n 0, 1) := by decide +kernel
theorem dX0_letTicksGo_84 : decode cX0_letTicksGo 84 = .ok (.iload_n 3, 1) := by decide +kernel
theorem dX0_letTicksGo_85 : decode cX0_letTicksGo 85 = .ok (.aload_n 0, 1) := by decide +kernel
theorem dX0_letTicksGo_86 : decode cX0_letTicksGo 86 = .ok (.getfield 11, 3) := by decide +kernel
theorem dX0_letTicksGo_89 : decode cX0_letTicksGo 89 = .ok (.iload_n 3, 1) := by decide +kernel
theorem dX0_letTicksGo_90 : decode cX0_letTicksGo 90 = .ok (.aaload, 1) := by decide +kernel
theorem dX0_letTicksGo_91 : decode cX0_letTicksGo 91 = .ok (.getfield 180, 3) := by decide +kernel
theorem dX0_letTicksGo_94 : decode cX0_letTicksGo 94 = .ok (.invokevirtual 139, 3) := by decide +kernel
theorem dX0_letTicksGo_97 : decode cX0_letTicksGo 97 = .ok (.pop, 1) := by decide +kernel
theorem dX0_letTicksGo_98 : decode cX0_letTicksGo 98 = .ok (.iinc 3 1, 3) := by decide +kernel
theorem dX0_letTicksGo_101 : decode cX0_letTicksGo 101 = .ok (.goto (-46), 3) := by decide +kernel
theorem dX0_letTicksGo_104 : decode cX0_letTicksGo 104 = .ok (.iinc 2 1, 3) := by decide +kernel
theorem dX0_letTicksGo_107 : decode cX0_letTicksGo 107 = .ok (.goto (-105), 3) := by decide +kernel
theorem dX0_letTicksGo_110 : decode cX0_letTicksGo 110 = .ok (.return_, 1) := by decide +kernel
theorem dX0_noteComes_0 : decode cX0_noteComes 0 = .ok (.aload_n 0, 1) := by decide +kernel
theorem dX0_noteComes_1 : decode cX0_noteComes 1 = .ok (.getfield 20, 3) := by decide +kernel
theorem dX0_noteComes_4 : decode cX0_noteComes 4 = .ok (.aload_n 0, 1) := by decide +kernel
theorem dX0_noteComes_5 : decode cX0_noteComes 5 = .ok (.getfield 24, 3) := by decide +kernel
theorem dX0_noteComes_8 : decode cX0_noteComes 8 = .ok (.invokevirtual 183, 3) := by decide +kernel
theorem dX0_noteComes_11 : decode cX0_noteComes 11 = .ok (.aload_n 0, 1) := by decide +kernel
theorem dX0_noteComes_12 : decode cX0_noteComes 12 = .ok (.getfield 24, 3) := by decide +kernel
theorem dX0_noteComes_15 : decode cX0_noteComes 15 = .ok (.iconst 1, 1) := by decide +kernel
theorem dX0_noteComes_16 : decode cX0_noteComes 16 = .ok (.iaload, 1) := by decide +kernel
theorem dX0_noteComes_17 : decode cX0_noteComes 17 = .ok (.istore_n 1, 1) := by decide +kernel
theorem dX0_noteComes_18 : decode cX0_noteComes 18 = .ok (.aload_n 0, 1) := by decide +kernel
theorem dX0_noteComes_19 : decode cX0_noteComes 19 = .ok (.getfield 24, 3) := by decide +kernel
theorem dX0_noteComes_22 : decode cX0_noteComes 22 = .ok (.iconst 2, 1) := by decide +kernel
theorem dX0_noteComes_23 : decode cX0_noteComes 23 = .ok (.iaload, 1) := by decide +kernel
theorem dX0_noteComes_24 : decode cX0_noteComes 24 = .ok (.istore_n 2, 1) := by decide +kernel
theorem dX0_noteComes_25 : decode cX0_noteComes 25 = .ok (.aload_n 0, 1) := by decide +kernel
theorem dX0_noteComes_26 : decode cX0_noteComes 26 = .ok (.iload_n 1, 1) := by decide +kernel
theorem dX0_noteComes_27 : decode cX0_noteComes 27 = .ok (.invokevirtual 115, 3) := by decide +kernel
theorem dX0_noteComes_30 : decode cX0_noteComes 30 = .ok (.ifCond .eq 11, 3) := by decide +kernel
theorem dX0_noteComes_33 : decode cX0_noteComes 33 = .ok (.aload_n 0, 1) := by decide +kernel
theorem dX0_noteComes_34 : decode cX0_noteComes 34 = .ok (.iload_n 2, 1) := by decide +kernel
theorem dX0_noteComes_35 : decode cX0_noteComes 35 = .ok (.invokevirtual 115, 3) := by decide +kernel
theorem dX0_noteComes_38 : decode cX0_noteComes 38 = .ok (.ifCond .ne 4, 3) := by decide +kernel
theorem dX0_noteComes_41 : decode cX0_noteComes 41 = .ok (.return_, 1) := by decide +kernel
theorem dX0_noteComes_42 : decode cX0_noteComes 42 = .ok (.aload_n 0, 1) := by decide +kernel
theorem dX0_noteComes_43 : decode cX0_noteComes 43 = .ok (.getfield 11, 3) := by decide +kernel
theorem dX0_noteComes_46 : decode cX0_noteComes 46 = .ok (.iload_n 2, 1) := by decide +kernel
theorem dX0_noteComes_47 : decode cX0_noteComes 47 = .ok (.aaload, 1) := by decide +kernel
theorem dX0_noteComes_48 : decode cX0_noteComes 48 = .ok (.astore_n 3, 1) := by decide +kernel
theorem dX0_noteComes_49 : decode cX0_noteComes 49 = .ok (.aload_n 3, 1) := by decide +kernel
theorem dX0_noteComes_50 : decode cX0_noteComes 50 = .ok (.getfield 57, 3) := by decide +kernel
theorem dX0_noteComes_53 : decode cX0_noteComes 53 = .ok (.iconst 2, 1) := by decide +kernel
theorem dX0_noteComes_54 : decode cX0_noteComes 54 = .ok (.if_icmp .ne 17, 3) := by decide +kernel
theorem dX0_noteComes_57 : decode cX0_noteComes 57 = .ok (.aload_n 0, 1) := by decide +kernel
theorem dX0_noteComes_58 : decode cX0_noteComes 58 = .ok (.getfield 20, 3) := by decide +kernel
theorem dX0_noteComes_61 : decode cX0_noteComes 61 = .ok (.dup, 1) := by decide +kernel
theorem dX0_noteComes_62 : decode cX0_noteComes 62 = .ok (.getfield 187, 3) := by decide +kernel
theorem dX0_noteComes_65 : decode cX0_noteComes 65 = .ok (.iconst 1, 1) := by decide +kernel
theorem dX0_noteComes_66 : decode cX0_noteComes 66 = .ok (.iadd, 1) := by decide +kernel
theorem dX0_noteComes_67 : decode cX0_noteComes 67 = .ok (.putfield 187, 3) := by decide +kernel
theorem dX0_noteComes_70 : decode cX0_noteComes 70 = .ok (.return_, 1) := by decide +kernel
theorem dX0_noteComes_71 : decode cX0_noteComes 71 = .ok (.aload_n 0, 1) := by decide +kernel
theorem dX0_noteComes_72 : decode cX0_noteComes 72 = .ok (.getfield 24, 3) := by decide +kernel
theorem dX0_noteComes_75 : decode cX0_noteComes 75 = .ok (.iconst 0, 1) := by decide +kernel
theorem dX0_noteComes_76 : decode cX0_noteComes 76 = .ok (.iaload, 1) := by decide +kernel
theorem dX0_noteComes_77 : decode cX0_noteComes 77 = .ok (.tableswitch 106 0 2 #[27, 67, 87], 27) := by decide +kernel
theorem dX0_noteComes_104 : decode cX0_noteComes 104 = .ok (.aload_n 3, 1) := by decide +kernel
theorem dX0_noteComes_105 : decode cX0_noteComes 105 = .ok (.aload_n 0, 1) := by decide +kernel
theorem dX0_noteComes_106 : decode cX0_noteComes 106 = .ok (.getfield 24, 3) := by decide +kernel
theorem dX0_noteComes_109 : decode cX0_noteComes 109 = .ok (.bipush 6, 2) := by decide +kernel
theorem dX0_noteComes_111 : decode cX0_noteComes 111 = .ok (.iaload, 1) := by decide +kernel
theorem dX0_noteComes_112 : decode cX0_noteComes 112 = .ok (.aload_n 0, 1) := by decide +kernel
theorem dX0_noteComes_113 : decode cX0_noteComes 113 = .ok (.getfield 24, 3) := by decide +kernel
theorem dX0_noteComes_116 : decode cX0_noteComes 116 = .ok (.bipush 7, 2) := by decide +kernel
theorem dX0_noteComes_118 : decode cX0_noteComes 118 = .ok (.iaload, 1) := by decide +kernel
theorem dX0_noteComes_119 : decode cX0_noteComes 119 = .ok (.aload_n 0, 1) := by decide +kernel
theorem dX0_noteComes_120 : decode cX0_noteComes 120 = .ok (.getfield 24, 3) := by decide +kernel
theorem dX0_noteComes_123 : decode cX0_noteComes 123 = .ok (.iconst 5, 1) := by decide +kernel
theorem dX0_noteComes_124 : decode cX0_noteComes 124 = .ok (.iaload, 1) := by decide +kernel
theorem dX0_noteComes_125 : decode cX0_noteComes 125 = .ok (.invokevirtual 190, 3) := by decide +kernel
theorem dX0_noteComes_128 : decode cX0_noteComes 128 = .ok (.ifCond .ne 79, 3) := by decide +kernel
theorem dX0_noteComes_131 : decode cX0_noteComes 131 = .ok (.aload_n 0, 1) := by decide +kernel
theorem dX0_noteComes_132 : decode cX0_noteComes 132 = .ok (.dup, 1) := by decide +kernel
theorem dX0_noteComes_133 : decode cX0_noteComes 133 = .ok (.getfield 51, 3) := by decide +kernel
theorem dX0_noteComes_136 : decode cX0_noteComes 136 = .ok (.iconst 1, 1) := by decide +kernel
theorem dX0_noteComes_137 : decode cX0_noteComes 137 = .ok (.iadd, 1) := by decide +kernel
theorem dX0_noteComes_138 : decode cX0_noteComes 138 = .ok (.putfield 51, 3) := by decide +kernel
theorem dX0_noteComes_141 : decode cX0_noteComes 141 = .ok (.goto 66, 3) := by decide +kernel
theorem dX0_noteComes_144 : decode cX0_noteComes 144 = .ok (.aload_n 0, 1) := by decide +kernel
theorem dX0_noteComes_145 : decode cX0_noteComes 145 = .ok (.aload_n 3, 1) := by decide +kernel
theorem dX0_noteComes_146 : decode cX0_noteComes 146 = .ok (.aload_n 0, 1) := by decide +kernel
theorem dX0_noteComes_147 : decode cX0_noteComes 147 = .ok (.getfield 11, 3) := by decide +kernel
theorem dX0_noteComes_150 : decode cX0_noteComes 150 = .ok (.iload_n 1, 1) := by decide +kernel
theorem dX0_noteComes_151 : decode cX0_noteComes 151 = .ok (.aaload, 1) := by decide +kernel
theorem dX0_noteComes_152 : decode cX0_noteComes 152 = .ok (.aload_n 0, 1) := by decide +kernel
theorem dX0_noteComes_153 : decode cX0_noteComes 153 = .ok (.getfield 24, 3) := by decide +kernel
theorem dX0_noteComes_156 : decode cX0_noteComes 156 = .ok (.iconst 4, 1) := by decide +kernel
theorem dX0_noteComes_157 : decode cX0_noteComes 157 = .ok (.iaload, 1) := by decide +kernel
theorem dX0_noteComes_158 : decode cX0_noteComes 158 = .ok (.invokevirtual 193, 3) := by decide +kernel
theorem dX0_noteComes_161 : decode cX0_noteComes 161 = .ok (.goto 46, 3) := by decide +kernel
theorem dX0_noteComes_164 : decode cX0_noteComes 164 = .ok (.aload_n 3, 1) := by decide +kernel
theorem dX0_noteComes_165 : decode cX0_noteComes 165 = .ok (.aload_n 0, 1) := by decide +kernel
theorem dX0_noteComes_166 : decode cX0_noteComes 166 = .ok (.getfield 24, 3) := by decide +kernel
theorem dX0_noteComes_169 : decode cX0_noteComes 169 = .ok (.invokevirtual 197, 3) := by decide +kernel
theorem dX0_noteComes_172 : decode cX0_noteComes 172 = .ok (.ifCond .eq 35, 3) := by decide +kernel
theorem dX0_noteComes_175 : decode cX0_noteComes 175 = .ok (.aload_n 0, 1) := by decide +kernel
theorem dX0_noteComes_176 : decode cX0_noteComes 176 = .ok (.aload_n 3, 1) := by decide +kernel
theorem dX0_noteComes_177 : decode cX0_noteComes 177 = .ok (.invokevirtual 167, 3) := by decide +kernel
theorem dX0_noteComes_180 : decode cX0_noteComes 180 = .ok (.goto 27, 3) := by decide +kernel
theorem dX0_noteComes_183 : decode cX0_noteComes 183 = .ok (.aload_n 3, 1) := by decide +kernel
theorem dX0_noteComes_184 : decode cX0_noteComes 184 = .ok (.aload_n 0, 1) := by decide +kernel
theorem dX0_noteComes_185 : decode cX0_noteComes 185 = .ok (.getfield 24, 3) := by decide +kernel
theorem dX0_noteComes_188 : decode cX0_noteComes 188 = .ok (.iconst 4, 1) := by decide +kernel
theorem dX0_noteComes_189 : decode cX0_noteComes 189 = .ok (.iaload, 1) := by decide +kernel
theorem dX0_noteComes_190 : decode cX0_noteComes 190 = .ok (.iload_n 1, 1) := by decide +kernel
theorem dX0_noteComes_191 : decode cX0_noteComes 191 = .ok (.aload_n 0, 1) := by decide +kernel
theorem dX0_noteComes_192 : decode cX0_noteComes 192 = .ok (.getfield 24, 3) := by decide +kernel
theorem dX0_noteComes_195 : decode cX0_noteComes 195 = .ok (.bipush 8, 2) := by decide +kernel
theorem dX0_noteComes_197 : decode cX0_noteComes 197 = .ok (.iaload, 1) := by decide +kernel
theorem dX0_noteComes_198 : decode cX0_noteComes 198 = .ok (.aload_n 0, 1) := by decide +kernel
theorem dX0_noteComes_199 : decode cX0_noteComes 199 = .ok (.getfield 24, 3) := by decide +kernel
theorem dX0_noteComes_202 : decode cX0_noteComes 202 = .ok (.iconst 5, 1) := by decide +kernel
theorem dX0_noteComes_203 : decode cX0_noteComes 203 = .ok (.iaload, 1) := by decide +kernel
theorem dX0_noteComes_204 : decode cX0_noteComes 204 = .ok (.invokevirtual 201, 3) := by decide +kernel
theorem dX0_noteComes_207 : decode cX0_noteComes 207 = .ok (.return_, 1) := by decide +kernel
theorem dX0_answerCall_0 : decode cX0_answerCall 0 = .ok (.iload_n 3, 1) := by decide +kernel
theorem dX0_answerCall_1 : decode cX0_answerCall 1 = .ok (.aload_n 1, 1) := by decide +kernel
theorem dX0_answerCall_2 : decode cX0_answerCall 2 = .ok (.getfield 205, 3) := by decide +kernel
theorem dX0_answerCall_5 : decode cX0_answerCall 5 = .ok (.if_icmp .le 27, 3) := by decide +kernel
theorem dX0_answerCall_8 : decode cX0_answerCall 8 = .ok (.aload_n 1, 1) := by decide +kernel
theorem dX0_answerCall_9 : decode cX0_answerCall 9 = .ok (.iload_n 3, 1) := by decide +kernel
theorem dX0_answerCall_10 : decode cX0_answerCall 10 = .ok (.invokevirtual 208, 3) := by decide +kernel
theorem dX0_answerCall_13 : decode cX0_answerCall 13 = .ok (.aload_n 0, 1) := by decide +kernel
theorem dX0_answerCall_14 : decode cX0_answerCall 14 = .ok (.getfield 20, 3) := by decide +kernel
theorem dX0_answerCall_17 : decode cX0_answerCall 17 = .ok (.iconst 2, 1) := by decide +kernel
theorem dX0_answerCall_18 : decode cX0_answerCall 18 = .ok (.aload_n 1, 1) := by decide +kernel
theorem dX0_answerCall_19 : decode cX0_answerCall 19 = .ok (.aload_n 2, 1) := by decide +kernel
theorem dX0_answerCall_20 : decode cX0_answerCall 20 = .ok (.aload_n 0, 1) := by decide +kernel
theorem dX0_answerCall_21 : decode cX0_answerCall 21 = .ok (.getfield 42, 3) := by decide +kernel
theorem dX0_answerCall_24 : decode cX0_answerCall 24 = .ok (.iload_n 3, 1) := by decide +kernel
theorem dX0_answerCall_25 : decode cX0_answerCall 25 = .ok (.aload_n 1, 1) := by decide +kernel
theorem dX0_answerCall_26 : decode cX0_answerCall 26 = .ok (.getfield 80, 3) := by decide +kernel
theorem dX0_answerCall_29 : decode cX0_answerCall 29 = .ok (.invokevirtual 153, 3) := by decide +kernel
theorem dX0_answerCall_32 : decode cX0_answerCall 32 = .ok (.return_, 1) := by decide +kernel
theorem dX0_rollStands_0 : decode cX0_rollStands 0 = .ok (.aload_n 1, 1) := by decide +kernel
theorem dX0_rollStands_1 : decode cX0_rollStands 1 = .ok (.getfield 161, 3) := by decide +kernel
theorem dX0_rollStands_4 : decode cX0_rollStands 4 = .ok (.istore_n 2, 1) := by decide +kernel
theorem dX0_rollStands_5 : decode cX0_rollStands 5 = .ok (.aload_n 1, 1) := by decide +kernel
theorem dX0_rollStands_6 : decode cX0_rollStands 6 = .ok (.getfield 211, 3) := by decide +kernel
theorem dX0_rollStands_9 : decode cX0_rollStands 9 = .ok (.istore_n 3, 1) := by decide +kernel
theorem dX0_rollStands_10 : decode cX0_rollStands 10 = .ok (.aload_n 0, 1) := by decide +kernel
theorem dX0_rollStands_11 : decode cX0_rollStands 11 = .ok (.dup, 1) := by decide +kernel
theorem dX0_rollStands_12 : decode cX0_rollStands 12 = .ok (.getfield 54, 3) := by decide +kernel
theorem dX0_rollStands_15 : decode cX0_rollStands 15 = .ok (.iconst 1, 1) := by decide +kernel
theorem dX0_rollStands_16 : decode cX0_rollStands 16 = .ok (.iadd, 1) := by decide +kernel
theorem dX0_rollStands_17 : decode cX0_rollStands 17 = .ok (.putfield 54, 3) := by decide +kernel
theorem dX0_rollStands_20 : decode cX0_rollStands 20 = .ok (.aload_n 1, 1) := by decide +kernel
theorem dX0_rollStands_21 : decode cX0_rollStands 21 = .ok (.iload_n 2, 1) := by decide +kernel
theorem dX0_rollStands_22 : decode cX0_rollStands 22 = .ok (.aload_n 1, 1) := by decide +kernel
theorem dX0_rollStands_23 : decode cX0_rollStands 23 = .ok (.getfield 214, 3) := by decide +kernel
theorem dX0_rollStands_26 : decode cX0_rollStands 26 = .ok (.iload_n 3, 1) := by decide +kernel
theorem dX0_rollStands_27 : decode cX0_rollStands 27 = .ok (.aload_n 1, 1) := by decide +kernel
theorem dX0_rollStands_28 : decode cX0_rollStands 28 = .ok (.getfield 217, 3) := by decide +kernel
theorem dX0_rollStands_31 : decode cX0_rollStands 31 = .ok (.aload_n 1, 1) := by decide +kernel
theorem dX0_rollStands_32 : decode cX0_rollStands 32 = .ok (.getfield 214, 3) := by decide +kernel
theorem dX0_rollStands_35 : decode cX0_rollStands 35 = .ok (.iload_n 3, 1) := by decide +kernel
theorem dX0_rollStands_36 : decode cX0_rollStands 36 = .ok (.invokevirtual 220, 3) := by decide +kernel
theorem dX0_rollStands_39 : decode cX0_rollStands 39 = .ok (.invokevirtual 201, 3) := by decide +kernel
theorem dX0_rollStands_42 : decode cX0_rollStands 42 = .ok (.iconst 0, 1) := by decide +kernel
theorem dX0_rollStands_43 : decode cX0_rollStands 43 = .ok (.istore 4, 2) := by decide +kernel
theorem dX0_rollStands_45 : decode cX0_rollStands 45 = .ok (.iload 4, 2) := by decide +kernel
theorem dX0_rollStands_47 : decode cX0_rollStands 47 = .ok (.aload_n 0, 1) := by decide +kernel
theorem dX0_rollStands_48 : decode cX0_rollStands 48 = .ok (.getfield 38, 3) := by decide +kernel
theorem dX0_rollStands_51 : decode cX0_rollStands 51 = .ok (.if_icmp .ge 62, 3) := by decide +kernel
theorem dX0_rollStands_54 : decode cX0_rollStands 54 = .ok (.iload 4, 2) := by decide +kernel
theorem dX0_rollStands_56 : decode cX0_rollStands 56 = .ok (.aload_n 1, 1) := by decide +kernel
theorem dX0_rollStands_57 : decode cX0_rollStands 57 = .ok (.getfield 214, 3) := by decide +kernel
theorem dX0_rollStands_60 : decode cX0_rollStands 60 = .ok (.if_icmp .eq 47, 3) := by decide +kernel
theorem dX0_rollStands_63 : decode cX0_rollStands 63 = .ok (.iload_n 3, 1) := by decide +kernel
theorem dX0_rollStands_64 : decode cX0_rollStands 64 = .ok (.iload 4, 2) := by decide +kernel
theorem dX0_rollStands_66 : decode cX0_rollStands 66 = .ok (.invokestatic 64, 3) := by decide +kernel
theorem dX0_rollStands_69 : decode cX0_rollStands 69 = .ok (.ifCond .eq 38, 3) := by decide +kernel
theorem dX0_rollStands_72 : decode cX0_rollStands 72 = .ok (.aload_n 1, 1) := by decide +kernel
theorem dX0_rollStands_73 : decode cX0_rollStands 73 = .ok (.getfield 217, 3) := by decide +kernel
theorem dX0_rollStands_76 : decode cX0_rollStands 76 = .ok (.iload 4, 2) := by decide +kernel
theorem dX0_rollStands_78 : decode cX0_rollStands 78 = .ok (.iload_n 3, 1) := by decide +kernel
theorem dX0_rollStands_79 : decode cX0_rollStands 79 = .ok (.invokevirtual 220, 3) := by decide +kernel
theorem dX0_rollStands_82 : decode cX0_rollStands 82 = .ok (.istore 5, 2) := by decide +kernel
theorem dX0_rollStands_84 : decode cX0_rollStands 84 = .ok (.aload_n 0, 1) := by decide +kernel
theorem dX0_rollStands_85 : decode cX0_rollStands 85 = .ok (.getfield 20, 3) := by decide +kernel
theorem dX0_rollStands_88 : decode cX0_rollStands 88 = .ok (.iconst 3, 1) := by decide +kernel
theorem dX0_rollStands_89 : decode cX0_rollStands 89 = .ok (.aload_n 1, 1) := by decide +kernel
theorem dX0_rollStands_90 : decode cX0_rollStands 90 = .ok (.aload_n 0, 1) := by decide +kernel
theorem dX0_rollStands_91 : decode cX0_rollStands 91 = .ok (.getfield 11, 3) := by decide +kernel
theorem dX0_rollStands_94 : decode cX0_rollStands 94 = .ok (.iload 4, 2) := by decide +kernel
theorem dX0_rollStands_96 : decode cX0_rollStands 96 = .ok (.aaload, 1) := by decide +kernel
theorem dX0_rollStands_97 : decode cX0_rollStands 97 = .ok (.aload_n 0, 1) := by decide +kernel
theorem dX0_rollStands_98 : decode cX0_rollStands 98 = .ok (.getfield 42, 3) := by decide +kernel
theorem dX0_rollStands_101 : decode cX0_rollStands 101 = .ok (.iload_n 2, 1) := by decide +kernel
theorem dX0_rollStands_102 : decode cX0_rollStands 102 = .ok (.iload 5, 2) := by decide +kernel
theorem dX0_rollStands_104 : decode cX0_rollStands 104 = .ok (.invokevirtual 153, 3) := by decide +kernel
theorem dX0_rollStands_107 : decode cX0_rollStands 107 = .ok (.iinc 4 1, 3) := by decide +kernel
theorem dX0_rollStands_110 : decode cX0_rollStands 110 = .ok (.goto (-65), 3) := by decide +kernel
theorem dX0_rollStands_113 : decode cX0_rollStands 113 = .ok (.return_, 1) := by decide +kernel
theorem dX1_init_0 : decode cX1_init 0 = .ok (.aload_n 0, 1) := by decide +kernel
theorem dX1_init_1 : decode cX1_init 1 = .ok (.invokespecial 3, 3) := by decide +kernel
theorem dX1_init_4 : decode cX1_init 4 = .ok (.aload_n 0, 1) := by decide +kernel
theorem dX1_init_5 : decode cX1_init 5 = .ok (.bipush 14, 2) := by decide +kernel
theorem dX1_init_7 : decode cX1_init 7 = .ok (.anewarray 9, 3) := by decide +kernel
theorem dX1_init_10 : decode cX1_init 10 = .ok (.putfield 11, 3) := by decide +kernel
theorem dX1_init_13 : decode cX1_init 13 = .ok (.iconst 0, 1) := by decide +kernel
theorem dX1_init_14 : decode cX1_init 14 = .ok (.istore_n 1, 1) := by decide +kernel
theorem dX1_init_15 : decode cX1_init 15 = .ok (.iload_n 1, 1) := by decide +kernel
theorem dX1_init_16 : decode cX1_init 16 = .ok (.bipush 14, 2) := by decide +kernel
theorem dX1_init_18 : decode cX1_init 18 = .ok (.if_icmp .ge 22, 3) := by decide +kernel
theorem dX1_init_21 : decode cX1_init 21 = .ok (.aload_n 0, 1) := by decide +kernel
theorem dX1_init_22 : decode cX1_init 22 = .ok (.getfield 11, 3) := by decide +kernel
theorem dX1_init_25 : decode cX1_init 25 = .ok (.iload_n 1, 1) := by decide +kernel
theorem dX1_init_26 : decode cX1_init 26 = .ok (.new 9, 3) := by decide +kernel
theorem dX1_init_29 : decode cX1_init 29 = .ok (.dup, 1) := by decide +kernel
theorem dX1_init_30 : decode cX1_init 30 = .ok (.invokespecial 17, 3) := by decide +kernel
theorem dX1_init_33 : decode cX1_init 33 = .ok (.aastore, 1) := by decide +kernel
theorem dX1_init_34 : decode cX1_init 34 = .ok (.iinc 1 1, 3) := by decide +kernel
theorem dX1_init_37 : decode cX1_init 37 = .ok (.goto (-22), 3) := by decide +kernel
theorem dX1_init_40 : decode cX1_init 40 = .ok (.return_, 1) := by decide +kernel
theorem dX1_remember_0 : decode cX1_remember 0 = .ok (.aload_n 0, 1) := by decide +kernel
theorem dX1_remember_1 : decode cX1_remember 1 = .ok (.getfield 11, 3) := by decide +kernel
theorem dX1_remember_4 : decode cX1_remember 4 = .ok (.aload_n 0, 1) := by decide +kernel
theorem dX1_remember_5 : decode cX1_remember 5 = .ok (.getfield 18, 3) := by decide +kernel
theorem dX1_remember_8 : decode cX1_remember 8 = .ok (.aaload, 1) := by decide +kernel
theorem dX1_remember_9 : decode cX1_remember 9 = .ok (.aload_n 1, 1) := by decide +kernel
theorem dX1_remember_10 : decode cX1_remember 10 = .ok (.invokevirtual 22, 3) := by decide +kernel
theorem dX1_remember_13 : decode cX1_remember 13 = .ok (.aload_n 0, 1) := by decide +kernel
theorem dX1_remember_14 : decode cX1_remember 14 = .ok (.aload_n 0, 1) := by decide +kernel
theorem dX1_remember_15 : decode cX1_remember 15 = .ok (.getfield 18, 3) := by decide +kernel
theorem dX1_remember_18 : decode cX1_remember 18 = .ok (.bipush 13, 2) := by decide +kernel
theorem dX1_remember_20 : decode cX1_remember 20 = .ok (.if_icmp .lt 7, 3) := by decide +kernel
theorem dX1_remember_23 : decode cX1_remember 23 = .ok (.iconst 0, 1) := by decide +kernel
theorem dX1_remember_24 : decode cX1_remember 24 = .ok (.goto 9, 3) := by decide +kernel
theorem dX1_remember_27 : decode cX1_remember 27 = .ok (.aload_n 0, 1) := by decide +kernel
theorem dX1_remember_28 : decode cX1_remember 28 = .ok (.getfield 18, 3) := by decide +kernel
theorem dX1_remember_31 : decode cX1_remember 31 = .ok (.iconst 1, 1) := by decide +kernel
theorem dX1_remember_32 : decode cX1_remember 32 = .ok (.iadd, 1) := by decide +kernel
theorem dX1_remember_33 : decode cX1_remember 33 = .ok (.putfield 18, 3) := by decide +kernel
theorem dX1_remember_36 : decode cX1_remember 36 = .ok (.aload_n 0, 1) := by decide +kernel
theorem dX1_remember_37 : decode cX1_remember 37 = .ok (.aload_n 0, 1) := by decide +kernel
theorem dX1_remember_38 : decode cX1_remember 38 = .ok (.getfield 26, 3) := by decide +kernel
theorem dX1_remember_41 : decode cX1_remember 41 = .ok (.iconst 1, 1) := by decide +kernel
theorem dX1_remember_42 : decode cX1_remember 42 = .ok (.iadd, 1) := by decide +kernel
theorem dX1_remember_43 : decode cX1_remember 43 = .ok (.bipush 14, 2) := by decide +kernel
theorem dX1_remember_45 : decode cX1_remember 45 = .ok (.invokestatic 29, 3) := by decide +kernel
theorem dX1_remember_48 : decode cX1_remember 48 = .ok (.putfield 26, 3) := by decide +kernel
theorem dX1_remember_51 : decode cX1_remember 51 = .ok (.return_, 1) := by decide +kernel
theorem dX1_takeLast_0 : decode cX1_takeLast 0 = .ok (.aload_n 0, 1) := by decide +kernel
theorem dX1_takeLast_1 : decode cX1_takeLast 1 = .ok (.aload_n 0, 1) := by decide +kernel
theorem dX1_takeLast_2 : decode cX1_takeLast 2 = .ok (.getfield 18, 3) := by decide +kernel
theorem dX1_takeLast_5 : decode cX1_takeLast 5 = .ok (.ifCond .gt 8, 3) := by decide +kernel
theorem dX1_takeLast_8 : decode cX1_takeLast 8 = .ok (.bipush 13, 2) := by decide +kernel
theorem dX1_takeLast_10 : decode cX1_takeLast 10 = .ok (.goto 9, 3) := by decide +kernel
theorem dX1_takeLast_13 : decode cX1_takeLast 13 = .ok (.aload_n 0, 1) := by decide +kernel
theorem dX1_takeLast_14 : decode cX1_takeLast 14 = .ok (.getfield 18, 3) := by decide +kernel
theorem dX1_takeLast_17 : decode cX1_takeLast 17 = .ok (.iconst 1, 1) := by decide +kernel
theorem dX1_takeLast_18 : decode cX1_takeLast 18 = .ok (.isub, 1) := by decide +kernel
theorem dX1_takeLast_19 : decode cX1_takeLast 19 = .ok (.putfield 18, 3) := by decide +kernel
theorem dX1_takeLast_22 : decode cX1_takeLast 22 = .ok (.aload_n 0, 1) := by decide +kernel
theorem dX1_takeLast_23 : decode cX1_takeLast 23 = .ok (.dup, 1) := by decide +kernel
theorem dX1_takeLast_24 : decode cX1_takeLast 24 = .ok (.getfield 26, 3) := by decide +kernel
theorem dX1_takeLast_27 : decode cX1_takeLast 27 = .ok (.iconst 1, 1) := by decide +kernel
theorem dX1_takeLast_28 : decode cX1_takeLast 28 = .ok (.isub, 1) := by decide +kernel
theorem dX1_takeLast_29 : decode cX1_takeLast 29 = .ok (.putfield 26, 3) := by decide +kernel
theorem dX1_takeLast_32 : decode cX1_takeLast 32 = .ok (.aload_n 0, 1) := by decide +kernel
theorem dX1_takeLast_33 : decode cX1_takeLast 33 = .ok (.getfield 11, 3) := by decide +kernel
theorem dX1_takeLast_36 : decode cX1_takeLast 36 = .ok (.aload_n 0, 1) := by decide +kernel
theorem dX1_takeLast_37 : decode cX1_takeLast 37 = .ok (.getfield 18, 3) := by decide +kernel
theorem dX1_takeLast_40 : decode cX1_takeLast 40 = .ok (.aaload, 1) := by decide +kernel
theorem dX1_takeLast_41 : decode cX1_takeLast 41 = .ok (.areturn, 1) := by decide +kernel
theorem dX2_init_0 : decode cX2_init 0 = .ok (.aload_n 0, 1) := by decide +kernel
theorem dX2_init_1 : decode cX2_init 1 = .ok (.invokespecial 3, 3) := by decide +kernel
theorem dX2_init_4 : decode cX2_init 4 = .ok (.aload_n 0, 1) := by decide +kernel
theorem dX2_init_5 : decode cX2_init 5 = .ok (.new 9, 3) := by decide +kernel
theorem dX2_init_8 : decode cX2_init 8 = .ok (.dup, 1) := by decide +kernel
theorem dX2_init_9 : decode cX2_init 9 = .ok (.bipush 6, 2) := by decide +kernel
theorem dX2_init_11 : decode cX2_init 11 = .ok (.invokespecial 11, 3) := by decide +kernel
theorem dX2_init_14 : decode cX2_init 14 = .ok (.putfield 14, 3) := by decide +kernel
theorem dX2_init_17 : decode cX2_init 17 = .ok (.aload_n 0, 1) := by decide +kernel
theorem dX2_init_18 : decode cX2_init 18 = .ok (.new 9, 3) := by decide +kernel
theorem dX2_init_21 : decode cX2_init 21 = .ok (.dup, 1) := by decide +kernel
theorem dX2_init_22 : decode cX2_init 22 = .ok (.bipush 12, 2) := by decide +kernel
theorem dX2_init_24 : decode cX2_init 24 = .ok (.invokespecial 11, 3) := by decide +kernel
theorem dX2_init_27 : decode cX2_init 27 = .ok (.putfield 20, 3) := by decide +kernel
theorem dX2_init_30 : decode cX2_init 30 = .ok (.aload_n 0, 1) := by decide +kernel
theorem dX2_init_31 : decode cX2_init 31 = .ok (.new 9, 3) := by decide +kernel
theorem dX2_init_34 : decode cX2_init 34 = .ok (.dup, 1) := by decide +kernel
theorem dX2_init_35 : decode cX2_init 35 = .ok (.iconst 5, 1) := by decide +kernel
theorem dX2_init_36 : decode cX2_init 36 = .ok (.invokespecial 11, 3) := by decide +kernel
theorem dX2_init_39 : decode cX2_init 39 = .ok (.putfield 23, 3) := by decide +kernel
theorem dX2_init_42 : decode cX2_init 42 = .ok (.aload_n 0, 1) := by decide +kernel
theorem dX2_init_43 : decode cX2_init 43 = .ok (.iload_n 1, 1) := by decide +kernel
theorem dX2_init_44 : decode cX2_init 44 = .ok (.putfield 26, 3) := by decide +kernel
theorem dX2_init_47 : decode cX2_init 47 = .ok (.aload_n 0, 1) := by decide +kernel
theorem dX2_init_48 : decode cX2_init 48 = .ok (.iload_n 1, 1) := by decide +kernel
theorem dX2_init_49 : decode cX2_init 49 = .ok (.putfield 30, 3) := by decide +kernel
theorem dX2_init_52 : decode cX2_init 52 = .ok (.aload_n 0, 1) := by decide +kernel
theorem dX2_init_53 : decode cX2_init 53 = .ok (.iconst 1, 1) := by decide +kernel
theorem dX2_init_54 : decode cX2_init 54 = .ok (.iload_n 1, 1) := by decide +kernel
theorem dX2_init_55 : decode cX2_init 55 = .ok (.ishl, 1) := by decide +kernel
theorem dX2_init_56 : decode cX2_init 56 = .ok (.putfield 33, 3) := by decide +kernel
theorem dX2_init_59 : decode cX2_init 59 = .ok (.return_, 1) := by decide +kernel
theorem dX2_copyFrom_0 : decode cX2_copyFrom 0 = .ok (.aload_n 0, 1) := by decide +kernel
theorem dX2_copyFrom_1 : decode cX2_copyFrom 1 = .ok (.aload_n 1, 1) := by decide +kernel
theorem dX2_copyFrom_2 : decode cX2_copyFrom 2 = .ok (.getfield 36, 3) := by decide +kernel
theorem dX2_copyFrom_5 : decode cX2_copyFrom 5 = .ok (.putfield 36, 3) := by decide +kernel
theorem dX2_copyFrom_8 : decode cX2_copyFrom 8 = .ok (.aload_n 0, 1) := by decide +kernel
theorem dX2_copyFrom_9 : decode cX2_copyFrom 9 = .ok (.aload_n 1, 1) := by decide +kernel
theorem dX2_copyFrom_10 : decode cX2_copyFrom 10 = .ok (.getfield 39, 3) := by decide +kernel
theorem dX2_copyFrom_13 : decode cX2_copyFrom 13 = .ok (.putfield 39, 3) := by decide +kernel
theorem dX2_copyFrom_16 : decode cX2_copyFrom 16 = .ok (.aload_n 0, 1) := by decide +kernel
theorem dX2_copyFrom_17 : decode cX2_copyFrom 17 = .ok (.aload_n 1, 1) := by decide +kernel
theorem dX2_copyFrom_18 : decode cX2_copyFrom 18 = .ok (.getfield 42, 3) := by decide +kernel
theorem dX2_copyFrom_21 : decode cX2_copyFrom 21 = .ok (.putfield 42, 3) := by decide +kernel
theorem dX2_copyFrom_24 : decode cX2_copyFrom 24 = .ok (.aload_n 0, 1) := by decide +kernel
theorem dX2_copyFrom_25 : decode cX2_copyFrom 25 = .ok (.aload_n 1, 1) := by decide +kernel
theorem dX2_copyFrom_26 : decode cX2_copyFrom 26 = .ok (.getfield 30, 3) := by decide +kernel
theorem dX2_copyFrom_29 : decode cX2_copyFrom 29 = .ok (.putfield 30, 3) := by decide +kernel
theorem dX2_copyFrom_32 : decode cX2_copyFrom 32 = .ok (.aload_n 0, 1) := by decide +kernel
theorem dX2_copyFrom_33 : decode cX2_copyFrom 33 = .ok (.aload_n 1, 1) := by decide +kernel
theorem dX2_copyFrom_34 : decode cX2_copyFrom 34 = .ok (.getfield 33, 3) := by decide +kernel
theorem dX2_copyFrom_37 : decode cX2_copyFrom 37 = .ok (.putfield 33, 3) := by decide +kernel
theorem dX2_copyFrom_40 : decode cX2_copyFrom 40 = .ok (.aload_n 0, 1) := by decide +kernel
theorem dX2_copyFrom_41 : decode cX2_copyFrom 41 = .ok (.aload_n 1, 1) := by decide +kernel
theorem dX2_copyFrom_42 : decode cX2_copyFrom 42 = .ok (.getfield 45, 3) := by decide +kernel
theorem dX2_copyFrom_45 : decode cX2_copyFrom 45 = .ok (.putfield 45, 3) := by decide +kernel
theorem dX2_copyFrom_48 : decode cX2_copyFrom 48 = .ok (.aload_n 0, 1) := by decide +kernel
theorem dX2_copyFrom_49 : decode cX2_copyFrom 49 = .ok (.aload_n 1, 1) := by decide +kernel
theorem dX2_copyFrom_50 : decode cX2_copyFrom 50 = .ok (.getfield 48, 3) := by decide +kernel
theorem dX2_copyFrom_53 : decode cX2_copyFrom 53 = .ok (.putfield 48, 3) := by decide +kernel
theorem dX2_copyFrom_56 : decode cX2_copyFrom 56 = .ok (.aload_n 0, 1) := by decide +kernel
theorem dX2_copyFrom_57 : decode cX2_copyFrom 57 = .ok (.aload_n 1, 1) := by decide +kernel
theorem dX2_copyFrom_58 : decode cX2_copyFrom 58 = .ok (.getfield 51, 3) := by decide +kernel
theorem dX2_copyFrom_61 : decode cX2_copyFrom 61 = .ok (.putfield 51, 3) := by decide +kernel
theorem dX2_copyFrom_64 : decode cX2_copyFrom 64 = .ok (.aload_n 0, 1) := by decide +kernel
theorem dX2_copyFrom_65 : decode cX2_copyFrom 65 = .ok (.aload_n 1, 1) := by decide +kernel
theorem dX2_copyFrom_66 : decode cX2_copyFrom 66 = .ok (.getfield 54, 3) := by decide +kernel
theorem dX2_copyFrom_69 : decode cX2_copyFrom 69 = .ok (.putfield 54, 3) := by decide +kernel
theorem dX2_copyFrom_72 : decode cX2_copyFrom 72 = .ok (.aload_n 0, 1) := by decide +kernel
theorem dX2_copyFrom_73 : decode cX2_copyFrom 73 = .ok (.aload_n 1, 1) := by decide +kernel
theorem dX2_copyFrom_74 : decode cX2_copyFrom 74 = .ok (.getfield 57, 3) := by decide +kernel
theorem dX2_copyFrom_77 : decode cX2_copyFrom 77 = .ok (.putfield 57, 3) := by decide +kernel
theorem dX2_copyFrom_80 : decode cX2_copyFrom 80 = .ok (.aload_n 0, 1) := by decide +kernel
theorem dX2_copyFrom_81 : decode cX2_copyFrom 81 = .ok (.aload_n 1, 1) := by decide +kernel
theorem dX2_copyFrom_82 : decode cX2_copyFrom 82 = .ok (.getfield 60, 3) := by decide +kernel
theorem dX2_copyFrom_85 : decode cX2_copyFrom 85 = .ok (.putfield 60, 3) := by decide +kernel
theorem dX2_copyFrom_88 : decode cX2_copyFrom 88 = .ok (.aload_n 0, 1) := by decide +kernel
theorem dX2_copyFrom_89 : decode cX2_copyFrom 89 = .ok (.aload_n 1, 1) := by decide +kernel
theorem dX2_copyFrom_90 : decode cX2_copyFrom 90 = .ok (.getfield 63, 3) := by decide +kernel
theorem dX2_copyFrom_93 : decode cX2_copyFrom 93 = .ok (.putfield 63, 3) := by decide +kernel
theorem dX2_copyFrom_96 : decode cX2_copyFrom 96 = .ok (.aload_n 0, 1) := by decide +kernel
theorem dX2_copyFrom_97 : decode cX2_copyFrom 97 = .ok (.getfield 14, 3) := by decide +kernel
theorem dX2_copyFrom_100 : decode cX2_copyFrom 100 = .ok (.aload_n 1, 1) := by decide +kernel
theorem dX2_copyFrom_101 : decode cX2_copyFrom 101 = .ok (.getfield 14, 3) := by decide +kernel
theorem dX2_copyFrom_104 : decode cX2_copyFrom 104 = .ok (.invokevirtual 66, 3) := by decide +kernel
theorem dX2_copyFrom_107 : decode cX2_copyFrom 107 = .ok (.aload_n 0, 1) := by decide +kernel
theorem dX2_copyFrom_108 : decode cX2_copyFrom 108 = .ok (.getfield 20, 3) := by decide +kernel
theorem dX2_copyFrom_111 : decode cX2_copyFrom 111 = .ok (.aload_n 1, 1) := by decide +kernel
theorem dX2_copyFrom_112 : decode cX2_copyFrom 112 = .ok (.getfield 20, 3) := by decide +kernel
theorem dX2_copyFrom_115 : decode cX2_copyFrom 115 = .ok (.invokevirtual 66, 3) := by decide +kernel
theorem dX2_copyFrom_118 : decode cX2_copyFrom 118 = .ok (.aload_n 0, 1) := by decide +kernel
theorem dX2_copyFrom_119 : decode cX2_copyFrom 119 = .ok (.getfield 23, 3) := by decide +kernel
theorem dX2_copyFrom_122 : decode cX2_copyFrom 122 = .ok (.aload_n 1, 1) := by decide +kernel
theorem dX2_copyFrom_123 : decode cX2_copyFrom 123 = .ok (.getfield 23, 3) := by decide +kernel
theorem dX2_copyFrom_126 : decode cX2_copyFrom 126 = .ok (.invokevirtual 66, 3) := by decide +kernel
theorem dX2_copyFrom_129 : decode cX2_copyFrom 129 = .ok (.return_, 1) := by decide +kernel
theorem dX2_isIn_0 : decode cX2_isIn 0 = .ok (.aload_n 0, 1) := by decide +kernel
theorem dX2_isIn_1 : decode cX2_isIn 1 = .ok (.getfield 42, 3) := by decide +kernel
theorem dX2_isIn_4 : decode cX2_isIn 4 = .ok (.iload_n 1, 1) := by decide +kernel
theorem dX2_isIn_5 : decode cX2_isIn 5 = .ok (.if_icmp .ne 15, 3) := by decide +kernel
theorem dX2_isIn_8 : decode cX2_isIn 8 = .ok (.aload_n 0, 1) := by decide +kernel
theorem dX2_isIn_9 : decode cX2_isIn 9 = .ok (.getfield 30, 3) := by decide +kernel
theorem dX2_isIn_12 : decode cX2_isIn 12 = .ok (.iload_n 2, 1) := by decide +kernel
theorem dX2_isIn_13 : decode cX2_isIn 13 = .ok (.if_icmp .ne 7, 3) := by decide +kernel
theorem dX2_isIn_16 : decode cX2_isIn 16 = .ok (.iconst 1, 1) := by decide +kernel
theorem dX2_isIn_17 : decode cX2_isIn 17 = .ok (.goto 4, 3) := by decide +kernel
theorem dX2_isIn_20 : decode cX2_isIn 20 = .ok (.iconst 0, 1) := by decide +kernel
theorem dX2_isIn_21 : decode cX2_isIn 21 = .ok (.ireturn, 1) := by decide +kernel
theorem dX2_maySpeak_0 : decode cX2_maySpeak 0 = .ok (.aload_n 0, 1) := by decide +kernel
theorem dX2_maySpeak_1 : decode cX2_maySpeak 1 = .ok (.getfield 39, 3) := by decide +kernel
theorem dX2_maySpeak_4 : decode cX2_maySpeak 4 = .ok (.ifCond .ne 15, 3) := by decide +kernel
theorem dX2_maySpeak_7 : decode cX2_maySpeak 7 = .ok (.aload_n 0, 1) := by decide +kernel
theorem dX2_maySpeak_8 : decode cX2_maySpeak 8 = .ok (.getfield 51, 3) := by decide +kernel
theorem dX2_maySpeak_11 : decode cX2_maySpeak 11 = .ok (.iconst 4, 1) := by decide +kernel
theorem dX2_maySpeak_12 : decode cX2_maySpeak 12 = .ok (.if_icmp .ge 7, 3) := by decide +kernel
theorem dX2_maySpeak_15 : decode cX2_maySpeak 15 = .ok (.iconst 1, 1) := by decide +kernel
theorem dX2_maySpeak_16 : decode cX2_maySpeak 16 = .ok (.goto 4, 3) := by decide +kernel
theorem dX2_maySpeak_19 : decode cX2_maySpeak 19 = .ok (.iconst 0, 1) := by decide +kernel
theorem dX2_maySpeak_20 : decode cX2_maySpeak 20 = .ok (.ireturn, 1) := by decide +kernel
theorem dX2_isOutOfPatience_0 : decode cX2_isOutOfPatience 0 = .ok (.iload_n 2, 1) := by decide +kernel
theorem dX2_isOutOfPatience_1 : decode cX2_isOutOfPatience 1 = .ok (.ifCond .eq 24, 3) := by decide +kernel
theorem dX2_isOutOfPatience_4 : decode cX2_isOutOfPatience 4 = .ok (.aload_n 0, 1) := by decide +kernel
theorem dX2_isOutOfPatience_5 : decode cX2_isOutOfPatience 5 = .ok (.getfield 57, 3) := by decide +kernel
theorem dX2_isOutOfPatience_8 : decode cX2_isOutOfPatience 8 = .ok (.ifCond .eq 17, 3) := by decide +kernel
theorem dX2_isOutOfPatience_11 : decode cX2_isOutOfPatience 11 = .ok (.iload_n 1, 1) := by decide +kernel
theorem dX2_isOutOfPatience_12 : decode cX2_isOutOfPatience 12 = .ok (.aload_n 0, 1) := by decide +kernel
theorem dX2_isOutOfPatience_13 : decode cX2_isOutOfPatience 13 = .ok (.getfield 60, 3) := by decide +kernel
theorem dX2_isOutOfPatience_16 : decode cX2_isOutOfPatience 16 = .ok (.isub, 1) := by decide +kernel
theorem dX2_isOutOfPatience_17 : decode cX2_isOutOfPatience 17 = .ok (.iload_n 2, 1) := by decide +kernel
theorem dX2_isOutOfPatience_18 : decode cX2_isOutOfPatience 18 = .ok (.if_icmp .lt 7, 3) := by decide +kernel
theorem dX2_isOutOfPatience_21 : decode cX2_isOutOfPatience 21 = .ok (.iconst 1, 1) := by decide +kernel
theorem dX2_isOutOfPatience_22 : decode cX2_isOutOfPatience 22 = .ok (.goto 4, 3) := by decide +kernel
theorem dX2_isOutOfPatience_25 : decode cX2_isOutOfPatience 25 = .ok (.iconst 0, 1) := by decide +kernel
theorem dX2_isOutOfPatience_26 : decode cX2_isOutOfPatience 26 = .ok (.ireturn, 1) := by decide +kernel
theorem dX2_startCall_0 : decode cX2_startCall 0 = .ok (.aload_n 0, 1) := by decide +kernel
theorem dX2_startCall_1 : decode cX2_startCall 1 = .ok (.dup, 1) := by decide +kernel
theorem dX2_startCall_2 : decode cX2_startCall 2 = .ok (.getfield 48, 3) := by decide +kernel
theorem dX2_startCall_5 : decode cX2_startCall 5 = .ok (.iconst 1, 1) := by decide +kernel
theorem dX2_startCall_6 : decode cX2_startCall 6 = .ok (.iadd, 1) := by decide +kernel
theorem dX2_startCall_7 : decode cX2_startCall 7 = .ok (.putfield 48, 3) := by decide +kernel
theorem dX2_startCall_10 : decode cX2_startCall 10 = .ok (.aload_n 0, 1) := by decide +kernel
theorem dX2_startCall_11 : decode cX2_startCall 11 = .ok (.iconst 1, 1) := by decide +kernel
theorem dX2_startCall_12 : decode cX2_startCall 12 = .ok (.putfield 39, 3) := by decide +kernel
theorem dX2_startCall_15 : decode cX2_startCall 15 = .ok (.aload_n 0, 1) := by decide +kernel
theorem dX2_startCall_16 : decode cX2_startCall 16 = .ok (.aload_n 0, 1) := by decide +kernel
theorem dX2_startCall_17 : decode cX2_startCall 17 = .ok (.getfield 48, 3) := by decide +kernel
theorem dX2_startCall_20 : decode cX2_startCall 20 = .ok (.putfield 54, 3) := by decide +kernel
theorem dX2_startCall_23 : decode cX2_startCall 23 = .ok (.aload_n 0, 1) := by decide +kernel
theorem dX2_startCall_24 : decode cX2_startCall 24 = .ok (.iload_n 1, 1) := by decide +kernel
theorem dX2_startCall_25 : decode cX2_startCall 25 = .ok (.putfield 57, 3) := by decide +kernel
theorem dX2_startCall_28 : decode cX2_startCall 28 = .ok (.aload_n 0, 1) := by decide +kernel
theorem dX2_startCall_29 : decode cX2_startCall 29 = .ok (.iload_n 2, 1) := by decide +kernel
theorem dX2_startCall_30 : decode cX2_startCall 30 = .ok (.putfield 60, 3) := by decide +kernel
theorem dX2_startCall_33 : decode cX2_startCall 33 = .ok (.aload_n 0, 1) := by decide +kernel
theorem dX2_startCall_34 : decode cX2_startCall 34 = .ok (.iconst 1, 1) := by decide +kernel
theorem dX2_startCall_35 : decode cX2_startCall 35 = .ok (.aload_n 0, 1) := by decide +kernel
theorem dX2_startCall_36 : decode cX2_startCall 36 = .ok (.getfield 26, 3) := by decide +kernel
theorem dX2_startCall_39 : decode cX2_startCall 39 = .ok (.ishl, 1) := by decide +kernel
theorem dX2_startCall_40 : decode cX2_startCall 40 = .ok (.putfield 63, 3) := by decide +kernel
theorem dX2_startCall_43 : decode cX2_startCall 43 = .ok (.aload_n 0, 1) := by decide +kernel
theorem dX2_startCall_44 : decode cX2_startCall 44 = .ok (.getfield 14, 3) := by decide +kernel
theorem dX2_startCall_47 : decode cX2_startCall 47 = .ok (.aload_n 0, 1) := by decide +kernel
theorem dX2_startCall_48 : decode cX2_startCall 48 = .ok (.getfield 26, 3) := by decide +kernel
theorem dX2_startCall_51 : decode cX2_startCall 51 = .ok (.aload_n 0, 1) := by decide +kernel
theorem dX2_startCall_52 : decode cX2_startCall 52 = .ok (.getfield 42, 3) := by decide +kernel
theorem dX2_startCall_55 : decode cX2_startCall 55 = .ok (.aload_n 0, 1) := by decide +kernel
theorem dX2_startCall_56 : decode cX2_startCall 56 = .ok (.getfield 30, 3) := by decide +kernel
theorem dX2_startCall_59 : decode cX2_startCall 59 = .ok (.aload_n 0, 1) := by decide +kernel
theorem dX2_startCall_60 : decode cX2_startCall 60 = .ok (.getfield 45, 3) := by decide +kernel
theorem dX2_startCall_63 : decode cX2_startCall 63 = .ok (.invokevirtual 70, 3) := by decide +kernel
theorem dX2_startCall_66 : decode cX2_startCall 66 = .ok (.return_, 1) := by decide +kernel
theorem dX2_countsAnswer_0 : decode cX2_countsAnswer 0 = .ok (.aload_n 0, 1) := by decide +kernel
theorem dX2_countsAnswer_1 : decode cX2_countsAnswer 1 = .ok (.getfield 57, 3) := by decide +kernel
theorem dX2_countsAnswer_4 : decode cX2_countsAnswer 4 = .ok (.ifCond .eq 13, 3) := by decide +kernel
theorem dX2_countsAnswer_7 : decode cX2_countsAnswer 7 = .ok (.aload_n 1, 1) := by decide +kernel
theorem dX2_countsAnswer_8 : decode cX2_countsAnswer 8 = .ok (.iconst 4, 1) := by decide +kernel
theorem dX2_countsAnswer_9 : decode cX2_countsAnswer 9 = .ok (.iaload, 1) := by decide +kernel
theorem dX2_countsAnswer_10 : decode cX2_countsAnswer 10 = .ok (.aload_n 0, 1) := by decide +kernel
theorem dX2_countsAnswer_11 : decode cX2_countsAnswer 11 = .ok (.getfield 54, 3) := by decide +kernel
theorem dX2_countsAnswer_14 : decode cX2_countsAnswer 14 = .ok (.if_icmp .eq 5, 3) := by decide +kernel
theorem dX2_countsAnswer_17 : decode cX2_countsAnswer 17 = .ok (.iconst 0, 1) := by decide +kernel
theorem dX2_countsAnswer_18 : decode cX2_countsAnswer 18 = .ok (.ireturn, 1) := by decide +kernel
theorem dX2_countsAnswer_19 : decode cX2_countsAnswer 19 = .ok (.aload_n 0, 1) := by decide +kernel
theorem dX2_countsAnswer_20 : decode cX2_countsAnswer 20 = .ok (.getfield 14, 3) := by decide +kernel
theorem dX2_countsAnswer_23 : decode cX2_countsAnswer 23 = .ok (.aload_n 1, 1) := by decide +kernel
theorem dX2_countsAnswer_24 : decode cX2_countsAnswer 24 = .ok (.iconst 1, 1) := by decide +kernel
theorem dX2_countsAnswer_25 : decode cX2_countsAnswer 25 = .ok (.iaload, 1) := by decide +kernel
theorem dX2_countsAnswer_26 : decode cX2_countsAnswer 26 = .ok (.aload_n 1, 1) := by decide +kernel
theorem dX2_countsAnswer_27 : decode cX2_countsAnswer 27 = .ok (.bipush 6, 2) := by decide +kernel
theorem dX2_countsAnswer_29 : decode cX2_countsAnswer 29 = .ok (.iaload, 1) := by decide +kernel
theorem dX2_countsAnswer_30 : decode cX2_countsAnswer 30 = .ok (.aload_n 1, 1) := by decide +kernel
theorem dX2_countsAnswer_31 : decode cX2_countsAnswer 31 = .ok (.bipush 7, 2) := by decide +kernel
theorem dX2_countsAnswer_33 : decode cX2_countsAnswer 33 = .ok (.iaload, 1) := by decide +kernel
theorem dX2_countsAnswer_34 : decode cX2_countsAnswer 34 = .ok (.aload_n 1, 1) := by decide +kernel
theorem dX2_countsAnswer_35 : decode cX2_countsAnswer 35 = .ok (.iconst 5, 1) := by decide +kernel
theorem dX2_countsAnswer_36 : decode cX2_countsAnswer 36 = .ok (.iaload, 1) := by decide +kernel
theorem dX2_countsAnswer_37 : decode cX2_countsAnswer 37 = .ok (.invokevirtual 70, 3) := by decide +kernel
theorem dX2_countsAnswer_40 : decode cX2_countsAnswer 40 = .ok (.aload_n 0, 1) := by decide +kernel
theorem dX2_countsAnswer_41 : decode cX2_countsAnswer 41 = .ok (.dup, 1) := by decide +kernel
theorem dX2_countsAnswer_42 : decode cX2_countsAnswer 42 = .ok (.getfield 63, 3) := by decide +kernel
theorem dX2_countsAnswer_45 : decode cX2_countsAnswer 45 = .ok (.iconst 1, 1) := by decide +kernel
theorem dX2_countsAnswer_46 : decode cX2_countsAnswer 46 = .ok (.aload_n 1, 1) := by decide +kernel
theorem dX2_countsAnswer_47 : decode cX2_countsAnswer 47 = .ok (.iconst 1, 1) := by decide +kernel
theorem dX2_countsAnswer_48 : decode cX2_countsAnswer 48 = .ok (.iaload, 1) := by decide +kernel
theorem dX2_countsAnswer_49 : decode cX2_countsAnswer 49 = .ok (.ishl, 1) := by decide +kernel
theorem dX2_countsAnswer_50 : decode cX2_countsAnswer 50 = .ok (.ior, 1) := by decide +kernel
theorem dX2_countsAnswer_51 : decode cX2_countsAnswer 51 = .ok (.putfield 63, 3) := by decide +kernel
theorem dX2_countsAnswer_54 : decode cX2_countsAnswer 54 = .ok (.aload_n 0, 1) := by decide +kernel
theorem dX2_countsAnswer_55 : decode cX2_countsAnswer 55 = .ok (.invokevirtual 74, 3) := by decide +kernel
theorem dX2_countsAnswer_58 : decode cX2_countsAnswer 58 = .ok (.ireturn, 1) := by decide +kernel
theorem dX2_isAnsweredByAll_0 : decode cX2_isAnsweredByAll 0 = .ok (.aload_n 0, 1) := by decide +kernel
theorem dX2_isAnsweredByAll_1 : decode cX2_isAnsweredByAll 1 = .ok (.getfield 63, 3) := by decide +kernel
theorem dX2_isAnsweredByAll_4 : decode cX2_isAnsweredByAll 4 = .ok (.aload_n 0, 1) := by decide +kernel
theorem dX2_isAnsweredByAll_5 : decode cX2_isAnsweredByAll 5 = .ok (.getfield 57, 3) := by decide +kernel
theorem dX2_isAnsweredByAll_8 : decode cX2_isAnsweredByAll 8 = .ok (.if_icmp .ne 7, 3) := by decide +kernel
theorem dX2_isAnsweredByAll_11 : decode cX2_isAnsweredByAll 11 = .ok (.iconst 1, 1) := by decide +kernel
theorem dX2_isAnsweredByAll_12 : decode cX2_isAnsweredByAll 12 = .ok (.goto 4, 3) := by decide +kernel
theorem dX2_isAnsweredByAll_15 : decode cX2_isAnsweredByAll 15 = .ok (.iconst 0, 1) := by decide +kernel
theorem dX2_isAnsweredByAll_16 : decode cX2_isAnsweredByAll 16 = .ok (.ireturn, 1) := by decide +kernel
theorem dX2_stopCall_0 : decode cX2_stopCall 0 = .ok (.aload_n 0, 1) := by decide +kernel
theorem dX2_stopCall_1 : decode cX2_stopCall 1 = .ok (.iconst 0, 1) := by decide +kernel
theorem dX2_stopCall_2 : decode cX2_stopCall 2 = .ok (.putfield 57, 3) := by decide +kernel
theorem dX2_stopCall_5 : decode cX2_stopCall 5 = .ok (.aload_n 0, 1) := by decide +kernel
theorem dX2_stopCall_6 : decode cX2_stopCall 6 = .ok (.iconst 0, 1) := by decide +kernel
theorem dX2_stopCall_7 : decode cX2_stopCall 7 = .ok (.putfield 63, 3) := by decide +kernel
theorem dX2_stopCall_10 : decode cX2_stopCall 10 = .ok (.return_, 1) := by decide +kernel
theorem dX2_hushFor_0 : decode cX2_hushFor 0 = .ok (.aload_n 0, 1) := by decide +kernel
theorem dX2_hushFor_1 : decode cX2_hushFor 1 = .ok (.iload_n 1, 1) := by decide +kernel
theorem dX2_hushFor_2 : decode cX2_hushFor 2 = .ok (.putfield 48, 3) := by decide +kernel
theorem dX2_hushFor_5 : decode cX2_hushFor 5 = .ok (.aload_n 0, 1) := by decide +kernel
theorem dX2_hushFor_6 : decode cX2_hushFor 6 = .ok (.iconst 1, 1) := by decide +kernel
theorem dX2_hushFor_7 : decode cX2_hushFor 7 = .ok (.putfield 39, 3) := by decide +kernel
theorem dX2_hushFor_10 : decode cX2_hushFor 10 = .ok (.aload_n 0, 1) := by decide +kernel
theorem dX2_hushFor_11 : decode cX2_hushFor 11 = .ok (.invokevirtual 78, 3) := by decide +kernel
theorem dX2_hushFor_14 : decode cX2_hushFor 14 = .ok (.return_, 1) := by decide +kernel
theorem dX2_takesSpeech_0 : decode cX2_takesSpeech 0 = .ok (.aload_n 0, 1) := by decide +kernel
theorem dX2_takesSpeech_1 : decode cX2_takesSpeech 1 = .ok (.getfield 39, 3) := by decide +kernel
theorem dX2_takesSpeech_4 : decode cX2_takesSpeech 4 = .ok (.ifCond .ne 26, 3) := by decide +kernel
theorem dX2_takesSpeech_7 : decode cX2_takesSpeech 7 = .ok (.aload_n 0, 1) := by decide +kernel
theorem dX2_takesSpeech_8 : decode cX2_takesSpeech 8 = .ok (.iload_n 1, 1) := by decide +kernel
theorem dX2_takesSpeech_9 : decode cX2_takesSpeech 9 = .ok (.iload_n 2, 1) := by decide +kernel
theorem dX2_takesSpeech_10 : decode cX2_takesSpeech 10 = .ok (.invokevirtual 81, 3) := by decide +kernel
theorem dX2_takesSpeech_13 : decode cX2_takesSpeech 13 = .ok (.ifCond .eq 17, 3) := by decide +kernel
theorem dX2_takesSpeech_16 : decode cX2_takesSpeech 16 = .ok (.aload_n 0, 1) := by decide +kernel
theorem dX2_takesSpeech_17 : decode cX2_takesSpeech 17 = .ok (.dup, 1) := by decide +kernel
theorem dX2_takesSpeech_18 : decode cX2_takesSpeech 18 = .ok (.getfield 45, 3) := by decide +kernel
theorem dX2_takesSpeech_21 : decode cX2_takesSpeech 21 = .ok (.iconst 1, 1) := by decide +kernel
theorem dX2_takesSpeech_22 : decode cX2_takesSpeech 22 = .ok (.iload_n 3, 1) := by decide +kernel
theorem dX2_takesSpeech_23 : decode cX2_takesSpeech 23 = .ok (.ishl, 1) := by decide +kernel
theorem dX2_takesSpeech_24 : decode cX2_takesSpeech 24 = .ok (.ior, 1) := by decide +kernel
theorem dX2_takesSpeech_25 : decode cX2_takesSpeech 25 = .ok (.putfield 45, 3) := by decide +kernel
theorem dX2_takesSpeech_28 : decode cX2_takesSpeech 28 = .ok (.iconst 1, 1) := by decide +kernel
theorem dX2_takesSpeech_29 : decode cX2_takesSpeech 29 = .ok (.ireturn, 1) := by decide +kernel
theorem dX2_takesSpeech_30 : decode cX2_takesSpeech 30 = .ok (.iload_n 1, 1) := by decide +kernel
theorem dX2_takesSpeech_31 : decode cX2_takesSpeech 31 = .ok (.aload_n 0, 1) := by decide +kernel
theorem dX2_takesSpeech_32 : decode cX2_takesSpeech 32 = .ok (.getfield 42, 3) := by decide +kernel
theorem dX2_takesSpeech_35 : decode cX2_takesSpeech 35 = .ok (.if_icmp .le 13, 3) := by decide +kernel
theorem dX2_takesSpeech_38 : decode cX2_takesSpeech 38 = .ok (.aload_n 0, 1) := by decide +kernel
theorem dX2_takesSpeech_39 : decode cX2_takesSpeech 39 = .ok (.getfield 20, 3) := by decide +kernel
theorem dX2_takesSpeech_42 : decode cX2_takesSpeech 42 = .ok (.invokevirtual 85, 3) := by decide +kernel
theorem dX2_takesSpeech_45 : decode cX2_takesSpeech 45 = .ok (.ifCond .eq 5, 3) := by decide +kernel
theorem dX2_takesSpeech_48 : decode cX2_takesSpeech 48 = .ok (.iconst 0, 1) := by decide +kernel
theorem dX2_takesSpeech_49 : decode cX2_takesSpeech 49 = .ok (.ireturn, 1) := by decide +kernel
theorem dX2_takesSpeech_50 : decode cX2_takesSpeech 50 = .ok (.aload_n 0, 1) := by decide +kernel
theorem dX2_takesSpeech_51 : decode cX2_takesSpeech 51 = .ok (.getfield 20, 3) := by decide +kernel
theorem dX2_takesSpeech_54 : decode cX2_takesSpeech 54 = .ok (.iload_n 1, 1) := by decide +kernel
theorem dX2_takesSpeech_55 : decode cX2_takesSpeech 55 = .ok (.iload_n 2, 1) := by decide +kernel
theorem dX2_takesSpeech_56 : decode cX2_takesSpeech 56 = .ok (.iconst 1, 1) := by decide +kernel
theorem dX2_takesSpeech_57 : decode cX2_takesSpeech 57 = .ok (.iload_n 3, 1) := by decide +kernel
theorem dX2_takesSpeech_58 : decode cX2_takesSpeech 58 = .ok (.ishl, 1) := by decide +kernel
theorem dX2_takesSpeech_59 : decode cX2_takesSpeech 59 = .ok (.invokevirtual 88, 3) := by decide +kernel
theorem dX2_takesSpeech_62 : decode cX2_takesSpeech 62 = .ok (.iconst 1, 1) := by decide +kernel
theorem dX2_takesSpeech_63 : decode cX2_takesSpeech 63 = .ok (.ireturn, 1) := by decide +kernel
theorem dX2_enterRoll_0 : decode cX2_enterRoll 0 = .ok (.iload_n 1, 1) := by decide +kernel
theorem dX2_enterRoll_1 : decode cX2_enterRoll 1 = .ok (.aload_n 0, 1) := by decide +kernel
theorem dX2_enterRoll_2 : decode cX2_enterRoll 2 = .ok (.getfield 48, 3) := by decide +kernel
theorem dX2_enterRoll_5 : decode cX2_enterRoll 5 = .ok (.if_icmp .lt 11, 3) := by decide +kernel
theorem dX2_enterRoll_8 : decode cX2_enterRoll 8 = .ok (.iload_n 1, 1) := by decide +kernel
theorem dX2_enterRoll_9 : decode cX2_enterRoll 9 = .ok (.aload_n 0, 1) := by decide +kernel
theorem dX2_enterRoll_10 : decode cX2_enterRoll 10 = .ok (.getfield 42, 3) := by decide +kernel
theorem dX2_enterRoll_13 : decode cX2_enterRoll 13 = .ok (.if_icmp .gt 4, 3) := by decide +kernel
theorem dX2_enterRoll_16 : decode cX2_enterRoll 16 = .ok (.return_, 1) := by decide +kernel
theorem dX2_enterRoll_17 : decode cX2_enterRoll 17 = .ok (.aload_n 0, 1) := by decide +kernel
theorem dX2_enterRoll_18 : decode cX2_enterRoll 18 = .ok (.getfield 23, 3) := by decide +kernel
theorem dX2_enterRoll_21 : decode cX2_enterRoll 21 = .ok (.aload_n 0, 1) := by decide +kernel
theorem dX2_enterRoll_22 : decode cX2_enterRoll 22 = .ok (.getfield 42, 3) := by decide +kernel
theorem dX2_enterRoll_25 : decode cX2_enterRoll 25 = .ok (.aload_n 0, 1) := by decide +kernel
theorem dX2_enterRoll_26 : decode cX2_enterRoll 26 = .ok (.getfield 30, 3) := by decide +kernel
theorem dX2_enterRoll_29 : decode cX2_enterRoll 29 = .ok (.iload 4, 2) := by decide +kernel
theorem dX2_enterRoll_31 : decode cX2_enterRoll 31 = .ok (.invokevirtual 88, 3) := by decide +kernel
theorem dX2_enterRoll_34 : decode cX2_enterRoll 34 = .ok (.aload_n 0, 1) := by decide +kernel
theorem dX2_enterRoll_35 : decode cX2_enterRoll 35 = .ok (.invokevirtual 78, 3) := by decide +kernel
theorem dX2_enterRoll_38 : decode cX2_enterRoll 38 = .ok (.aload_n 0, 1) := by decide +kernel
theorem dX2_enterRoll_39 : decode cX2_enterRoll 39 = .ok (.iconst 0, 1) := by decide +kernel
theorem dX2_enterRoll_40 : decode cX2_enterRoll 40 = .ok (.putfield 39, 3) := by decide +kernel
theorem dX2_enterRoll_43 : decode cX2_enterRoll 43 = .ok (.aload_n 0, 1) := by decide +kernel
theorem dX2_enterRoll_44 : decode cX2_enterRoll 44 = .ok (.iload_n 1, 1) := by decide +kernel
theorem dX2_enterRoll_45 : decode cX2_enterRoll 45 = .ok (.putfield 42, 3) := by decide +kernel
theorem dX2_enterRoll_48 : decode cX2_enterRoll 48 = .ok (.aload_n 0, 1) := by decide +kernel
theorem dX2_enterRoll_49 : decode cX2_enterRoll 49 = .ok (.iload_n 2, 1) := by decide +kernel
theorem dX2_enterRoll_50 : decode cX2_enterRoll 50 = .ok (.putfield 30, 3) := by decide +kernel
theorem dX2_enterRoll_53 : decode cX2_enterRoll 53 = .ok (.aload_n 0, 1) := by decide +kernel
theorem dX2_enterRoll_54 : decode cX2_enterRoll 54 = .ok (.iload_n 3, 1) := by decide +kernel
theorem dX2_enterRoll_55 : decode cX2_enterRoll 55 = .ok (.putfield 33, 3) := by decide +kernel
theorem dX2_enterRoll_58 : decode cX2_enterRoll 58 = .ok (.aload_n 0, 1) := by decide +kernel
theorem dX2_enterRoll_59 : decode cX2_enterRoll 59 = .ok (.iconst 0, 1) := by decide +kernel
theorem dX2_enterRoll_60 : decode cX2_enterRoll 60 = .ok (.putfield 51, 3) := by decide +kernel
theorem dX2_enterRoll_63 : decode cX2_enterRoll 63 = .ok (.aload_n 0, 1) := by decide +kernel
theorem dX2_enterRoll_64 : decode cX2_enterRoll 64 = .ok (.aload_n 0, 1) := by decide +kernel
theorem dX2_enterRoll_65 : decode cX2_enterRoll 65 = .ok (.getfield 20, 3) := by decide +kernel
theorem dX2_enterRoll_68 : decode cX2_enterRoll 68 = .ok (.iload_n 1, 1) := by decide +kernel
theorem dX2_enterRoll_69 : decode cX2_enterRoll 69 = .ok (.iload_n 2, 1) := by decide +kernel
theorem dX2_enterRoll_70 : decode cX2_enterRoll 70 = .ok (.invokevirtual 92, 3) := by decide +kernel
theorem dX2_enterRoll_73 : decode cX2_enterRoll 73 = .ok (.putfield 45, 3) := by decide +kernel
theorem dX2_enterRoll_76 : decode cX2_enterRoll 76 = .ok (.return_, 1) := by decide +kernel
theorem dX2_goAway_0 : decode cX2_goAway 0 = .ok (.aload_n 0, 1) := by decide +kernel
theorem dX2_goAway_1 : decode cX2_goAway 1 = .ok (.iconst 2, 1) := by decide +kernel
theorem dX2_goAway_2 : decode cX2_goAway 2 = .ok (.putfield 39, 3) := by decide +kernel
theorem dX2_goAway_5 : decode cX2_goAway 5 = .ok (.aload_n 0, 1) := by decide +kernel
theorem dX2_goAway_6 : decode cX2_goAway 6 = .ok (.invokevirtual 78, 3) := by decide +kernel
theorem dX2_goAway_9 : decode cX2_goAway 9 = .ok (.aload_n 0, 1) := by decide +kernel
theorem dX2_goAway_10 : decode cX2_goAway 10 = .ok (.getfield 20, 3) := by decide +kernel
theorem dX2_goAway_13 : decode cX2_goAway 13 = .ok (.iconst 0, 1) := by decide +kernel
theorem dX2_goAway_14 : decode cX2_goAway 14 = .ok (.putfield 96, 3) := by decide +kernel
theorem dX2_goAway_17 : decode cX2_goAway 17 = .ok (.return_, 1) := by decide +kernel
theorem dX2_comeBack_0 : decode cX2_comeBack 0 = .ok (.aload_n 0, 1) := by decide +kernel
theorem dX2_comeBack_1 : decode cX2_comeBack 1 = .ok (.dup, 1) := by decide +kernel
theorem dX2_comeBack_2 : decode cX2_comeBack 2 = .ok (.getfield 48, 3) := by decide +kernel
theorem dX2_comeBack_5 : decode cX2_comeBack 5 = .ok (.iconst 1, 1) := by decide +kernel
theorem dX2_comeBack_6 : decode cX2_comeBack 6 = .ok (.iadd, 1) := by decide +kernel
theorem dX2_comeBack_7 : decode cX2_comeBack 7 = .ok (.putfield 48, 3) := by decide +kernel
theorem dX2_comeBack_10 : decode cX2_comeBack 10 = .ok (.aload_n 0, 1) := by decide +kernel
theorem dX2_comeBack_11 : decode cX2_comeBack 11 = .ok (.aload_n 0, 1) := by decide +kernel
theorem dX2_comeBack_12 : decode cX2_comeBack 12 = .ok (.getfield 48, 3) := by decide +kernel
theorem dX2_comeBack_15 : decode cX2_comeBack 15 = .ok (.aload_n 0, 1) := by decide +kernel
theorem dX2_comeBack_16 : decode cX2_comeBack 16 = .ok (.getfield 26, 3) := by decide +kernel
theorem dX2_comeBack_19 : decode cX2_comeBack 19 = .ok (.iconst 1, 1) := by decide +kernel
theorem dX2_comeBack_20 : decode cX2_comeBack 20 = .ok (.aload_n 0, 1) := by decide +kernel
theorem dX2_comeBack_21 : decode cX2_comeBack 21 = .ok (.getfield 26, 3) := by decide +kernel
theorem dX2_comeBack_24 : decode cX2_comeBack 24 = .ok (.ishl, 1) := by decide +kernel
theorem dX2_comeBack_25 : decode cX2_comeBack 25 = .ok (.aload_n 0, 1) := by decide +kernel
theorem dX2_comeBack_26 : decode cX2_comeBack 26 = .ok (.getfield 45, 3) := by decide +kernel
theorem dX2_comeBack_29 : decode cX2_comeBack 29 = .ok (.invokevirtual 99, 3) := by decide +kernel
theorem dX2_comeBack_32 : decode cX2_comeBack 32 = .ok (.return_, 1) := by decide +kernel
theorem dX3_init_0 : decode cX3_init 0 = .ok (.aload_n 0, 1) := by decide +kernel
theorem dX3_init_1 : decode cX3_init 1 = .ok (.invokespecial 3, 3) := by decide +kernel
theorem dX3_init_4 : decode cX3_init 4 = .ok (.aload_n 0, 1) := by decide +kernel
theorem dX3_init_5 : decode cX3_init 5 = .ok (.bipush 6, 2) := by decide +kernel
theorem dX3_init_7 : decode cX3_init 7 = .ok (.newarray .int, 2) := by decide +kernel
theorem dX3_init_9 : decode cX3_init 9 = .ok (.putfield 9, 3) := by decide +kernel
theorem dX3_init_12 : decode cX3_init 12 = .ok (.aload_n 0, 1) := by decide +kernel
theorem dX3_init_13 : decode cX3_init 13 = .ok (.sipush 1350, 3) := by decide +kernel
theorem dX3_init_16 : decode cX3_init 16 = .ok (.newarray .int, 2) := by decide +kernel
theorem dX3_init_18 : decode cX3_init 18 = .ok (.putfield 15, 3) := by decide +kernel
theorem dX3_init_21 : decode cX3_init 21 = .ok (.return_, 1) := by decide +kernel
theorem dX3_copyFrom_0 : decode cX3_copyFrom 0 = .ok (.aload_n 1, 1) := by decide +kernel
theorem dX3_copyFrom_1 : decode cX3_copyFrom 1 = .ok (.getfield 9, 3) := by decide +kernel
theorem dX3_copyFrom_4 : decode cX3_copyFrom 4 = .ok (.iconst 0, 1) := by decide +kernel
theorem dX3_copyFrom_5 : decode cX3_copyFrom 5 = .ok (.aload_n 0, 1) := by decide +kernel
theorem dX3_copyFrom_6 : decode cX3_copyFrom 6 = .ok (.getfield 9, 3) := by decide +kernel
theorem dX3_copyFrom_9 : decode cX3_copyFrom 9 = .ok (.iconst 0, 1) := by decide +kernel
theorem dX3_copyFrom_10 : decode cX3_copyFrom 10 = .ok (.bipush 6, 2) := by decide +kernel
theorem dX3_copyFrom_12 : decode cX3_copyFrom 12 = .ok (.invokestatic 18, 3) := by decide +kernel
theorem dX3_copyFrom_15 : decode cX3_copyFrom 15 = .ok (.aload_n 1, 1) := by decide +kernel
theorem dX3_copyFrom_16 : decode cX3_copyFrom 16 = .ok (.getfield 15, 3) := by decide +kernel
theorem dX3_copyFrom_19 : decode cX3_copyFrom 19 = .ok (.iconst 0, 1) := by decide +kernel
theorem dX3_copyFrom_20 : decode cX3_copyFrom 20 = .ok (.aload_n 0, 1) := by decide +kernel
theorem dX3_copyFrom_21 : decode cX3_copyFrom 21 = .ok (.getfield 15, 3) := by decide +kernel
theorem dX3_copyFrom_24 : decode cX3_copyFrom 24 = .ok (.iconst 0, 1) := by decide +kernel
theorem dX3_copyFrom_25 : decode cX3_copyFrom 25 = .ok (.aload_n 1, 1) := by decide +kernel
theorem dX3_copyFrom_26 : decode cX3_copyFrom 26 = .ok (.getfield 24, 3) := by decide +kernel
theorem dX3_copyFrom_29 : decode cX3_copyFrom 29 = .ok (.bipush 9, 2) := by decide +kernel
theorem dX3_copyFrom_31 : decode cX3_copyFrom 31 = .ok (.imul, 1) := by decide +kernel
theorem dX3_copyFrom_32 : decode cX3_copyFrom 32 = .ok (.invokestatic 18, 3) := by decide +kernel
theorem dX3_copyFrom_35 : decode cX3_copyFrom 35 = .ok (.aload_n 0, 1) := by decide +kernel
theorem dX3_copyFrom_36 : decode cX3_copyFrom 36 = .ok (.aload_n 1, 1) := by decide +kernel
theorem dX3_copyFrom_37 : decode cX3_copyFrom 37 = .ok (.getfield 28, 3) := by decide +kernel
theorem dX3_copyFrom_40 : decode cX3_copyFrom 40 = .ok (.putfield 28, 3) := by decide +kernel
theorem dX3_copyFrom_43 : decode cX3_copyFrom 43 = .ok (.aload_n 0, 1) := by decide +kernel
theorem dX3_copyFrom_44 : decode cX3_copyFrom 44 = .ok (.aload_n 1, 1) := by decide +kernel
theorem dX3_copyFrom_45 : decode cX3_copyFrom 45 = .ok (.getfield 24, 3) := by decide +kernel
theorem dX3_copyFrom_48 : decode cX3_copyFrom 48 = .ok (.putfield 24, 3) := by decide +kernel
theorem dX3_copyFrom_51 : decode cX3_copyFrom 51 = .ok (.aload_n 0, 1) := by decide +kernel
theorem dX3_copyFrom_52 : decode cX3_copyFrom 52 = .ok (.aload_n 1, 1) := by decide +kernel
theorem dX3_copyFrom_53 : decode cX3_copyFrom 53 = .ok (.getfield 31, 3) := by decide +kernel
theorem dX3_copyFrom_56 : decode cX3_copyFrom 56 = .ok (.putfield 31, 3) := by decide +kernel
theorem dX3_copyFrom_59 : decode cX3_copyFrom 59 = .ok (.return_, 1) := by decide +kernel
theorem dX3_isCutBetween_0 : decode cX3_isCutBetween 0 = .ok (.aload_n 0, 1) := by decide +kernel
theorem dX3_isCutBetween_1 : decode cX3_isCutBetween 1 = .ok (.getfield 9, 3) := by decide +kernel
theorem dX3_isCutBetween_4 : decode cX3_isCutBetween 4 = .ok (.iload_n 1, 1) := by decide +kernel
theorem dX3_isCutBetween_5 : decode cX3_isCutBetween 5 = .ok (.iaload, 1) := by decide +kernel
theorem dX3_isCutBetween_6 : decode cX3_isCutBetween 6 = .ok (.iload_n 2, 1) := by decide +kernel
theorem dX3_isCutBetween_7 : decode cX3_isCutBetween 7 = .ok (.ishr, 1) := by decide +kernel
theorem dX3_isCutBetween_8 : decode cX3_isCutBetween 8 = .ok (.iconst 1, 1) := by decide +kernel
theorem dX3_isCutBetween_9 : decode cX3_isCutBetween 9 = .ok (.iand, 1) := by decide +kernel
theorem dX3_isCutBetween_10 : decode cX3_isCutBetween 10 = .ok (.ifCond .eq 7, 3) := by decide +kernel
theorem dX3_isCutBetween_13 : decode cX3_isCutBetween 13 = .ok (.iconst 1, 1) := by decide +kernel
theorem dX3_isCutBetween_14 : decode cX3_isCutBetween 14 = .ok (.goto 4, 3) := by decide +kernel
theorem dX3_isCutBetween_17 : decode cX3_isCutBetween 17 = .ok (.iconst 0, 1) := by decide +kernel
theorem dX3_isCutBetween_18 : decode cX3_isCutBetween 18 = .ok (.ireturn, 1) := by decide +kernel
theorem dX3_changeWay_0 : decode cX3_changeWay 0 = .ok (.aload_n 0, 1) := by decide +kernel
theorem dX3_changeWay_1 : decode cX3_changeWay 1 = .ok (.iload_n 1, 1) := by decide +kernel
theorem dX3_changeWay_2 : decode cX3_changeWay 2 = .ok (.iload_n 2, 1) := by decide +kernel
theorem dX3_changeWay_3 : decode cX3_changeWay 3 = .ok (.invokevirtual 34, 3) := by decide +kernel
theorem dX3_changeWay_6 : decode cX3_changeWay 6 = .ok (.iload_n 3, 1) := by decide +kernel
theorem dX3_changeWay_7 : decode cX3_changeWay 7 = .ok (.if_icmp .ne 4, 3) := by decide +kernel
theorem dX3_changeWay_10 : decode cX3_changeWay 10 = .ok (.return_, 1) := by decide +kernel
theorem dX3_changeWay_11 : decode cX3_changeWay 11 = .ok (.aload_n 0, 1) := by decide +kernel
theorem dX3_changeWay_12 : decode cX3_changeWay 12 = .ok (.getfield 9, 3) := by decide +kernel
theorem dX3_changeWay_15 : decode cX3_changeWay 15 = .ok (.iload_n 1, 1) := by decide +kernel
theorem dX3_changeWay_16 : decode cX3_changeWay 16 = .ok (.dup2, 1) := by decide +kernel
theorem dX3_changeWay_17 : decode cX3_changeWay 17 = .ok (.iaload, 1) := by decide +kernel
theorem dX3_changeWay_18 : decode cX3_changeWay 18 = .ok (.iconst 1, 1) := by decide +kernel
theorem dX3_changeWay_19 : decode cX3_changeWay 19 = .ok (.iload_n 2, 1) := by decide +kernel
theorem dX3_changeWay_20 : decode cX3_changeWay 20 = .ok (.ishl, 1) := by decide +kernel
theorem dX3_changeWay_21 : decode cX3_changeWay 21 = .ok (.ixor, 1) := by decide +kernel
theorem dX3_changeWay_22 : decode cX3_changeWay 22 = .ok (.iastore, 1) := by decide +kernel
theorem dX3_changeWay_23 : decode cX3_changeWay 23 = .ok (.aload_n 0, 1) := by decide +kernel
theorem dX3_changeWay_24 : decode cX3_changeWay 24 = .ok (.getfield 9, 3) := by decide +kernel
theorem dX3_changeWay_27 : decode cX3_changeWay 27 = .ok (.iload_n 2, 1) := by decide +kernel
theorem dX3_changeWay_28 : decode cX3_changeWay 28 = .ok (.dup2, 1) := by decide +kernel
theorem dX3_changeWay_29 : decode cX3_changeWay 29 = .ok (.iaload, 1) := by decide +kernel
theorem dX3_changeWay_30 : decode cX3_changeWay 30 = .ok (.iconst 1, 1) := by decide +kernel
theorem dX3_changeWay_31 : decode cX3_changeWay 31 = .ok (.iload_n 1, 1) := by decide +kernel
theorem dX3_changeWay_32 : decode cX3_changeWay 32 = .ok (.ishl, 1) := by decide +kernel
theorem dX3_changeWay_33 : decode cX3_changeWay 33 = .ok (.ixor, 1) := by decide +kernel
theorem dX3_changeWay_34 : decode cX3_changeWay 34 = .ok (.iastore, 1) := by decide +kernel
theorem dX3_changeWay_35 : decode cX3_changeWay 35 = .ok (.aload_n 0, 1) := by decide +kernel
theorem dX3_changeWay_36 : decode cX3_changeWay 36 = .ok (.dup, 1) := by decide +kernel
theorem dX3_changeWay_37 : decode cX3_changeWay 37 = .ok (.getfield 28, 3) := by decide +kernel
theorem dX3_changeWay_40 : decode cX3_changeWay 40 = .ok (.iload_n 3, 1) := by decide +kernel
theorem dX3_changeWay_41 : decode cX3_changeWay 41 = .ok (.ifCond .eq 7, 3) := by decide +kernel
theorem dX3_changeWay_44 : decode cX3_changeWay 44 = .ok (.iconst 1, 1) := by decide +kernel
theorem dX3_changeWay_45 : decode cX3_changeWay 45 = .ok (.goto 4, 3) := by decide +kernel
theorem dX3_changeWay_48 : decode cX3_changeWay 48 = .ok (.iconst (-1), 1) := by decide +kernel
theorem dX3_changeWay_49 : decode cX3_changeWay 49 = .ok (.iadd, 1) := by decide +kernel
theorem dX3_changeWay_50 : decode cX3_changeWay 50 = .ok (.putfield 28, 3) := by decide +kernel
theorem dX3_changeWay_53 : decode cX3_changeWay 53 = .ok (.return_, 1) := by decide +kernel
theorem dX3_send_0 : decode cX3_send 0 = .ok (.aload_n 0, 1) := by decide +kernel
theorem dX3_send_1 : decode cX3_send 1 = .ok (.getfield 24, 3) := by decide +kernel
theorem dX3_send_4 : decode cX3_send 4 = .ok (.sipush 150, 3) := by decide +kernel
theorem dX3_send_7 : decode cX3_send 7 = .ok (.if_icmp .ge 18, 3) := by decide +kernel
theorem dX3_send_10 : decode cX3_send 10 = .ok (.aload_n 0, 1) := by decide +kernel
theorem dX3_send_11 : decode cX3_send 11 = .ok (.aload_n 2, 1) := by decide +kernel
theorem dX3_send_12 : decode cX3_send 12 = .ok (.getfield 38, 3) := by decide +kernel
theorem dX3_send_15 : decode cX3_send 15 = .ok (.aload_n 3, 1) := by decide +kernel
theorem dX3_send_16 : decode cX3_send 16 = .ok (.getfield 38, 3) := by decide +kernel
theorem dX3_send_19 : decode cX3_send 19 = .ok (.invokevirtual 34, 3) := by decide +kernel
theorem dX3_send_22 : decode cX3_send 22 = .ok (.ifCond .eq 14, 3) := by decide +kernel
theorem dX3_send_25 : decode cX3_send 25 = .ok (.aload_n 0, 1) := by decide +kernel
theorem dX3_send_26 : decode cX3_send 26 = .ok (.dup, 1) := by decide +kernel
theorem dX3_send_27 : decode cX3_send 27 = .ok (.getfield 31, 3) := by decide +kernel
theorem dX3_send_30 : decode cX3_send 30 = .ok (.iconst 1, 1) := by decide +kernel
theorem dX3_send_31 : decode cX3_send 31 = .ok (.iadd, 1) := by decide +kernel
theorem dX3_send_32 : decode cX3_send 32 = .ok (.putfield 31, 3) := by decide +kernel
theorem dX3_send_35 : decode cX3_send 35 = .ok (.return_, 1) := by decide +kernel
theorem dX3_send_36 : decode cX3_send 36 = .ok (.iload 4, 2) := by decide +kernel
theorem dX3_send_38 : decode cX3_send 38 = .ok (.iconst 1, 1) := by decide +kernel
theorem dX3_send_39 : decode cX3_send 39 = .ok (.iadd, 1) := by decide +kernel
theorem dX3_send_40 : decode cX3_send 40 = .ok (.aload_n 2, 1) := by decide +kernel
theorem dX3_send_41 : decode cX3_send 41 = .ok (.getfield 43, 3) := by decide +kernel
theorem dX3_send_44 : decode cX3_send 44 = .ok (.aload_n 3, 1) := by decide +kernel
theorem dX3_send_45 : decode cX3_send 45 = .ok (.getfield 43, 3) := by decide +kernel
theorem dX3_send_48 : decode cX3_send 48 = .ok (.isub, 1) := by decide +kernel
theorem dX3_send_49 : decode cX3_send 49 = .ok (.invokestatic 46, 3) := by decide +kernel
theorem dX3_send_52 : decode cX3_send 52 = .ok (.iadd, 1) := by decide +kernel
theorem dX3_send_53 : decode cX3_send 53 = .ok (.istore 7, 2) := by decide +kernel
theorem dX3_send_55 : decode cX3_send 55 = .ok (.aload_n 0, 1) := by decide +kernel
theorem dX3_send_56 : decode cX3_send 56 = .ok (.getfield 24, 3) := by decide +kernel
theorem dX3_send_59 : decode cX3_send 59 = .ok (.istore 8, 2) := by decide +kernel
theorem dX3_send_61 : decode cX3_send 61 = .ok (.iload 8, 2) := by decide +kernel
theorem dX3_send_63 : decode cX3_send 63 = .ok (.ifCond .le 28, 3) := by decide +kernel
theorem dX3_send_66 : decode cX3_send 66 = .ok (.aload_n 0, 1) := by decide +kernel
theorem dX3_send_67 : decode cX3_send 67 = .ok (.getfield 15, 3) := by decide +kernel
theorem dX3_send_70 : decode cX3_send 70 = .ok (.iload 8, 2) := by decide +kernel
theorem dX3_send_72 : decode cX3_send 72 = .ok (.iconst 1, 1) := by decide +kernel
theorem dX3_send_73 : decode cX3_send 73 = .ok (.isub, 1) := by decide +kernel
theorem dX3_send_74 : decode cX3_send 74 = .ok (.bipush 9, 2) := by decide +kernel
theorem dX3_send_76 : decode cX3_send 76 = .ok (.imul, 1) := by decide +kernel
theorem dX3_send_77 : decode cX3_send 77 = .ok (.iconst 3, 1) := by decide +kernel
theorem dX3_send_78 : decode cX3_send 78 = .ok (.iadd, 1) := by decide +kernel
theorem dX3_send_79 : decode cX3_send 79 = .ok (.iaload, 1) := by decide +kernel
theorem dX3_send_80 : decode cX3_send 80 = .ok (.iload 7, 2) := by decide +kernel
theorem dX3_send_82 : decode cX3_send 82 = .ok (.if_icmp .le 9, 3) := by decide +kernel
theorem dX3_send_85 : decode cX3_send 85 = .ok (.iinc 8 (-1), 3) := by decide +kernel
theorem dX3_send_88 : decode cX3_send 88 = .ok (.goto (-27), 3) := by decide +kernel
theorem dX3_send_91 : decode cX3_send 91 = .ok (.iload 8, 2) := by decide +kernel
theorem dX3_send_93 : decode cX3_send 93 = .ok (.bipush 9, 2) := by decide +kernel
theorem dX3_send_95 : decode cX3_send 95 = .ok (.imul, 1) := by decide +kernel
theorem dX3_send_96 : decode cX3_send 96 = .ok (.istore 9, 2) := by decide +kernel
theorem dX3_send_98 : decode cX3_send 98 = .ok (.aload_n 0, 1) := by decide +kernel
theorem dX3_send_99 : decode cX3_send 99 = .ok (.getfield 15, 3) := by decide +kernel
theorem dX3_send_102 : decode cX3_send 102 = .ok (.iload 9, 2) := by decide +kernel
theorem dX3_send_104 : decode cX3_send 104 = .ok (.aload_n 0, 1) := by decide +kernel
theorem dX3_send_105 : decode cX3_send 105 = .ok (.getfield 15, 3) := by decide +kernel
theorem dX3_send_108 : decode cX3_send 108 = .ok (.iload 9, 2) := by decide +kernel
theorem dX3_send_110 : decode cX3_send 110 = .ok (.bipush 9, 2) := by decide +kernel
theorem dX3_send_112 : decode cX3_send 112 = .ok (.iadd, 1) := by decide +kernel
theorem dX3_send_113 : decode cX3_send 113 = .ok (.aload_n 0, 1) := by decide +kernel
theorem dX3_send_114 : decode cX3_send 114 = .ok (.getfield 24, 3) := by decide +kernel
theorem dX3_send_117 : decode cX3_send 117 = .ok (.iload 8, 2) := by decide +kernel
theorem dX3_send_119 : decode cX3_send 119 = .ok (.isub, 1) := by decide +kernel
theorem dX3_send_120 : decode cX3_send 120 = .ok (.bipush 9, 2) := by decide +kernel
theorem dX3_send_122 : decode cX3_send 122 = .ok (.imul, 1) := by decide +kernel
theorem dX3_send_123 : decode cX3_send 123 = .ok (.invokestatic 18, 3) := by decide +kernel
theorem dX3_send_126 : decode cX3_send 126 = .ok (.aload_n 0, 1) := by decide +kernel
theorem dX3_send_127 : decode cX3_send 127 = .ok (.getfield 15, 3) := by decide +kernel
theorem dX3_send_130 : decode cX3_send 130 = .ok (.iload 9, 2) := by decide +kernel
theorem dX3_send_132 : decode cX3_send 132 = .ok (.iconst 0, 1) := by decide +kernel
theorem dX3_send_133 : decode cX3_send 133 = .ok (.iadd, 1) := by decide +kernel
theorem dX3_send_134 : decode cX3_send 134 = .ok (.iload_n 1, 1) := by decide +kernel
theorem dX3_send_135 : decode cX3_send 135 = .ok (.iastore, 1) := by decide +kernel
theorem dX3_send_136 : decode cX3_send 136 = .ok (.aload_n 0, 1) := by decide +kernel
theorem dX3_send_137 : decode cX3_send 137 = .ok (.getfield 15, 3) := by decide +kernel
theorem dX3_send_140 : decode cX3_send 140 = .ok (.iload 9, 2) := by decide +kernel
theorem dX3_send_142 : decode cX3_send 142 = .ok (.iconst 1, 1) := by decide +kernel
theorem dX3_send_143 : decode cX3_send 143 = .ok (.iadd, 1) := by decide +kernel
theorem dX3_send_144 : decode cX3_send 144 = .ok (.aload_n 2, 1) := by decide +kernel
theorem dX3_send_145 : decode cX3_send 145 = .ok (.getfield 38, 3) := by decide +kernel
theorem dX3_send_148 : decode cX3_send 148 = .ok (.iastore, 1) := by decide +kernel
theorem dX3_send_149 : decode cX3_send 149 = .ok (.aload_n 0, 1) := by decide +kernel
theorem dX3_send_150 : decode cX3_send 150 = .ok (.getfield 15, 3) := by decide +kernel
theorem dX3_send_153 : decode cX3_send 153 = .ok (.iload 9, 2) := by decide +kernel
theorem dX3_send_155 : decode cX3_send 155 = .ok (.iconst 2, 1) := by decide +kernel
theorem dX3_send_156 : decode cX3_send 156 = .ok (.iadd, 1) := by decide +kernel
theorem dX3_send_157 : decode cX3_send 157 = .ok (.aload_n 3, 1) := by decide +kernel
theorem dX3_send_158 : decode cX3_send 158 = .ok (.getfield 38, 3) := by decide +kernel
theorem dX3_send_161 : decode cX3_send 161 = .ok (.iastore, 1) := by decide +kernel
theorem dX3_send_162 : decode cX3_send 162 = .ok (.aload_n 0, 1) := by decide +kernel
theorem dX3_send_163 : decode cX3_send 163 = .ok (.getfield 15, 3) := by decide +kernel
theorem dX3_send_166 : decode cX3_send 166 = .ok (.iload 9, 2) := by decide +kernel
theorem dX3_send_168 : decode cX3_send 168 = .ok (.iconst 3, 1) := by decide +kernel
theorem dX3_send_169 : decode cX3_send 169 = .ok (.iadd, 1) := by decide +kernel
theorem dX3_send_170 : decode cX3_send 170 = .ok (.iload 7, 2) := by decide +kernel
theorem dX3_send_172 : decode cX3_send 172 = .ok (.iastore, 1) := by decide +kernel
theorem dX3_send_173 : decode cX3_send 173 = .ok (.aload_n 0, 1) := by decide +kernel
theorem dX3_send_174 : decode cX3_send 174 = .ok (.getfield 15, 3) := by decide +kernel
theorem dX3_send_177 : decode cX3_send 177 = .ok (.iload 9, 2) := by decide +kernel
theorem dX3_send_179 : decode cX3_send 179 = .ok (.iconst 4, 1) := by decide +kernel
theorem dX3_send_180 : decode cX3_send 180 = .ok (.iadd, 1) := by decide +kernel
theorem dX3_send_181 : decode cX3_send 181 = .ok (.iload 5, 2) := by decide +kernel
theorem dX3_send_183 : decode cX3_send 183 = .ok (.iastore, 1) := by decide +kernel
theorem dX3_send_184 : decode cX3_send 184 = .ok (.aload_n 0, 1) := by decide +kernel
theorem dX3_send_185 : decode cX3_send 185 = .ok (.getfield 15, 3) := by decide +kernel
theorem dX3_send_188 : decode cX3_send 188 = .ok (.iload 9, 2) := by decide +kernel
theorem dX3_send_190 : decode cX3_send 190 = .ok (.iconst 5, 1) := by decide +kernel
theorem dX3_send_191 : decode cX3_send 191 = .ok (.iadd, 1) := by decide +kernel
theorem dX3_send_192 : decode cX3_send 192 = .ok (.iload 6, 2) := by decide +kernel
theorem dX3_send_194 : decode cX3_send 194 = .ok (.iastore, 1) := by decide +kernel
theorem dX3_send_195 : decode cX3_send 195 = .ok (.aload_n 0, 1) := by decide +kernel
theorem dX3_send_196 : decode cX3_send 196 = .ok (.getfield 15, 3) := by decide +kernel

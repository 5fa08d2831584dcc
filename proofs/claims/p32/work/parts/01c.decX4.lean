theorem dX4_init_0 : decode cX4_init 0 = .ok (.aload_n 0, 1) := by decide +kernel
theorem dX4_init_1 : decode cX4_init 1 = .ok (.invokespecial 3, 3) := by decide +kernel
theorem dX4_init_4 : decode cX4_init 4 = .ok (.aload_n 0, 1) := by decide +kernel
theorem dX4_init_5 : decode cX4_init 5 = .ok (.bipush 20, 2) := by decide +kernel
theorem dX4_init_7 : decode cX4_init 7 = .ok (.newarray .int, 2) := by decide +kernel
theorem dX4_init_9 : decode cX4_init 9 = .ok (.putfield 9, 3) := by decide +kernel
theorem dX4_init_12 : decode cX4_init 12 = .ok (.aload_n 0, 1) := by decide +kernel
theorem dX4_init_13 : decode cX4_init 13 = .ok (.bipush 20, 2) := by decide +kernel
theorem dX4_init_15 : decode cX4_init 15 = .ok (.newarray .int, 2) := by decide +kernel
theorem dX4_init_17 : decode cX4_init 17 = .ok (.putfield 15, 3) := by decide +kernel
theorem dX4_init_20 : decode cX4_init 20 = .ok (.aload_n 0, 1) := by decide +kernel
theorem dX4_init_21 : decode cX4_init 21 = .ok (.bipush 20, 2) := by decide +kernel
theorem dX4_init_23 : decode cX4_init 23 = .ok (.newarray .int, 2) := by decide +kernel
theorem dX4_init_25 : decode cX4_init 25 = .ok (.putfield 18, 3) := by decide +kernel
theorem dX4_init_28 : decode cX4_init 28 = .ok (.aload_n 0, 1) := by decide +kernel
theorem dX4_init_29 : decode cX4_init 29 = .ok (.bipush 20, 2) := by decide +kernel
theorem dX4_init_31 : decode cX4_init 31 = .ok (.newarray .int, 2) := by decide +kernel
theorem dX4_init_33 : decode cX4_init 33 = .ok (.putfield 21, 3) := by decide +kernel
theorem dX4_init_36 : decode cX4_init 36 = .ok (.aload_n 0, 1) := by decide +kernel
theorem dX4_init_37 : decode cX4_init 37 = .ok (.bipush 20, 2) := by decide +kernel
theorem dX4_init_39 : decode cX4_init 39 = .ok (.newarray .int, 2) := by decide +kernel
theorem dX4_init_41 : decode cX4_init 41 = .ok (.putfield 24, 3) := by decide +kernel
theorem dX4_init_44 : decode cX4_init 44 = .ok (.aload_n 0, 1) := by decide +kernel
theorem dX4_init_45 : decode cX4_init 45 = .ok (.sipush 240, 3) := by decide +kernel
theorem dX4_init_48 : decode cX4_init 48 = .ok (.newarray .int, 2) := by decide +kernel
theorem dX4_init_50 : decode cX4_init 50 = .ok (.putfield 27, 3) := by decide +kernel
theorem dX4_init_53 : decode cX4_init 53 = .ok (.aload_n 0, 1) := by decide +kernel
theorem dX4_init_54 : decode cX4_init 54 = .ok (.sipush 240, 3) := by decide +kernel
theorem dX4_init_57 : decode cX4_init 57 = .ok (.newarray .int, 2) := by decide +kernel
theorem dX4_init_59 : decode cX4_init 59 = .ok (.putfield 30, 3) := by decide +kernel
theorem dX4_init_62 : decode cX4_init 62 = .ok (.aload_n 0, 1) := by decide +kernel
theorem dX4_init_63 : decode cX4_init 63 = .ok (.sipush 240, 3) := by decide +kernel
theorem dX4_init_66 : decode cX4_init 66 = .ok (.newarray .int, 2) := by decide +kernel
theorem dX4_init_68 : decode cX4_init 68 = .ok (.putfield 33, 3) := by decide +kernel
theorem dX4_init_71 : decode cX4_init 71 = .ok (.return_, 1) := by decide +kernel
theorem dX4_copyFrom_0 : decode cX4_copyFrom 0 = .ok (.aload_n 0, 1) := by decide +kernel
theorem dX4_copyFrom_1 : decode cX4_copyFrom 1 = .ok (.aload_n 1, 1) := by decide +kernel
theorem dX4_copyFrom_2 : decode cX4_copyFrom 2 = .ok (.getfield 36, 3) := by decide +kernel
theorem dX4_copyFrom_5 : decode cX4_copyFrom 5 = .ok (.putfield 36, 3) := by decide +kernel
theorem dX4_copyFrom_8 : decode cX4_copyFrom 8 = .ok (.aload_n 1, 1) := by decide +kernel
theorem dX4_copyFrom_9 : decode cX4_copyFrom 9 = .ok (.getfield 9, 3) := by decide +kernel
theorem dX4_copyFrom_12 : decode cX4_copyFrom 12 = .ok (.aload_n 0, 1) := by decide +kernel
theorem dX4_copyFrom_13 : decode cX4_copyFrom 13 = .ok (.getfield 9, 3) := by decide +kernel
theorem dX4_copyFrom_16 : decode cX4_copyFrom 16 = .ok (.invokestatic 40, 3) := by decide +kernel
theorem dX4_copyFrom_19 : decode cX4_copyFrom 19 = .ok (.aload_n 1, 1) := by decide +kernel
theorem dX4_copyFrom_20 : decode cX4_copyFrom 20 = .ok (.getfield 15, 3) := by decide +kernel
theorem dX4_copyFrom_23 : decode cX4_copyFrom 23 = .ok (.aload_n 0, 1) := by decide +kernel
theorem dX4_copyFrom_24 : decode cX4_copyFrom 24 = .ok (.getfield 15, 3) := by decide +kernel
theorem dX4_copyFrom_27 : decode cX4_copyFrom 27 = .ok (.invokestatic 40, 3) := by decide +kernel
theorem dX4_copyFrom_30 : decode cX4_copyFrom 30 = .ok (.aload_n 1, 1) := by decide +kernel
theorem dX4_copyFrom_31 : decode cX4_copyFrom 31 = .ok (.getfield 18, 3) := by decide +kernel
theorem dX4_copyFrom_34 : decode cX4_copyFrom 34 = .ok (.aload_n 0, 1) := by decide +kernel
theorem dX4_copyFrom_35 : decode cX4_copyFrom 35 = .ok (.getfield 18, 3) := by decide +kernel
theorem dX4_copyFrom_38 : decode cX4_copyFrom 38 = .ok (.invokestatic 40, 3) := by decide +kernel
theorem dX4_copyFrom_41 : decode cX4_copyFrom 41 = .ok (.aload_n 1, 1) := by decide +kernel
theorem dX4_copyFrom_42 : decode cX4_copyFrom 42 = .ok (.getfield 21, 3) := by decide +kernel
theorem dX4_copyFrom_45 : decode cX4_copyFrom 45 = .ok (.aload_n 0, 1) := by decide +kernel
theorem dX4_copyFrom_46 : decode cX4_copyFrom 46 = .ok (.getfield 21, 3) := by decide +kernel
theorem dX4_copyFrom_49 : decode cX4_copyFrom 49 = .ok (.invokestatic 40, 3) := by decide +kernel
theorem dX4_copyFrom_52 : decode cX4_copyFrom 52 = .ok (.aload_n 1, 1) := by decide +kernel
theorem dX4_copyFrom_53 : decode cX4_copyFrom 53 = .ok (.getfield 24, 3) := by decide +kernel
theorem dX4_copyFrom_56 : decode cX4_copyFrom 56 = .ok (.aload_n 0, 1) := by decide +kernel
theorem dX4_copyFrom_57 : decode cX4_copyFrom 57 = .ok (.getfield 24, 3) := by decide +kernel
theorem dX4_copyFrom_60 : decode cX4_copyFrom 60 = .ok (.invokestatic 40, 3) := by decide +kernel
theorem dX4_copyFrom_63 : decode cX4_copyFrom 63 = .ok (.aload_n 1, 1) := by decide +kernel
theorem dX4_copyFrom_64 : decode cX4_copyFrom 64 = .ok (.getfield 27, 3) := by decide +kernel
theorem dX4_copyFrom_67 : decode cX4_copyFrom 67 = .ok (.aload_n 0, 1) := by decide +kernel
theorem dX4_copyFrom_68 : decode cX4_copyFrom 68 = .ok (.getfield 27, 3) := by decide +kernel
theorem dX4_copyFrom_71 : decode cX4_copyFrom 71 = .ok (.invokestatic 40, 3) := by decide +kernel
theorem dX4_copyFrom_74 : decode cX4_copyFrom 74 = .ok (.aload_n 1, 1) := by decide +kernel
theorem dX4_copyFrom_75 : decode cX4_copyFrom 75 = .ok (.getfield 30, 3) := by decide +kernel
theorem dX4_copyFrom_78 : decode cX4_copyFrom 78 = .ok (.aload_n 0, 1) := by decide +kernel
theorem dX4_copyFrom_79 : decode cX4_copyFrom 79 = .ok (.getfield 30, 3) := by decide +kernel
theorem dX4_copyFrom_82 : decode cX4_copyFrom 82 = .ok (.invokestatic 40, 3) := by decide +kernel
theorem dX4_copyFrom_85 : decode cX4_copyFrom 85 = .ok (.aload_n 1, 1) := by decide +kernel
theorem dX4_copyFrom_86 : decode cX4_copyFrom 86 = .ok (.getfield 33, 3) := by decide +kernel
theorem dX4_copyFrom_89 : decode cX4_copyFrom 89 = .ok (.aload_n 0, 1) := by decide +kernel
theorem dX4_copyFrom_90 : decode cX4_copyFrom 90 = .ok (.getfield 33, 3) := by decide +kernel
theorem dX4_copyFrom_93 : decode cX4_copyFrom 93 = .ok (.invokestatic 40, 3) := by decide +kernel
theorem dX4_copyFrom_96 : decode cX4_copyFrom 96 = .ok (.return_, 1) := by decide +kernel
theorem dX4_begin_0 : decode cX4_begin 0 = .ok (.aload_n 0, 1) := by decide +kernel
theorem dX4_begin_1 : decode cX4_begin 1 = .ok (.getfield 36, 3) := by decide +kernel
theorem dX4_begin_4 : decode cX4_begin 4 = .ok (.istore_n 3, 1) := by decide +kernel
theorem dX4_begin_5 : decode cX4_begin 5 = .ok (.aload_n 0, 1) := by decide +kernel
theorem dX4_begin_6 : decode cX4_begin 6 = .ok (.getfield 9, 3) := by decide +kernel
theorem dX4_begin_9 : decode cX4_begin 9 = .ok (.iload_n 3, 1) := by decide +kernel
theorem dX4_begin_10 : decode cX4_begin 10 = .ok (.iload_n 1, 1) := by decide +kernel
theorem dX4_begin_11 : decode cX4_begin 11 = .ok (.iastore, 1) := by decide +kernel
theorem dX4_begin_12 : decode cX4_begin 12 = .ok (.aload_n 0, 1) := by decide +kernel
theorem dX4_begin_13 : decode cX4_begin 13 = .ok (.getfield 15, 3) := by decide +kernel
theorem dX4_begin_16 : decode cX4_begin 16 = .ok (.iload_n 3, 1) := by decide +kernel
theorem dX4_begin_17 : decode cX4_begin 17 = .ok (.iload_n 2, 1) := by decide +kernel
theorem dX4_begin_18 : decode cX4_begin 18 = .ok (.iastore, 1) := by decide +kernel
theorem dX4_begin_19 : decode cX4_begin 19 = .ok (.aload_n 0, 1) := by decide +kernel
theorem dX4_begin_20 : decode cX4_begin 20 = .ok (.getfield 21, 3) := by decide +kernel
theorem dX4_begin_23 : decode cX4_begin 23 = .ok (.iload_n 3, 1) := by decide +kernel
theorem dX4_begin_24 : decode cX4_begin 24 = .ok (.iconst 1, 1) := by decide +kernel
theorem dX4_begin_25 : decode cX4_begin 25 = .ok (.iastore, 1) := by decide +kernel
theorem dX4_begin_26 : decode cX4_begin 26 = .ok (.aload_n 0, 1) := by decide +kernel
theorem dX4_begin_27 : decode cX4_begin 27 = .ok (.getfield 27, 3) := by decide +kernel
theorem dX4_begin_30 : decode cX4_begin 30 = .ok (.iload_n 3, 1) := by decide +kernel
theorem dX4_begin_31 : decode cX4_begin 31 = .ok (.iload_n 1, 1) := by decide +kernel
theorem dX4_begin_32 : decode cX4_begin 32 = .ok (.invokestatic 44, 3) := by decide +kernel
theorem dX4_begin_35 : decode cX4_begin 35 = .ok (.iconst 1, 1) := by decide +kernel
theorem dX4_begin_36 : decode cX4_begin 36 = .ok (.iastore, 1) := by decide +kernel
theorem dX4_begin_37 : decode cX4_begin 37 = .ok (.aload_n 0, 1) := by decide +kernel
theorem dX4_begin_38 : decode cX4_begin 38 = .ok (.iload_n 3, 1) := by decide +kernel
theorem dX4_begin_39 : decode cX4_begin 39 = .ok (.iconst 1, 1) := by decide +kernel
theorem dX4_begin_40 : decode cX4_begin 40 = .ok (.iadd, 1) := by decide +kernel
theorem dX4_begin_41 : decode cX4_begin 41 = .ok (.putfield 36, 3) := by decide +kernel
theorem dX4_begin_44 : decode cX4_begin 44 = .ok (.iload_n 3, 1) := by decide +kernel
theorem dX4_begin_45 : decode cX4_begin 45 = .ok (.ireturn, 1) := by decide +kernel
theorem dX4_allParts_0 : decode cX4_allParts 0 = .ok (.aload_n 0, 1) := by decide +kernel
theorem dX4_allParts_1 : decode cX4_allParts 1 = .ok (.getfield 27, 3) := by decide +kernel
theorem dX4_allParts_4 : decode cX4_allParts 4 = .ok (.iload_n 1, 1) := by decide +kernel
theorem dX4_allParts_5 : decode cX4_allParts 5 = .ok (.invokestatic 48, 3) := by decide +kernel
theorem dX4_allParts_8 : decode cX4_allParts 8 = .ok (.ireturn, 1) := by decide +kernel
theorem dX4_allDrafts_0 : decode cX4_allDrafts 0 = .ok (.aload_n 0, 1) := by decide +kernel
theorem dX4_allDrafts_1 : decode cX4_allDrafts 1 = .ok (.getfield 30, 3) := by decide +kernel
theorem dX4_allDrafts_4 : decode cX4_allDrafts 4 = .ok (.iload_n 1, 1) := by decide +kernel
theorem dX4_allDrafts_5 : decode cX4_allDrafts 5 = .ok (.invokestatic 48, 3) := by decide +kernel
theorem dX4_allDrafts_8 : decode cX4_allDrafts 8 = .ok (.ireturn, 1) := by decide +kernel
theorem dX4_draftsBy_0 : decode cX4_draftsBy 0 = .ok (.iconst 0, 1) := by decide +kernel
theorem dX4_draftsBy_1 : decode cX4_draftsBy 1 = .ok (.istore_n 2, 1) := by decide +kernel
theorem dX4_draftsBy_2 : decode cX4_draftsBy 2 = .ok (.iconst 0, 1) := by decide +kernel
theorem dX4_draftsBy_3 : decode cX4_draftsBy 3 = .ok (.istore_n 3, 1) := by decide +kernel
theorem dX4_draftsBy_4 : decode cX4_draftsBy 4 = .ok (.iload_n 3, 1) := by decide +kernel
theorem dX4_draftsBy_5 : decode cX4_draftsBy 5 = .ok (.aload_n 0, 1) := by decide +kernel
theorem dX4_draftsBy_6 : decode cX4_draftsBy 6 = .ok (.getfield 36, 3) := by decide +kernel
theorem dX4_draftsBy_9 : decode cX4_draftsBy 9 = .ok (.if_icmp .ge 22, 3) := by decide +kernel
theorem dX4_draftsBy_12 : decode cX4_draftsBy 12 = .ok (.iload_n 2, 1) := by decide +kernel
theorem dX4_draftsBy_13 : decode cX4_draftsBy 13 = .ok (.aload_n 0, 1) := by decide +kernel
theorem dX4_draftsBy_14 : decode cX4_draftsBy 14 = .ok (.getfield 30, 3) := by decide +kernel
theorem dX4_draftsBy_17 : decode cX4_draftsBy 17 = .ok (.iload_n 3, 1) := by decide +kernel
theorem dX4_draftsBy_18 : decode cX4_draftsBy 18 = .ok (.iload_n 1, 1) := by decide +kernel
theorem dX4_draftsBy_19 : decode cX4_draftsBy 19 = .ok (.invokestatic 44, 3) := by decide +kernel
theorem dX4_draftsBy_22 : decode cX4_draftsBy 22 = .ok (.iaload, 1) := by decide +kernel
theorem dX4_draftsBy_23 : decode cX4_draftsBy 23 = .ok (.iadd, 1) := by decide +kernel
theorem dX4_draftsBy_24 : decode cX4_draftsBy 24 = .ok (.istore_n 2, 1) := by decide +kernel
theorem dX4_draftsBy_25 : decode cX4_draftsBy 25 = .ok (.iinc 3 1, 3) := by decide +kernel
theorem dX4_draftsBy_28 : decode cX4_draftsBy 28 = .ok (.goto (-24), 3) := by decide +kernel
theorem dX4_draftsBy_31 : decode cX4_draftsBy 31 = .ok (.iload_n 2, 1) := by decide +kernel
theorem dX4_draftsBy_32 : decode cX4_draftsBy 32 = .ok (.ireturn, 1) := by decide +kernel
theorem dX4_sharers_0 : decode cX4_sharers 0 = .ok (.iconst 0, 1) := by decide +kernel
theorem dX4_sharers_1 : decode cX4_sharers 1 = .ok (.istore_n 2, 1) := by decide +kernel
theorem dX4_sharers_2 : decode cX4_sharers 2 = .ok (.iconst 0, 1) := by decide +kernel
theorem dX4_sharers_3 : decode cX4_sharers 3 = .ok (.istore_n 3, 1) := by decide +kernel
theorem dX4_sharers_4 : decode cX4_sharers 4 = .ok (.iload_n 3, 1) := by decide +kernel
theorem dX4_sharers_5 : decode cX4_sharers 5 = .ok (.bipush 12, 2) := by decide +kernel
theorem dX4_sharers_7 : decode cX4_sharers 7 = .ok (.if_icmp .ge 30, 3) := by decide +kernel
theorem dX4_sharers_10 : decode cX4_sharers 10 = .ok (.iload_n 2, 1) := by decide +kernel
theorem dX4_sharers_11 : decode cX4_sharers 11 = .ok (.aload_n 0, 1) := by decide +kernel
theorem dX4_sharers_12 : decode cX4_sharers 12 = .ok (.getfield 27, 3) := by decide +kernel
theorem dX4_sharers_15 : decode cX4_sharers 15 = .ok (.iload_n 1, 1) := by decide +kernel
theorem dX4_sharers_16 : decode cX4_sharers 16 = .ok (.iload_n 3, 1) := by decide +kernel
theorem dX4_sharers_17 : decode cX4_sharers 17 = .ok (.invokestatic 44, 3) := by decide +kernel
theorem dX4_sharers_20 : decode cX4_sharers 20 = .ok (.iaload, 1) := by decide +kernel
theorem dX4_sharers_21 : decode cX4_sharers 21 = .ok (.ifCond .le 7, 3) := by decide +kernel
theorem dX4_sharers_24 : decode cX4_sharers 24 = .ok (.iconst 1, 1) := by decide +kernel
theorem dX4_sharers_25 : decode cX4_sharers 25 = .ok (.goto 4, 3) := by decide +kernel
theorem dX4_sharers_28 : decode cX4_sharers 28 = .ok (.iconst 0, 1) := by decide +kernel
theorem dX4_sharers_29 : decode cX4_sharers 29 = .ok (.iadd, 1) := by decide +kernel
theorem dX4_sharers_30 : decode cX4_sharers 30 = .ok (.istore_n 2, 1) := by decide +kernel
theorem dX4_sharers_31 : decode cX4_sharers 31 = .ok (.iinc 3 1, 3) := by decide +kernel
theorem dX4_sharers_34 : decode cX4_sharers 34 = .ok (.goto (-30), 3) := by decide +kernel
theorem dX4_sharers_37 : decode cX4_sharers 37 = .ok (.iload_n 2, 1) := by decide +kernel
theorem dX4_sharers_38 : decode cX4_sharers 38 = .ok (.ireturn, 1) := by decide +kernel
theorem dX4_inStage_0 : decode cX4_inStage 0 = .ok (.iconst 0, 1) := by decide +kernel
theorem dX4_inStage_1 : decode cX4_inStage 1 = .ok (.istore_n 2, 1) := by decide +kernel
theorem dX4_inStage_2 : decode cX4_inStage 2 = .ok (.iconst 0, 1) := by decide +kernel
theorem dX4_inStage_3 : decode cX4_inStage 3 = .ok (.istore_n 3, 1) := by decide +kernel
theorem dX4_inStage_4 : decode cX4_inStage 4 = .ok (.iload_n 3, 1) := by decide +kernel
theorem dX4_inStage_5 : decode cX4_inStage 5 = .ok (.aload_n 0, 1) := by decide +kernel
theorem dX4_inStage_6 : decode cX4_inStage 6 = .ok (.getfield 36, 3) := by decide +kernel
theorem dX4_inStage_9 : decode cX4_inStage 9 = .ok (.if_icmp .ge 27, 3) := by decide +kernel
theorem dX4_inStage_12 : decode cX4_inStage 12 = .ok (.iload_n 2, 1) := by decide +kernel
theorem dX4_inStage_13 : decode cX4_inStage 13 = .ok (.aload_n 0, 1) := by decide +kernel
theorem dX4_inStage_14 : decode cX4_inStage 14 = .ok (.getfield 18, 3) := by decide +kernel
theorem dX4_inStage_17 : decode cX4_inStage 17 = .ok (.iload_n 3, 1) := by decide +kernel
theorem dX4_inStage_18 : decode cX4_inStage 18 = .ok (.iaload, 1) := by decide +kernel
theorem dX4_inStage_19 : decode cX4_inStage 19 = .ok (.iload_n 1, 1) := by decide +kernel
theorem dX4_inStage_20 : decode cX4_inStage 20 = .ok (.if_icmp .ne 7, 3) := by decide +kernel
theorem dX4_inStage_23 : decode cX4_inStage 23 = .ok (.iconst 1, 1) := by decide +kernel
theorem dX4_inStage_24 : decode cX4_inStage 24 = .ok (.goto 4, 3) := by decide +kernel
theorem dX4_inStage_27 : decode cX4_inStage 27 = .ok (.iconst 0, 1) := by decide +kernel
theorem dX4_inStage_28 : decode cX4_inStage 28 = .ok (.iadd, 1) := by decide +kernel
theorem dX4_inStage_29 : decode cX4_inStage 29 = .ok (.istore_n 2, 1) := by decide +kernel
theorem dX4_inStage_30 : decode cX4_inStage 30 = .ok (.iinc 3 1, 3) := by decide +kernel
theorem dX4_inStage_33 : decode cX4_inStage 33 = .ok (.goto (-29), 3) := by decide +kernel
theorem dX4_inStage_36 : decode cX4_inStage 36 = .ok (.iload_n 2, 1) := by decide +kernel
theorem dX4_inStage_37 : decode cX4_inStage 37 = .ok (.ireturn, 1) := by decide +kernel
theorem dX4_disputers_0 : decode cX4_disputers 0 = .ok (.aload_n 0, 1) := by decide +kernel
theorem dX4_disputers_1 : decode cX4_disputers 1 = .ok (.getfield 18, 3) := by decide +kernel
theorem dX4_disputers_4 : decode cX4_disputers 4 = .ok (.iload_n 1, 1) := by decide +kernel
theorem dX4_disputers_5 : decode cX4_disputers 5 = .ok (.iaload, 1) := by decide +kernel
theorem dX4_disputers_6 : decode cX4_disputers 6 = .ok (.iconst 4, 1) := by decide +kernel
theorem dX4_disputers_7 : decode cX4_disputers 7 = .ok (.if_icmp .ne 5, 3) := by decide +kernel
theorem dX4_disputers_10 : decode cX4_disputers 10 = .ok (.iconst 0, 1) := by decide +kernel
theorem dX4_disputers_11 : decode cX4_disputers 11 = .ok (.ireturn, 1) := by decide +kernel
theorem dX4_disputers_12 : decode cX4_disputers 12 = .ok (.aload_n 0, 1) := by decide +kernel
theorem dX4_disputers_13 : decode cX4_disputers 13 = .ok (.iload_n 1, 1) := by decide +kernel
theorem dX4_disputers_14 : decode cX4_disputers 14 = .ok (.invokevirtual 52, 3) := by decide +kernel
theorem dX4_disputers_17 : decode cX4_disputers 17 = .ok (.istore_n 2, 1) := by decide +kernel
theorem dX4_disputers_18 : decode cX4_disputers 18 = .ok (.aload_n 0, 1) := by decide +kernel
theorem dX4_disputers_19 : decode cX4_disputers 19 = .ok (.iload_n 1, 1) := by decide +kernel
theorem dX4_disputers_20 : decode cX4_disputers 20 = .ok (.invokevirtual 56, 3) := by decide +kernel
theorem dX4_disputers_23 : decode cX4_disputers 23 = .ok (.istore_n 3, 1) := by decide +kernel
theorem dX4_disputers_24 : decode cX4_disputers 24 = .ok (.iconst 0, 1) := by decide +kernel
theorem dX4_disputers_25 : decode cX4_disputers 25 = .ok (.istore 4, 2) := by decide +kernel
theorem dX4_disputers_27 : decode cX4_disputers 27 = .ok (.iconst 0, 1) := by decide +kernel
theorem dX4_disputers_28 : decode cX4_disputers 28 = .ok (.istore 5, 2) := by decide +kernel
theorem dX4_disputers_30 : decode cX4_disputers 30 = .ok (.iload 5, 2) := by decide +kernel
theorem dX4_disputers_32 : decode cX4_disputers 32 = .ok (.bipush 12, 2) := by decide +kernel
theorem dX4_disputers_34 : decode cX4_disputers 34 = .ok (.if_icmp .ge 63, 3) := by decide +kernel
theorem dX4_disputers_37 : decode cX4_disputers 37 = .ok (.aload_n 0, 1) := by decide +kernel
theorem dX4_disputers_38 : decode cX4_disputers 38 = .ok (.getfield 27, 3) := by decide +kernel
theorem dX4_disputers_41 : decode cX4_disputers 41 = .ok (.iload_n 1, 1) := by decide +kernel
theorem dX4_disputers_42 : decode cX4_disputers 42 = .ok (.iload 5, 2) := by decide +kernel
theorem dX4_disputers_44 : decode cX4_disputers 44 = .ok (.invokestatic 44, 3) := by decide +kernel
theorem dX4_disputers_47 : decode cX4_disputers 47 = .ok (.iaload, 1) := by decide +kernel
theorem dX4_disputers_48 : decode cX4_disputers 48 = .ok (.iload_n 3, 1) := by decide +kernel
theorem dX4_disputers_49 : decode cX4_disputers 49 = .ok (.imul, 1) := by decide +kernel
theorem dX4_disputers_50 : decode cX4_disputers 50 = .ok (.aload_n 0, 1) := by decide +kernel
theorem dX4_disputers_51 : decode cX4_disputers 51 = .ok (.getfield 30, 3) := by decide +kernel
theorem dX4_disputers_54 : decode cX4_disputers 54 = .ok (.iload_n 1, 1) := by decide +kernel
theorem dX4_disputers_55 : decode cX4_disputers 55 = .ok (.iload 5, 2) := by decide +kernel
theorem dX4_disputers_57 : decode cX4_disputers 57 = .ok (.invokestatic 44, 3) := by decide +kernel
theorem dX4_disputers_60 : decode cX4_disputers 60 = .ok (.iaload, 1) := by decide +kernel
theorem dX4_disputers_61 : decode cX4_disputers 61 = .ok (.iload_n 2, 1) := by decide +kernel
theorem dX4_disputers_62 : decode cX4_disputers 62 = .ok (.imul, 1) := by decide +kernel
theorem dX4_disputers_63 : decode cX4_disputers 63 = .ok (.if_icmp .ge 7, 3) := by decide +kernel
theorem dX4_disputers_66 : decode cX4_disputers 66 = .ok (.iconst 1, 1) := by decide +kernel
theorem dX4_disputers_67 : decode cX4_disputers 67 = .ok (.goto 4, 3) := by decide +kernel
theorem dX4_disputers_70 : decode cX4_disputers 70 = .ok (.iconst 0, 1) := by decide +kernel
theorem dX4_disputers_71 : decode cX4_disputers 71 = .ok (.istore 6, 2) := by decide +kernel
theorem dX4_disputers_73 : decode cX4_disputers 73 = .ok (.iload 4, 2) := by decide +kernel
theorem dX4_disputers_75 : decode cX4_disputers 75 = .ok (.iload 6, 2) := by decide +kernel
theorem dX4_disputers_77 : decode cX4_disputers 77 = .ok (.ifCond .eq 10, 3) := by decide +kernel
theorem dX4_disputers_80 : decode cX4_disputers 80 = .ok (.iconst 1, 1) := by decide +kernel
theorem dX4_disputers_81 : decode cX4_disputers 81 = .ok (.iload 5, 2) := by decide +kernel
theorem dX4_disputers_83 : decode cX4_disputers 83 = .ok (.ishl, 1) := by decide +kernel
theorem dX4_disputers_84 : decode cX4_disputers 84 = .ok (.goto 4, 3) := by decide +kernel
theorem dX4_disputers_87 : decode cX4_disputers 87 = .ok (.iconst 0, 1) := by decide +kernel
theorem dX4_disputers_88 : decode cX4_disputers 88 = .ok (.ior, 1) := by decide +kernel
theorem dX4_disputers_89 : decode cX4_disputers 89 = .ok (.istore 4, 2) := by decide +kernel
theorem dX4_disputers_91 : decode cX4_disputers 91 = .ok (.iinc 5 1, 3) := by decide +kernel
theorem dX4_disputers_94 : decode cX4_disputers 94 = .ok (.goto (-64), 3) := by decide +kernel
theorem dX4_disputers_97 : decode cX4_disputers 97 = .ok (.iload 4, 2) := by decide +kernel
theorem dX4_disputers_99 : decode cX4_disputers 99 = .ok (.ireturn, 1) := by decide +kernel
theorem dX4_takeParts_0 : decode cX4_takeParts 0 = .ok (.iconst 0, 1) := by decide +kernel
theorem dX4_takeParts_1 : decode cX4_takeParts 1 = .ok (.istore_n 3, 1) := by decide +kernel
theorem dX4_takeParts_2 : decode cX4_takeParts 2 = .ok (.iload_n 3, 1) := by decide +kernel
theorem dX4_takeParts_3 : decode cX4_takeParts 3 = .ok (.bipush 12, 2) := by decide +kernel
theorem dX4_takeParts_5 : decode cX4_takeParts 5 = .ok (.if_icmp .ge 28, 3) := by decide +kernel
theorem dX4_takeParts_8 : decode cX4_takeParts 8 = .ok (.iload_n 3, 1) := by decide +kernel
theorem dX4_takeParts_9 : decode cX4_takeParts 9 = .ok (.aload_n 2, 1) := by decide +kernel
theorem dX4_takeParts_10 : decode cX4_takeParts 10 = .ok (.arraylength, 1) := by decide +kernel
theorem dX4_takeParts_11 : decode cX4_takeParts 11 = .ok (.if_icmp .ge 22, 3) := by decide +kernel
theorem dX4_takeParts_14 : decode cX4_takeParts 14 = .ok (.aload_n 0, 1) := by decide +kernel
theorem dX4_takeParts_15 : decode cX4_takeParts 15 = .ok (.getfield 27, 3) := by decide +kernel
theorem dX4_takeParts_18 : decode cX4_takeParts 18 = .ok (.iload_n 1, 1) := by decide +kernel
theorem dX4_takeParts_19 : decode cX4_takeParts 19 = .ok (.iload_n 3, 1) := by decide +kernel
theorem dX4_takeParts_20 : decode cX4_takeParts 20 = .ok (.invokestatic 44, 3) := by decide +kernel
theorem dX4_takeParts_23 : decode cX4_takeParts 23 = .ok (.aload_n 2, 1) := by decide +kernel
theorem dX4_takeParts_24 : decode cX4_takeParts 24 = .ok (.iload_n 3, 1) := by decide +kernel
theorem dX4_takeParts_25 : decode cX4_takeParts 25 = .ok (.iaload, 1) := by decide +kernel
theorem dX4_takeParts_26 : decode cX4_takeParts 26 = .ok (.iastore, 1) := by decide +kernel
theorem dX4_takeParts_27 : decode cX4_takeParts 27 = .ok (.iinc 3 1, 3) := by decide +kernel
theorem dX4_takeParts_30 : decode cX4_takeParts 30 = .ok (.goto (-28), 3) := by decide +kernel
theorem dX4_takeParts_33 : decode cX4_takeParts 33 = .ok (.return_, 1) := by decide +kernel
theorem dX4_takePartsFromDrafts_0 : decode cX4_takePartsFromDrafts 0 = .ok (.aload_n 0, 1) := by decide +kernel
theorem dX4_takePartsFromDrafts_1 : decode cX4_takePartsFromDrafts 1 = .ok (.iload_n 1, 1) := by decide +kernel
theorem dX4_takePartsFromDrafts_2 : decode cX4_takePartsFromDrafts 2 = .ok (.invokevirtual 59, 3) := by decide +kernel
theorem dX4_takePartsFromDrafts_5 : decode cX4_takePartsFromDrafts 5 = .ok (.istore_n 2, 1) := by decide +kernel
theorem dX4_takePartsFromDrafts_6 : decode cX4_takePartsFromDrafts 6 = .ok (.iconst 0, 1) := by decide +kernel
theorem dX4_takePartsFromDrafts_7 : decode cX4_takePartsFromDrafts 7 = .ok (.istore_n 3, 1) := by decide +kernel
theorem dX4_takePartsFromDrafts_8 : decode cX4_takePartsFromDrafts 8 = .ok (.iload_n 3, 1) := by decide +kernel
theorem dX4_takePartsFromDrafts_9 : decode cX4_takePartsFromDrafts 9 = .ok (.bipush 12, 2) := by decide +kernel
theorem dX4_takePartsFromDrafts_11 : decode cX4_takePartsFromDrafts 11 = .ok (.if_icmp .ge 41, 3) := by decide +kernel
theorem dX4_takePartsFromDrafts_14 : decode cX4_takePartsFromDrafts 14 = .ok (.aload_n 0, 1) := by decide +kernel
theorem dX4_takePartsFromDrafts_15 : decode cX4_takePartsFromDrafts 15 = .ok (.getfield 27, 3) := by decide +kernel
theorem dX4_takePartsFromDrafts_18 : decode cX4_takePartsFromDrafts 18 = .ok (.iload_n 1, 1) := by decide +kernel
theorem dX4_takePartsFromDrafts_19 : decode cX4_takePartsFromDrafts 19 = .ok (.iload_n 3, 1) := by decide +kernel
theorem dX4_takePartsFromDrafts_20 : decode cX4_takePartsFromDrafts 20 = .ok (.invokestatic 44, 3) := by decide +kernel
theorem dX4_takePartsFromDrafts_23 : decode cX4_takePartsFromDrafts 23 = .ok (.iload_n 2, 1) := by decide +kernel
theorem dX4_takePartsFromDrafts_24 : decode cX4_takePartsFromDrafts 24 = .ok (.iload_n 3, 1) := by decide +kernel
theorem dX4_takePartsFromDrafts_25 : decode cX4_takePartsFromDrafts 25 = .ok (.invokestatic 62, 3) := by decide +kernel
theorem dX4_takePartsFromDrafts_28 : decode cX4_takePartsFromDrafts 28 = .ok (.ifCond .eq 16, 3) := by decide +kernel
theorem dX4_takePartsFromDrafts_31 : decode cX4_takePartsFromDrafts 31 = .ok (.aload_n 0, 1) := by decide +kernel
theorem dX4_takePartsFromDrafts_32 : decode cX4_takePartsFromDrafts 32 = .ok (.getfield 30, 3) := by decide +kernel
theorem dX4_takePartsFromDrafts_35 : decode cX4_takePartsFromDrafts 35 = .ok (.iload_n 1, 1) := by decide +kernel
theorem dX4_takePartsFromDrafts_36 : decode cX4_takePartsFromDrafts 36 = .ok (.iload_n 3, 1) := by decide +kernel
theorem dX4_takePartsFromDrafts_37 : decode cX4_takePartsFromDrafts 37 = .ok (.invokestatic 44, 3) := by decide +kernel
theorem dX4_takePartsFromDrafts_40 : decode cX4_takePartsFromDrafts 40 = .ok (.iaload, 1) := by decide +kernel
theorem dX4_takePartsFromDrafts_41 : decode cX4_takePartsFromDrafts 41 = .ok (.goto 4, 3) := by decide +kernel
theorem dX4_takePartsFromDrafts_44 : decode cX4_takePartsFromDrafts 44 = .ok (.iconst 0, 1) := by decide +kernel
theorem dX4_takePartsFromDrafts_45 : decode cX4_takePartsFromDrafts 45 = .ok (.iastore, 1) := by decide +kernel
theorem dX4_takePartsFromDrafts_46 : decode cX4_takePartsFromDrafts 46 = .ok (.iinc 3 1, 3) := by decide +kernel
theorem dX4_takePartsFromDrafts_49 : decode cX4_takePartsFromDrafts 49 = .ok (.goto (-41), 3) := by decide +kernel
theorem dX4_takePartsFromDrafts_52 : decode cX4_takePartsFromDrafts 52 = .ok (.return_, 1) := by decide +kernel
theorem dX4_addToYear_0 : decode cX4_addToYear 0 = .ok (.iconst 0, 1) := by decide +kernel
theorem dX4_addToYear_1 : decode cX4_addToYear 1 = .ok (.istore_n 3, 1) := by decide +kernel
theorem dX4_addToYear_2 : decode cX4_addToYear 2 = .ok (.iload_n 3, 1) := by decide +kernel
theorem dX4_addToYear_3 : decode cX4_addToYear 3 = .ok (.bipush 12, 2) := by decide +kernel
theorem dX4_addToYear_5 : decode cX4_addToYear 5 = .ok (.if_icmp .ge 31, 3) := by decide +kernel
theorem dX4_addToYear_8 : decode cX4_addToYear 8 = .ok (.iload_n 3, 1) := by decide +kernel
theorem dX4_addToYear_9 : decode cX4_addToYear 9 = .ok (.aload_n 2, 1) := by decide +kernel
theorem dX4_addToYear_10 : decode cX4_addToYear 10 = .ok (.arraylength, 1) := by decide +kernel
theorem dX4_addToYear_11 : decode cX4_addToYear 11 = .ok (.if_icmp .ge 25, 3) := by decide +kernel
theorem dX4_addToYear_14 : decode cX4_addToYear 14 = .ok (.aload_n 0, 1) := by decide +kernel
theorem dX4_addToYear_15 : decode cX4_addToYear 15 = .ok (.getfield 33, 3) := by decide +kernel
theorem dX4_addToYear_18 : decode cX4_addToYear 18 = .ok (.iload_n 1, 1) := by decide +kernel
theorem dX4_addToYear_19 : decode cX4_addToYear 19 = .ok (.iload_n 3, 1) := by decide +kernel
theorem dX4_addToYear_20 : decode cX4_addToYear 20 = .ok (.invokestatic 44, 3) := by decide +kernel
theorem dX4_addToYear_23 : decode cX4_addToYear 23 = .ok (.dup2, 1) := by decide +kernel
theorem dX4_addToYear_24 : decode cX4_addToYear 24 = .ok (.iaload, 1) := by decide +kernel
theorem dX4_addToYear_25 : decode cX4_addToYear 25 = .ok (.aload_n 2, 1) := by decide +kernel
theorem dX4_addToYear_26 : decode cX4_addToYear 26 = .ok (.iload_n 3, 1) := by decide +kernel
theorem dX4_addToYear_27 : decode cX4_addToYear 27 = .ok (.iaload, 1) := by decide +kernel
theorem dX4_addToYear_28 : decode cX4_addToYear 28 = .ok (.iadd, 1) := by decide +kernel
theorem dX4_addToYear_29 : decode cX4_addToYear 29 = .ok (.iastore, 1) := by decide +kernel
theorem dX4_addToYear_30 : decode cX4_addToYear 30 = .ok (.iinc 3 1, 3) := by decide +kernel
theorem dX4_addToYear_33 : decode cX4_addToYear 33 = .ok (.goto (-31), 3) := by decide +kernel
theorem dX4_addToYear_36 : decode cX4_addToYear 36 = .ok (.return_, 1) := by decide +kernel
theorem dX4_writers_0 : decode cX4_writers 0 = .ok (.iconst 0, 1) := by decide +kernel
theorem dX4_writers_1 : decode cX4_writers 1 = .ok (.istore_n 2, 1) := by decide +kernel
theorem dX4_writers_2 : decode cX4_writers 2 = .ok (.iconst 0, 1) := by decide +kernel
theorem dX4_writers_3 : decode cX4_writers 3 = .ok (.istore_n 3, 1) := by decide +kernel
theorem dX4_writers_4 : decode cX4_writers 4 = .ok (.iload_n 3, 1) := by decide +kernel
theorem dX4_writers_5 : decode cX4_writers 5 = .ok (.iconst 4, 1) := by decide +kernel
theorem dX4_writers_6 : decode cX4_writers 6 = .ok (.if_icmp .ge 34, 3) := by decide +kernel
theorem dX4_writers_9 : decode cX4_writers 9 = .ok (.aload_n 0, 1) := by decide +kernel
theorem dX4_writers_10 : decode cX4_writers 10 = .ok (.iload_n 1, 1) := by decide +kernel
theorem dX4_writers_11 : decode cX4_writers 11 = .ok (.iload_n 2, 1) := by decide +kernel
theorem dX4_writers_12 : decode cX4_writers 12 = .ok (.invokevirtual 66, 3) := by decide +kernel
theorem dX4_writers_15 : decode cX4_writers 15 = .ok (.istore 4, 2) := by decide +kernel
theorem dX4_writers_17 : decode cX4_writers 17 = .ok (.iload_n 2, 1) := by decide +kernel
theorem dX4_writers_18 : decode cX4_writers 18 = .ok (.iload 4, 2) := by decide +kernel
theorem dX4_writers_20 : decode cX4_writers 20 = .ok (.iconst (-1), 1) := by decide +kernel
theorem dX4_writers_21 : decode cX4_writers 21 = .ok (.if_icmp .ne 7, 3) := by decide +kernel
theorem dX4_writers_24 : decode cX4_writers 24 = .ok (.iconst 0, 1) := by decide +kernel
theorem dX4_writers_25 : decode cX4_writers 25 = .ok (.goto 7, 3) := by decide +kernel
theorem dX4_writers_28 : decode cX4_writers 28 = .ok (.iconst 1, 1) := by decide +kernel
theorem dX4_writers_29 : decode cX4_writers 29 = .ok (.iload 4, 2) := by decide +kernel
theorem dX4_writers_31 : decode cX4_writers 31 = .ok (.ishl, 1) := by decide +kernel
theorem dX4_writers_32 : decode cX4_writers 32 = .ok (.ior, 1) := by decide +kernel
theorem dX4_writers_33 : decode cX4_writers 33 = .ok (.istore_n 2, 1) := by decide +kernel
theorem dX4_writers_34 : decode cX4_writers 34 = .ok (.iinc 3 1, 3) := by decide +kernel
theorem dX4_writers_37 : decode cX4_writers 37 = .ok (.goto (-33), 3) := by decide +kernel
theorem dX4_writers_40 : decode cX4_writers 40 = .ok (.iload_n 2, 1) := by decide +kernel
theorem dX4_writers_41 : decode cX4_writers 41 = .ok (.ireturn, 1) := by decide +kernel
theorem dX4_writerWithMost_0 : decode cX4_writerWithMost 0 = .ok (.iconst (-1), 1) := by decide +kernel
theorem dX4_writerWithMost_1 : decode cX4_writerWithMost 1 = .ok (.istore_n 3, 1) := by decide +kernel
theorem dX4_writerWithMost_2 : decode cX4_writerWithMost 2 = .ok (.iconst 0, 1) := by decide +kernel
theorem dX4_writerWithMost_3 : decode cX4_writerWithMost 3 = .ok (.istore 4, 2) := by decide +kernel
theorem dX4_writerWithMost_5 : decode cX4_writerWithMost 5 = .ok (.iconst 0, 1) := by decide +kernel
theorem dX4_writerWithMost_6 : decode cX4_writerWithMost 6 = .ok (.istore 5, 2) := by decide +kernel
theorem dX4_writerWithMost_8 : decode cX4_writerWithMost 8 = .ok (.iload 5, 2) := by decide +kernel
theorem dX4_writerWithMost_10 : decode cX4_writerWithMost 10 = .ok (.bipush 12, 2) := by decide +kernel
theorem dX4_writerWithMost_12 : decode cX4_writerWithMost 12 = .ok (.if_icmp .ge 50, 3) := by decide +kernel
theorem dX4_writerWithMost_15 : decode cX4_writerWithMost 15 = .ok (.aload_n 0, 1) := by decide +kernel
theorem dX4_writerWithMost_16 : decode cX4_writerWithMost 16 = .ok (.getfield 30, 3) := by decide +kernel
theorem dX4_writerWithMost_19 : decode cX4_writerWithMost 19 = .ok (.iload_n 1, 1) := by decide +kernel
theorem dX4_writerWithMost_20 : decode cX4_writerWithMost 20 = .ok (.iload 5, 2) := by decide +kernel
theorem dX4_writerWithMost_22 : decode cX4_writerWithMost 22 = .ok (.invokestatic 44, 3) := by decide +kernel
theorem dX4_writerWithMost_25 : decode cX4_writerWithMost 25 = .ok (.iaload, 1) := by decide +kernel
theorem dX4_writerWithMost_26 : decode cX4_writerWithMost 26 = .ok (.iload 4, 2) := by decide +kernel
theorem dX4_writerWithMost_28 : decode cX4_writerWithMost 28 = .ok (.if_icmp .le 28, 3) := by decide +kernel
theorem dX4_writerWithMost_31 : decode cX4_writerWithMost 31 = .ok (.iload_n 2, 1) := by decide +kernel
theorem dX4_writerWithMost_32 : decode cX4_writerWithMost 32 = .ok (.iload 5, 2) := by decide +kernel
theorem dX4_writerWithMost_34 : decode cX4_writerWithMost 34 = .ok (.invokestatic 62, 3) := by decide +kernel
theorem dX4_writerWithMost_37 : decode cX4_writerWithMost 37 = .ok (.ifCond .ne 19, 3) := by decide +kernel
theorem dX4_writerWithMost_40 : decode cX4_writerWithMost 40 = .ok (.iload 5, 2) := by decide +kernel
theorem dX4_writerWithMost_42 : decode cX4_writerWithMost 42 = .ok (.istore_n 3, 1) := by decide +kernel
theorem dX4_writerWithMost_43 : decode cX4_writerWithMost 43 = .ok (.aload_n 0, 1) := by decide +kernel
theorem dX4_writerWithMost_44 : decode cX4_writerWithMost 44 = .ok (.getfield 30, 3) := by decide +kernel
theorem dX4_writerWithMost_47 : decode cX4_writerWithMost 47 = .ok (.iload_n 1, 1) := by decide +kernel
theorem dX4_writerWithMost_48 : decode cX4_writerWithMost 48 = .ok (.iload 5, 2) := by decide +kernel
theorem dX4_writerWithMost_50 : decode cX4_writerWithMost 50 = .ok (.invokestatic 44, 3) := by decide +kernel
theorem dX4_writerWithMost_53 : decode cX4_writerWithMost 53 = .ok (.iaload, 1) := by decide +kernel
theorem dX4_writerWithMost_54 : decode cX4_writerWithMost 54 = .ok (.istore 4, 2) := by decide +kernel
theorem dX4_writerWithMost_56 : decode cX4_writerWithMost 56 = .ok (.iinc 5 1, 3) := by decide +kernel
theorem dX4_writerWithMost_59 : decode cX4_writerWithMost 59 = .ok (.goto (-51), 3) := by decide +kernel
theorem dX4_writerWithMost_62 : decode cX4_writerWithMost 62 = .ok (.iload_n 3, 1) := by decide +kernel
theorem dX4_writerWithMost_63 : decode cX4_writerWithMost 63 = .ok (.ireturn, 1) := by decide +kernel

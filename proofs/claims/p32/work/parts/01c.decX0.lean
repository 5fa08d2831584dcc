theorem dX0_init_0 : decode cX0_init 0 = .ok (.aload_n 0, 1) := by decide +kernel
theorem dX0_init_1 : decode cX0_init 1 = .ok (.invokespecial 3, 3) := by decide +kernel
theorem dX0_init_4 : decode cX0_init 4 = .ok (.aload_n 0, 1) := by decide +kernel
theorem dX0_init_5 : decode cX0_init 5 = .ok (.bipush 12, 2) := by decide +kernel
theorem dX0_init_7 : decode cX0_init 7 = .ok (.newarray .int, 2) := by decide +kernel
theorem dX0_init_9 : decode cX0_init 9 = .ok (.putfield 9, 3) := by decide +kernel
theorem dX0_init_12 : decode cX0_init 12 = .ok (.aload_n 0, 1) := by decide +kernel
theorem dX0_init_13 : decode cX0_init 13 = .ok (.bipush 12, 2) := by decide +kernel
theorem dX0_init_15 : decode cX0_init 15 = .ok (.newarray .int, 2) := by decide +kernel
theorem dX0_init_17 : decode cX0_init 17 = .ok (.putfield 15, 3) := by decide +kernel
theorem dX0_init_20 : decode cX0_init 20 = .ok (.return_, 1) := by decide +kernel
theorem dX0_divideFee_0 : decode cX0_divideFee 0 = .ok (.aload_n 0, 1) := by decide +kernel
theorem dX0_divideFee_1 : decode cX0_divideFee 1 = .ok (.aload_n 1, 1) := by decide +kernel
theorem dX0_divideFee_2 : decode cX0_divideFee 2 = .ok (.iload_n 2, 1) := by decide +kernel
theorem dX0_divideFee_3 : decode cX0_divideFee 3 = .ok (.iload_n 3, 1) := by decide +kernel
theorem dX0_divideFee_4 : decode cX0_divideFee 4 = .ok (.invokevirtual 18, 3) := by decide +kernel
theorem dX0_divideFee_7 : decode cX0_divideFee 7 = .ok (.aload_n 0, 1) := by decide +kernel
theorem dX0_divideFee_8 : decode cX0_divideFee 8 = .ok (.aload_n 1, 1) := by decide +kernel
theorem dX0_divideFee_9 : decode cX0_divideFee 9 = .ok (.getfield 22, 3) := by decide +kernel
theorem dX0_divideFee_12 : decode cX0_divideFee 12 = .ok (.iload_n 2, 1) := by decide +kernel
theorem dX0_divideFee_13 : decode cX0_divideFee 13 = .ok (.iload_n 3, 1) := by decide +kernel
theorem dX0_divideFee_14 : decode cX0_divideFee 14 = .ok (.aload_n 0, 1) := by decide +kernel
theorem dX0_divideFee_15 : decode cX0_divideFee 15 = .ok (.getfield 28, 3) := by decide +kernel
theorem dX0_divideFee_18 : decode cX0_divideFee 18 = .ok (.isub, 1) := by decide +kernel
theorem dX0_divideFee_19 : decode cX0_divideFee 19 = .ok (.invokevirtual 32, 3) := by decide +kernel
theorem dX0_divideFee_22 : decode cX0_divideFee 22 = .ok (.return_, 1) := by decide +kernel
theorem dX0_divideRoyalty_0 : decode cX0_divideRoyalty 0 = .ok (.aload_n 0, 1) := by decide +kernel
theorem dX0_divideRoyalty_1 : decode cX0_divideRoyalty 1 = .ok (.aload_n 1, 1) := by decide +kernel
theorem dX0_divideRoyalty_2 : decode cX0_divideRoyalty 2 = .ok (.iload_n 2, 1) := by decide +kernel
theorem dX0_divideRoyalty_3 : decode cX0_divideRoyalty 3 = .ok (.iload_n 3, 1) := by decide +kernel
theorem dX0_divideRoyalty_4 : decode cX0_divideRoyalty 4 = .ok (.invokevirtual 18, 3) := by decide +kernel
theorem dX0_divideRoyalty_7 : decode cX0_divideRoyalty 7 = .ok (.aload_n 0, 1) := by decide +kernel
theorem dX0_divideRoyalty_8 : decode cX0_divideRoyalty 8 = .ok (.iload_n 3, 1) := by decide +kernel
theorem dX0_divideRoyalty_9 : decode cX0_divideRoyalty 9 = .ok (.aload_n 1, 1) := by decide +kernel
theorem dX0_divideRoyalty_10 : decode cX0_divideRoyalty 10 = .ok (.getfield 36, 3) := by decide +kernel
theorem dX0_divideRoyalty_13 : decode cX0_divideRoyalty 13 = .ok (.iconst 1, 1) := by decide +kernel
theorem dX0_divideRoyalty_14 : decode cX0_divideRoyalty 14 = .ok (.iaload, 1) := by decide +kernel
theorem dX0_divideRoyalty_15 : decode cX0_divideRoyalty 15 = .ok (.imul, 1) := by decide +kernel
theorem dX0_divideRoyalty_16 : decode cX0_divideRoyalty 16 = .ok (.bipush 100, 2) := by decide +kernel
theorem dX0_divideRoyalty_18 : decode cX0_divideRoyalty 18 = .ok (.idiv, 1) := by decide +kernel
theorem dX0_divideRoyalty_19 : decode cX0_divideRoyalty 19 = .ok (.putfield 39, 3) := by decide +kernel
theorem dX0_divideRoyalty_22 : decode cX0_divideRoyalty 22 = .ok (.aload_n 0, 1) := by decide +kernel
theorem dX0_divideRoyalty_23 : decode cX0_divideRoyalty 23 = .ok (.aload_n 1, 1) := by decide +kernel
theorem dX0_divideRoyalty_24 : decode cX0_divideRoyalty 24 = .ok (.getfield 22, 3) := by decide +kernel
theorem dX0_divideRoyalty_27 : decode cX0_divideRoyalty 27 = .ok (.iload_n 2, 1) := by decide +kernel
theorem dX0_divideRoyalty_28 : decode cX0_divideRoyalty 28 = .ok (.iload_n 3, 1) := by decide +kernel
theorem dX0_divideRoyalty_29 : decode cX0_divideRoyalty 29 = .ok (.aload_n 0, 1) := by decide +kernel
theorem dX0_divideRoyalty_30 : decode cX0_divideRoyalty 30 = .ok (.getfield 28, 3) := by decide +kernel
theorem dX0_divideRoyalty_33 : decode cX0_divideRoyalty 33 = .ok (.isub, 1) := by decide +kernel
theorem dX0_divideRoyalty_34 : decode cX0_divideRoyalty 34 = .ok (.aload_n 0, 1) := by decide +kernel
theorem dX0_divideRoyalty_35 : decode cX0_divideRoyalty 35 = .ok (.getfield 39, 3) := by decide +kernel
theorem dX0_divideRoyalty_38 : decode cX0_divideRoyalty 38 = .ok (.isub, 1) := by decide +kernel
theorem dX0_divideRoyalty_39 : decode cX0_divideRoyalty 39 = .ok (.invokevirtual 32, 3) := by decide +kernel
theorem dX0_divideRoyalty_42 : decode cX0_divideRoyalty 42 = .ok (.aload_n 1, 1) := by decide +kernel
theorem dX0_divideRoyalty_43 : decode cX0_divideRoyalty 43 = .ok (.getfield 36, 3) := by decide +kernel
theorem dX0_divideRoyalty_46 : decode cX0_divideRoyalty 46 = .ok (.iconst 2, 1) := by decide +kernel
theorem dX0_divideRoyalty_47 : decode cX0_divideRoyalty 47 = .ok (.iaload, 1) := by decide +kernel
theorem dX0_divideRoyalty_48 : decode cX0_divideRoyalty 48 = .ok (.ifCond .le 18, 3) := by decide +kernel
theorem dX0_divideRoyalty_51 : decode cX0_divideRoyalty 51 = .ok (.aload_n 0, 1) := by decide +kernel
theorem dX0_divideRoyalty_52 : decode cX0_divideRoyalty 52 = .ok (.aload_n 1, 1) := by decide +kernel
theorem dX0_divideRoyalty_53 : decode cX0_divideRoyalty 53 = .ok (.getfield 22, 3) := by decide +kernel
theorem dX0_divideRoyalty_56 : decode cX0_divideRoyalty 56 = .ok (.iload_n 2, 1) := by decide +kernel
theorem dX0_divideRoyalty_57 : decode cX0_divideRoyalty 57 = .ok (.aload_n 1, 1) := by decide +kernel
theorem dX0_divideRoyalty_58 : decode cX0_divideRoyalty 58 = .ok (.getfield 36, 3) := by decide +kernel
theorem dX0_divideRoyalty_61 : decode cX0_divideRoyalty 61 = .ok (.iconst 2, 1) := by decide +kernel
theorem dX0_divideRoyalty_62 : decode cX0_divideRoyalty 62 = .ok (.iaload, 1) := by decide +kernel
theorem dX0_divideRoyalty_63 : decode cX0_divideRoyalty 63 = .ok (.invokevirtual 42, 3) := by decide +kernel
theorem dX0_divideRoyalty_66 : decode cX0_divideRoyalty 66 = .ok (.return_, 1) := by decide +kernel
theorem dX0_begin_0 : decode cX0_begin 0 = .ok (.aload_n 0, 1) := by decide +kernel
theorem dX0_begin_1 : decode cX0_begin 1 = .ok (.iload_n 3, 1) := by decide +kernel
theorem dX0_begin_2 : decode cX0_begin 2 = .ok (.aload_n 1, 1) := by decide +kernel
theorem dX0_begin_3 : decode cX0_begin 3 = .ok (.getfield 36, 3) := by decide +kernel
theorem dX0_begin_6 : decode cX0_begin 6 = .ok (.iconst 0, 1) := by decide +kernel
theorem dX0_begin_7 : decode cX0_begin 7 = .ok (.iaload, 1) := by decide +kernel
theorem dX0_begin_8 : decode cX0_begin 8 = .ok (.imul, 1) := by decide +kernel
theorem dX0_begin_9 : decode cX0_begin 9 = .ok (.bipush 100, 2) := by decide +kernel
theorem dX0_begin_11 : decode cX0_begin 11 = .ok (.idiv, 1) := by decide +kernel
theorem dX0_begin_12 : decode cX0_begin 12 = .ok (.putfield 28, 3) := by decide +kernel
theorem dX0_begin_15 : decode cX0_begin 15 = .ok (.aload_n 0, 1) := by decide +kernel
theorem dX0_begin_16 : decode cX0_begin 16 = .ok (.iconst 0, 1) := by decide +kernel
theorem dX0_begin_17 : decode cX0_begin 17 = .ok (.putfield 45, 3) := by decide +kernel
theorem dX0_begin_20 : decode cX0_begin 20 = .ok (.aload_n 0, 1) := by decide +kernel
theorem dX0_begin_21 : decode cX0_begin 21 = .ok (.aload_n 1, 1) := by decide +kernel
theorem dX0_begin_22 : decode cX0_begin 22 = .ok (.getfield 48, 3) := by decide +kernel
theorem dX0_begin_25 : decode cX0_begin 25 = .ok (.getfield 52, 3) := by decide +kernel
theorem dX0_begin_28 : decode cX0_begin 28 = .ok (.aload_n 1, 1) := by decide +kernel
theorem dX0_begin_29 : decode cX0_begin 29 = .ok (.getfield 22, 3) := by decide +kernel
theorem dX0_begin_32 : decode cX0_begin 32 = .ok (.getfield 57, 3) := by decide +kernel
theorem dX0_begin_35 : decode cX0_begin 35 = .ok (.iload_n 2, 1) := by decide +kernel
theorem dX0_begin_36 : decode cX0_begin 36 = .ok (.iaload, 1) := by decide +kernel
theorem dX0_begin_37 : decode cX0_begin 37 = .ok (.iaload, 1) := by decide +kernel
theorem dX0_begin_38 : decode cX0_begin 38 = .ok (.putfield 62, 3) := by decide +kernel
theorem dX0_begin_41 : decode cX0_begin 41 = .ok (.aload_n 0, 1) := by decide +kernel
theorem dX0_begin_42 : decode cX0_begin 42 = .ok (.iconst 0, 1) := by decide +kernel
theorem dX0_begin_43 : decode cX0_begin 43 = .ok (.putfield 39, 3) := by decide +kernel
theorem dX0_begin_46 : decode cX0_begin 46 = .ok (.return_, 1) := by decide +kernel
theorem dX0_split_0 : decode cX0_split 0 = .ok (.iconst 1, 1) := by decide +kernel
theorem dX0_split_1 : decode cX0_split 1 = .ok (.aload_n 1, 1) := by decide +kernel
theorem dX0_split_2 : decode cX0_split 2 = .ok (.iload_n 2, 1) := by decide +kernel
theorem dX0_split_3 : decode cX0_split 3 = .ok (.invokevirtual 65, 3) := by decide +kernel
theorem dX0_split_6 : decode cX0_split 6 = .ok (.invokestatic 69, 3) := by decide +kernel
theorem dX0_split_9 : decode cX0_split 9 = .ok (.istore 4, 2) := by decide +kernel
theorem dX0_split_11 : decode cX0_split 11 = .ok (.iload_n 3, 1) := by decide +kernel
theorem dX0_split_12 : decode cX0_split 12 = .ok (.istore 5, 2) := by decide +kernel
theorem dX0_split_14 : decode cX0_split 14 = .ok (.iconst 0, 1) := by decide +kernel
theorem dX0_split_15 : decode cX0_split 15 = .ok (.istore 6, 2) := by decide +kernel
theorem dX0_split_17 : decode cX0_split 17 = .ok (.iload 6, 2) := by decide +kernel
theorem dX0_split_19 : decode cX0_split 19 = .ok (.bipush 12, 2) := by decide +kernel
theorem dX0_split_21 : decode cX0_split 21 = .ok (.if_icmp .ge 60, 3) := by decide +kernel
theorem dX0_split_24 : decode cX0_split 24 = .ok (.iload_n 3, 1) := by decide +kernel
theorem dX0_split_25 : decode cX0_split 25 = .ok (.aload_n 1, 1) := by decide +kernel
theorem dX0_split_26 : decode cX0_split 26 = .ok (.getfield 75, 3) := by decide +kernel
theorem dX0_split_29 : decode cX0_split 29 = .ok (.iload_n 2, 1) := by decide +kernel
theorem dX0_split_30 : decode cX0_split 30 = .ok (.iload 6, 2) := by decide +kernel
theorem dX0_split_32 : decode cX0_split 32 = .ok (.invokestatic 78, 3) := by decide +kernel
theorem dX0_split_35 : decode cX0_split 35 = .ok (.iaload, 1) := by decide +kernel
theorem dX0_split_36 : decode cX0_split 36 = .ok (.imul, 1) := by decide +kernel
theorem dX0_split_37 : decode cX0_split 37 = .ok (.istore 7, 2) := by decide +kernel
theorem dX0_split_39 : decode cX0_split 39 = .ok (.aload_n 0, 1) := by decide +kernel
theorem dX0_split_40 : decode cX0_split 40 = .ok (.getfield 9, 3) := by decide +kernel
theorem dX0_split_43 : decode cX0_split 43 = .ok (.iload 6, 2) := by decide +kernel
theorem dX0_split_45 : decode cX0_split 45 = .ok (.iload 7, 2) := by decide +kernel
theorem dX0_split_47 : decode cX0_split 47 = .ok (.iload 4, 2) := by decide +kernel
theorem dX0_split_49 : decode cX0_split 49 = .ok (.idiv, 1) := by decide +kernel
theorem dX0_split_50 : decode cX0_split 50 = .ok (.iastore, 1) := by decide +kernel
theorem dX0_split_51 : decode cX0_split 51 = .ok (.aload_n 0, 1) := by decide +kernel
theorem dX0_split_52 : decode cX0_split 52 = .ok (.getfield 15, 3) := by decide +kernel
theorem dX0_split_55 : decode cX0_split 55 = .ok (.iload 6, 2) := by decide +kernel
theorem dX0_split_57 : decode cX0_split 57 = .ok (.iload 7, 2) := by decide +kernel
theorem dX0_split_59 : decode cX0_split 59 = .ok (.iload 4, 2) := by decide +kernel
theorem dX0_split_61 : decode cX0_split 61 = .ok (.irem, 1) := by decide +kernel
theorem dX0_split_62 : decode cX0_split 62 = .ok (.iastore, 1) := by decide +kernel
theorem dX0_split_63 : decode cX0_split 63 = .ok (.iload 5, 2) := by decide +kernel
theorem dX0_split_65 : decode cX0_split 65 = .ok (.aload_n 0, 1) := by decide +kernel
theorem dX0_split_66 : decode cX0_split 66 = .ok (.getfield 9, 3) := by decide +kernel
theorem dX0_split_69 : decode cX0_split 69 = .ok (.iload 6, 2) := by decide +kernel
theorem dX0_split_71 : decode cX0_split 71 = .ok (.iaload, 1) := by decide +kernel
theorem dX0_split_72 : decode cX0_split 72 = .ok (.isub, 1) := by decide +kernel
theorem dX0_split_73 : decode cX0_split 73 = .ok (.istore 5, 2) := by decide +kernel
theorem dX0_split_75 : decode cX0_split 75 = .ok (.iinc 6 1, 3) := by decide +kernel
theorem dX0_split_78 : decode cX0_split 78 = .ok (.goto (-61), 3) := by decide +kernel
theorem dX0_split_81 : decode cX0_split 81 = .ok (.iconst 0, 1) := by decide +kernel
theorem dX0_split_82 : decode cX0_split 82 = .ok (.istore 6, 2) := by decide +kernel
theorem dX0_split_84 : decode cX0_split 84 = .ok (.iload 6, 2) := by decide +kernel
theorem dX0_split_86 : decode cX0_split 86 = .ok (.iload 5, 2) := by decide +kernel
theorem dX0_split_88 : decode cX0_split 88 = .ok (.if_icmp .ge 19, 3) := by decide +kernel
theorem dX0_split_91 : decode cX0_split 91 = .ok (.iload 6, 2) := by decide +kernel
theorem dX0_split_93 : decode cX0_split 93 = .ok (.iconst 4, 1) := by decide +kernel
theorem dX0_split_94 : decode cX0_split 94 = .ok (.if_icmp .ge 13, 3) := by decide +kernel
theorem dX0_split_97 : decode cX0_split 97 = .ok (.aload_n 0, 1) := by decide +kernel
theorem dX0_split_98 : decode cX0_split 98 = .ok (.invokevirtual 81, 3) := by decide +kernel
theorem dX0_split_101 : decode cX0_split 101 = .ok (.iinc 6 1, 3) := by decide +kernel
theorem dX0_split_104 : decode cX0_split 104 = .ok (.goto (-20), 3) := by decide +kernel
theorem dX0_split_107 : decode cX0_split 107 = .ok (.return_, 1) := by decide +kernel
theorem dX0_giveUnit_0 : decode cX0_giveUnit 0 = .ok (.iconst 0, 1) := by decide +kernel
theorem dX0_giveUnit_1 : decode cX0_giveUnit 1 = .ok (.istore_n 1, 1) := by decide +kernel
theorem dX0_giveUnit_2 : decode cX0_giveUnit 2 = .ok (.iconst 1, 1) := by decide +kernel
theorem dX0_giveUnit_3 : decode cX0_giveUnit 3 = .ok (.istore_n 2, 1) := by decide +kernel
theorem dX0_giveUnit_4 : decode cX0_giveUnit 4 = .ok (.iload_n 2, 1) := by decide +kernel
theorem dX0_giveUnit_5 : decode cX0_giveUnit 5 = .ok (.bipush 12, 2) := by decide +kernel
theorem dX0_giveUnit_7 : decode cX0_giveUnit 7 = .ok (.if_icmp .ge 30, 3) := by decide +kernel
theorem dX0_giveUnit_10 : decode cX0_giveUnit 10 = .ok (.aload_n 0, 1) := by decide +kernel
theorem dX0_giveUnit_11 : decode cX0_giveUnit 11 = .ok (.getfield 15, 3) := by decide +kernel
theorem dX0_giveUnit_14 : decode cX0_giveUnit 14 = .ok (.iload_n 2, 1) := by decide +kernel
theorem dX0_giveUnit_15 : decode cX0_giveUnit 15 = .ok (.iaload, 1) := by decide +kernel
theorem dX0_giveUnit_16 : decode cX0_giveUnit 16 = .ok (.aload_n 0, 1) := by decide +kernel
theorem dX0_giveUnit_17 : decode cX0_giveUnit 17 = .ok (.getfield 15, 3) := by decide +kernel
theorem dX0_giveUnit_20 : decode cX0_giveUnit 20 = .ok (.iload_n 1, 1) := by decide +kernel
theorem dX0_giveUnit_21 : decode cX0_giveUnit 21 = .ok (.iaload, 1) := by decide +kernel
theorem dX0_giveUnit_22 : decode cX0_giveUnit 22 = .ok (.if_icmp .le 7, 3) := by decide +kernel
theorem dX0_giveUnit_25 : decode cX0_giveUnit 25 = .ok (.iload_n 2, 1) := by decide +kernel
theorem dX0_giveUnit_26 : decode cX0_giveUnit 26 = .ok (.goto 4, 3) := by decide +kernel
theorem dX0_giveUnit_29 : decode cX0_giveUnit 29 = .ok (.iload_n 1, 1) := by decide +kernel
theorem dX0_giveUnit_30 : decode cX0_giveUnit 30 = .ok (.istore_n 1, 1) := by decide +kernel
theorem dX0_giveUnit_31 : decode cX0_giveUnit 31 = .ok (.iinc 2 1, 3) := by decide +kernel
theorem dX0_giveUnit_34 : decode cX0_giveUnit 34 = .ok (.goto (-30), 3) := by decide +kernel
theorem dX0_giveUnit_37 : decode cX0_giveUnit 37 = .ok (.aload_n 0, 1) := by decide +kernel
theorem dX0_giveUnit_38 : decode cX0_giveUnit 38 = .ok (.getfield 9, 3) := by decide +kernel
theorem dX0_giveUnit_41 : decode cX0_giveUnit 41 = .ok (.iload_n 1, 1) := by decide +kernel
theorem dX0_giveUnit_42 : decode cX0_giveUnit 42 = .ok (.dup2, 1) := by decide +kernel
theorem dX0_giveUnit_43 : decode cX0_giveUnit 43 = .ok (.iaload, 1) := by decide +kernel
theorem dX0_giveUnit_44 : decode cX0_giveUnit 44 = .ok (.iconst 1, 1) := by decide +kernel
theorem dX0_giveUnit_45 : decode cX0_giveUnit 45 = .ok (.iadd, 1) := by decide +kernel
theorem dX0_giveUnit_46 : decode cX0_giveUnit 46 = .ok (.iastore, 1) := by decide +kernel
theorem dX0_giveUnit_47 : decode cX0_giveUnit 47 = .ok (.aload_n 0, 1) := by decide +kernel
theorem dX0_giveUnit_48 : decode cX0_giveUnit 48 = .ok (.getfield 15, 3) := by decide +kernel
theorem dX0_giveUnit_51 : decode cX0_giveUnit 51 = .ok (.iload_n 1, 1) := by decide +kernel
theorem dX0_giveUnit_52 : decode cX0_giveUnit 52 = .ok (.iconst 0, 1) := by decide +kernel
theorem dX0_giveUnit_53 : decode cX0_giveUnit 53 = .ok (.iastore, 1) := by decide +kernel
theorem dX0_giveUnit_54 : decode cX0_giveUnit 54 = .ok (.return_, 1) := by decide +kernel
theorem dX0_cutToCap_0 : decode cX0_cutToCap 0 = .ok (.iconst 0, 1) := by decide +kernel
theorem dX0_cutToCap_1 : decode cX0_cutToCap 1 = .ok (.istore 4, 2) := by decide +kernel
theorem dX0_cutToCap_3 : decode cX0_cutToCap 3 = .ok (.iload 4, 2) := by decide +kernel
theorem dX0_cutToCap_5 : decode cX0_cutToCap 5 = .ok (.bipush 12, 2) := by decide +kernel
theorem dX0_cutToCap_7 : decode cX0_cutToCap 7 = .ok (.if_icmp .ge 67, 3) := by decide +kernel
theorem dX0_cutToCap_10 : decode cX0_cutToCap 10 = .ok (.iconst 0, 1) := by decide +kernel
theorem dX0_cutToCap_11 : decode cX0_cutToCap 11 = .ok (.iload_n 3, 1) := by decide +kernel
theorem dX0_cutToCap_12 : decode cX0_cutToCap 12 = .ok (.aload_n 1, 1) := by decide +kernel
theorem dX0_cutToCap_13 : decode cX0_cutToCap 13 = .ok (.getfield 84, 3) := by decide +kernel
theorem dX0_cutToCap_16 : decode cX0_cutToCap 16 = .ok (.iload_n 2, 1) := by decide +kernel
theorem dX0_cutToCap_17 : decode cX0_cutToCap 17 = .ok (.iload 4, 2) := by decide +kernel
theorem dX0_cutToCap_19 : decode cX0_cutToCap 19 = .ok (.invokestatic 78, 3) := by decide +kernel
theorem dX0_cutToCap_22 : decode cX0_cutToCap 22 = .ok (.iaload, 1) := by decide +kernel
theorem dX0_cutToCap_23 : decode cX0_cutToCap 23 = .ok (.isub, 1) := by decide +kernel
theorem dX0_cutToCap_24 : decode cX0_cutToCap 24 = .ok (.invokestatic 69, 3) := by decide +kernel
theorem dX0_cutToCap_27 : decode cX0_cutToCap 27 = .ok (.istore 5, 2) := by decide +kernel
theorem dX0_cutToCap_29 : decode cX0_cutToCap 29 = .ok (.iconst 0, 1) := by decide +kernel
theorem dX0_cutToCap_30 : decode cX0_cutToCap 30 = .ok (.aload_n 0, 1) := by decide +kernel
theorem dX0_cutToCap_31 : decode cX0_cutToCap 31 = .ok (.getfield 9, 3) := by decide +kernel
theorem dX0_cutToCap_34 : decode cX0_cutToCap 34 = .ok (.iload 4, 2) := by decide +kernel
theorem dX0_cutToCap_36 : decode cX0_cutToCap 36 = .ok (.iaload, 1) := by decide +kernel
theorem dX0_cutToCap_37 : decode cX0_cutToCap 37 = .ok (.iload 5, 2) := by decide +kernel
theorem dX0_cutToCap_39 : decode cX0_cutToCap 39 = .ok (.isub, 1) := by decide +kernel
theorem dX0_cutToCap_40 : decode cX0_cutToCap 40 = .ok (.invokestatic 69, 3) := by decide +kernel
theorem dX0_cutToCap_43 : decode cX0_cutToCap 43 = .ok (.istore 6, 2) := by decide +kernel
theorem dX0_cutToCap_45 : decode cX0_cutToCap 45 = .ok (.aload_n 0, 1) := by decide +kernel
theorem dX0_cutToCap_46 : decode cX0_cutToCap 46 = .ok (.getfield 9, 3) := by decide +kernel
theorem dX0_cutToCap_49 : decode cX0_cutToCap 49 = .ok (.iload 4, 2) := by decide +kernel
theorem dX0_cutToCap_51 : decode cX0_cutToCap 51 = .ok (.dup2, 1) := by decide +kernel
theorem dX0_cutToCap_52 : decode cX0_cutToCap 52 = .ok (.iaload, 1) := by decide +kernel
theorem dX0_cutToCap_53 : decode cX0_cutToCap 53 = .ok (.iload 6, 2) := by decide +kernel
theorem dX0_cutToCap_55 : decode cX0_cutToCap 55 = .ok (.isub, 1) := by decide +kernel
theorem dX0_cutToCap_56 : decode cX0_cutToCap 56 = .ok (.iastore, 1) := by decide +kernel
theorem dX0_cutToCap_57 : decode cX0_cutToCap 57 = .ok (.aload_n 0, 1) := by decide +kernel
theorem dX0_cutToCap_58 : decode cX0_cutToCap 58 = .ok (.dup, 1) := by decide +kernel
theorem dX0_cutToCap_59 : decode cX0_cutToCap 59 = .ok (.getfield 45, 3) := by decide +kernel
theorem dX0_cutToCap_62 : decode cX0_cutToCap 62 = .ok (.iload 6, 2) := by decide +kernel
theorem dX0_cutToCap_64 : decode cX0_cutToCap 64 = .ok (.iadd, 1) := by decide +kernel
theorem dX0_cutToCap_65 : decode cX0_cutToCap 65 = .ok (.putfield 45, 3) := by decide +kernel
theorem dX0_cutToCap_68 : decode cX0_cutToCap 68 = .ok (.iinc 4 1, 3) := by decide +kernel
theorem dX0_cutToCap_71 : decode cX0_cutToCap 71 = .ok (.goto (-68), 3) := by decide +kernel
theorem dX0_cutToCap_74 : decode cX0_cutToCap 74 = .ok (.return_, 1) := by decide +kernel

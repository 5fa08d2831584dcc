theorem dX1_init_0 : decode cX1_init 0 = .ok (.aload_n 0, 1) := by decide +kernel
theorem dX1_init_1 : decode cX1_init 1 = .ok (.invokespecial 3, 3) := by decide +kernel
theorem dX1_init_4 : decode cX1_init 4 = .ok (.aload_n 0, 1) := by decide +kernel
theorem dX1_init_5 : decode cX1_init 5 = .ok (.bipush 12, 2) := by decide +kernel
theorem dX1_init_7 : decode cX1_init 7 = .ok (.newarray .int, 2) := by decide +kernel
theorem dX1_init_9 : decode cX1_init 9 = .ok (.putfield 9, 3) := by decide +kernel
theorem dX1_init_12 : decode cX1_init 12 = .ok (.aload_n 0, 1) := by decide +kernel
theorem dX1_init_13 : decode cX1_init 13 = .ok (.iconst 4, 1) := by decide +kernel
theorem dX1_init_14 : decode cX1_init 14 = .ok (.newarray .int, 2) := by decide +kernel
theorem dX1_init_16 : decode cX1_init 16 = .ok (.putfield 15, 3) := by decide +kernel
theorem dX1_init_19 : decode cX1_init 19 = .ok (.aload_n 0, 1) := by decide +kernel
theorem dX1_init_20 : decode cX1_init 20 = .ok (.iconst 4, 1) := by decide +kernel
theorem dX1_init_21 : decode cX1_init 21 = .ok (.newarray .int, 2) := by decide +kernel
theorem dX1_init_23 : decode cX1_init 23 = .ok (.putfield 18, 3) := by decide +kernel
theorem dX1_init_26 : decode cX1_init 26 = .ok (.aload_n 0, 1) := by decide +kernel
theorem dX1_init_27 : decode cX1_init 27 = .ok (.iconst 4, 1) := by decide +kernel
theorem dX1_init_28 : decode cX1_init 28 = .ok (.newarray .int, 2) := by decide +kernel
theorem dX1_init_30 : decode cX1_init 30 = .ok (.putfield 21, 3) := by decide +kernel
theorem dX1_init_33 : decode cX1_init 33 = .ok (.return_, 1) := by decide +kernel
theorem dX1_find_0 : decode cX1_find 0 = .ok (.aload_n 0, 1) := by decide +kernel
theorem dX1_find_1 : decode cX1_find 1 = .ok (.aload_n 1, 1) := by decide +kernel
theorem dX1_find_2 : decode cX1_find 2 = .ok (.iload_n 2, 1) := by decide +kernel
theorem dX1_find_3 : decode cX1_find 3 = .ok (.invokevirtual 24, 3) := by decide +kernel
theorem dX1_find_6 : decode cX1_find 6 = .ok (.aload_n 0, 1) := by decide +kernel
theorem dX1_find_7 : decode cX1_find 7 = .ok (.getfield 28, 3) := by decide +kernel
theorem dX1_find_10 : decode cX1_find 10 = .ok (.ifCond .ne 7, 3) := by decide +kernel
theorem dX1_find_13 : decode cX1_find 13 = .ok (.iconst 0, 1) := by decide +kernel
theorem dX1_find_14 : decode cX1_find 14 = .ok (.goto 11, 3) := by decide +kernel
theorem dX1_find_17 : decode cX1_find 17 = .ok (.iconst 1, 1) := by decide +kernel
theorem dX1_find_18 : decode cX1_find 18 = .ok (.iconst 2, 1) := by decide +kernel
theorem dX1_find_19 : decode cX1_find 19 = .ok (.aload_n 0, 1) := by decide +kernel
theorem dX1_find_20 : decode cX1_find 20 = .ok (.getfield 28, 3) := by decide +kernel
theorem dX1_find_23 : decode cX1_find 23 = .ok (.imul, 1) := by decide +kernel
theorem dX1_find_24 : decode cX1_find 24 = .ok (.ishl, 1) := by decide +kernel
theorem dX1_find_25 : decode cX1_find 25 = .ok (.istore_n 3, 1) := by decide +kernel
theorem dX1_find_26 : decode cX1_find 26 = .ok (.iconst 1, 1) := by decide +kernel
theorem dX1_find_27 : decode cX1_find 27 = .ok (.istore 4, 2) := by decide +kernel
theorem dX1_find_29 : decode cX1_find 29 = .ok (.iconst 0, 1) := by decide +kernel
theorem dX1_find_30 : decode cX1_find 30 = .ok (.istore 5, 2) := by decide +kernel
theorem dX1_find_32 : decode cX1_find 32 = .ok (.iconst 0, 1) := by decide +kernel
theorem dX1_find_33 : decode cX1_find 33 = .ok (.istore 6, 2) := by decide +kernel
theorem dX1_find_35 : decode cX1_find 35 = .ok (.iload 6, 2) := by decide +kernel
theorem dX1_find_37 : decode cX1_find 37 = .ok (.iload_n 3, 1) := by decide +kernel
theorem dX1_find_38 : decode cX1_find 38 = .ok (.if_icmp .ge 72, 3) := by decide +kernel
theorem dX1_find_41 : decode cX1_find 41 = .ok (.iload 4, 2) := by decide +kernel
theorem dX1_find_43 : decode cX1_find 43 = .ok (.ifCond .le 67, 3) := by decide +kernel
theorem dX1_find_46 : decode cX1_find 46 = .ok (.aload_n 0, 1) := by decide +kernel
theorem dX1_find_47 : decode cX1_find 47 = .ok (.iload 6, 2) := by decide +kernel
theorem dX1_find_49 : decode cX1_find 49 = .ok (.invokevirtual 32, 3) := by decide +kernel
theorem dX1_find_52 : decode cX1_find 52 = .ok (.istore 7, 2) := by decide +kernel
theorem dX1_find_54 : decode cX1_find 54 = .ok (.aload_n 0, 1) := by decide +kernel
theorem dX1_find_55 : decode cX1_find 55 = .ok (.iload 7, 2) := by decide +kernel
theorem dX1_find_57 : decode cX1_find 57 = .ok (.invokevirtual 36, 3) := by decide +kernel
theorem dX1_find_60 : decode cX1_find 60 = .ok (.istore 8, 2) := by decide +kernel
theorem dX1_find_62 : decode cX1_find 62 = .ok (.iload 8, 2) := by decide +kernel
theorem dX1_find_64 : decode cX1_find 64 = .ok (.iload 5, 2) := by decide +kernel
theorem dX1_find_66 : decode cX1_find 66 = .ok (.imul, 1) := by decide +kernel
theorem dX1_find_67 : decode cX1_find 67 = .ok (.iload 4, 2) := by decide +kernel
theorem dX1_find_69 : decode cX1_find 69 = .ok (.iload 7, 2) := by decide +kernel
theorem dX1_find_71 : decode cX1_find 71 = .ok (.imul, 1) := by decide +kernel
theorem dX1_find_72 : decode cX1_find 72 = .ok (.isub, 1) := by decide +kernel
theorem dX1_find_73 : decode cX1_find 73 = .ok (.istore 9, 2) := by decide +kernel
theorem dX1_find_75 : decode cX1_find 75 = .ok (.iload 9, 2) := by decide +kernel
theorem dX1_find_77 : decode cX1_find 77 = .ok (.ifCond .lt 15, 3) := by decide +kernel
theorem dX1_find_80 : decode cX1_find 80 = .ok (.iload 9, 2) := by decide +kernel
theorem dX1_find_82 : decode cX1_find 82 = .ok (.ifCond .ne 22, 3) := by decide +kernel
theorem dX1_find_85 : decode cX1_find 85 = .ok (.iload 7, 2) := by decide +kernel
theorem dX1_find_87 : decode cX1_find 87 = .ok (.iload 5, 2) := by decide +kernel
theorem dX1_find_89 : decode cX1_find 89 = .ok (.if_icmp .ge 15, 3) := by decide +kernel
theorem dX1_find_92 : decode cX1_find 92 = .ok (.iload 8, 2) := by decide +kernel
theorem dX1_find_94 : decode cX1_find 94 = .ok (.istore 4, 2) := by decide +kernel
theorem dX1_find_96 : decode cX1_find 96 = .ok (.iload 7, 2) := by decide +kernel
theorem dX1_find_98 : decode cX1_find 98 = .ok (.istore 5, 2) := by decide +kernel
theorem dX1_find_100 : decode cX1_find 100 = .ok (.aload_n 0, 1) := by decide +kernel
theorem dX1_find_101 : decode cX1_find 101 = .ok (.invokevirtual 39, 3) := by decide +kernel
theorem dX1_find_104 : decode cX1_find 104 = .ok (.iinc 6 1, 3) := by decide +kernel
theorem dX1_find_107 : decode cX1_find 107 = .ok (.goto (-72), 3) := by decide +kernel
theorem dX1_find_110 : decode cX1_find 110 = .ok (.return_, 1) := by decide +kernel
theorem dX1_begin_0 : decode cX1_begin 0 = .ok (.aload_n 1, 1) := by decide +kernel
theorem dX1_begin_1 : decode cX1_begin 1 = .ok (.iload_n 2, 1) := by decide +kernel
theorem dX1_begin_2 : decode cX1_begin 2 = .ok (.invokevirtual 42, 3) := by decide +kernel
theorem dX1_begin_5 : decode cX1_begin 5 = .ok (.istore_n 3, 1) := by decide +kernel
theorem dX1_begin_6 : decode cX1_begin 6 = .ok (.aload_n 0, 1) := by decide +kernel
theorem dX1_begin_7 : decode cX1_begin 7 = .ok (.iconst 0, 1) := by decide +kernel
theorem dX1_begin_8 : decode cX1_begin 8 = .ok (.putfield 28, 3) := by decide +kernel
theorem dX1_begin_11 : decode cX1_begin 11 = .ok (.aload_n 0, 1) := by decide +kernel
theorem dX1_begin_12 : decode cX1_begin 12 = .ok (.iconst 0, 1) := by decide +kernel
theorem dX1_begin_13 : decode cX1_begin 13 = .ok (.putfield 46, 3) := by decide +kernel
theorem dX1_begin_16 : decode cX1_begin 16 = .ok (.iconst 0, 1) := by decide +kernel
theorem dX1_begin_17 : decode cX1_begin 17 = .ok (.istore 4, 2) := by decide +kernel
theorem dX1_begin_19 : decode cX1_begin 19 = .ok (.iload 4, 2) := by decide +kernel
theorem dX1_begin_21 : decode cX1_begin 21 = .ok (.bipush 12, 2) := by decide +kernel
theorem dX1_begin_23 : decode cX1_begin 23 = .ok (.if_icmp .ge 93, 3) := by decide +kernel
theorem dX1_begin_26 : decode cX1_begin 26 = .ok (.aload_n 0, 1) := by decide +kernel
theorem dX1_begin_27 : decode cX1_begin 27 = .ok (.getfield 9, 3) := by decide +kernel
theorem dX1_begin_30 : decode cX1_begin 30 = .ok (.iload 4, 2) := by decide +kernel
theorem dX1_begin_32 : decode cX1_begin 32 = .ok (.iconst 0, 1) := by decide +kernel
theorem dX1_begin_33 : decode cX1_begin 33 = .ok (.iastore, 1) := by decide +kernel
theorem dX1_begin_34 : decode cX1_begin 34 = .ok (.iload_n 3, 1) := by decide +kernel
theorem dX1_begin_35 : decode cX1_begin 35 = .ok (.iload 4, 2) := by decide +kernel
theorem dX1_begin_37 : decode cX1_begin 37 = .ok (.invokestatic 49, 3) := by decide +kernel
theorem dX1_begin_40 : decode cX1_begin 40 = .ok (.ifCond .eq 70, 3) := by decide +kernel
theorem dX1_begin_43 : decode cX1_begin 43 = .ok (.aload_n 0, 1) := by decide +kernel
theorem dX1_begin_44 : decode cX1_begin 44 = .ok (.getfield 28, 3) := by decide +kernel
theorem dX1_begin_47 : decode cX1_begin 47 = .ok (.iconst 4, 1) := by decide +kernel
theorem dX1_begin_48 : decode cX1_begin 48 = .ok (.if_icmp .ge 62, 3) := by decide +kernel
theorem dX1_begin_51 : decode cX1_begin 51 = .ok (.aload_n 0, 1) := by decide +kernel
theorem dX1_begin_52 : decode cX1_begin 52 = .ok (.getfield 15, 3) := by decide +kernel
theorem dX1_begin_55 : decode cX1_begin 55 = .ok (.aload_n 0, 1) := by decide +kernel
theorem dX1_begin_56 : decode cX1_begin 56 = .ok (.getfield 28, 3) := by decide +kernel
theorem dX1_begin_59 : decode cX1_begin 59 = .ok (.iload 4, 2) := by decide +kernel
theorem dX1_begin_61 : decode cX1_begin 61 = .ok (.iastore, 1) := by decide +kernel
theorem dX1_begin_62 : decode cX1_begin 62 = .ok (.aload_n 0, 1) := by decide +kernel
theorem dX1_begin_63 : decode cX1_begin 63 = .ok (.getfield 18, 3) := by decide +kernel
theorem dX1_begin_66 : decode cX1_begin 66 = .ok (.aload_n 0, 1) := by decide +kernel
theorem dX1_begin_67 : decode cX1_begin 67 = .ok (.getfield 28, 3) := by decide +kernel
theorem dX1_begin_70 : decode cX1_begin 70 = .ok (.aload_n 1, 1) := by decide +kernel
theorem dX1_begin_71 : decode cX1_begin 71 = .ok (.getfield 53, 3) := by decide +kernel
theorem dX1_begin_74 : decode cX1_begin 74 = .ok (.iload_n 2, 1) := by decide +kernel
theorem dX1_begin_75 : decode cX1_begin 75 = .ok (.iload 4, 2) := by decide +kernel
theorem dX1_begin_77 : decode cX1_begin 77 = .ok (.invokestatic 54, 3) := by decide +kernel
theorem dX1_begin_80 : decode cX1_begin 80 = .ok (.iaload, 1) := by decide +kernel
theorem dX1_begin_81 : decode cX1_begin 81 = .ok (.iastore, 1) := by decide +kernel
theorem dX1_begin_82 : decode cX1_begin 82 = .ok (.aload_n 0, 1) := by decide +kernel
theorem dX1_begin_83 : decode cX1_begin 83 = .ok (.dup, 1) := by decide +kernel
theorem dX1_begin_84 : decode cX1_begin 84 = .ok (.getfield 46, 3) := by decide +kernel
theorem dX1_begin_87 : decode cX1_begin 87 = .ok (.aload_n 0, 1) := by decide +kernel
theorem dX1_begin_88 : decode cX1_begin 88 = .ok (.getfield 18, 3) := by decide +kernel
theorem dX1_begin_91 : decode cX1_begin 91 = .ok (.aload_n 0, 1) := by decide +kernel
theorem dX1_begin_92 : decode cX1_begin 92 = .ok (.getfield 28, 3) := by decide +kernel
theorem dX1_begin_95 : decode cX1_begin 95 = .ok (.iaload, 1) := by decide +kernel
theorem dX1_begin_96 : decode cX1_begin 96 = .ok (.iadd, 1) := by decide +kernel
theorem dX1_begin_97 : decode cX1_begin 97 = .ok (.putfield 46, 3) := by decide +kernel
theorem dX1_begin_100 : decode cX1_begin 100 = .ok (.aload_n 0, 1) := by decide +kernel
theorem dX1_begin_101 : decode cX1_begin 101 = .ok (.dup, 1) := by decide +kernel
theorem dX1_begin_102 : decode cX1_begin 102 = .ok (.getfield 28, 3) := by decide +kernel
theorem dX1_begin_105 : decode cX1_begin 105 = .ok (.iconst 1, 1) := by decide +kernel
theorem dX1_begin_106 : decode cX1_begin 106 = .ok (.iadd, 1) := by decide +kernel
theorem dX1_begin_107 : decode cX1_begin 107 = .ok (.putfield 28, 3) := by decide +kernel
theorem dX1_begin_110 : decode cX1_begin 110 = .ok (.iinc 4 1, 3) := by decide +kernel
theorem dX1_begin_113 : decode cX1_begin 113 = .ok (.goto (-94), 3) := by decide +kernel
theorem dX1_begin_116 : decode cX1_begin 116 = .ok (.return_, 1) := by decide +kernel
theorem dX1_setTrial_0 : decode cX1_setTrial 0 = .ok (.iload_n 1, 1) := by decide +kernel
theorem dX1_setTrial_1 : decode cX1_setTrial 1 = .ok (.istore_n 2, 1) := by decide +kernel
theorem dX1_setTrial_2 : decode cX1_setTrial 2 = .ok (.iconst 0, 1) := by decide +kernel
theorem dX1_setTrial_3 : decode cX1_setTrial 3 = .ok (.istore_n 3, 1) := by decide +kernel
theorem dX1_setTrial_4 : decode cX1_setTrial 4 = .ok (.aload_n 0, 1) := by decide +kernel
theorem dX1_setTrial_5 : decode cX1_setTrial 5 = .ok (.getfield 28, 3) := by decide +kernel
theorem dX1_setTrial_8 : decode cX1_setTrial 8 = .ok (.iconst 1, 1) := by decide +kernel
theorem dX1_setTrial_9 : decode cX1_setTrial 9 = .ok (.isub, 1) := by decide +kernel
theorem dX1_setTrial_10 : decode cX1_setTrial 10 = .ok (.istore 4, 2) := by decide +kernel
theorem dX1_setTrial_12 : decode cX1_setTrial 12 = .ok (.iload 4, 2) := by decide +kernel
theorem dX1_setTrial_14 : decode cX1_setTrial 14 = .ok (.ifCond .lt 35, 3) := by decide +kernel
theorem dX1_setTrial_17 : decode cX1_setTrial 17 = .ok (.aload_n 0, 1) := by decide +kernel
theorem dX1_setTrial_18 : decode cX1_setTrial 18 = .ok (.getfield 21, 3) := by decide +kernel
theorem dX1_setTrial_21 : decode cX1_setTrial 21 = .ok (.iload 4, 2) := by decide +kernel
theorem dX1_setTrial_23 : decode cX1_setTrial 23 = .ok (.iload_n 2, 1) := by decide +kernel
theorem dX1_setTrial_24 : decode cX1_setTrial 24 = .ok (.iconst 4, 1) := by decide +kernel
theorem dX1_setTrial_25 : decode cX1_setTrial 25 = .ok (.irem, 1) := by decide +kernel
theorem dX1_setTrial_26 : decode cX1_setTrial 26 = .ok (.iconst 1, 1) := by decide +kernel
theorem dX1_setTrial_27 : decode cX1_setTrial 27 = .ok (.iadd, 1) := by decide +kernel
theorem dX1_setTrial_28 : decode cX1_setTrial 28 = .ok (.iastore, 1) := by decide +kernel
theorem dX1_setTrial_29 : decode cX1_setTrial 29 = .ok (.iload_n 2, 1) := by decide +kernel
theorem dX1_setTrial_30 : decode cX1_setTrial 30 = .ok (.iconst 4, 1) := by decide +kernel
theorem dX1_setTrial_31 : decode cX1_setTrial 31 = .ok (.idiv, 1) := by decide +kernel
theorem dX1_setTrial_32 : decode cX1_setTrial 32 = .ok (.istore_n 2, 1) := by decide +kernel
theorem dX1_setTrial_33 : decode cX1_setTrial 33 = .ok (.iload_n 3, 1) := by decide +kernel
theorem dX1_setTrial_34 : decode cX1_setTrial 34 = .ok (.aload_n 0, 1) := by decide +kernel
theorem dX1_setTrial_35 : decode cX1_setTrial 35 = .ok (.getfield 21, 3) := by decide +kernel
theorem dX1_setTrial_38 : decode cX1_setTrial 38 = .ok (.iload 4, 2) := by decide +kernel
theorem dX1_setTrial_40 : decode cX1_setTrial 40 = .ok (.iaload, 1) := by decide +kernel
theorem dX1_setTrial_41 : decode cX1_setTrial 41 = .ok (.iadd, 1) := by decide +kernel
theorem dX1_setTrial_42 : decode cX1_setTrial 42 = .ok (.istore_n 3, 1) := by decide +kernel
theorem dX1_setTrial_43 : decode cX1_setTrial 43 = .ok (.iinc 4 (-1), 3) := by decide +kernel
theorem dX1_setTrial_46 : decode cX1_setTrial 46 = .ok (.goto (-34), 3) := by decide +kernel
theorem dX1_setTrial_49 : decode cX1_setTrial 49 = .ok (.iload_n 3, 1) := by decide +kernel
theorem dX1_setTrial_50 : decode cX1_setTrial 50 = .ok (.ireturn, 1) := by decide +kernel
theorem dX1_gap_0 : decode cX1_gap 0 = .ok (.iconst 0, 1) := by decide +kernel
theorem dX1_gap_1 : decode cX1_gap 1 = .ok (.istore_n 2, 1) := by decide +kernel
theorem dX1_gap_2 : decode cX1_gap 2 = .ok (.iconst 0, 1) := by decide +kernel
theorem dX1_gap_3 : decode cX1_gap 3 = .ok (.istore_n 3, 1) := by decide +kernel
theorem dX1_gap_4 : decode cX1_gap 4 = .ok (.iload_n 3, 1) := by decide +kernel
theorem dX1_gap_5 : decode cX1_gap 5 = .ok (.aload_n 0, 1) := by decide +kernel
theorem dX1_gap_6 : decode cX1_gap 6 = .ok (.getfield 28, 3) := by decide +kernel
theorem dX1_gap_9 : decode cX1_gap 9 = .ok (.if_icmp .ge 37, 3) := by decide +kernel
theorem dX1_gap_12 : decode cX1_gap 12 = .ok (.iload_n 2, 1) := by decide +kernel
theorem dX1_gap_13 : decode cX1_gap 13 = .ok (.aload_n 0, 1) := by decide +kernel
theorem dX1_gap_14 : decode cX1_gap 14 = .ok (.getfield 21, 3) := by decide +kernel
theorem dX1_gap_17 : decode cX1_gap 17 = .ok (.iload_n 3, 1) := by decide +kernel
theorem dX1_gap_18 : decode cX1_gap 18 = .ok (.iaload, 1) := by decide +kernel
theorem dX1_gap_19 : decode cX1_gap 19 = .ok (.aload_n 0, 1) := by decide +kernel
theorem dX1_gap_20 : decode cX1_gap 20 = .ok (.getfield 46, 3) := by decide +kernel
theorem dX1_gap_23 : decode cX1_gap 23 = .ok (.imul, 1) := by decide +kernel
theorem dX1_gap_24 : decode cX1_gap 24 = .ok (.aload_n 0, 1) := by decide +kernel
theorem dX1_gap_25 : decode cX1_gap 25 = .ok (.getfield 18, 3) := by decide +kernel
theorem dX1_gap_28 : decode cX1_gap 28 = .ok (.iload_n 3, 1) := by decide +kernel
theorem dX1_gap_29 : decode cX1_gap 29 = .ok (.iaload, 1) := by decide +kernel
theorem dX1_gap_30 : decode cX1_gap 30 = .ok (.iload_n 1, 1) := by decide +kernel
theorem dX1_gap_31 : decode cX1_gap 31 = .ok (.imul, 1) := by decide +kernel
theorem dX1_gap_32 : decode cX1_gap 32 = .ok (.isub, 1) := by decide +kernel
theorem dX1_gap_33 : decode cX1_gap 33 = .ok (.invokestatic 58, 3) := by decide +kernel
theorem dX1_gap_36 : decode cX1_gap 36 = .ok (.invokestatic 63, 3) := by decide +kernel
theorem dX1_gap_39 : decode cX1_gap 39 = .ok (.istore_n 2, 1) := by decide +kernel
theorem dX1_gap_40 : decode cX1_gap 40 = .ok (.iinc 3 1, 3) := by decide +kernel
theorem dX1_gap_43 : decode cX1_gap 43 = .ok (.goto (-39), 3) := by decide +kernel
theorem dX1_gap_46 : decode cX1_gap 46 = .ok (.iload_n 2, 1) := by decide +kernel
theorem dX1_gap_47 : decode cX1_gap 47 = .ok (.ireturn, 1) := by decide +kernel
theorem dX1_keepTrial_0 : decode cX1_keepTrial 0 = .ok (.iconst 0, 1) := by decide +kernel
theorem dX1_keepTrial_1 : decode cX1_keepTrial 1 = .ok (.istore_n 1, 1) := by decide +kernel
theorem dX1_keepTrial_2 : decode cX1_keepTrial 2 = .ok (.iload_n 1, 1) := by decide +kernel
theorem dX1_keepTrial_3 : decode cX1_keepTrial 3 = .ok (.aload_n 0, 1) := by decide +kernel
theorem dX1_keepTrial_4 : decode cX1_keepTrial 4 = .ok (.getfield 28, 3) := by decide +kernel
theorem dX1_keepTrial_7 : decode cX1_keepTrial 7 = .ok (.if_icmp .ge 26, 3) := by decide +kernel
theorem dX1_keepTrial_10 : decode cX1_keepTrial 10 = .ok (.aload_n 0, 1) := by decide +kernel
theorem dX1_keepTrial_11 : decode cX1_keepTrial 11 = .ok (.getfield 9, 3) := by decide +kernel
theorem dX1_keepTrial_14 : decode cX1_keepTrial 14 = .ok (.aload_n 0, 1) := by decide +kernel
theorem dX1_keepTrial_15 : decode cX1_keepTrial 15 = .ok (.getfield 15, 3) := by decide +kernel
theorem dX1_keepTrial_18 : decode cX1_keepTrial 18 = .ok (.iload_n 1, 1) := by decide +kernel
theorem dX1_keepTrial_19 : decode cX1_keepTrial 19 = .ok (.iaload, 1) := by decide +kernel
theorem dX1_keepTrial_20 : decode cX1_keepTrial 20 = .ok (.aload_n 0, 1) := by decide +kernel
theorem dX1_keepTrial_21 : decode cX1_keepTrial 21 = .ok (.getfield 21, 3) := by decide +kernel
theorem dX1_keepTrial_24 : decode cX1_keepTrial 24 = .ok (.iload_n 1, 1) := by decide +kernel
theorem dX1_keepTrial_25 : decode cX1_keepTrial 25 = .ok (.iaload, 1) := by decide +kernel
theorem dX1_keepTrial_26 : decode cX1_keepTrial 26 = .ok (.iastore, 1) := by decide +kernel
theorem dX1_keepTrial_27 : decode cX1_keepTrial 27 = .ok (.iinc 1 1, 3) := by decide +kernel
theorem dX1_keepTrial_30 : decode cX1_keepTrial 30 = .ok (.goto (-28), 3) := by decide +kernel
theorem dX1_keepTrial_33 : decode cX1_keepTrial 33 = .ok (.return_, 1) := by decide +kernel

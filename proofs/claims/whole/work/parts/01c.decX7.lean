theorem dX7_init_0 : decode cX7_init 0 = .ok (.aload_n 0, 1) := by decide +kernel
theorem dX7_init_1 : decode cX7_init 1 = .ok (.invokespecial 1, 3) := by decide +kernel
theorem dX7_init_4 : decode cX7_init 4 = .ok (.aload_n 0, 1) := by decide +kernel
theorem dX7_init_5 : decode cX7_init 5 = .ok (.sipush 906, 3) := by decide +kernel
theorem dX7_init_8 : decode cX7_init 8 = .ok (.newarray .int, 2) := by decide +kernel
theorem dX7_init_10 : decode cX7_init 10 = .ok (.putfield 7, 3) := by decide +kernel
theorem dX7_init_13 : decode cX7_init 13 = .ok (.aload_n 0, 1) := by decide +kernel
theorem dX7_init_14 : decode cX7_init 14 = .ok (.sipush 906, 3) := by decide +kernel
theorem dX7_init_17 : decode cX7_init 17 = .ok (.newarray .int, 2) := by decide +kernel
theorem dX7_init_19 : decode cX7_init 19 = .ok (.putfield 13, 3) := by decide +kernel
theorem dX7_init_22 : decode cX7_init 22 = .ok (.aload_n 0, 1) := by decide +kernel
theorem dX7_init_23 : decode cX7_init 23 = .ok (.sipush 5436, 3) := by decide +kernel
theorem dX7_init_26 : decode cX7_init 26 = .ok (.newarray .int, 2) := by decide +kernel
theorem dX7_init_28 : decode cX7_init 28 = .ok (.putfield 16, 3) := by decide +kernel
theorem dX7_init_31 : decode cX7_init 31 = .ok (.aload_n 0, 1) := by decide +kernel
theorem dX7_init_32 : decode cX7_init 32 = .ok (.bipush 60, 2) := by decide +kernel
theorem dX7_init_34 : decode cX7_init 34 = .ok (.newarray .int, 2) := by decide +kernel
theorem dX7_init_36 : decode cX7_init 36 = .ok (.putfield 19, 3) := by decide +kernel
theorem dX7_init_39 : decode cX7_init 39 = .ok (.aload_n 0, 1) := by decide +kernel
theorem dX7_init_40 : decode cX7_init 40 = .ok (.bipush 12, 2) := by decide +kernel
theorem dX7_init_42 : decode cX7_init 42 = .ok (.newarray .int, 2) := by decide +kernel
theorem dX7_init_44 : decode cX7_init 44 = .ok (.putfield 22, 3) := by decide +kernel
theorem dX7_init_47 : decode cX7_init 47 = .ok (.aload_n 0, 1) := by decide +kernel
theorem dX7_init_48 : decode cX7_init 48 = .ok (.bipush 12, 2) := by decide +kernel
theorem dX7_init_50 : decode cX7_init 50 = .ok (.newarray .int, 2) := by decide +kernel
theorem dX7_init_52 : decode cX7_init 52 = .ok (.putfield 25, 3) := by decide +kernel
theorem dX7_init_55 : decode cX7_init 55 = .ok (.aload_n 0, 1) := by decide +kernel
theorem dX7_init_56 : decode cX7_init 56 = .ok (.bipush 12, 2) := by decide +kernel
theorem dX7_init_58 : decode cX7_init 58 = .ok (.newarray .int, 2) := by decide +kernel
theorem dX7_init_60 : decode cX7_init 60 = .ok (.putfield 28, 3) := by decide +kernel
theorem dX7_init_63 : decode cX7_init 63 = .ok (.aload_n 0, 1) := by decide +kernel
theorem dX7_init_64 : decode cX7_init 64 = .ok (.iconst 4, 1) := by decide +kernel
theorem dX7_init_65 : decode cX7_init 65 = .ok (.newarray .int, 2) := by decide +kernel
theorem dX7_init_67 : decode cX7_init 67 = .ok (.putfield 31, 3) := by decide +kernel
theorem dX7_init_70 : decode cX7_init 70 = .ok (.aload_n 0, 1) := by decide +kernel
theorem dX7_init_71 : decode cX7_init 71 = .ok (.iconst 4, 1) := by decide +kernel
theorem dX7_init_72 : decode cX7_init 72 = .ok (.newarray .int, 2) := by decide +kernel
theorem dX7_init_74 : decode cX7_init 74 = .ok (.putfield 34, 3) := by decide +kernel
theorem dX7_init_77 : decode cX7_init 77 = .ok (.aload_n 0, 1) := by decide +kernel
theorem dX7_init_78 : decode cX7_init 78 = .ok (.iconst 4, 1) := by decide +kernel
theorem dX7_init_79 : decode cX7_init 79 = .ok (.newarray .int, 2) := by decide +kernel
theorem dX7_init_81 : decode cX7_init 81 = .ok (.putfield 37, 3) := by decide +kernel
theorem dX7_init_84 : decode cX7_init 84 = .ok (.aload_n 0, 1) := by decide +kernel
theorem dX7_init_85 : decode cX7_init 85 = .ok (.getfield 7, 3) := by decide +kernel
theorem dX7_init_88 : decode cX7_init 88 = .ok (.bipush 8, 2) := by decide +kernel
theorem dX7_init_90 : decode cX7_init 90 = .ok (.bipush 10, 2) := by decide +kernel
theorem dX7_init_92 : decode cX7_init 92 = .ok (.iastore, 1) := by decide +kernel
theorem dX7_init_93 : decode cX7_init 93 = .ok (.aload_n 0, 1) := by decide +kernel
theorem dX7_init_94 : decode cX7_init 94 = .ok (.getfield 7, 3) := by decide +kernel
theorem dX7_init_97 : decode cX7_init 97 = .ok (.bipush 9, 2) := by decide +kernel
theorem dX7_init_99 : decode cX7_init 99 = .ok (.iconst 5, 1) := by decide +kernel
theorem dX7_init_100 : decode cX7_init 100 = .ok (.iastore, 1) := by decide +kernel
theorem dX7_init_101 : decode cX7_init 101 = .ok (.aload_n 0, 1) := by decide +kernel
theorem dX7_init_102 : decode cX7_init 102 = .ok (.getfield 7, 3) := by decide +kernel
theorem dX7_init_105 : decode cX7_init 105 = .ok (.bipush 11, 2) := by decide +kernel
theorem dX7_init_107 : decode cX7_init 107 = .ok (.bipush 10, 2) := by decide +kernel
theorem dX7_init_109 : decode cX7_init 109 = .ok (.iastore, 1) := by decide +kernel
theorem dX7_init_110 : decode cX7_init 110 = .ok (.aload_n 0, 1) := by decide +kernel
theorem dX7_init_111 : decode cX7_init 111 = .ok (.getfield 7, 3) := by decide +kernel
theorem dX7_init_114 : decode cX7_init 114 = .ok (.bipush 12, 2) := by decide +kernel
theorem dX7_init_116 : decode cX7_init 116 = .ok (.bipush 25, 2) := by decide +kernel
theorem dX7_init_118 : decode cX7_init 118 = .ok (.iastore, 1) := by decide +kernel
theorem dX7_init_119 : decode cX7_init 119 = .ok (.aload_n 0, 1) := by decide +kernel
theorem dX7_init_120 : decode cX7_init 120 = .ok (.getfield 7, 3) := by decide +kernel
theorem dX7_init_123 : decode cX7_init 123 = .ok (.bipush 13, 2) := by decide +kernel
theorem dX7_init_125 : decode cX7_init 125 = .ok (.bipush 50, 2) := by decide +kernel
theorem dX7_init_127 : decode cX7_init 127 = .ok (.iastore, 1) := by decide +kernel
theorem dX7_init_128 : decode cX7_init 128 = .ok (.return_, 1) := by decide +kernel
theorem dX7_thrown_0 : decode cX7_thrown 0 = .ok (.aload_n 0, 1) := by decide +kernel
theorem dX7_thrown_1 : decode cX7_thrown 1 = .ok (.getfield 40, 3) := by decide +kernel
theorem dX7_thrown_4 : decode cX7_thrown 4 = .ok (.ireturn, 1) := by decide +kernel
theorem dX7_fails_0 : decode cX7_fails 0 = .ok (.aload_n 0, 1) := by decide +kernel
theorem dX7_fails_1 : decode cX7_fails 1 = .ok (.iload_n 1, 1) := by decide +kernel
theorem dX7_fails_2 : decode cX7_fails 2 = .ok (.putfield 40, 3) := by decide +kernel
theorem dX7_fails_5 : decode cX7_fails 5 = .ok (.iconst 0, 1) := by decide +kernel
theorem dX7_fails_6 : decode cX7_fails 6 = .ok (.ireturn, 1) := by decide +kernel
theorem dX7_within_0 : decode cX7_within 0 = .ok (.iload_n 0, 1) := by decide +kernel
theorem dX7_within_1 : decode cX7_within 1 = .ok (.iload_n 1, 1) := by decide +kernel
theorem dX7_within_2 : decode cX7_within 2 = .ok (.if_icmp .lt 12, 3) := by decide +kernel
theorem dX7_within_5 : decode cX7_within 5 = .ok (.iload_n 0, 1) := by decide +kernel
theorem dX7_within_6 : decode cX7_within 6 = .ok (.iload_n 2, 1) := by decide +kernel
theorem dX7_within_7 : decode cX7_within 7 = .ok (.if_icmp .gt 7, 3) := by decide +kernel
theorem dX7_within_10 : decode cX7_within 10 = .ok (.iconst 1, 1) := by decide +kernel
theorem dX7_within_11 : decode cX7_within 11 = .ok (.goto 4, 3) := by decide +kernel
theorem dX7_within_14 : decode cX7_within 14 = .ok (.iconst 0, 1) := by decide +kernel
theorem dX7_within_15 : decode cX7_within 15 = .ok (.ireturn, 1) := by decide +kernel
theorem dX7_isPen_0 : decode cX7_isPen 0 = .ok (.iload_n 1, 1) := by decide +kernel
theorem dX7_isPen_1 : decode cX7_isPen 1 = .ok (.iconst 0, 1) := by decide +kernel
theorem dX7_isPen_2 : decode cX7_isPen 2 = .ok (.aload_n 0, 1) := by decide +kernel
theorem dX7_isPen_3 : decode cX7_isPen 3 = .ok (.getfield 7, 3) := by decide +kernel
theorem dX7_isPen_6 : decode cX7_isPen 6 = .ok (.iconst 0, 1) := by decide +kernel
theorem dX7_isPen_7 : decode cX7_isPen 7 = .ok (.iaload, 1) := by decide +kernel
theorem dX7_isPen_8 : decode cX7_isPen 8 = .ok (.iconst 1, 1) := by decide +kernel
theorem dX7_isPen_9 : decode cX7_isPen 9 = .ok (.isub, 1) := by decide +kernel
theorem dX7_isPen_10 : decode cX7_isPen 10 = .ok (.invokestatic 44, 3) := by decide +kernel
theorem dX7_isPen_13 : decode cX7_isPen 13 = .ok (.ireturn, 1) := by decide +kernel
theorem dX7_isPiece_0 : decode cX7_isPiece 0 = .ok (.iload_n 1, 1) := by decide +kernel
theorem dX7_isPiece_1 : decode cX7_isPiece 1 = .ok (.iconst 0, 1) := by decide +kernel
theorem dX7_isPiece_2 : decode cX7_isPiece 2 = .ok (.aload_n 0, 1) := by decide +kernel
theorem dX7_isPiece_3 : decode cX7_isPiece 3 = .ok (.getfield 7, 3) := by decide +kernel
theorem dX7_isPiece_6 : decode cX7_isPiece 6 = .ok (.iconst 1, 1) := by decide +kernel
theorem dX7_isPiece_7 : decode cX7_isPiece 7 = .ok (.iaload, 1) := by decide +kernel
theorem dX7_isPiece_8 : decode cX7_isPiece 8 = .ok (.iconst 1, 1) := by decide +kernel
theorem dX7_isPiece_9 : decode cX7_isPiece 9 = .ok (.isub, 1) := by decide +kernel
theorem dX7_isPiece_10 : decode cX7_isPiece 10 = .ok (.invokestatic 44, 3) := by decide +kernel
theorem dX7_isPiece_13 : decode cX7_isPiece 13 = .ok (.ireturn, 1) := by decide +kernel
theorem dX7_of_0 : decode cX7_of 0 = .ok (.aload_n 0, 1) := by decide +kernel
theorem dX7_of_1 : decode cX7_of 1 = .ok (.getfield 7, 3) := by decide +kernel
theorem dX7_of_4 : decode cX7_of 4 = .ok (.bipush 14, 2) := by decide +kernel
theorem dX7_of_6 : decode cX7_of 6 = .ok (.bipush 6, 2) := by decide +kernel
theorem dX7_of_8 : decode cX7_of 8 = .ok (.iload_n 1, 1) := by decide +kernel
theorem dX7_of_9 : decode cX7_of 9 = .ok (.imul, 1) := by decide +kernel
theorem dX7_of_10 : decode cX7_of 10 = .ok (.iadd, 1) := by decide +kernel
theorem dX7_of_11 : decode cX7_of 11 = .ok (.iload_n 2, 1) := by decide +kernel
theorem dX7_of_12 : decode cX7_of 12 = .ok (.iadd, 1) := by decide +kernel
theorem dX7_of_13 : decode cX7_of 13 = .ok (.iaload, 1) := by decide +kernel
theorem dX7_of_14 : decode cX7_of 14 = .ok (.ireturn, 1) := by decide +kernel
theorem dX7_in_0 : decode cX7_in 0 = .ok (.aload_n 0, 1) := by decide +kernel
theorem dX7_in_1 : decode cX7_in 1 = .ok (.getfield 7, 3) := by decide +kernel
theorem dX7_in_4 : decode cX7_in 4 = .ok (.bipush 86, 2) := by decide +kernel
theorem dX7_in_6 : decode cX7_in 6 = .ok (.iconst 5, 1) := by decide +kernel
theorem dX7_in_7 : decode cX7_in 7 = .ok (.iload_n 1, 1) := by decide +kernel
theorem dX7_in_8 : decode cX7_in 8 = .ok (.imul, 1) := by decide +kernel
theorem dX7_in_9 : decode cX7_in 9 = .ok (.iadd, 1) := by decide +kernel
theorem dX7_in_10 : decode cX7_in 10 = .ok (.iload_n 2, 1) := by decide +kernel
theorem dX7_in_11 : decode cX7_in 11 = .ok (.iadd, 1) := by decide +kernel
theorem dX7_in_12 : decode cX7_in 12 = .ok (.iaload, 1) := by decide +kernel
theorem dX7_in_13 : decode cX7_in 13 = .ok (.ireturn, 1) := by decide +kernel
theorem dX7_drafts_0 : decode cX7_drafts 0 = .ok (.aload_n 0, 1) := by decide +kernel
theorem dX7_drafts_1 : decode cX7_drafts 1 = .ok (.getfield 7, 3) := by decide +kernel
theorem dX7_drafts_4 : decode cX7_drafts 4 = .ok (.sipush 186, 3) := by decide +kernel
theorem dX7_drafts_7 : decode cX7_drafts 7 = .ok (.bipush 12, 2) := by decide +kernel
theorem dX7_drafts_9 : decode cX7_drafts 9 = .ok (.iload_n 1, 1) := by decide +kernel
theorem dX7_drafts_10 : decode cX7_drafts 10 = .ok (.imul, 1) := by decide +kernel
theorem dX7_drafts_11 : decode cX7_drafts 11 = .ok (.iadd, 1) := by decide +kernel
theorem dX7_drafts_12 : decode cX7_drafts 12 = .ok (.iload_n 2, 1) := by decide +kernel
theorem dX7_drafts_13 : decode cX7_drafts 13 = .ok (.iadd, 1) := by decide +kernel
theorem dX7_drafts_14 : decode cX7_drafts 14 = .ok (.iaload, 1) := by decide +kernel
theorem dX7_drafts_15 : decode cX7_drafts 15 = .ok (.ireturn, 1) := by decide +kernel
theorem dX7_partsOf_0 : decode cX7_partsOf 0 = .ok (.aload_n 0, 1) := by decide +kernel
theorem dX7_partsOf_1 : decode cX7_partsOf 1 = .ok (.getfield 7, 3) := by decide +kernel
theorem dX7_partsOf_4 : decode cX7_partsOf 4 = .ok (.sipush 426, 3) := by decide +kernel
theorem dX7_partsOf_7 : decode cX7_partsOf 7 = .ok (.bipush 12, 2) := by decide +kernel
theorem dX7_partsOf_9 : decode cX7_partsOf 9 = .ok (.iload_n 1, 1) := by decide +kernel
theorem dX7_partsOf_10 : decode cX7_partsOf 10 = .ok (.imul, 1) := by decide +kernel
theorem dX7_partsOf_11 : decode cX7_partsOf 11 = .ok (.iadd, 1) := by decide +kernel
theorem dX7_partsOf_12 : decode cX7_partsOf 12 = .ok (.iload_n 2, 1) := by decide +kernel
theorem dX7_partsOf_13 : decode cX7_partsOf 13 = .ok (.iadd, 1) := by decide +kernel
theorem dX7_partsOf_14 : decode cX7_partsOf 14 = .ok (.iaload, 1) := by decide +kernel
theorem dX7_partsOf_15 : decode cX7_partsOf 15 = .ok (.ireturn, 1) := by decide +kernel
theorem dX7_save_0 : decode cX7_save 0 = .ok (.aload_n 0, 1) := by decide +kernel
theorem dX7_save_1 : decode cX7_save 1 = .ok (.getfield 48, 3) := by decide +kernel
theorem dX7_save_4 : decode cX7_save 4 = .ok (.bipush 6, 2) := by decide +kernel
theorem dX7_save_6 : decode cX7_save 6 = .ok (.if_icmp .ne 44, 3) := by decide +kernel
theorem dX7_save_9 : decode cX7_save 9 = .ok (.iconst 0, 1) := by decide +kernel
theorem dX7_save_10 : decode cX7_save 10 = .ok (.istore_n 1, 1) := by decide +kernel
theorem dX7_save_11 : decode cX7_save 11 = .ok (.iload_n 1, 1) := by decide +kernel
theorem dX7_save_12 : decode cX7_save 12 = .ok (.sipush 4530, 3) := by decide +kernel
theorem dX7_save_15 : decode cX7_save 15 = .ok (.if_icmp .ge 25, 3) := by decide +kernel
theorem dX7_save_18 : decode cX7_save 18 = .ok (.aload_n 0, 1) := by decide +kernel
theorem dX7_save_19 : decode cX7_save 19 = .ok (.getfield 16, 3) := by decide +kernel
theorem dX7_save_22 : decode cX7_save 22 = .ok (.iload_n 1, 1) := by decide +kernel
theorem dX7_save_23 : decode cX7_save 23 = .ok (.aload_n 0, 1) := by decide +kernel
theorem dX7_save_24 : decode cX7_save 24 = .ok (.getfield 16, 3) := by decide +kernel
theorem dX7_save_27 : decode cX7_save 27 = .ok (.sipush 906, 3) := by decide +kernel
theorem dX7_save_30 : decode cX7_save 30 = .ok (.iload_n 1, 1) := by decide +kernel
theorem dX7_save_31 : decode cX7_save 31 = .ok (.iadd, 1) := by decide +kernel
theorem dX7_save_32 : decode cX7_save 32 = .ok (.iaload, 1) := by decide +kernel
theorem dX7_save_33 : decode cX7_save 33 = .ok (.iastore, 1) := by decide +kernel
theorem dX7_save_34 : decode cX7_save 34 = .ok (.iinc 1 1, 3) := by decide +kernel
theorem dX7_save_37 : decode cX7_save 37 = .ok (.goto (-26), 3) := by decide +kernel
theorem dX7_save_40 : decode cX7_save 40 = .ok (.aload_n 0, 1) := by decide +kernel
theorem dX7_save_41 : decode cX7_save 41 = .ok (.dup, 1) := by decide +kernel
theorem dX7_save_42 : decode cX7_save 42 = .ok (.getfield 48, 3) := by decide +kernel
theorem dX7_save_45 : decode cX7_save 45 = .ok (.iconst 1, 1) := by decide +kernel
theorem dX7_save_46 : decode cX7_save 46 = .ok (.isub, 1) := by decide +kernel
theorem dX7_save_47 : decode cX7_save 47 = .ok (.putfield 48, 3) := by decide +kernel
theorem dX7_save_50 : decode cX7_save 50 = .ok (.iconst 0, 1) := by decide +kernel
theorem dX7_save_51 : decode cX7_save 51 = .ok (.istore_n 1, 1) := by decide +kernel
theorem dX7_save_52 : decode cX7_save 52 = .ok (.iload_n 1, 1) := by decide +kernel
theorem dX7_save_53 : decode cX7_save 53 = .ok (.sipush 906, 3) := by decide +kernel
theorem dX7_save_56 : decode cX7_save 56 = .ok (.if_icmp .ge 30, 3) := by decide +kernel
theorem dX7_save_59 : decode cX7_save 59 = .ok (.aload_n 0, 1) := by decide +kernel
theorem dX7_save_60 : decode cX7_save 60 = .ok (.getfield 16, 3) := by decide +kernel
theorem dX7_save_63 : decode cX7_save 63 = .ok (.sipush 906, 3) := by decide +kernel
theorem dX7_save_66 : decode cX7_save 66 = .ok (.aload_n 0, 1) := by decide +kernel
theorem dX7_save_67 : decode cX7_save 67 = .ok (.getfield 48, 3) := by decide +kernel
theorem dX7_save_70 : decode cX7_save 70 = .ok (.imul, 1) := by decide +kernel
theorem dX7_save_71 : decode cX7_save 71 = .ok (.iload_n 1, 1) := by decide +kernel
theorem dX7_save_72 : decode cX7_save 72 = .ok (.iadd, 1) := by decide +kernel
theorem dX7_save_73 : decode cX7_save 73 = .ok (.aload_n 0, 1) := by decide +kernel
theorem dX7_save_74 : decode cX7_save 74 = .ok (.getfield 7, 3) := by decide +kernel
theorem dX7_save_77 : decode cX7_save 77 = .ok (.iload_n 1, 1) := by decide +kernel
theorem dX7_save_78 : decode cX7_save 78 = .ok (.iaload, 1) := by decide +kernel
theorem dX7_save_79 : decode cX7_save 79 = .ok (.iastore, 1) := by decide +kernel
theorem dX7_save_80 : decode cX7_save 80 = .ok (.iinc 1 1, 3) := by decide +kernel
theorem dX7_save_83 : decode cX7_save 83 = .ok (.goto (-31), 3) := by decide +kernel
theorem dX7_save_86 : decode cX7_save 86 = .ok (.aload_n 0, 1) := by decide +kernel
theorem dX7_save_87 : decode cX7_save 87 = .ok (.dup, 1) := by decide +kernel
theorem dX7_save_88 : decode cX7_save 88 = .ok (.getfield 48, 3) := by decide +kernel
theorem dX7_save_91 : decode cX7_save 91 = .ok (.iconst 1, 1) := by decide +kernel
theorem dX7_save_92 : decode cX7_save 92 = .ok (.iadd, 1) := by decide +kernel
theorem dX7_save_93 : decode cX7_save 93 = .ok (.putfield 48, 3) := by decide +kernel
theorem dX7_save_96 : decode cX7_save 96 = .ok (.return_, 1) := by decide +kernel
theorem dX7_keep_0 : decode cX7_keep 0 = .ok (.iconst 0, 1) := by decide +kernel
theorem dX7_keep_1 : decode cX7_keep 1 = .ok (.istore_n 1, 1) := by decide +kernel
theorem dX7_keep_2 : decode cX7_keep 2 = .ok (.iload_n 1, 1) := by decide +kernel
theorem dX7_keep_3 : decode cX7_keep 3 = .ok (.sipush 906, 3) := by decide +kernel
theorem dX7_keep_6 : decode cX7_keep 6 = .ok (.if_icmp .ge 21, 3) := by decide +kernel
theorem dX7_keep_9 : decode cX7_keep 9 = .ok (.aload_n 0, 1) := by decide +kernel
theorem dX7_keep_10 : decode cX7_keep 10 = .ok (.getfield 13, 3) := by decide +kernel
theorem dX7_keep_13 : decode cX7_keep 13 = .ok (.iload_n 1, 1) := by decide +kernel
theorem dX7_keep_14 : decode cX7_keep 14 = .ok (.aload_n 0, 1) := by decide +kernel
theorem dX7_keep_15 : decode cX7_keep 15 = .ok (.getfield 7, 3) := by decide +kernel
theorem dX7_keep_18 : decode cX7_keep 18 = .ok (.iload_n 1, 1) := by decide +kernel
theorem dX7_keep_19 : decode cX7_keep 19 = .ok (.iaload, 1) := by decide +kernel
theorem dX7_keep_20 : decode cX7_keep 20 = .ok (.iastore, 1) := by decide +kernel
theorem dX7_keep_21 : decode cX7_keep 21 = .ok (.iinc 1 1, 3) := by decide +kernel
theorem dX7_keep_24 : decode cX7_keep 24 = .ok (.goto (-22), 3) := by decide +kernel
theorem dX7_keep_27 : decode cX7_keep 27 = .ok (.return_, 1) := by decide +kernel
theorem dX7_bring_0 : decode cX7_bring 0 = .ok (.iconst 0, 1) := by decide +kernel
theorem dX7_bring_1 : decode cX7_bring 1 = .ok (.istore_n 1, 1) := by decide +kernel
theorem dX7_bring_2 : decode cX7_bring 2 = .ok (.iload_n 1, 1) := by decide +kernel
theorem dX7_bring_3 : decode cX7_bring 3 = .ok (.sipush 906, 3) := by decide +kernel
theorem dX7_bring_6 : decode cX7_bring 6 = .ok (.if_icmp .ge 21, 3) := by decide +kernel
theorem dX7_bring_9 : decode cX7_bring 9 = .ok (.aload_n 0, 1) := by decide +kernel
theorem dX7_bring_10 : decode cX7_bring 10 = .ok (.getfield 7, 3) := by decide +kernel
theorem dX7_bring_13 : decode cX7_bring 13 = .ok (.iload_n 1, 1) := by decide +kernel
theorem dX7_bring_14 : decode cX7_bring 14 = .ok (.aload_n 0, 1) := by decide +kernel
theorem dX7_bring_15 : decode cX7_bring 15 = .ok (.getfield 13, 3) := by decide +kernel
theorem dX7_bring_18 : decode cX7_bring 18 = .ok (.iload_n 1, 1) := by decide +kernel
theorem dX7_bring_19 : decode cX7_bring 19 = .ok (.iaload, 1) := by decide +kernel
theorem dX7_bring_20 : decode cX7_bring 20 = .ok (.iastore, 1) := by decide +kernel
theorem dX7_bring_21 : decode cX7_bring 21 = .ok (.iinc 1 1, 3) := by decide +kernel
theorem dX7_bring_24 : decode cX7_bring 24 = .ok (.goto (-22), 3) := by decide +kernel
theorem dX7_bring_27 : decode cX7_bring 27 = .ok (.return_, 1) := by decide +kernel
theorem dX7_rowSum_0 : decode cX7_rowSum 0 = .ok (.iconst 0, 1) := by decide +kernel
theorem dX7_rowSum_1 : decode cX7_rowSum 1 = .ok (.istore_n 2, 1) := by decide +kernel
theorem dX7_rowSum_2 : decode cX7_rowSum 2 = .ok (.iconst 0, 1) := by decide +kernel
theorem dX7_rowSum_3 : decode cX7_rowSum 3 = .ok (.istore_n 3, 1) := by decide +kernel
theorem dX7_rowSum_4 : decode cX7_rowSum 4 = .ok (.iload_n 3, 1) := by decide +kernel
theorem dX7_rowSum_5 : decode cX7_rowSum 5 = .ok (.bipush 12, 2) := by decide +kernel
theorem dX7_rowSum_7 : decode cX7_rowSum 7 = .ok (.if_icmp .ge 20, 3) := by decide +kernel
theorem dX7_rowSum_10 : decode cX7_rowSum 10 = .ok (.iload_n 2, 1) := by decide +kernel
theorem dX7_rowSum_11 : decode cX7_rowSum 11 = .ok (.aload_n 0, 1) := by decide +kernel
theorem dX7_rowSum_12 : decode cX7_rowSum 12 = .ok (.getfield 7, 3) := by decide +kernel
theorem dX7_rowSum_15 : decode cX7_rowSum 15 = .ok (.iload_n 1, 1) := by decide +kernel
theorem dX7_rowSum_16 : decode cX7_rowSum 16 = .ok (.iload_n 3, 1) := by decide +kernel
theorem dX7_rowSum_17 : decode cX7_rowSum 17 = .ok (.iadd, 1) := by decide +kernel
theorem dX7_rowSum_18 : decode cX7_rowSum 18 = .ok (.iaload, 1) := by decide +kernel
theorem dX7_rowSum_19 : decode cX7_rowSum 19 = .ok (.iadd, 1) := by decide +kernel
theorem dX7_rowSum_20 : decode cX7_rowSum 20 = .ok (.istore_n 2, 1) := by decide +kernel
theorem dX7_rowSum_21 : decode cX7_rowSum 21 = .ok (.iinc 3 1, 3) := by decide +kernel
theorem dX7_rowSum_24 : decode cX7_rowSum 24 = .ok (.goto (-20), 3) := by decide +kernel
theorem dX7_rowSum_27 : decode cX7_rowSum 27 = .ok (.iload_n 2, 1) := by decide +kernel
theorem dX7_rowSum_28 : decode cX7_rowSum 28 = .ok (.ireturn, 1) := by decide +kernel
theorem dX7_allDrafts_0 : decode cX7_allDrafts 0 = .ok (.aload_n 0, 1) := by decide +kernel
theorem dX7_allDrafts_1 : decode cX7_allDrafts 1 = .ok (.sipush 186, 3) := by decide +kernel
theorem dX7_allDrafts_4 : decode cX7_allDrafts 4 = .ok (.bipush 12, 2) := by decide +kernel
theorem dX7_allDrafts_6 : decode cX7_allDrafts 6 = .ok (.iload_n 1, 1) := by decide +kernel
theorem dX7_allDrafts_7 : decode cX7_allDrafts 7 = .ok (.imul, 1) := by decide +kernel
theorem dX7_allDrafts_8 : decode cX7_allDrafts 8 = .ok (.iadd, 1) := by decide +kernel
theorem dX7_allDrafts_9 : decode cX7_allDrafts 9 = .ok (.invokevirtual 51, 3) := by decide +kernel
theorem dX7_allDrafts_12 : decode cX7_allDrafts 12 = .ok (.ireturn, 1) := by decide +kernel
theorem dX7_allParts_0 : decode cX7_allParts 0 = .ok (.aload_n 0, 1) := by decide +kernel
theorem dX7_allParts_1 : decode cX7_allParts 1 = .ok (.sipush 426, 3) := by decide +kernel
theorem dX7_allParts_4 : decode cX7_allParts 4 = .ok (.bipush 12, 2) := by decide +kernel
theorem dX7_allParts_6 : decode cX7_allParts 6 = .ok (.iload_n 1, 1) := by decide +kernel
theorem dX7_allParts_7 : decode cX7_allParts 7 = .ok (.imul, 1) := by decide +kernel
theorem dX7_allParts_8 : decode cX7_allParts 8 = .ok (.iadd, 1) := by decide +kernel
theorem dX7_allParts_9 : decode cX7_allParts 9 = .ok (.invokevirtual 51, 3) := by decide +kernel
theorem dX7_allParts_12 : decode cX7_allParts 12 = .ok (.ireturn, 1) := by decide +kernel
theorem dX7_addPen_0 : decode cX7_addPen 0 = .ok (.aload_n 0, 1) := by decide +kernel
theorem dX7_addPen_1 : decode cX7_addPen 1 = .ok (.iconst 0, 1) := by decide +kernel
theorem dX7_addPen_2 : decode cX7_addPen 2 = .ok (.putfield 40, 3) := by decide +kernel
theorem dX7_addPen_5 : decode cX7_addPen 5 = .ok (.aload_n 0, 1) := by decide +kernel
theorem dX7_addPen_6 : decode cX7_addPen 6 = .ok (.getfield 7, 3) := by decide +kernel
theorem dX7_addPen_9 : decode cX7_addPen 9 = .ok (.iconst 0, 1) := by decide +kernel
theorem dX7_addPen_10 : decode cX7_addPen 10 = .ok (.iaload, 1) := by decide +kernel
theorem dX7_addPen_11 : decode cX7_addPen 11 = .ok (.bipush 12, 2) := by decide +kernel
theorem dX7_addPen_13 : decode cX7_addPen 13 = .ok (.if_icmp .ne 9, 3) := by decide +kernel
theorem dX7_addPen_16 : decode cX7_addPen 16 = .ok (.aload_n 0, 1) := by decide +kernel
theorem dX7_addPen_17 : decode cX7_addPen 17 = .ok (.iconst 1, 1) := by decide +kernel
theorem dX7_addPen_18 : decode cX7_addPen 18 = .ok (.invokevirtual 55, 3) := by decide +kernel
theorem dX7_addPen_21 : decode cX7_addPen 21 = .ok (.ireturn, 1) := by decide +kernel
theorem dX7_addPen_22 : decode cX7_addPen 22 = .ok (.aload_n 0, 1) := by decide +kernel
theorem dX7_addPen_23 : decode cX7_addPen 23 = .ok (.invokevirtual 58, 3) := by decide +kernel
theorem dX7_addPen_26 : decode cX7_addPen 26 = .ok (.aload_n 0, 1) := by decide +kernel
theorem dX7_addPen_27 : decode cX7_addPen 27 = .ok (.getfield 7, 3) := by decide +kernel
theorem dX7_addPen_30 : decode cX7_addPen 30 = .ok (.bipush 14, 2) := by decide +kernel
theorem dX7_addPen_32 : decode cX7_addPen 32 = .ok (.bipush 6, 2) := by decide +kernel
theorem dX7_addPen_34 : decode cX7_addPen 34 = .ok (.aload_n 0, 1) := by decide +kernel
theorem dX7_addPen_35 : decode cX7_addPen 35 = .ok (.getfield 7, 3) := by decide +kernel
theorem dX7_addPen_38 : decode cX7_addPen 38 = .ok (.iconst 0, 1) := by decide +kernel
theorem dX7_addPen_39 : decode cX7_addPen 39 = .ok (.iaload, 1) := by decide +kernel
theorem dX7_addPen_40 : decode cX7_addPen 40 = .ok (.imul, 1) := by decide +kernel
theorem dX7_addPen_41 : decode cX7_addPen 41 = .ok (.iadd, 1) := by decide +kernel
theorem dX7_addPen_42 : decode cX7_addPen 42 = .ok (.iconst 3, 1) := by decide +kernel
theorem dX7_addPen_43 : decode cX7_addPen 43 = .ok (.iadd, 1) := by decide +kernel
theorem dX7_addPen_44 : decode cX7_addPen 44 = .ok (.aload_n 0, 1) := by decide +kernel
theorem dX7_addPen_45 : decode cX7_addPen 45 = .ok (.getfield 7, 3) := by decide +kernel
theorem dX7_addPen_48 : decode cX7_addPen 48 = .ok (.iconst 0, 1) := by decide +kernel
theorem dX7_addPen_49 : decode cX7_addPen 49 = .ok (.iaload, 1) := by decide +kernel
theorem dX7_addPen_50 : decode cX7_addPen 50 = .ok (.iastore, 1) := by decide +kernel
theorem dX7_addPen_51 : decode cX7_addPen 51 = .ok (.aload_n 0, 1) := by decide +kernel
theorem dX7_addPen_52 : decode cX7_addPen 52 = .ok (.getfield 7, 3) := by decide +kernel
theorem dX7_addPen_55 : decode cX7_addPen 55 = .ok (.iconst 0, 1) := by decide +kernel
theorem dX7_addPen_56 : decode cX7_addPen 56 = .ok (.dup2, 1) := by decide +kernel
theorem dX7_addPen_57 : decode cX7_addPen 57 = .ok (.iaload, 1) := by decide +kernel
theorem dX7_addPen_58 : decode cX7_addPen 58 = .ok (.iconst 1, 1) := by decide +kernel
theorem dX7_addPen_59 : decode cX7_addPen 59 = .ok (.iadd, 1) := by decide +kernel
theorem dX7_addPen_60 : decode cX7_addPen 60 = .ok (.iastore, 1) := by decide +kernel
theorem dX7_addPen_61 : decode cX7_addPen 61 = .ok (.aload_n 0, 1) := by decide +kernel
theorem dX7_addPen_62 : decode cX7_addPen 62 = .ok (.getfield 7, 3) := by decide +kernel
theorem dX7_addPen_65 : decode cX7_addPen 65 = .ok (.iconst 0, 1) := by decide +kernel
theorem dX7_addPen_66 : decode cX7_addPen 66 = .ok (.iaload, 1) := by decide +kernel
theorem dX7_addPen_67 : decode cX7_addPen 67 = .ok (.iconst 1, 1) := by decide +kernel
theorem dX7_addPen_68 : decode cX7_addPen 68 = .ok (.isub, 1) := by decide +kernel
theorem dX7_addPen_69 : decode cX7_addPen 69 = .ok (.ireturn, 1) := by decide +kernel
theorem dX7_sold_0 : decode cX7_sold 0 = .ok (.aload_n 0, 1) := by decide +kernel
theorem dX7_sold_1 : decode cX7_sold 1 = .ok (.iload_n 1, 1) := by decide +kernel
theorem dX7_sold_2 : decode cX7_sold 2 = .ok (.iconst 3, 1) := by decide +kernel
theorem dX7_sold_3 : decode cX7_sold 3 = .ok (.invokevirtual 61, 3) := by decide +kernel
theorem dX7_sold_6 : decode cX7_sold 6 = .ok (.istore 4, 2) := by decide +kernel
theorem dX7_sold_8 : decode cX7_sold 8 = .ok (.aload_n 0, 1) := by decide +kernel
theorem dX7_sold_9 : decode cX7_sold 9 = .ok (.getfield 7, 3) := by decide +kernel
theorem dX7_sold_12 : decode cX7_sold 12 = .ok (.bipush 14, 2) := by decide +kernel
theorem dX7_sold_14 : decode cX7_sold 14 = .ok (.bipush 6, 2) := by decide +kernel
theorem dX7_sold_16 : decode cX7_sold 16 = .ok (.iload_n 2, 1) := by decide +kernel
theorem dX7_sold_17 : decode cX7_sold 17 = .ok (.imul, 1) := by decide +kernel
theorem dX7_sold_18 : decode cX7_sold 18 = .ok (.iadd, 1) := by decide +kernel
theorem dX7_sold_19 : decode cX7_sold 19 = .ok (.dup2, 1) := by decide +kernel
theorem dX7_sold_20 : decode cX7_sold 20 = .ok (.iaload, 1) := by decide +kernel
theorem dX7_sold_21 : decode cX7_sold 21 = .ok (.iload_n 3, 1) := by decide +kernel
theorem dX7_sold_22 : decode cX7_sold 22 = .ok (.isub, 1) := by decide +kernel
theorem dX7_sold_23 : decode cX7_sold 23 = .ok (.iastore, 1) := by decide +kernel
theorem dX7_sold_24 : decode cX7_sold 24 = .ok (.aload_n 0, 1) := by decide +kernel
theorem dX7_sold_25 : decode cX7_sold 25 = .ok (.getfield 7, 3) := by decide +kernel
theorem dX7_sold_28 : decode cX7_sold 28 = .ok (.bipush 14, 2) := by decide +kernel
theorem dX7_sold_30 : decode cX7_sold 30 = .ok (.bipush 6, 2) := by decide +kernel
theorem dX7_sold_32 : decode cX7_sold 32 = .ok (.iload 4, 2) := by decide +kernel
theorem dX7_sold_34 : decode cX7_sold 34 = .ok (.imul, 1) := by decide +kernel
theorem dX7_sold_35 : decode cX7_sold 35 = .ok (.iadd, 1) := by decide +kernel
theorem dX7_sold_36 : decode cX7_sold 36 = .ok (.dup2, 1) := by decide +kernel
theorem dX7_sold_37 : decode cX7_sold 37 = .ok (.iaload, 1) := by decide +kernel
theorem dX7_sold_38 : decode cX7_sold 38 = .ok (.iload_n 3, 1) := by decide +kernel
theorem dX7_sold_39 : decode cX7_sold 39 = .ok (.iadd, 1) := by decide +kernel
theorem dX7_sold_40 : decode cX7_sold 40 = .ok (.iastore, 1) := by decide +kernel
theorem dX7_sold_41 : decode cX7_sold 41 = .ok (.aload_n 0, 1) := by decide +kernel
theorem dX7_sold_42 : decode cX7_sold 42 = .ok (.getfield 7, 3) := by decide +kernel
theorem dX7_sold_45 : decode cX7_sold 45 = .ok (.bipush 14, 2) := by decide +kernel
theorem dX7_sold_47 : decode cX7_sold 47 = .ok (.bipush 6, 2) := by decide +kernel
theorem dX7_sold_49 : decode cX7_sold 49 = .ok (.iload_n 1, 1) := by decide +kernel
theorem dX7_sold_50 : decode cX7_sold 50 = .ok (.imul, 1) := by decide +kernel
theorem dX7_sold_51 : decode cX7_sold 51 = .ok (.iadd, 1) := by decide +kernel
theorem dX7_sold_52 : decode cX7_sold 52 = .ok (.iconst 3, 1) := by decide +kernel
theorem dX7_sold_53 : decode cX7_sold 53 = .ok (.iadd, 1) := by decide +kernel
theorem dX7_sold_54 : decode cX7_sold 54 = .ok (.iload_n 2, 1) := by decide +kernel
theorem dX7_sold_55 : decode cX7_sold 55 = .ok (.iastore, 1) := by decide +kernel
theorem dX7_sold_56 : decode cX7_sold 56 = .ok (.aload_n 0, 1) := by decide +kernel
theorem dX7_sold_57 : decode cX7_sold 57 = .ok (.getfield 7, 3) := by decide +kernel
theorem dX7_sold_60 : decode cX7_sold 60 = .ok (.bipush 14, 2) := by decide +kernel
theorem dX7_sold_62 : decode cX7_sold 62 = .ok (.bipush 6, 2) := by decide +kernel
theorem dX7_sold_64 : decode cX7_sold 64 = .ok (.iload_n 1, 1) := by decide +kernel
theorem dX7_sold_65 : decode cX7_sold 65 = .ok (.imul, 1) := by decide +kernel
theorem dX7_sold_66 : decode cX7_sold 66 = .ok (.iadd, 1) := by decide +kernel
theorem dX7_sold_67 : decode cX7_sold 67 = .ok (.iconst 4, 1) := by decide +kernel
theorem dX7_sold_68 : decode cX7_sold 68 = .ok (.iadd, 1) := by decide +kernel
theorem dX7_sold_69 : decode cX7_sold 69 = .ok (.iload_n 3, 1) := by decide +kernel
theorem dX7_sold_70 : decode cX7_sold 70 = .ok (.iastore, 1) := by decide +kernel
theorem dX7_sold_71 : decode cX7_sold 71 = .ok (.iload 4, 2) := by decide +kernel
theorem dX7_sold_73 : decode cX7_sold 73 = .ok (.ireturn, 1) := by decide +kernel
theorem dX7_sell_0 : decode cX7_sell 0 = .ok (.aload_n 0, 1) := by decide +kernel
theorem dX7_sell_1 : decode cX7_sell 1 = .ok (.iconst 0, 1) := by decide +kernel
theorem dX7_sell_2 : decode cX7_sell 2 = .ok (.putfield 40, 3) := by decide +kernel
theorem dX7_sell_5 : decode cX7_sell 5 = .ok (.aload_n 0, 1) := by decide +kernel
theorem dX7_sell_6 : decode cX7_sell 6 = .ok (.iload_n 1, 1) := by decide +kernel
theorem dX7_sell_7 : decode cX7_sell 7 = .ok (.invokevirtual 65, 3) := by decide +kernel
theorem dX7_sell_10 : decode cX7_sell 10 = .ok (.ifCond .eq 11, 3) := by decide +kernel
theorem dX7_sell_13 : decode cX7_sell 13 = .ok (.aload_n 0, 1) := by decide +kernel
theorem dX7_sell_14 : decode cX7_sell 14 = .ok (.iload_n 2, 1) := by decide +kernel
theorem dX7_sell_15 : decode cX7_sell 15 = .ok (.invokevirtual 65, 3) := by decide +kernel
theorem dX7_sell_18 : decode cX7_sell 18 = .ok (.ifCond .ne 9, 3) := by decide +kernel
theorem dX7_sell_21 : decode cX7_sell 21 = .ok (.aload_n 0, 1) := by decide +kernel
theorem dX7_sell_22 : decode cX7_sell 22 = .ok (.iconst 1, 1) := by decide +kernel
theorem dX7_sell_23 : decode cX7_sell 23 = .ok (.invokevirtual 55, 3) := by decide +kernel
theorem dX7_sell_26 : decode cX7_sell 26 = .ok (.ireturn, 1) := by decide +kernel
theorem dX7_sell_27 : decode cX7_sell 27 = .ok (.iload_n 3, 1) := by decide +kernel
theorem dX7_sell_28 : decode cX7_sell 28 = .ok (.iconst 0, 1) := by decide +kernel
theorem dX7_sell_29 : decode cX7_sell 29 = .ok (.ldc 69, 2) := by decide +kernel
theorem dX7_sell_31 : decode cX7_sell 31 = .ok (.invokestatic 44, 3) := by decide +kernel
theorem dX7_sell_34 : decode cX7_sell 34 = .ok (.ifCond .eq 13, 3) := by decide +kernel
theorem dX7_sell_37 : decode cX7_sell 37 = .ok (.aload_n 0, 1) := by decide +kernel
theorem dX7_sell_38 : decode cX7_sell 38 = .ok (.iload_n 1, 1) := by decide +kernel
theorem dX7_sell_39 : decode cX7_sell 39 = .ok (.iconst 3, 1) := by decide +kernel
theorem dX7_sell_40 : decode cX7_sell 40 = .ok (.invokevirtual 61, 3) := by decide +kernel
theorem dX7_sell_43 : decode cX7_sell 43 = .ok (.iload_n 2, 1) := by decide +kernel
theorem dX7_sell_44 : decode cX7_sell 44 = .ok (.if_icmp .ne 9, 3) := by decide +kernel
theorem dX7_sell_47 : decode cX7_sell 47 = .ok (.aload_n 0, 1) := by decide +kernel
theorem dX7_sell_48 : decode cX7_sell 48 = .ok (.iconst 2, 1) := by decide +kernel
theorem dX7_sell_49 : decode cX7_sell 49 = .ok (.invokevirtual 55, 3) := by decide +kernel
theorem dX7_sell_52 : decode cX7_sell 52 = .ok (.ireturn, 1) := by decide +kernel
theorem dX7_sell_53 : decode cX7_sell 53 = .ok (.aload_n 0, 1) := by decide +kernel
theorem dX7_sell_54 : decode cX7_sell 54 = .ok (.iload_n 2, 1) := by decide +kernel
theorem dX7_sell_55 : decode cX7_sell 55 = .ok (.iconst 0, 1) := by decide +kernel
theorem dX7_sell_56 : decode cX7_sell 56 = .ok (.invokevirtual 61, 3) := by decide +kernel
theorem dX7_sell_59 : decode cX7_sell 59 = .ok (.iload_n 3, 1) := by decide +kernel
theorem dX7_sell_60 : decode cX7_sell 60 = .ok (.if_icmp .ge 9, 3) := by decide +kernel
theorem dX7_sell_63 : decode cX7_sell 63 = .ok (.aload_n 0, 1) := by decide +kernel
theorem dX7_sell_64 : decode cX7_sell 64 = .ok (.iconst 3, 1) := by decide +kernel
theorem dX7_sell_65 : decode cX7_sell 65 = .ok (.invokevirtual 55, 3) := by decide +kernel
theorem dX7_sell_68 : decode cX7_sell 68 = .ok (.ireturn, 1) := by decide +kernel
theorem dX7_sell_69 : decode cX7_sell 69 = .ok (.aload_n 0, 1) := by decide +kernel
theorem dX7_sell_70 : decode cX7_sell 70 = .ok (.invokevirtual 58, 3) := by decide +kernel
theorem dX7_sell_73 : decode cX7_sell 73 = .ok (.aload_n 0, 1) := by decide +kernel
theorem dX7_sell_74 : decode cX7_sell 74 = .ok (.iload_n 1, 1) := by decide +kernel
theorem dX7_sell_75 : decode cX7_sell 75 = .ok (.iload_n 2, 1) := by decide +kernel
theorem dX7_sell_76 : decode cX7_sell 76 = .ok (.iload_n 3, 1) := by decide +kernel
theorem dX7_sell_77 : decode cX7_sell 77 = .ok (.invokevirtual 70, 3) := by decide +kernel
theorem dX7_sell_80 : decode cX7_sell 80 = .ok (.ireturn, 1) := by decide +kernel
theorem dX7_buyBack_0 : decode cX7_buyBack 0 = .ok (.aload_n 0, 1) := by decide +kernel
theorem dX7_buyBack_1 : decode cX7_buyBack 1 = .ok (.iconst 0, 1) := by decide +kernel
theorem dX7_buyBack_2 : decode cX7_buyBack 2 = .ok (.putfield 40, 3) := by decide +kernel
theorem dX7_buyBack_5 : decode cX7_buyBack 5 = .ok (.aload_n 0, 1) := by decide +kernel
theorem dX7_buyBack_6 : decode cX7_buyBack 6 = .ok (.iload_n 1, 1) := by decide +kernel
theorem dX7_buyBack_7 : decode cX7_buyBack 7 = .ok (.invokevirtual 65, 3) := by decide +kernel
theorem dX7_buyBack_10 : decode cX7_buyBack 10 = .ok (.ifCond .ne 9, 3) := by decide +kernel
theorem dX7_buyBack_13 : decode cX7_buyBack 13 = .ok (.aload_n 0, 1) := by decide +kernel
theorem dX7_buyBack_14 : decode cX7_buyBack 14 = .ok (.iconst 1, 1) := by decide +kernel
theorem dX7_buyBack_15 : decode cX7_buyBack 15 = .ok (.invokevirtual 55, 3) := by decide +kernel
theorem dX7_buyBack_18 : decode cX7_buyBack 18 = .ok (.ireturn, 1) := by decide +kernel
theorem dX7_buyBack_19 : decode cX7_buyBack 19 = .ok (.aload_n 0, 1) := by decide +kernel
theorem dX7_buyBack_20 : decode cX7_buyBack 20 = .ok (.iload_n 1, 1) := by decide +kernel
theorem dX7_buyBack_21 : decode cX7_buyBack 21 = .ok (.iconst 4, 1) := by decide +kernel
theorem dX7_buyBack_22 : decode cX7_buyBack 22 = .ok (.invokevirtual 61, 3) := by decide +kernel
theorem dX7_buyBack_25 : decode cX7_buyBack 25 = .ok (.aload_n 0, 1) := by decide +kernel
theorem dX7_buyBack_26 : decode cX7_buyBack 26 = .ok (.iload_n 1, 1) := by decide +kernel
theorem dX7_buyBack_27 : decode cX7_buyBack 27 = .ok (.iconst 4, 1) := by decide +kernel
theorem dX7_buyBack_28 : decode cX7_buyBack 28 = .ok (.invokevirtual 61, 3) := by decide +kernel
theorem dX7_buyBack_31 : decode cX7_buyBack 31 = .ok (.bipush 10, 2) := by decide +kernel
theorem dX7_buyBack_33 : decode cX7_buyBack 33 = .ok (.idiv, 1) := by decide +kernel
theorem dX7_buyBack_34 : decode cX7_buyBack 34 = .ok (.iadd, 1) := by decide +kernel
theorem dX7_buyBack_35 : decode cX7_buyBack 35 = .ok (.istore_n 2, 1) := by decide +kernel
theorem dX7_buyBack_36 : decode cX7_buyBack 36 = .ok (.aload_n 0, 1) := by decide +kernel
theorem dX7_buyBack_37 : decode cX7_buyBack 37 = .ok (.iload_n 1, 1) := by decide +kernel
theorem dX7_buyBack_38 : decode cX7_buyBack 38 = .ok (.iconst 3, 1) := by decide +kernel
theorem dX7_buyBack_39 : decode cX7_buyBack 39 = .ok (.invokevirtual 61, 3) := by decide +kernel
theorem dX7_buyBack_42 : decode cX7_buyBack 42 = .ok (.iload_n 1, 1) := by decide +kernel
theorem dX7_buyBack_43 : decode cX7_buyBack 43 = .ok (.if_icmp .eq 13, 3) := by decide +kernel
theorem dX7_buyBack_46 : decode cX7_buyBack 46 = .ok (.aload_n 0, 1) := by decide +kernel
theorem dX7_buyBack_47 : decode cX7_buyBack 47 = .ok (.iload_n 1, 1) := by decide +kernel
theorem dX7_buyBack_48 : decode cX7_buyBack 48 = .ok (.iconst 0, 1) := by decide +kernel
theorem dX7_buyBack_49 : decode cX7_buyBack 49 = .ok (.invokevirtual 61, 3) := by decide +kernel
theorem dX7_buyBack_52 : decode cX7_buyBack 52 = .ok (.iload_n 2, 1) := by decide +kernel
theorem dX7_buyBack_53 : decode cX7_buyBack 53 = .ok (.if_icmp .ge 9, 3) := by decide +kernel
theorem dX7_buyBack_56 : decode cX7_buyBack 56 = .ok (.aload_n 0, 1) := by decide +kernel
theorem dX7_buyBack_57 : decode cX7_buyBack 57 = .ok (.iconst 2, 1) := by decide +kernel
theorem dX7_buyBack_58 : decode cX7_buyBack 58 = .ok (.invokevirtual 55, 3) := by decide +kernel
theorem dX7_buyBack_61 : decode cX7_buyBack 61 = .ok (.ireturn, 1) := by decide +kernel
theorem dX7_buyBack_62 : decode cX7_buyBack 62 = .ok (.aload_n 0, 1) := by decide +kernel
theorem dX7_buyBack_63 : decode cX7_buyBack 63 = .ok (.invokevirtual 58, 3) := by decide +kernel
theorem dX7_buyBack_66 : decode cX7_buyBack 66 = .ok (.aload_n 0, 1) := by decide +kernel
theorem dX7_buyBack_67 : decode cX7_buyBack 67 = .ok (.iload_n 1, 1) := by decide +kernel
theorem dX7_buyBack_68 : decode cX7_buyBack 68 = .ok (.iload_n 1, 1) := by decide +kernel
theorem dX7_buyBack_69 : decode cX7_buyBack 69 = .ok (.iload_n 2, 1) := by decide +kernel
theorem dX7_buyBack_70 : decode cX7_buyBack 70 = .ok (.invokevirtual 70, 3) := by decide +kernel
theorem dX7_buyBack_73 : decode cX7_buyBack 73 = .ok (.pop, 1) := by decide +kernel
theorem dX7_buyBack_74 : decode cX7_buyBack 74 = .ok (.iload_n 2, 1) := by decide +kernel
theorem dX7_buyBack_75 : decode cX7_buyBack 75 = .ok (.ireturn, 1) := by decide +kernel
theorem dX7_advance_0 : decode cX7_advance 0 = .ok (.aload_n 0, 1) := by decide +kernel
theorem dX7_advance_1 : decode cX7_advance 1 = .ok (.iconst 0, 1) := by decide +kernel
theorem dX7_advance_2 : decode cX7_advance 2 = .ok (.putfield 40, 3) := by decide +kernel
theorem dX7_advance_5 : decode cX7_advance 5 = .ok (.aload_n 0, 1) := by decide +kernel
theorem dX7_advance_6 : decode cX7_advance 6 = .ok (.iload_n 1, 1) := by decide +kernel
theorem dX7_advance_7 : decode cX7_advance 7 = .ok (.invokevirtual 65, 3) := by decide +kernel
theorem dX7_advance_10 : decode cX7_advance 10 = .ok (.ifCond .ne 9, 3) := by decide +kernel
theorem dX7_advance_13 : decode cX7_advance 13 = .ok (.aload_n 0, 1) := by decide +kernel
theorem dX7_advance_14 : decode cX7_advance 14 = .ok (.iconst 1, 1) := by decide +kernel
theorem dX7_advance_15 : decode cX7_advance 15 = .ok (.invokevirtual 55, 3) := by decide +kernel
theorem dX7_advance_18 : decode cX7_advance 18 = .ok (.ireturn, 1) := by decide +kernel
theorem dX7_advance_19 : decode cX7_advance 19 = .ok (.iload_n 2, 1) := by decide +kernel
theorem dX7_advance_20 : decode cX7_advance 20 = .ok (.iconst 1, 1) := by decide +kernel
theorem dX7_advance_21 : decode cX7_advance 21 = .ok (.ldc 69, 2) := by decide +kernel
theorem dX7_advance_23 : decode cX7_advance 23 = .ok (.invokestatic 44, 3) := by decide +kernel
theorem dX7_advance_26 : decode cX7_advance 26 = .ok (.ifCond .ne 9, 3) := by decide +kernel
theorem dX7_advance_29 : decode cX7_advance 29 = .ok (.aload_n 0, 1) := by decide +kernel
theorem dX7_advance_30 : decode cX7_advance 30 = .ok (.iconst 2, 1) := by decide +kernel
theorem dX7_advance_31 : decode cX7_advance 31 = .ok (.invokevirtual 55, 3) := by decide +kernel
theorem dX7_advance_34 : decode cX7_advance 34 = .ok (.ireturn, 1) := by decide +kernel
theorem dX7_advance_35 : decode cX7_advance 35 = .ok (.aload_n 0, 1) := by decide +kernel
theorem dX7_advance_36 : decode cX7_advance 36 = .ok (.getfield 7, 3) := by decide +kernel
theorem dX7_advance_39 : decode cX7_advance 39 = .ok (.iconst 3, 1) := by decide +kernel
theorem dX7_advance_40 : decode cX7_advance 40 = .ok (.iaload, 1) := by decide +kernel
theorem dX7_advance_41 : decode cX7_advance 41 = .ok (.iload_n 2, 1) := by decide +kernel
theorem dX7_advance_42 : decode cX7_advance 42 = .ok (.if_icmp .ge 9, 3) := by decide +kernel
theorem dX7_advance_45 : decode cX7_advance 45 = .ok (.aload_n 0, 1) := by decide +kernel
theorem dX7_advance_46 : decode cX7_advance 46 = .ok (.iconst 3, 1) := by decide +kernel
theorem dX7_advance_47 : decode cX7_advance 47 = .ok (.invokevirtual 55, 3) := by decide +kernel
theorem dX7_advance_50 : decode cX7_advance 50 = .ok (.ireturn, 1) := by decide +kernel
theorem dX7_advance_51 : decode cX7_advance 51 = .ok (.aload_n 0, 1) := by decide +kernel
theorem dX7_advance_52 : decode cX7_advance 52 = .ok (.invokevirtual 58, 3) := by decide +kernel
theorem dX7_advance_55 : decode cX7_advance 55 = .ok (.aload_n 0, 1) := by decide +kernel
theorem dX7_advance_56 : decode cX7_advance 56 = .ok (.getfield 7, 3) := by decide +kernel
theorem dX7_advance_59 : decode cX7_advance 59 = .ok (.iconst 3, 1) := by decide +kernel
theorem dX7_advance_60 : decode cX7_advance 60 = .ok (.dup2, 1) := by decide +kernel
theorem dX7_advance_61 : decode cX7_advance 61 = .ok (.iaload, 1) := by decide +kernel
theorem dX7_advance_62 : decode cX7_advance 62 = .ok (.iload_n 2, 1) := by decide +kernel
theorem dX7_advance_63 : decode cX7_advance 63 = .ok (.isub, 1) := by decide +kernel
theorem dX7_advance_64 : decode cX7_advance 64 = .ok (.iastore, 1) := by decide +kernel
theorem dX7_advance_65 : decode cX7_advance 65 = .ok (.aload_n 0, 1) := by decide +kernel
theorem dX7_advance_66 : decode cX7_advance 66 = .ok (.getfield 7, 3) := by decide +kernel
theorem dX7_advance_69 : decode cX7_advance 69 = .ok (.bipush 14, 2) := by decide +kernel
theorem dX7_advance_71 : decode cX7_advance 71 = .ok (.bipush 6, 2) := by decide +kernel
theorem dX7_advance_73 : decode cX7_advance 73 = .ok (.iload_n 1, 1) := by decide +kernel
theorem dX7_advance_74 : decode cX7_advance 74 = .ok (.imul, 1) := by decide +kernel
theorem dX7_advance_75 : decode cX7_advance 75 = .ok (.iadd, 1) := by decide +kernel
theorem dX7_advance_76 : decode cX7_advance 76 = .ok (.dup2, 1) := by decide +kernel
theorem dX7_advance_77 : decode cX7_advance 77 = .ok (.iaload, 1) := by decide +kernel
theorem dX7_advance_78 : decode cX7_advance 78 = .ok (.iload_n 2, 1) := by decide +kernel
theorem dX7_advance_79 : decode cX7_advance 79 = .ok (.iadd, 1) := by decide +kernel
theorem dX7_advance_80 : decode cX7_advance 80 = .ok (.iastore, 1) := by decide +kernel
theorem dX7_advance_81 : decode cX7_advance 81 = .ok (.aload_n 0, 1) := by decide +kernel
theorem dX7_advance_82 : decode cX7_advance 82 = .ok (.getfield 7, 3) := by decide +kernel
theorem dX7_advance_85 : decode cX7_advance 85 = .ok (.bipush 14, 2) := by decide +kernel
theorem dX7_advance_87 : decode cX7_advance 87 = .ok (.bipush 6, 2) := by decide +kernel
theorem dX7_advance_89 : decode cX7_advance 89 = .ok (.iload_n 1, 1) := by decide +kernel
theorem dX7_advance_90 : decode cX7_advance 90 = .ok (.imul, 1) := by decide +kernel
theorem dX7_advance_91 : decode cX7_advance 91 = .ok (.iadd, 1) := by decide +kernel
theorem dX7_advance_92 : decode cX7_advance 92 = .ok (.iconst 1, 1) := by decide +kernel
theorem dX7_advance_93 : decode cX7_advance 93 = .ok (.iadd, 1) := by decide +kernel
theorem dX7_advance_94 : decode cX7_advance 94 = .ok (.dup2, 1) := by decide +kernel
theorem dX7_advance_95 : decode cX7_advance 95 = .ok (.iaload, 1) := by decide +kernel
theorem dX7_advance_96 : decode cX7_advance 96 = .ok (.iload_n 2, 1) := by decide +kernel
theorem dX7_advance_97 : decode cX7_advance 97 = .ok (.iadd, 1) := by decide +kernel
theorem dX7_advance_98 : decode cX7_advance 98 = .ok (.iastore, 1) := by decide +kernel
theorem dX7_advance_99 : decode cX7_advance 99 = .ok (.aload_n 0, 1) := by decide +kernel
theorem dX7_advance_100 : decode cX7_advance 100 = .ok (.iload_n 1, 1) := by decide +kernel
theorem dX7_advance_101 : decode cX7_advance 101 = .ok (.iconst 1, 1) := by decide +kernel
theorem dX7_advance_102 : decode cX7_advance 102 = .ok (.invokevirtual 61, 3) := by decide +kernel
theorem dX7_advance_105 : decode cX7_advance 105 = .ok (.ireturn, 1) := by decide +kernel
theorem dX7_withdraw_0 : decode cX7_withdraw 0 = .ok (.aload_n 0, 1) := by decide +kernel
theorem dX7_withdraw_1 : decode cX7_withdraw 1 = .ok (.iconst 0, 1) := by decide +kernel
theorem dX7_withdraw_2 : decode cX7_withdraw 2 = .ok (.putfield 40, 3) := by decide +kernel
theorem dX7_withdraw_5 : decode cX7_withdraw 5 = .ok (.aload_n 0, 1) := by decide +kernel
theorem dX7_withdraw_6 : decode cX7_withdraw 6 = .ok (.iload_n 1, 1) := by decide +kernel
theorem dX7_withdraw_7 : decode cX7_withdraw 7 = .ok (.invokevirtual 65, 3) := by decide +kernel
theorem dX7_withdraw_10 : decode cX7_withdraw 10 = .ok (.ifCond .ne 9, 3) := by decide +kernel
theorem dX7_withdraw_13 : decode cX7_withdraw 13 = .ok (.aload_n 0, 1) := by decide +kernel
theorem dX7_withdraw_14 : decode cX7_withdraw 14 = .ok (.iconst 1, 1) := by decide +kernel
theorem dX7_withdraw_15 : decode cX7_withdraw 15 = .ok (.invokevirtual 55, 3) := by decide +kernel
theorem dX7_withdraw_18 : decode cX7_withdraw 18 = .ok (.ireturn, 1) := by decide +kernel
theorem dX7_withdraw_19 : decode cX7_withdraw 19 = .ok (.iload_n 2, 1) := by decide +kernel
theorem dX7_withdraw_20 : decode cX7_withdraw 20 = .ok (.iconst 1, 1) := by decide +kernel
theorem dX7_withdraw_21 : decode cX7_withdraw 21 = .ok (.ldc 69, 2) := by decide +kernel
theorem dX7_withdraw_23 : decode cX7_withdraw 23 = .ok (.invokestatic 44, 3) := by decide +kernel
theorem dX7_withdraw_26 : decode cX7_withdraw 26 = .ok (.ifCond .ne 9, 3) := by decide +kernel
theorem dX7_withdraw_29 : decode cX7_withdraw 29 = .ok (.aload_n 0, 1) := by decide +kernel
theorem dX7_withdraw_30 : decode cX7_withdraw 30 = .ok (.iconst 2, 1) := by decide +kernel
theorem dX7_withdraw_31 : decode cX7_withdraw 31 = .ok (.invokevirtual 55, 3) := by decide +kernel
theorem dX7_withdraw_34 : decode cX7_withdraw 34 = .ok (.ireturn, 1) := by decide +kernel
theorem dX7_withdraw_35 : decode cX7_withdraw 35 = .ok (.aload_n 0, 1) := by decide +kernel
theorem dX7_withdraw_36 : decode cX7_withdraw 36 = .ok (.iload_n 1, 1) := by decide +kernel
theorem dX7_withdraw_37 : decode cX7_withdraw 37 = .ok (.iconst 0, 1) := by decide +kernel
theorem dX7_withdraw_38 : decode cX7_withdraw 38 = .ok (.invokevirtual 61, 3) := by decide +kernel
theorem dX7_withdraw_41 : decode cX7_withdraw 41 = .ok (.iload_n 2, 1) := by decide +kernel
theorem dX7_withdraw_42 : decode cX7_withdraw 42 = .ok (.if_icmp .ge 9, 3) := by decide +kernel
theorem dX7_withdraw_45 : decode cX7_withdraw 45 = .ok (.aload_n 0, 1) := by decide +kernel
theorem dX7_withdraw_46 : decode cX7_withdraw 46 = .ok (.iconst 3, 1) := by decide +kernel
theorem dX7_withdraw_47 : decode cX7_withdraw 47 = .ok (.invokevirtual 55, 3) := by decide +kernel
theorem dX7_withdraw_50 : decode cX7_withdraw 50 = .ok (.ireturn, 1) := by decide +kernel
theorem dX7_withdraw_51 : decode cX7_withdraw 51 = .ok (.aload_n 0, 1) := by decide +kernel
theorem dX7_withdraw_52 : decode cX7_withdraw 52 = .ok (.invokevirtual 58, 3) := by decide +kernel
theorem dX7_withdraw_55 : decode cX7_withdraw 55 = .ok (.aload_n 0, 1) := by decide +kernel
theorem dX7_withdraw_56 : decode cX7_withdraw 56 = .ok (.getfield 7, 3) := by decide +kernel
theorem dX7_withdraw_59 : decode cX7_withdraw 59 = .ok (.bipush 14, 2) := by decide +kernel
theorem dX7_withdraw_61 : decode cX7_withdraw 61 = .ok (.bipush 6, 2) := by decide +kernel
theorem dX7_withdraw_63 : decode cX7_withdraw 63 = .ok (.iload_n 1, 1) := by decide +kernel
theorem dX7_withdraw_64 : decode cX7_withdraw 64 = .ok (.imul, 1) := by decide +kernel
theorem dX7_withdraw_65 : decode cX7_withdraw 65 = .ok (.iadd, 1) := by decide +kernel
theorem dX7_withdraw_66 : decode cX7_withdraw 66 = .ok (.dup2, 1) := by decide +kernel
theorem dX7_withdraw_67 : decode cX7_withdraw 67 = .ok (.iaload, 1) := by decide +kernel
theorem dX7_withdraw_68 : decode cX7_withdraw 68 = .ok (.iload_n 2, 1) := by decide +kernel
theorem dX7_withdraw_69 : decode cX7_withdraw 69 = .ok (.isub, 1) := by decide +kernel
theorem dX7_withdraw_70 : decode cX7_withdraw 70 = .ok (.iastore, 1) := by decide +kernel
theorem dX7_withdraw_71 : decode cX7_withdraw 71 = .ok (.aload_n 0, 1) := by decide +kernel
theorem dX7_withdraw_72 : decode cX7_withdraw 72 = .ok (.getfield 7, 3) := by decide +kernel
theorem dX7_withdraw_75 : decode cX7_withdraw 75 = .ok (.bipush 14, 2) := by decide +kernel
theorem dX7_withdraw_77 : decode cX7_withdraw 77 = .ok (.bipush 6, 2) := by decide +kernel
theorem dX7_withdraw_79 : decode cX7_withdraw 79 = .ok (.iload_n 1, 1) := by decide +kernel
theorem dX7_withdraw_80 : decode cX7_withdraw 80 = .ok (.imul, 1) := by decide +kernel
theorem dX7_withdraw_81 : decode cX7_withdraw 81 = .ok (.iadd, 1) := by decide +kernel
theorem dX7_withdraw_82 : decode cX7_withdraw 82 = .ok (.iconst 5, 1) := by decide +kernel
theorem dX7_withdraw_83 : decode cX7_withdraw 83 = .ok (.iadd, 1) := by decide +kernel
theorem dX7_withdraw_84 : decode cX7_withdraw 84 = .ok (.dup2, 1) := by decide +kernel
theorem dX7_withdraw_85 : decode cX7_withdraw 85 = .ok (.iaload, 1) := by decide +kernel
theorem dX7_withdraw_86 : decode cX7_withdraw 86 = .ok (.iload_n 2, 1) := by decide +kernel
theorem dX7_withdraw_87 : decode cX7_withdraw 87 = .ok (.iadd, 1) := by decide +kernel
theorem dX7_withdraw_88 : decode cX7_withdraw 88 = .ok (.iastore, 1) := by decide +kernel
theorem dX7_withdraw_89 : decode cX7_withdraw 89 = .ok (.aload_n 0, 1) := by decide +kernel
theorem dX7_withdraw_90 : decode cX7_withdraw 90 = .ok (.getfield 7, 3) := by decide +kernel
theorem dX7_withdraw_93 : decode cX7_withdraw 93 = .ok (.iconst 5, 1) := by decide +kernel
theorem dX7_withdraw_94 : decode cX7_withdraw 94 = .ok (.dup2, 1) := by decide +kernel
theorem dX7_withdraw_95 : decode cX7_withdraw 95 = .ok (.iaload, 1) := by decide +kernel
theorem dX7_withdraw_96 : decode cX7_withdraw 96 = .ok (.iload_n 2, 1) := by decide +kernel
theorem dX7_withdraw_97 : decode cX7_withdraw 97 = .ok (.iadd, 1) := by decide +kernel
theorem dX7_withdraw_98 : decode cX7_withdraw 98 = .ok (.iastore, 1) := by decide +kernel
theorem dX7_withdraw_99 : decode cX7_withdraw 99 = .ok (.aload_n 0, 1) := by decide +kernel
theorem dX7_withdraw_100 : decode cX7_withdraw 100 = .ok (.iload_n 1, 1) := by decide +kernel
theorem dX7_withdraw_101 : decode cX7_withdraw 101 = .ok (.iconst 0, 1) := by decide +kernel
theorem dX7_withdraw_102 : decode cX7_withdraw 102 = .ok (.invokevirtual 61, 3) := by decide +kernel
theorem dX7_withdraw_105 : decode cX7_withdraw 105 = .ok (.ireturn, 1) := by decide +kernel
theorem dX7_mostOf_0 : decode cX7_mostOf 0 = .ok (.iload_n 0, 1) := by decide +kernel
theorem dX7_mostOf_1 : decode cX7_mostOf 1 = .ok (.ifCond .ne 8, 3) := by decide +kernel
theorem dX7_mostOf_4 : decode cX7_mostOf 4 = .ok (.bipush 30, 2) := by decide +kernel
theorem dX7_mostOf_6 : decode cX7_mostOf 6 = .ok (.goto 26, 3) := by decide +kernel
theorem dX7_mostOf_9 : decode cX7_mostOf 9 = .ok (.iload_n 0, 1) := by decide +kernel
theorem dX7_mostOf_10 : decode cX7_mostOf 10 = .ok (.iconst 1, 1) := by decide +kernel
theorem dX7_mostOf_11 : decode cX7_mostOf 11 = .ok (.if_icmp .ne 8, 3) := by decide +kernel
theorem dX7_mostOf_14 : decode cX7_mostOf 14 = .ok (.bipush 20, 2) := by decide +kernel
theorem dX7_mostOf_16 : decode cX7_mostOf 16 = .ok (.goto 16, 3) := by decide +kernel
theorem dX7_mostOf_19 : decode cX7_mostOf 19 = .ok (.iload_n 0, 1) := by decide +kernel
theorem dX7_mostOf_20 : decode cX7_mostOf 20 = .ok (.iconst 2, 1) := by decide +kernel
theorem dX7_mostOf_21 : decode cX7_mostOf 21 = .ok (.if_icmp .ne 9, 3) := by decide +kernel
theorem dX7_mostOf_24 : decode cX7_mostOf 24 = .ok (.sipush 10000, 3) := by decide +kernel
theorem dX7_mostOf_27 : decode cX7_mostOf 27 = .ok (.goto 5, 3) := by decide +kernel
theorem dX7_mostOf_30 : decode cX7_mostOf 30 = .ok (.bipush 100, 2) := by decide +kernel
theorem dX7_mostOf_32 : decode cX7_mostOf 32 = .ok (.ireturn, 1) := by decide +kernel
theorem dX7_set_0 : decode cX7_set 0 = .ok (.aload_n 0, 1) := by decide +kernel
theorem dX7_set_1 : decode cX7_set 1 = .ok (.iconst 0, 1) := by decide +kernel
theorem dX7_set_2 : decode cX7_set 2 = .ok (.putfield 40, 3) := by decide +kernel
theorem dX7_set_5 : decode cX7_set 5 = .ok (.iload_n 1, 1) := by decide +kernel
theorem dX7_set_6 : decode cX7_set 6 = .ok (.iconst 0, 1) := by decide +kernel
theorem dX7_set_7 : decode cX7_set 7 = .ok (.iconst 5, 1) := by decide +kernel
theorem dX7_set_8 : decode cX7_set 8 = .ok (.invokestatic 44, 3) := by decide +kernel
theorem dX7_set_11 : decode cX7_set 11 = .ok (.ifCond .ne 9, 3) := by decide +kernel
theorem dX7_set_14 : decode cX7_set 14 = .ok (.aload_n 0, 1) := by decide +kernel
theorem dX7_set_15 : decode cX7_set 15 = .ok (.iconst 1, 1) := by decide +kernel
theorem dX7_set_16 : decode cX7_set 16 = .ok (.invokevirtual 55, 3) := by decide +kernel
theorem dX7_set_19 : decode cX7_set 19 = .ok (.ireturn, 1) := by decide +kernel
theorem dX7_set_20 : decode cX7_set 20 = .ok (.iload_n 2, 1) := by decide +kernel
theorem dX7_set_21 : decode cX7_set 21 = .ok (.iconst 0, 1) := by decide +kernel
theorem dX7_set_22 : decode cX7_set 22 = .ok (.iload_n 1, 1) := by decide +kernel
theorem dX7_set_23 : decode cX7_set 23 = .ok (.invokestatic 74, 3) := by decide +kernel
theorem dX7_set_26 : decode cX7_set 26 = .ok (.invokestatic 44, 3) := by decide +kernel
theorem dX7_set_29 : decode cX7_set 29 = .ok (.ifCond .ne 9, 3) := by decide +kernel
theorem dX7_set_32 : decode cX7_set 32 = .ok (.aload_n 0, 1) := by decide +kernel
theorem dX7_set_33 : decode cX7_set 33 = .ok (.iconst 2, 1) := by decide +kernel
theorem dX7_set_34 : decode cX7_set 34 = .ok (.invokevirtual 55, 3) := by decide +kernel
theorem dX7_set_37 : decode cX7_set 37 = .ok (.ireturn, 1) := by decide +kernel
theorem dX7_set_38 : decode cX7_set 38 = .ok (.aload_n 0, 1) := by decide +kernel
theorem dX7_set_39 : decode cX7_set 39 = .ok (.invokevirtual 58, 3) := by decide +kernel
theorem dX7_set_42 : decode cX7_set 42 = .ok (.aload_n 0, 1) := by decide +kernel
theorem dX7_set_43 : decode cX7_set 43 = .ok (.getfield 7, 3) := by decide +kernel
theorem dX7_set_46 : decode cX7_set 46 = .ok (.bipush 8, 2) := by decide +kernel
theorem dX7_set_48 : decode cX7_set 48 = .ok (.iload_n 1, 1) := by decide +kernel
theorem dX7_set_49 : decode cX7_set 49 = .ok (.iadd, 1) := by decide +kernel
theorem dX7_set_50 : decode cX7_set 50 = .ok (.iaload, 1) := by decide +kernel
theorem dX7_set_51 : decode cX7_set 51 = .ok (.istore_n 3, 1) := by decide +kernel
theorem dX7_set_52 : decode cX7_set 52 = .ok (.aload_n 0, 1) := by decide +kernel
theorem dX7_set_53 : decode cX7_set 53 = .ok (.getfield 7, 3) := by decide +kernel
theorem dX7_set_56 : decode cX7_set 56 = .ok (.bipush 8, 2) := by decide +kernel
theorem dX7_set_58 : decode cX7_set 58 = .ok (.iload_n 1, 1) := by decide +kernel
theorem dX7_set_59 : decode cX7_set 59 = .ok (.iadd, 1) := by decide +kernel
theorem dX7_set_60 : decode cX7_set 60 = .ok (.iload_n 2, 1) := by decide +kernel
theorem dX7_set_61 : decode cX7_set 61 = .ok (.iastore, 1) := by decide +kernel
theorem dX7_set_62 : decode cX7_set 62 = .ok (.iload_n 3, 1) := by decide +kernel
theorem dX7_set_63 : decode cX7_set 63 = .ok (.ireturn, 1) := by decide +kernel
theorem dX7_nextYear_0 : decode cX7_nextYear 0 = .ok (.aload_n 0, 1) := by decide +kernel
theorem dX7_nextYear_1 : decode cX7_nextYear 1 = .ok (.iconst 0, 1) := by decide +kernel
theorem dX7_nextYear_2 : decode cX7_nextYear 2 = .ok (.putfield 40, 3) := by decide +kernel
theorem dX7_nextYear_5 : decode cX7_nextYear 5 = .ok (.aload_n 0, 1) := by decide +kernel
theorem dX7_nextYear_6 : decode cX7_nextYear 6 = .ok (.invokevirtual 58, 3) := by decide +kernel
theorem dX7_nextYear_9 : decode cX7_nextYear 9 = .ok (.aload_n 0, 1) := by decide +kernel
theorem dX7_nextYear_10 : decode cX7_nextYear 10 = .ok (.getfield 7, 3) := by decide +kernel
theorem dX7_nextYear_13 : decode cX7_nextYear 13 = .ok (.iconst 2, 1) := by decide +kernel
theorem dX7_nextYear_14 : decode cX7_nextYear 14 = .ok (.dup2, 1) := by decide +kernel
theorem dX7_nextYear_15 : decode cX7_nextYear 15 = .ok (.iaload, 1) := by decide +kernel
theorem dX7_nextYear_16 : decode cX7_nextYear 16 = .ok (.iconst 1, 1) := by decide +kernel
theorem dX7_nextYear_17 : decode cX7_nextYear 17 = .ok (.iadd, 1) := by decide +kernel
theorem dX7_nextYear_18 : decode cX7_nextYear 18 = .ok (.iastore, 1) := by decide +kernel
theorem dX7_nextYear_19 : decode cX7_nextYear 19 = .ok (.sipush 666, 3) := by decide +kernel
theorem dX7_nextYear_22 : decode cX7_nextYear 22 = .ok (.istore_n 1, 1) := by decide +kernel
theorem dX7_nextYear_23 : decode cX7_nextYear 23 = .ok (.iload_n 1, 1) := by decide +kernel
theorem dX7_nextYear_24 : decode cX7_nextYear 24 = .ok (.sipush 906, 3) := by decide +kernel
theorem dX7_nextYear_27 : decode cX7_nextYear 27 = .ok (.if_icmp .ge 16, 3) := by decide +kernel
theorem dX7_nextYear_30 : decode cX7_nextYear 30 = .ok (.aload_n 0, 1) := by decide +kernel
theorem dX7_nextYear_31 : decode cX7_nextYear 31 = .ok (.getfield 7, 3) := by decide +kernel
theorem dX7_nextYear_34 : decode cX7_nextYear 34 = .ok (.iload_n 1, 1) := by decide +kernel
theorem dX7_nextYear_35 : decode cX7_nextYear 35 = .ok (.iconst 0, 1) := by decide +kernel
theorem dX7_nextYear_36 : decode cX7_nextYear 36 = .ok (.iastore, 1) := by decide +kernel
theorem dX7_nextYear_37 : decode cX7_nextYear 37 = .ok (.iinc 1 1, 3) := by decide +kernel
theorem dX7_nextYear_40 : decode cX7_nextYear 40 = .ok (.goto (-17), 3) := by decide +kernel
theorem dX7_nextYear_43 : decode cX7_nextYear 43 = .ok (.aload_n 0, 1) := by decide +kernel
theorem dX7_nextYear_44 : decode cX7_nextYear 44 = .ok (.getfield 7, 3) := by decide +kernel
theorem dX7_nextYear_47 : decode cX7_nextYear 47 = .ok (.iconst 2, 1) := by decide +kernel
theorem dX7_nextYear_48 : decode cX7_nextYear 48 = .ok (.iaload, 1) := by decide +kernel
theorem dX7_nextYear_49 : decode cX7_nextYear 49 = .ok (.ireturn, 1) := by decide +kernel
theorem dX7_order_0 : decode cX7_order 0 = .ok (.aload_n 0, 1) := by decide +kernel
theorem dX7_order_1 : decode cX7_order 1 = .ok (.iconst 0, 1) := by decide +kernel
theorem dX7_order_2 : decode cX7_order 2 = .ok (.putfield 40, 3) := by decide +kernel
theorem dX7_order_5 : decode cX7_order 5 = .ok (.aload_n 0, 1) := by decide +kernel
theorem dX7_order_6 : decode cX7_order 6 = .ok (.iload_n 1, 1) := by decide +kernel
theorem dX7_order_7 : decode cX7_order 7 = .ok (.invokevirtual 65, 3) := by decide +kernel
theorem dX7_order_10 : decode cX7_order 10 = .ok (.ifCond .ne 9, 3) := by decide +kernel
theorem dX7_order_13 : decode cX7_order 13 = .ok (.aload_n 0, 1) := by decide +kernel
theorem dX7_order_14 : decode cX7_order 14 = .ok (.iconst 1, 1) := by decide +kernel
theorem dX7_order_15 : decode cX7_order 15 = .ok (.invokevirtual 55, 3) := by decide +kernel
theorem dX7_order_18 : decode cX7_order 18 = .ok (.ireturn, 1) := by decide +kernel
theorem dX7_order_19 : decode cX7_order 19 = .ok (.iload_n 2, 1) := by decide +kernel
theorem dX7_order_20 : decode cX7_order 20 = .ok (.bipush 10, 2) := by decide +kernel
theorem dX7_order_22 : decode cX7_order 22 = .ok (.ldc 69, 2) := by decide +kernel
theorem dX7_order_24 : decode cX7_order 24 = .ok (.invokestatic 44, 3) := by decide +kernel
theorem dX7_order_27 : decode cX7_order 27 = .ok (.ifCond .ne 9, 3) := by decide +kernel
theorem dX7_order_30 : decode cX7_order 30 = .ok (.aload_n 0, 1) := by decide +kernel
theorem dX7_order_31 : decode cX7_order 31 = .ok (.iconst 2, 1) := by decide +kernel
theorem dX7_order_32 : decode cX7_order 32 = .ok (.invokevirtual 55, 3) := by decide +kernel
theorem dX7_order_35 : decode cX7_order 35 = .ok (.ireturn, 1) := by decide +kernel
theorem dX7_order_36 : decode cX7_order 36 = .ok (.aload_n 0, 1) := by decide +kernel
theorem dX7_order_37 : decode cX7_order 37 = .ok (.getfield 7, 3) := by decide +kernel
theorem dX7_order_40 : decode cX7_order 40 = .ok (.iconst 1, 1) := by decide +kernel
theorem dX7_order_41 : decode cX7_order 41 = .ok (.iaload, 1) := by decide +kernel
theorem dX7_order_42 : decode cX7_order 42 = .ok (.bipush 20, 2) := by decide +kernel
theorem dX7_order_44 : decode cX7_order 44 = .ok (.if_icmp .ne 9, 3) := by decide +kernel
theorem dX7_order_47 : decode cX7_order 47 = .ok (.aload_n 0, 1) := by decide +kernel
theorem dX7_order_48 : decode cX7_order 48 = .ok (.iconst 3, 1) := by decide +kernel
theorem dX7_order_49 : decode cX7_order 49 = .ok (.invokevirtual 55, 3) := by decide +kernel
theorem dX7_order_52 : decode cX7_order 52 = .ok (.ireturn, 1) := by decide +kernel
theorem dX7_order_53 : decode cX7_order 53 = .ok (.aload_n 0, 1) := by decide +kernel
theorem dX7_order_54 : decode cX7_order 54 = .ok (.invokevirtual 58, 3) := by decide +kernel
theorem dX7_order_57 : decode cX7_order 57 = .ok (.aload_n 0, 1) := by decide +kernel
theorem dX7_order_58 : decode cX7_order 58 = .ok (.getfield 7, 3) := by decide +kernel
theorem dX7_order_61 : decode cX7_order 61 = .ok (.iconst 1, 1) := by decide +kernel
theorem dX7_order_62 : decode cX7_order 62 = .ok (.iaload, 1) := by decide +kernel
theorem dX7_order_63 : decode cX7_order 63 = .ok (.istore_n 3, 1) := by decide +kernel
theorem dX7_order_64 : decode cX7_order 64 = .ok (.aload_n 0, 1) := by decide +kernel
theorem dX7_order_65 : decode cX7_order 65 = .ok (.getfield 7, 3) := by decide +kernel
theorem dX7_order_68 : decode cX7_order 68 = .ok (.bipush 86, 2) := by decide +kernel
theorem dX7_order_70 : decode cX7_order 70 = .ok (.iconst 5, 1) := by decide +kernel
theorem dX7_order_71 : decode cX7_order 71 = .ok (.iload_n 3, 1) := by decide +kernel
theorem dX7_order_72 : decode cX7_order 72 = .ok (.imul, 1) := by decide +kernel
theorem dX7_order_73 : decode cX7_order 73 = .ok (.iadd, 1) := by decide +kernel
theorem dX7_order_74 : decode cX7_order 74 = .ok (.iload_n 1, 1) := by decide +kernel
theorem dX7_order_75 : decode cX7_order 75 = .ok (.iastore, 1) := by decide +kernel
theorem dX7_order_76 : decode cX7_order 76 = .ok (.aload_n 0, 1) := by decide +kernel
theorem dX7_order_77 : decode cX7_order 77 = .ok (.getfield 7, 3) := by decide +kernel
theorem dX7_order_80 : decode cX7_order 80 = .ok (.bipush 86, 2) := by decide +kernel
theorem dX7_order_82 : decode cX7_order 82 = .ok (.iconst 5, 1) := by decide +kernel
theorem dX7_order_83 : decode cX7_order 83 = .ok (.iload_n 3, 1) := by decide +kernel
theorem dX7_order_84 : decode cX7_order 84 = .ok (.imul, 1) := by decide +kernel
theorem dX7_order_85 : decode cX7_order 85 = .ok (.iadd, 1) := by decide +kernel
theorem dX7_order_86 : decode cX7_order 86 = .ok (.iconst 1, 1) := by decide +kernel
theorem dX7_order_87 : decode cX7_order 87 = .ok (.iadd, 1) := by decide +kernel
theorem dX7_order_88 : decode cX7_order 88 = .ok (.iload_n 2, 1) := by decide +kernel
theorem dX7_order_89 : decode cX7_order 89 = .ok (.iastore, 1) := by decide +kernel
theorem dX7_order_90 : decode cX7_order 90 = .ok (.aload_n 0, 1) := by decide +kernel
theorem dX7_order_91 : decode cX7_order 91 = .ok (.getfield 7, 3) := by decide +kernel
theorem dX7_order_94 : decode cX7_order 94 = .ok (.bipush 86, 2) := by decide +kernel
theorem dX7_order_96 : decode cX7_order 96 = .ok (.iconst 5, 1) := by decide +kernel
theorem dX7_order_97 : decode cX7_order 97 = .ok (.iload_n 3, 1) := by decide +kernel
theorem dX7_order_98 : decode cX7_order 98 = .ok (.imul, 1) := by decide +kernel
theorem dX7_order_99 : decode cX7_order 99 = .ok (.iadd, 1) := by decide +kernel
theorem dX7_order_100 : decode cX7_order 100 = .ok (.iconst 2, 1) := by decide +kernel
theorem dX7_order_101 : decode cX7_order 101 = .ok (.iadd, 1) := by decide +kernel
theorem dX7_order_102 : decode cX7_order 102 = .ok (.iconst 0, 1) := by decide +kernel
theorem dX7_order_103 : decode cX7_order 103 = .ok (.iastore, 1) := by decide +kernel
theorem dX7_order_104 : decode cX7_order 104 = .ok (.aload_n 0, 1) := by decide +kernel
theorem dX7_order_105 : decode cX7_order 105 = .ok (.getfield 7, 3) := by decide +kernel
theorem dX7_order_108 : decode cX7_order 108 = .ok (.bipush 86, 2) := by decide +kernel
theorem dX7_order_110 : decode cX7_order 110 = .ok (.iconst 5, 1) := by decide +kernel
theorem dX7_order_111 : decode cX7_order 111 = .ok (.iload_n 3, 1) := by decide +kernel
theorem dX7_order_112 : decode cX7_order 112 = .ok (.imul, 1) := by decide +kernel
theorem dX7_order_113 : decode cX7_order 113 = .ok (.iadd, 1) := by decide +kernel
theorem dX7_order_114 : decode cX7_order 114 = .ok (.iconst 3, 1) := by decide +kernel
theorem dX7_order_115 : decode cX7_order 115 = .ok (.iadd, 1) := by decide +kernel
theorem dX7_order_116 : decode cX7_order 116 = .ok (.iconst 1, 1) := by decide +kernel
theorem dX7_order_117 : decode cX7_order 117 = .ok (.iastore, 1) := by decide +kernel
theorem dX7_order_118 : decode cX7_order 118 = .ok (.aload_n 0, 1) := by decide +kernel
theorem dX7_order_119 : decode cX7_order 119 = .ok (.getfield 7, 3) := by decide +kernel
theorem dX7_order_122 : decode cX7_order 122 = .ok (.bipush 86, 2) := by decide +kernel
theorem dX7_order_124 : decode cX7_order 124 = .ok (.iconst 5, 1) := by decide +kernel
theorem dX7_order_125 : decode cX7_order 125 = .ok (.iload_n 3, 1) := by decide +kernel
theorem dX7_order_126 : decode cX7_order 126 = .ok (.imul, 1) := by decide +kernel
theorem dX7_order_127 : decode cX7_order 127 = .ok (.iadd, 1) := by decide +kernel
theorem dX7_order_128 : decode cX7_order 128 = .ok (.iconst 4, 1) := by decide +kernel
theorem dX7_order_129 : decode cX7_order 129 = .ok (.iadd, 1) := by decide +kernel
theorem dX7_order_130 : decode cX7_order 130 = .ok (.iconst 0, 1) := by decide +kernel
theorem dX7_order_131 : decode cX7_order 131 = .ok (.iastore, 1) := by decide +kernel
theorem dX7_order_132 : decode cX7_order 132 = .ok (.aload_n 0, 1) := by decide +kernel
theorem dX7_order_133 : decode cX7_order 133 = .ok (.getfield 7, 3) := by decide +kernel
theorem dX7_order_136 : decode cX7_order 136 = .ok (.sipush 426, 3) := by decide +kernel
theorem dX7_order_139 : decode cX7_order 139 = .ok (.bipush 12, 2) := by decide +kernel
theorem dX7_order_141 : decode cX7_order 141 = .ok (.iload_n 3, 1) := by decide +kernel
theorem dX7_order_142 : decode cX7_order 142 = .ok (.imul, 1) := by decide +kernel
theorem dX7_order_143 : decode cX7_order 143 = .ok (.iadd, 1) := by decide +kernel
theorem dX7_order_144 : decode cX7_order 144 = .ok (.iload_n 1, 1) := by decide +kernel
theorem dX7_order_145 : decode cX7_order 145 = .ok (.iadd, 1) := by decide +kernel
theorem dX7_order_146 : decode cX7_order 146 = .ok (.iconst 1, 1) := by decide +kernel
theorem dX7_order_147 : decode cX7_order 147 = .ok (.iastore, 1) := by decide +kernel
theorem dX7_order_148 : decode cX7_order 148 = .ok (.aload_n 0, 1) := by decide +kernel
theorem dX7_order_149 : decode cX7_order 149 = .ok (.getfield 7, 3) := by decide +kernel
theorem dX7_order_152 : decode cX7_order 152 = .ok (.iconst 1, 1) := by decide +kernel
theorem dX7_order_153 : decode cX7_order 153 = .ok (.dup2, 1) := by decide +kernel
theorem dX7_order_154 : decode cX7_order 154 = .ok (.iaload, 1) := by decide +kernel
theorem dX7_order_155 : decode cX7_order 155 = .ok (.iconst 1, 1) := by decide +kernel
theorem dX7_order_156 : decode cX7_order 156 = .ok (.iadd, 1) := by decide +kernel
theorem dX7_order_157 : decode cX7_order 157 = .ok (.iastore, 1) := by decide +kernel
theorem dX7_order_158 : decode cX7_order 158 = .ok (.iload_n 3, 1) := by decide +kernel
theorem dX7_order_159 : decode cX7_order 159 = .ok (.ireturn, 1) := by decide +kernel
theorem dX7_draft_0 : decode cX7_draft 0 = .ok (.aload_n 0, 1) := by decide +kernel
theorem dX7_draft_1 : decode cX7_draft 1 = .ok (.iconst 0, 1) := by decide +kernel
theorem dX7_draft_2 : decode cX7_draft 2 = .ok (.putfield 40, 3) := by decide +kernel
theorem dX7_draft_5 : decode cX7_draft 5 = .ok (.aload_n 0, 1) := by decide +kernel
theorem dX7_draft_6 : decode cX7_draft 6 = .ok (.iload_n 1, 1) := by decide +kernel
theorem dX7_draft_7 : decode cX7_draft 7 = .ok (.invokevirtual 77, 3) := by decide +kernel
theorem dX7_draft_10 : decode cX7_draft 10 = .ok (.ifCond .eq 11, 3) := by decide +kernel
theorem dX7_draft_13 : decode cX7_draft 13 = .ok (.aload_n 0, 1) := by decide +kernel
theorem dX7_draft_14 : decode cX7_draft 14 = .ok (.iload_n 2, 1) := by decide +kernel
theorem dX7_draft_15 : decode cX7_draft 15 = .ok (.invokevirtual 65, 3) := by decide +kernel
theorem dX7_draft_18 : decode cX7_draft 18 = .ok (.ifCond .ne 9, 3) := by decide +kernel
theorem dX7_draft_21 : decode cX7_draft 21 = .ok (.aload_n 0, 1) := by decide +kernel
theorem dX7_draft_22 : decode cX7_draft 22 = .ok (.iconst 1, 1) := by decide +kernel
theorem dX7_draft_23 : decode cX7_draft 23 = .ok (.invokevirtual 55, 3) := by decide +kernel
theorem dX7_draft_26 : decode cX7_draft 26 = .ok (.ireturn, 1) := by decide +kernel
theorem dX7_draft_27 : decode cX7_draft 27 = .ok (.aload_n 0, 1) := by decide +kernel
theorem dX7_draft_28 : decode cX7_draft 28 = .ok (.iload_n 1, 1) := by decide +kernel
theorem dX7_draft_29 : decode cX7_draft 29 = .ok (.iconst 2, 1) := by decide +kernel
theorem dX7_draft_30 : decode cX7_draft 30 = .ok (.invokevirtual 80, 3) := by decide +kernel
theorem dX7_draft_33 : decode cX7_draft 33 = .ok (.iconst 3, 1) := by decide +kernel
theorem dX7_draft_34 : decode cX7_draft 34 = .ok (.if_icmp .ge 13, 3) := by decide +kernel
theorem dX7_draft_37 : decode cX7_draft 37 = .ok (.aload_n 0, 1) := by decide +kernel
theorem dX7_draft_38 : decode cX7_draft 38 = .ok (.iload_n 1, 1) := by decide +kernel
theorem dX7_draft_39 : decode cX7_draft 39 = .ok (.invokevirtual 83, 3) := by decide +kernel
theorem dX7_draft_42 : decode cX7_draft 42 = .ok (.bipush 9, 2) := by decide +kernel
theorem dX7_draft_44 : decode cX7_draft 44 = .ok (.if_icmp .ne 9, 3) := by decide +kernel
theorem dX7_draft_47 : decode cX7_draft 47 = .ok (.aload_n 0, 1) := by decide +kernel
theorem dX7_draft_48 : decode cX7_draft 48 = .ok (.iconst 2, 1) := by decide +kernel
theorem dX7_draft_49 : decode cX7_draft 49 = .ok (.invokevirtual 55, 3) := by decide +kernel
theorem dX7_draft_52 : decode cX7_draft 52 = .ok (.ireturn, 1) := by decide +kernel
theorem dX7_draft_53 : decode cX7_draft 53 = .ok (.aload_n 0, 1) := by decide +kernel
theorem dX7_draft_54 : decode cX7_draft 54 = .ok (.invokevirtual 58, 3) := by decide +kernel
theorem dX7_draft_57 : decode cX7_draft 57 = .ok (.aload_n 0, 1) := by decide +kernel
theorem dX7_draft_58 : decode cX7_draft 58 = .ok (.iload_n 1, 1) := by decide +kernel
theorem dX7_draft_59 : decode cX7_draft 59 = .ok (.invokevirtual 83, 3) := by decide +kernel
theorem dX7_draft_62 : decode cX7_draft 62 = .ok (.ifCond .ne 7, 3) := by decide +kernel
theorem dX7_draft_65 : decode cX7_draft 65 = .ok (.iconst 1, 1) := by decide +kernel
theorem dX7_draft_66 : decode cX7_draft 66 = .ok (.goto 4, 3) := by decide +kernel
theorem dX7_draft_69 : decode cX7_draft 69 = .ok (.iconst 2, 1) := by decide +kernel
theorem dX7_draft_70 : decode cX7_draft 70 = .ok (.istore_n 3, 1) := by decide +kernel
theorem dX7_draft_71 : decode cX7_draft 71 = .ok (.aload_n 0, 1) := by decide +kernel
theorem dX7_draft_72 : decode cX7_draft 72 = .ok (.getfield 7, 3) := by decide +kernel
theorem dX7_draft_75 : decode cX7_draft 75 = .ok (.sipush 186, 3) := by decide +kernel
theorem dX7_draft_78 : decode cX7_draft 78 = .ok (.bipush 12, 2) := by decide +kernel
theorem dX7_draft_80 : decode cX7_draft 80 = .ok (.iload_n 1, 1) := by decide +kernel
theorem dX7_draft_81 : decode cX7_draft 81 = .ok (.imul, 1) := by decide +kernel
theorem dX7_draft_82 : decode cX7_draft 82 = .ok (.iadd, 1) := by decide +kernel
theorem dX7_draft_83 : decode cX7_draft 83 = .ok (.iload_n 2, 1) := by decide +kernel
theorem dX7_draft_84 : decode cX7_draft 84 = .ok (.iadd, 1) := by decide +kernel
theorem dX7_draft_85 : decode cX7_draft 85 = .ok (.dup2, 1) := by decide +kernel
theorem dX7_draft_86 : decode cX7_draft 86 = .ok (.iaload, 1) := by decide +kernel
theorem dX7_draft_87 : decode cX7_draft 87 = .ok (.iconst 1, 1) := by decide +kernel
theorem dX7_draft_88 : decode cX7_draft 88 = .ok (.iadd, 1) := by decide +kernel
theorem dX7_draft_89 : decode cX7_draft 89 = .ok (.iastore, 1) := by decide +kernel
theorem dX7_draft_90 : decode cX7_draft 90 = .ok (.aload_n 0, 1) := by decide +kernel
theorem dX7_draft_91 : decode cX7_draft 91 = .ok (.getfield 7, 3) := by decide +kernel
theorem dX7_draft_94 : decode cX7_draft 94 = .ok (.bipush 86, 2) := by decide +kernel
theorem dX7_draft_96 : decode cX7_draft 96 = .ok (.iconst 5, 1) := by decide +kernel
theorem dX7_draft_97 : decode cX7_draft 97 = .ok (.iload_n 1, 1) := by decide +kernel
theorem dX7_draft_98 : decode cX7_draft 98 = .ok (.imul, 1) := by decide +kernel
theorem dX7_draft_99 : decode cX7_draft 99 = .ok (.iadd, 1) := by decide +kernel
theorem dX7_draft_100 : decode cX7_draft 100 = .ok (.iconst 2, 1) := by decide +kernel
theorem dX7_draft_101 : decode cX7_draft 101 = .ok (.iadd, 1) := by decide +kernel
theorem dX7_draft_102 : decode cX7_draft 102 = .ok (.iload_n 3, 1) := by decide +kernel
theorem dX7_draft_103 : decode cX7_draft 103 = .ok (.iastore, 1) := by decide +kernel
theorem dX7_draft_104 : decode cX7_draft 104 = .ok (.iload_n 3, 1) := by decide +kernel
theorem dX7_draft_105 : decode cX7_draft 105 = .ok (.ireturn, 1) := by decide +kernel
theorem dX7_revise_0 : decode cX7_revise 0 = .ok (.aload_n 0, 1) := by decide +kernel
theorem dX7_revise_1 : decode cX7_revise 1 = .ok (.iconst 0, 1) := by decide +kernel
theorem dX7_revise_2 : decode cX7_revise 2 = .ok (.putfield 40, 3) := by decide +kernel
theorem dX7_revise_5 : decode cX7_revise 5 = .ok (.aload_n 0, 1) := by decide +kernel
theorem dX7_revise_6 : decode cX7_revise 6 = .ok (.iload_n 1, 1) := by decide +kernel
theorem dX7_revise_7 : decode cX7_revise 7 = .ok (.invokevirtual 77, 3) := by decide +kernel
theorem dX7_revise_10 : decode cX7_revise 10 = .ok (.ifCond .ne 9, 3) := by decide +kernel
theorem dX7_revise_13 : decode cX7_revise 13 = .ok (.aload_n 0, 1) := by decide +kernel
theorem dX7_revise_14 : decode cX7_revise 14 = .ok (.iconst 1, 1) := by decide +kernel
theorem dX7_revise_15 : decode cX7_revise 15 = .ok (.invokevirtual 55, 3) := by decide +kernel
theorem dX7_revise_18 : decode cX7_revise 18 = .ok (.ireturn, 1) := by decide +kernel
theorem dX7_revise_19 : decode cX7_revise 19 = .ok (.iload_n 2, 1) := by decide +kernel
theorem dX7_revise_20 : decode cX7_revise 20 = .ok (.bipush 10, 2) := by decide +kernel
theorem dX7_revise_22 : decode cX7_revise 22 = .ok (.ldc 69, 2) := by decide +kernel
theorem dX7_revise_24 : decode cX7_revise 24 = .ok (.invokestatic 44, 3) := by decide +kernel
theorem dX7_revise_27 : decode cX7_revise 27 = .ok (.ifCond .ne 9, 3) := by decide +kernel
theorem dX7_revise_30 : decode cX7_revise 30 = .ok (.aload_n 0, 1) := by decide +kernel
theorem dX7_revise_31 : decode cX7_revise 31 = .ok (.iconst 2, 1) := by decide +kernel
theorem dX7_revise_32 : decode cX7_revise 32 = .ok (.invokevirtual 55, 3) := by decide +kernel
theorem dX7_revise_35 : decode cX7_revise 35 = .ok (.ireturn, 1) := by decide +kernel
theorem dX7_revise_36 : decode cX7_revise 36 = .ok (.aload_n 0, 1) := by decide +kernel
theorem dX7_revise_37 : decode cX7_revise 37 = .ok (.iload_n 1, 1) := by decide +kernel
theorem dX7_revise_38 : decode cX7_revise 38 = .ok (.iconst 2, 1) := by decide +kernel
theorem dX7_revise_39 : decode cX7_revise 39 = .ok (.invokevirtual 80, 3) := by decide +kernel
theorem dX7_revise_42 : decode cX7_revise 42 = .ok (.iconst 3, 1) := by decide +kernel
theorem dX7_revise_43 : decode cX7_revise 43 = .ok (.if_icmp .lt 9, 3) := by decide +kernel
theorem dX7_revise_46 : decode cX7_revise 46 = .ok (.aload_n 0, 1) := by decide +kernel
theorem dX7_revise_47 : decode cX7_revise 47 = .ok (.iconst 3, 1) := by decide +kernel
theorem dX7_revise_48 : decode cX7_revise 48 = .ok (.invokevirtual 55, 3) := by decide +kernel
theorem dX7_revise_51 : decode cX7_revise 51 = .ok (.ireturn, 1) := by decide +kernel
theorem dX7_revise_52 : decode cX7_revise 52 = .ok (.aload_n 0, 1) := by decide +kernel
theorem dX7_revise_53 : decode cX7_revise 53 = .ok (.invokevirtual 58, 3) := by decide +kernel
theorem dX7_revise_56 : decode cX7_revise 56 = .ok (.aload_n 0, 1) := by decide +kernel
theorem dX7_revise_57 : decode cX7_revise 57 = .ok (.iload_n 1, 1) := by decide +kernel
theorem dX7_revise_58 : decode cX7_revise 58 = .ok (.iconst 1, 1) := by decide +kernel
theorem dX7_revise_59 : decode cX7_revise 59 = .ok (.invokevirtual 80, 3) := by decide +kernel
theorem dX7_revise_62 : decode cX7_revise 62 = .ok (.istore_n 3, 1) := by decide +kernel
theorem dX7_revise_63 : decode cX7_revise 63 = .ok (.aload_n 0, 1) := by decide +kernel
theorem dX7_revise_64 : decode cX7_revise 64 = .ok (.getfield 7, 3) := by decide +kernel
theorem dX7_revise_67 : decode cX7_revise 67 = .ok (.bipush 86, 2) := by decide +kernel
theorem dX7_revise_69 : decode cX7_revise 69 = .ok (.iconst 5, 1) := by decide +kernel
theorem dX7_revise_70 : decode cX7_revise 70 = .ok (.iload_n 1, 1) := by decide +kernel
theorem dX7_revise_71 : decode cX7_revise 71 = .ok (.imul, 1) := by decide +kernel
theorem dX7_revise_72 : decode cX7_revise 72 = .ok (.iadd, 1) := by decide +kernel
theorem dX7_revise_73 : decode cX7_revise 73 = .ok (.iconst 1, 1) := by decide +kernel
theorem dX7_revise_74 : decode cX7_revise 74 = .ok (.iadd, 1) := by decide +kernel
theorem dX7_revise_75 : decode cX7_revise 75 = .ok (.iload_n 2, 1) := by decide +kernel
theorem dX7_revise_76 : decode cX7_revise 76 = .ok (.iastore, 1) := by decide +kernel
theorem dX7_revise_77 : decode cX7_revise 77 = .ok (.aload_n 0, 1) := by decide +kernel
theorem dX7_revise_78 : decode cX7_revise 78 = .ok (.getfield 7, 3) := by decide +kernel
theorem dX7_revise_81 : decode cX7_revise 81 = .ok (.bipush 86, 2) := by decide +kernel
theorem dX7_revise_83 : decode cX7_revise 83 = .ok (.iconst 5, 1) := by decide +kernel
theorem dX7_revise_84 : decode cX7_revise 84 = .ok (.iload_n 1, 1) := by decide +kernel
theorem dX7_revise_85 : decode cX7_revise 85 = .ok (.imul, 1) := by decide +kernel
theorem dX7_revise_86 : decode cX7_revise 86 = .ok (.iadd, 1) := by decide +kernel
theorem dX7_revise_87 : decode cX7_revise 87 = .ok (.iconst 3, 1) := by decide +kernel
theorem dX7_revise_88 : decode cX7_revise 88 = .ok (.iadd, 1) := by decide +kernel
theorem dX7_revise_89 : decode cX7_revise 89 = .ok (.dup2, 1) := by decide +kernel
theorem dX7_revise_90 : decode cX7_revise 90 = .ok (.iaload, 1) := by decide +kernel
theorem dX7_revise_91 : decode cX7_revise 91 = .ok (.iconst 1, 1) := by decide +kernel
theorem dX7_revise_92 : decode cX7_revise 92 = .ok (.iadd, 1) := by decide +kernel
theorem dX7_revise_93 : decode cX7_revise 93 = .ok (.iastore, 1) := by decide +kernel
theorem dX7_revise_94 : decode cX7_revise 94 = .ok (.iload_n 3, 1) := by decide +kernel
theorem dX7_revise_95 : decode cX7_revise 95 = .ok (.ireturn, 1) := by decide +kernel
theorem dX7_isUsed_0 : decode cX7_isUsed 0 = .ok (.aload_n 0, 1) := by decide +kernel
theorem dX7_isUsed_1 : decode cX7_isUsed 1 = .ok (.getfield 86, 3) := by decide +kernel
theorem dX7_isUsed_4 : decode cX7_isUsed 4 = .ok (.iload_n 1, 1) := by decide +kernel
theorem dX7_isUsed_5 : decode cX7_isUsed 5 = .ok (.ishr, 1) := by decide +kernel
theorem dX7_isUsed_6 : decode cX7_isUsed 6 = .ok (.iconst 1, 1) := by decide +kernel
theorem dX7_isUsed_7 : decode cX7_isUsed 7 = .ok (.iand, 1) := by decide +kernel
theorem dX7_isUsed_8 : decode cX7_isUsed 8 = .ok (.iconst 1, 1) := by decide +kernel
theorem dX7_isUsed_9 : decode cX7_isUsed 9 = .ok (.if_icmp .ne 7, 3) := by decide +kernel
theorem dX7_isUsed_12 : decode cX7_isUsed 12 = .ok (.iconst 1, 1) := by decide +kernel
theorem dX7_isUsed_13 : decode cX7_isUsed 13 = .ok (.goto 4, 3) := by decide +kernel
theorem dX7_isUsed_16 : decode cX7_isUsed 16 = .ok (.iconst 0, 1) := by decide +kernel
theorem dX7_isUsed_17 : decode cX7_isUsed 17 = .ok (.ireturn, 1) := by decide +kernel
theorem dX7_begins_0 : decode cX7_begins 0 = .ok (.iload_n 1, 1) := by decide +kernel
theorem dX7_begins_1 : decode cX7_begins 1 = .ok (.bipush 48, 2) := by decide +kernel
theorem dX7_begins_3 : decode cX7_begins 3 = .ok (.isub, 1) := by decide +kernel
theorem dX7_begins_4 : decode cX7_begins 4 = .ok (.istore_n 2, 1) := by decide +kernel
theorem dX7_begins_5 : decode cX7_begins 5 = .ok (.iload_n 2, 1) := by decide +kernel
theorem dX7_begins_6 : decode cX7_begins 6 = .ok (.iconst 0, 1) := by decide +kernel
theorem dX7_begins_7 : decode cX7_begins 7 = .ok (.bipush 9, 2) := by decide +kernel
theorem dX7_begins_9 : decode cX7_begins 9 = .ok (.invokestatic 44, 3) := by decide +kernel
theorem dX7_begins_12 : decode cX7_begins 12 = .ok (.ifCond .eq 47, 3) := by decide +kernel
theorem dX7_begins_15 : decode cX7_begins 15 = .ok (.iload_n 2, 1) := by decide +kernel
theorem dX7_begins_16 : decode cX7_begins 16 = .ok (.iconst 1, 1) := by decide +kernel
theorem dX7_begins_17 : decode cX7_begins 17 = .ok (.if_icmp .eq 11, 3) := by decide +kernel
theorem dX7_begins_20 : decode cX7_begins 20 = .ok (.aload_n 0, 1) := by decide +kernel
theorem dX7_begins_21 : decode cX7_begins 21 = .ok (.iload_n 2, 1) := by decide +kernel
theorem dX7_begins_22 : decode cX7_begins 22 = .ok (.invokevirtual 89, 3) := by decide +kernel
theorem dX7_begins_25 : decode cX7_begins 25 = .ok (.ifCond .ne 34, 3) := by decide +kernel
theorem dX7_begins_28 : decode cX7_begins 28 = .ok (.iload_n 2, 1) := by decide +kernel
theorem dX7_begins_29 : decode cX7_begins 29 = .ok (.iconst 1, 1) := by decide +kernel
theorem dX7_begins_30 : decode cX7_begins 30 = .ok (.if_icmp .ne 31, 3) := by decide +kernel
theorem dX7_begins_33 : decode cX7_begins 33 = .ok (.aload_n 0, 1) := by decide +kernel
theorem dX7_begins_34 : decode cX7_begins 34 = .ok (.iconst 1, 1) := by decide +kernel
theorem dX7_begins_35 : decode cX7_begins 35 = .ok (.invokevirtual 89, 3) := by decide +kernel
theorem dX7_begins_38 : decode cX7_begins 38 = .ok (.ifCond .eq 23, 3) := by decide +kernel
theorem dX7_begins_41 : decode cX7_begins 41 = .ok (.aload_n 0, 1) := by decide +kernel
theorem dX7_begins_42 : decode cX7_begins 42 = .ok (.bipush 10, 2) := by decide +kernel
theorem dX7_begins_44 : decode cX7_begins 44 = .ok (.invokevirtual 89, 3) := by decide +kernel
theorem dX7_begins_47 : decode cX7_begins 47 = .ok (.ifCond .eq 14, 3) := by decide +kernel
theorem dX7_begins_50 : decode cX7_begins 50 = .ok (.aload_n 0, 1) := by decide +kernel
theorem dX7_begins_51 : decode cX7_begins 51 = .ok (.bipush 11, 2) := by decide +kernel
theorem dX7_begins_53 : decode cX7_begins 53 = .ok (.invokevirtual 89, 3) := by decide +kernel
theorem dX7_begins_56 : decode cX7_begins 56 = .ok (.ifCond .eq 5, 3) := by decide +kernel
theorem dX7_begins_59 : decode cX7_begins 59 = .ok (.iconst 0, 1) := by decide +kernel
theorem dX7_begins_60 : decode cX7_begins 60 = .ok (.ireturn, 1) := by decide +kernel
theorem dX7_begins_61 : decode cX7_begins 61 = .ok (.aload_n 0, 1) := by decide +kernel
theorem dX7_begins_62 : decode cX7_begins 62 = .ok (.iload_n 2, 1) := by decide +kernel
theorem dX7_begins_63 : decode cX7_begins 63 = .ok (.putfield 92, 3) := by decide +kernel
theorem dX7_begins_66 : decode cX7_begins 66 = .ok (.aload_n 0, 1) := by decide +kernel
theorem dX7_begins_67 : decode cX7_begins 67 = .ok (.iconst 1, 1) := by decide +kernel
theorem dX7_begins_68 : decode cX7_begins 68 = .ok (.putfield 95, 3) := by decide +kernel
theorem dX7_begins_71 : decode cX7_begins 71 = .ok (.aload_n 0, 1) := by decide +kernel
theorem dX7_begins_72 : decode cX7_begins 72 = .ok (.iload_n 2, 1) := by decide +kernel
theorem dX7_begins_73 : decode cX7_begins 73 = .ok (.iconst 1, 1) := by decide +kernel
theorem dX7_begins_74 : decode cX7_begins 74 = .ok (.if_icmp .ne 7, 3) := by decide +kernel
theorem dX7_begins_77 : decode cX7_begins 77 = .ok (.iconst 1, 1) := by decide +kernel
theorem dX7_begins_78 : decode cX7_begins 78 = .ok (.goto 4, 3) := by decide +kernel
theorem dX7_begins_81 : decode cX7_begins 81 = .ok (.iconst 2, 1) := by decide +kernel
theorem dX7_begins_82 : decode cX7_begins 82 = .ok (.putfield 98, 3) := by decide +kernel
theorem dX7_begins_85 : decode cX7_begins 85 = .ok (.iconst 1, 1) := by decide +kernel
theorem dX7_begins_86 : decode cX7_begins 86 = .ok (.ireturn, 1) := by decide +kernel
theorem dX7_isOver_0 : decode cX7_isOver 0 = .ok (.aload_n 0, 1) := by decide +kernel
theorem dX7_isOver_1 : decode cX7_isOver 1 = .ok (.getfield 98, 3) := by decide +kernel
theorem dX7_isOver_4 : decode cX7_isOver 4 = .ok (.iconst 2, 1) := by decide +kernel
theorem dX7_isOver_5 : decode cX7_isOver 5 = .ok (.if_icmp .eq 27, 3) := by decide +kernel
theorem dX7_isOver_8 : decode cX7_isOver 8 = .ok (.aload_n 0, 1) := by decide +kernel
theorem dX7_isOver_9 : decode cX7_isOver 9 = .ok (.getfield 98, 3) := by decide +kernel
theorem dX7_isOver_12 : decode cX7_isOver 12 = .ok (.iconst 4, 1) := by decide +kernel
theorem dX7_isOver_13 : decode cX7_isOver 13 = .ok (.if_icmp .eq 19, 3) := by decide +kernel
theorem dX7_isOver_16 : decode cX7_isOver 16 = .ok (.aload_n 0, 1) := by decide +kernel
theorem dX7_isOver_17 : decode cX7_isOver 17 = .ok (.getfield 98, 3) := by decide +kernel
theorem dX7_isOver_20 : decode cX7_isOver 20 = .ok (.iconst 1, 1) := by decide +kernel
theorem dX7_isOver_21 : decode cX7_isOver 21 = .ok (.if_icmp .ne 15, 3) := by decide +kernel
theorem dX7_isOver_24 : decode cX7_isOver 24 = .ok (.aload_n 0, 1) := by decide +kernel
theorem dX7_isOver_25 : decode cX7_isOver 25 = .ok (.iconst 1, 1) := by decide +kernel
theorem dX7_isOver_26 : decode cX7_isOver 26 = .ok (.invokevirtual 89, 3) := by decide +kernel
theorem dX7_isOver_29 : decode cX7_isOver 29 = .ok (.ifCond .ne 7, 3) := by decide +kernel
theorem dX7_isOver_32 : decode cX7_isOver 32 = .ok (.iconst 1, 1) := by decide +kernel
theorem dX7_isOver_33 : decode cX7_isOver 33 = .ok (.goto 4, 3) := by decide +kernel
theorem dX7_isOver_36 : decode cX7_isOver 36 = .ok (.iconst 0, 1) := by decide +kernel
theorem dX7_isOver_37 : decode cX7_isOver 37 = .ok (.ireturn, 1) := by decide +kernel
theorem dX7_ends_0 : decode cX7_ends 0 = .ok (.aload_n 0, 1) := by decide +kernel
theorem dX7_ends_1 : decode cX7_ends 1 = .ok (.getfield 22, 3) := by decide +kernel
theorem dX7_ends_4 : decode cX7_ends 4 = .ok (.aload_n 0, 1) := by decide +kernel
theorem dX7_ends_5 : decode cX7_ends 5 = .ok (.getfield 92, 3) := by decide +kernel
theorem dX7_ends_8 : decode cX7_ends 8 = .ok (.aload_n 0, 1) := by decide +kernel
theorem dX7_ends_9 : decode cX7_ends 9 = .ok (.getfield 95, 3) := by decide +kernel
theorem dX7_ends_12 : decode cX7_ends 12 = .ok (.iastore, 1) := by decide +kernel
theorem dX7_ends_13 : decode cX7_ends 13 = .ok (.aload_n 0, 1) := by decide +kernel
theorem dX7_ends_14 : decode cX7_ends 14 = .ok (.dup, 1) := by decide +kernel
theorem dX7_ends_15 : decode cX7_ends 15 = .ok (.getfield 86, 3) := by decide +kernel
theorem dX7_ends_18 : decode cX7_ends 18 = .ok (.iconst 1, 1) := by decide +kernel
theorem dX7_ends_19 : decode cX7_ends 19 = .ok (.aload_n 0, 1) := by decide +kernel
theorem dX7_ends_20 : decode cX7_ends 20 = .ok (.getfield 92, 3) := by decide +kernel
theorem dX7_ends_23 : decode cX7_ends 23 = .ok (.ishl, 1) := by decide +kernel
theorem dX7_ends_24 : decode cX7_ends 24 = .ok (.ior, 1) := by decide +kernel
theorem dX7_ends_25 : decode cX7_ends 25 = .ok (.putfield 86, 3) := by decide +kernel
theorem dX7_ends_28 : decode cX7_ends 28 = .ok (.aload_n 0, 1) := by decide +kernel
theorem dX7_ends_29 : decode cX7_ends 29 = .ok (.dup, 1) := by decide +kernel
theorem dX7_ends_30 : decode cX7_ends 30 = .ok (.getfield 101, 3) := by decide +kernel
theorem dX7_ends_33 : decode cX7_ends 33 = .ok (.iconst 1, 1) := by decide +kernel
theorem dX7_ends_34 : decode cX7_ends 34 = .ok (.iadd, 1) := by decide +kernel
theorem dX7_ends_35 : decode cX7_ends 35 = .ok (.putfield 101, 3) := by decide +kernel
theorem dX7_ends_38 : decode cX7_ends 38 = .ok (.return_, 1) := by decide +kernel
theorem dX7_goesOn_0 : decode cX7_goesOn 0 = .ok (.aload_n 0, 1) := by decide +kernel
theorem dX7_goesOn_1 : decode cX7_goesOn 1 = .ok (.getfield 98, 3) := by decide +kernel
theorem dX7_goesOn_4 : decode cX7_goesOn 4 = .ok (.iconst 1, 1) := by decide +kernel
theorem dX7_goesOn_5 : decode cX7_goesOn 5 = .ok (.if_icmp .ne 33, 3) := by decide +kernel
theorem dX7_goesOn_8 : decode cX7_goesOn 8 = .ok (.iload_n 1, 1) := by decide +kernel
theorem dX7_goesOn_9 : decode cX7_goesOn 9 = .ok (.bipush 48, 2) := by decide +kernel
theorem dX7_goesOn_11 : decode cX7_goesOn 11 = .ok (.if_icmp .eq 9, 3) := by decide +kernel
theorem dX7_goesOn_14 : decode cX7_goesOn 14 = .ok (.iload_n 1, 1) := by decide +kernel
theorem dX7_goesOn_15 : decode cX7_goesOn 15 = .ok (.bipush 49, 2) := by decide +kernel
theorem dX7_goesOn_17 : decode cX7_goesOn 17 = .ok (.if_icmp .ne 21, 3) := by decide +kernel
theorem dX7_goesOn_20 : decode cX7_goesOn 20 = .ok (.aload_n 0, 1) := by decide +kernel
theorem dX7_goesOn_21 : decode cX7_goesOn 21 = .ok (.bipush 10, 2) := by decide +kernel
theorem dX7_goesOn_23 : decode cX7_goesOn 23 = .ok (.iload_n 1, 1) := by decide +kernel
theorem dX7_goesOn_24 : decode cX7_goesOn 24 = .ok (.iadd, 1) := by decide +kernel
theorem dX7_goesOn_25 : decode cX7_goesOn 25 = .ok (.bipush 48, 2) := by decide +kernel
theorem dX7_goesOn_27 : decode cX7_goesOn 27 = .ok (.isub, 1) := by decide +kernel
theorem dX7_goesOn_28 : decode cX7_goesOn 28 = .ok (.invokevirtual 89, 3) := by decide +kernel
theorem dX7_goesOn_31 : decode cX7_goesOn 31 = .ok (.ifCond .ne 7, 3) := by decide +kernel
theorem dX7_goesOn_34 : decode cX7_goesOn 34 = .ok (.iconst 1, 1) := by decide +kernel
theorem dX7_goesOn_35 : decode cX7_goesOn 35 = .ok (.goto 4, 3) := by decide +kernel
theorem dX7_goesOn_38 : decode cX7_goesOn 38 = .ok (.iconst 0, 1) := by decide +kernel
theorem dX7_goesOn_39 : decode cX7_goesOn 39 = .ok (.istore_n 2, 1) := by decide +kernel
theorem dX7_goesOn_40 : decode cX7_goesOn 40 = .ok (.iload_n 2, 1) := by decide +kernel
theorem dX7_goesOn_41 : decode cX7_goesOn 41 = .ok (.ifCond .eq 21, 3) := by decide +kernel
theorem dX7_goesOn_44 : decode cX7_goesOn 44 = .ok (.aload_n 0, 1) := by decide +kernel
theorem dX7_goesOn_45 : decode cX7_goesOn 45 = .ok (.bipush 10, 2) := by decide +kernel
theorem dX7_goesOn_47 : decode cX7_goesOn 47 = .ok (.iload_n 1, 1) := by decide +kernel
theorem dX7_goesOn_48 : decode cX7_goesOn 48 = .ok (.iadd, 1) := by decide +kernel
theorem dX7_goesOn_49 : decode cX7_goesOn 49 = .ok (.bipush 48, 2) := by decide +kernel
theorem dX7_goesOn_51 : decode cX7_goesOn 51 = .ok (.isub, 1) := by decide +kernel
theorem dX7_goesOn_52 : decode cX7_goesOn 52 = .ok (.putfield 92, 3) := by decide +kernel
theorem dX7_goesOn_55 : decode cX7_goesOn 55 = .ok (.aload_n 0, 1) := by decide +kernel
theorem dX7_goesOn_56 : decode cX7_goesOn 56 = .ok (.iconst 2, 1) := by decide +kernel
theorem dX7_goesOn_57 : decode cX7_goesOn 57 = .ok (.putfield 98, 3) := by decide +kernel
theorem dX7_goesOn_60 : decode cX7_goesOn 60 = .ok (.iconst 1, 1) := by decide +kernel
theorem dX7_goesOn_61 : decode cX7_goesOn 61 = .ok (.ireturn, 1) := by decide +kernel
theorem dX7_goesOn_62 : decode cX7_goesOn 62 = .ok (.iload_n 1, 1) := by decide +kernel
theorem dX7_goesOn_63 : decode cX7_goesOn 63 = .ok (.bipush 42, 2) := by decide +kernel
theorem dX7_goesOn_65 : decode cX7_goesOn 65 = .ok (.if_icmp .ne 25, 3) := by decide +kernel
theorem dX7_goesOn_68 : decode cX7_goesOn 68 = .ok (.aload_n 0, 1) := by decide +kernel
theorem dX7_goesOn_69 : decode cX7_goesOn 69 = .ok (.getfield 98, 3) := by decide +kernel
theorem dX7_goesOn_72 : decode cX7_goesOn 72 = .ok (.iconst 3, 1) := by decide +kernel
theorem dX7_goesOn_73 : decode cX7_goesOn 73 = .ok (.if_icmp .ge 17, 3) := by decide +kernel
theorem dX7_goesOn_76 : decode cX7_goesOn 76 = .ok (.aload_n 0, 1) := by decide +kernel
theorem dX7_goesOn_77 : decode cX7_goesOn 77 = .ok (.invokevirtual 104, 3) := by decide +kernel
theorem dX7_goesOn_80 : decode cX7_goesOn 80 = .ok (.ifCond .eq 10, 3) := by decide +kernel
theorem dX7_goesOn_83 : decode cX7_goesOn 83 = .ok (.aload_n 0, 1) := by decide +kernel
theorem dX7_goesOn_84 : decode cX7_goesOn 84 = .ok (.iconst 3, 1) := by decide +kernel
theorem dX7_goesOn_85 : decode cX7_goesOn 85 = .ok (.putfield 98, 3) := by decide +kernel
theorem dX7_goesOn_88 : decode cX7_goesOn 88 = .ok (.iconst 1, 1) := by decide +kernel
theorem dX7_goesOn_89 : decode cX7_goesOn 89 = .ok (.ireturn, 1) := by decide +kernel
theorem dX7_goesOn_90 : decode cX7_goesOn 90 = .ok (.iload_n 1, 1) := by decide +kernel
theorem dX7_goesOn_91 : decode cX7_goesOn 91 = .ok (.bipush 44, 2) := by decide +kernel
theorem dX7_goesOn_93 : decode cX7_goesOn 93 = .ok (.if_icmp .ne 24, 3) := by decide +kernel
theorem dX7_goesOn_96 : decode cX7_goesOn 96 = .ok (.aload_n 0, 1) := by decide +kernel
theorem dX7_goesOn_97 : decode cX7_goesOn 97 = .ok (.invokevirtual 104, 3) := by decide +kernel
theorem dX7_goesOn_100 : decode cX7_goesOn 100 = .ok (.ifCond .eq 17, 3) := by decide +kernel
theorem dX7_goesOn_103 : decode cX7_goesOn 103 = .ok (.aload_n 0, 1) := by decide +kernel
theorem dX7_goesOn_104 : decode cX7_goesOn 104 = .ok (.getfield 101, 3) := by decide +kernel
theorem dX7_goesOn_107 : decode cX7_goesOn 107 = .ok (.iconst 1, 1) := by decide +kernel
theorem dX7_goesOn_108 : decode cX7_goesOn 108 = .ok (.iadd, 1) := by decide +kernel
theorem dX7_goesOn_109 : decode cX7_goesOn 109 = .ok (.iconst 4, 1) := by decide +kernel
theorem dX7_goesOn_110 : decode cX7_goesOn 110 = .ok (.if_icmp .ge 7, 3) := by decide +kernel
theorem dX7_goesOn_113 : decode cX7_goesOn 113 = .ok (.iconst 1, 1) := by decide +kernel
theorem dX7_goesOn_114 : decode cX7_goesOn 114 = .ok (.goto 4, 3) := by decide +kernel
theorem dX7_goesOn_117 : decode cX7_goesOn 117 = .ok (.iconst 0, 1) := by decide +kernel
theorem dX7_goesOn_118 : decode cX7_goesOn 118 = .ok (.istore_n 3, 1) := by decide +kernel
theorem dX7_goesOn_119 : decode cX7_goesOn 119 = .ok (.iload_n 3, 1) := by decide +kernel
theorem dX7_goesOn_120 : decode cX7_goesOn 120 = .ok (.ifCond .eq 12, 3) := by decide +kernel
theorem dX7_goesOn_123 : decode cX7_goesOn 123 = .ok (.aload_n 0, 1) := by decide +kernel
theorem dX7_goesOn_124 : decode cX7_goesOn 124 = .ok (.invokevirtual 108, 3) := by decide +kernel
theorem dX7_goesOn_127 : decode cX7_goesOn 127 = .ok (.aload_n 0, 1) := by decide +kernel
theorem dX7_goesOn_128 : decode cX7_goesOn 128 = .ok (.iconst 0, 1) := by decide +kernel
theorem dX7_goesOn_129 : decode cX7_goesOn 129 = .ok (.putfield 98, 3) := by decide +kernel
theorem dX7_goesOn_132 : decode cX7_goesOn 132 = .ok (.iload_n 3, 1) := by decide +kernel
theorem dX7_goesOn_133 : decode cX7_goesOn 133 = .ok (.ireturn, 1) := by decide +kernel
theorem dX7_takes_0 : decode cX7_takes 0 = .ok (.aload_n 0, 1) := by decide +kernel
theorem dX7_takes_1 : decode cX7_takes 1 = .ok (.getfield 98, 3) := by decide +kernel
theorem dX7_takes_4 : decode cX7_takes 4 = .ok (.ifCond .ne 9, 3) := by decide +kernel
theorem dX7_takes_7 : decode cX7_takes 7 = .ok (.aload_n 0, 1) := by decide +kernel
theorem dX7_takes_8 : decode cX7_takes 8 = .ok (.iload_n 1, 1) := by decide +kernel
theorem dX7_takes_9 : decode cX7_takes 9 = .ok (.invokevirtual 111, 3) := by decide +kernel
theorem dX7_takes_12 : decode cX7_takes 12 = .ok (.ireturn, 1) := by decide +kernel
theorem dX7_takes_13 : decode cX7_takes 13 = .ok (.aload_n 0, 1) := by decide +kernel
theorem dX7_takes_14 : decode cX7_takes 14 = .ok (.getfield 98, 3) := by decide +kernel
theorem dX7_takes_17 : decode cX7_takes 17 = .ok (.iconst 3, 1) := by decide +kernel
theorem dX7_takes_18 : decode cX7_takes 18 = .ok (.if_icmp .eq 9, 3) := by decide +kernel
theorem dX7_takes_21 : decode cX7_takes 21 = .ok (.aload_n 0, 1) := by decide +kernel
theorem dX7_takes_22 : decode cX7_takes 22 = .ok (.iload_n 1, 1) := by decide +kernel
theorem dX7_takes_23 : decode cX7_takes 23 = .ok (.invokevirtual 114, 3) := by decide +kernel
theorem dX7_takes_26 : decode cX7_takes 26 = .ok (.ireturn, 1) := by decide +kernel
theorem dX7_takes_27 : decode cX7_takes 27 = .ok (.aload_n 0, 1) := by decide +kernel
theorem dX7_takes_28 : decode cX7_takes 28 = .ok (.iload_n 1, 1) := by decide +kernel
theorem dX7_takes_29 : decode cX7_takes 29 = .ok (.bipush 48, 2) := by decide +kernel
theorem dX7_takes_31 : decode cX7_takes 31 = .ok (.isub, 1) := by decide +kernel
theorem dX7_takes_32 : decode cX7_takes 32 = .ok (.putfield 95, 3) := by decide +kernel
theorem dX7_takes_35 : decode cX7_takes 35 = .ok (.aload_n 0, 1) := by decide +kernel
theorem dX7_takes_36 : decode cX7_takes 36 = .ok (.iconst 4, 1) := by decide +kernel
theorem dX7_takes_37 : decode cX7_takes 37 = .ok (.putfield 98, 3) := by decide +kernel
theorem dX7_takes_40 : decode cX7_takes 40 = .ok (.aload_n 0, 1) := by decide +kernel
theorem dX7_takes_41 : decode cX7_takes 41 = .ok (.getfield 95, 3) := by decide +kernel
theorem dX7_takes_44 : decode cX7_takes 44 = .ok (.iconst 2, 1) := by decide +kernel
theorem dX7_takes_45 : decode cX7_takes 45 = .ok (.bipush 9, 2) := by decide +kernel
theorem dX7_takes_47 : decode cX7_takes 47 = .ok (.invokestatic 44, 3) := by decide +kernel
theorem dX7_takes_50 : decode cX7_takes 50 = .ok (.ireturn, 1) := by decide +kernel
theorem dX7_read_0 : decode cX7_read 0 = .ok (.aload_n 0, 1) := by decide +kernel
theorem dX7_read_1 : decode cX7_read 1 = .ok (.iconst 0, 1) := by decide +kernel
theorem dX7_read_2 : decode cX7_read 2 = .ok (.putfield 98, 3) := by decide +kernel
theorem dX7_read_5 : decode cX7_read 5 = .ok (.aload_n 0, 1) := by decide +kernel
theorem dX7_read_6 : decode cX7_read 6 = .ok (.iconst 0, 1) := by decide +kernel
theorem dX7_read_7 : decode cX7_read 7 = .ok (.putfield 101, 3) := by decide +kernel
theorem dX7_read_10 : decode cX7_read 10 = .ok (.aload_n 0, 1) := by decide +kernel
theorem dX7_read_11 : decode cX7_read 11 = .ok (.iconst 0, 1) := by decide +kernel
theorem dX7_read_12 : decode cX7_read 12 = .ok (.putfield 86, 3) := by decide +kernel
theorem dX7_read_15 : decode cX7_read 15 = .ok (.iconst 0, 1) := by decide +kernel
theorem dX7_read_16 : decode cX7_read 16 = .ok (.istore_n 1, 1) := by decide +kernel
theorem dX7_read_17 : decode cX7_read 17 = .ok (.iload_n 1, 1) := by decide +kernel
theorem dX7_read_18 : decode cX7_read 18 = .ok (.bipush 12, 2) := by decide +kernel
theorem dX7_read_20 : decode cX7_read 20 = .ok (.if_icmp .ge 16, 3) := by decide +kernel
theorem dX7_read_23 : decode cX7_read 23 = .ok (.aload_n 0, 1) := by decide +kernel
theorem dX7_read_24 : decode cX7_read 24 = .ok (.getfield 22, 3) := by decide +kernel
theorem dX7_read_27 : decode cX7_read 27 = .ok (.iload_n 1, 1) := by decide +kernel
theorem dX7_read_28 : decode cX7_read 28 = .ok (.iconst 0, 1) := by decide +kernel
theorem dX7_read_29 : decode cX7_read 29 = .ok (.iastore, 1) := by decide +kernel
theorem dX7_read_30 : decode cX7_read 30 = .ok (.iinc 1 1, 3) := by decide +kernel
theorem dX7_read_33 : decode cX7_read 33 = .ok (.goto (-16), 3) := by decide +kernel
theorem dX7_read_36 : decode cX7_read 36 = .ok (.iconst 0, 1) := by decide +kernel
theorem dX7_read_37 : decode cX7_read 37 = .ok (.istore_n 1, 1) := by decide +kernel
theorem dX7_read_38 : decode cX7_read 38 = .ok (.iload_n 1, 1) := by decide +kernel
theorem dX7_read_39 : decode cX7_read 39 = .ok (.aload_n 0, 1) := by decide +kernel
theorem dX7_read_40 : decode cX7_read 40 = .ok (.getfield 117, 3) := by decide +kernel
theorem dX7_read_43 : decode cX7_read 43 = .ok (.if_icmp .ge 29, 3) := by decide +kernel
theorem dX7_read_46 : decode cX7_read 46 = .ok (.aload_n 0, 1) := by decide +kernel
theorem dX7_read_47 : decode cX7_read 47 = .ok (.aload_n 0, 1) := by decide +kernel
theorem dX7_read_48 : decode cX7_read 48 = .ok (.getfield 19, 3) := by decide +kernel
theorem dX7_read_51 : decode cX7_read 51 = .ok (.iload_n 1, 1) := by decide +kernel
theorem dX7_read_52 : decode cX7_read 52 = .ok (.iaload, 1) := by decide +kernel
theorem dX7_read_53 : decode cX7_read 53 = .ok (.invokevirtual 120, 3) := by decide +kernel
theorem dX7_read_56 : decode cX7_read 56 = .ok (.ifCond .ne 10, 3) := by decide +kernel
theorem dX7_read_59 : decode cX7_read 59 = .ok (.aload_n 0, 1) := by decide +kernel
theorem dX7_read_60 : decode cX7_read 60 = .ok (.iconst 0, 1) := by decide +kernel
theorem dX7_read_61 : decode cX7_read 61 = .ok (.putfield 98, 3) := by decide +kernel
theorem dX7_read_64 : decode cX7_read 64 = .ok (.iload_n 1, 1) := by decide +kernel
theorem dX7_read_65 : decode cX7_read 65 = .ok (.ireturn, 1) := by decide +kernel
theorem dX7_read_66 : decode cX7_read 66 = .ok (.iinc 1 1, 3) := by decide +kernel
theorem dX7_read_69 : decode cX7_read 69 = .ok (.goto (-31), 3) := by decide +kernel
theorem dX7_read_72 : decode cX7_read 72 = .ok (.aload_n 0, 1) := by decide +kernel
theorem dX7_read_73 : decode cX7_read 73 = .ok (.getfield 117, 3) := by decide +kernel
theorem dX7_read_76 : decode cX7_read 76 = .ok (.ireturn, 1) := by decide +kernel
theorem dX7_isList_0 : decode cX7_isList 0 = .ok (.aload_n 0, 1) := by decide +kernel
theorem dX7_isList_1 : decode cX7_isList 1 = .ok (.invokevirtual 123, 3) := by decide +kernel
theorem dX7_isList_4 : decode cX7_isList 4 = .ok (.aload_n 0, 1) := by decide +kernel
theorem dX7_isList_5 : decode cX7_isList 5 = .ok (.getfield 117, 3) := by decide +kernel
theorem dX7_isList_8 : decode cX7_isList 8 = .ok (.if_icmp .ne 14, 3) := by decide +kernel
theorem dX7_isList_11 : decode cX7_isList 11 = .ok (.aload_n 0, 1) := by decide +kernel
theorem dX7_isList_12 : decode cX7_isList 12 = .ok (.invokevirtual 104, 3) := by decide +kernel
theorem dX7_isList_15 : decode cX7_isList 15 = .ok (.ifCond .eq 7, 3) := by decide +kernel
theorem dX7_isList_18 : decode cX7_isList 18 = .ok (.iconst 1, 1) := by decide +kernel
theorem dX7_isList_19 : decode cX7_isList 19 = .ok (.goto 4, 3) := by decide +kernel
theorem dX7_isList_22 : decode cX7_isList 22 = .ok (.iconst 0, 1) := by decide +kernel
theorem dX7_isList_23 : decode cX7_isList 23 = .ok (.istore_n 1, 1) := by decide +kernel
theorem dX7_isList_24 : decode cX7_isList 24 = .ok (.iload_n 1, 1) := by decide +kernel
theorem dX7_isList_25 : decode cX7_isList 25 = .ok (.ifCond .eq 7, 3) := by decide +kernel
theorem dX7_isList_28 : decode cX7_isList 28 = .ok (.aload_n 0, 1) := by decide +kernel
theorem dX7_isList_29 : decode cX7_isList 29 = .ok (.invokevirtual 108, 3) := by decide +kernel
theorem dX7_isList_32 : decode cX7_isList 32 = .ok (.iload_n 1, 1) := by decide +kernel
theorem dX7_isList_33 : decode cX7_isList 33 = .ok (.ireturn, 1) := by decide +kernel
theorem dX7_areThere_0 : decode cX7_areThere 0 = .ok (.iconst 1, 1) := by decide +kernel
theorem dX7_areThere_1 : decode cX7_areThere 1 = .ok (.istore_n 1, 1) := by decide +kernel
theorem dX7_areThere_2 : decode cX7_areThere 2 = .ok (.aload_n 0, 1) := by decide +kernel
theorem dX7_areThere_3 : decode cX7_areThere 3 = .ok (.getfield 7, 3) := by decide +kernel
theorem dX7_areThere_6 : decode cX7_areThere 6 = .ok (.iconst 0, 1) := by decide +kernel
theorem dX7_areThere_7 : decode cX7_areThere 7 = .ok (.iaload, 1) := by decide +kernel
theorem dX7_areThere_8 : decode cX7_areThere 8 = .ok (.istore_n 2, 1) := by decide +kernel
theorem dX7_areThere_9 : decode cX7_areThere 9 = .ok (.iload_n 2, 1) := by decide +kernel
theorem dX7_areThere_10 : decode cX7_areThere 10 = .ok (.bipush 12, 2) := by decide +kernel
theorem dX7_areThere_12 : decode cX7_areThere 12 = .ok (.if_icmp .ge 28, 3) := by decide +kernel
theorem dX7_areThere_15 : decode cX7_areThere 15 = .ok (.iload_n 1, 1) := by decide +kernel
theorem dX7_areThere_16 : decode cX7_areThere 16 = .ok (.ifCond .eq 16, 3) := by decide +kernel
theorem dX7_areThere_19 : decode cX7_areThere 19 = .ok (.aload_n 0, 1) := by decide +kernel
theorem dX7_areThere_20 : decode cX7_areThere 20 = .ok (.getfield 22, 3) := by decide +kernel
theorem dX7_areThere_23 : decode cX7_areThere 23 = .ok (.iload_n 2, 1) := by decide +kernel
theorem dX7_areThere_24 : decode cX7_areThere 24 = .ok (.iaload, 1) := by decide +kernel
theorem dX7_areThere_25 : decode cX7_areThere 25 = .ok (.ifCond .ne 7, 3) := by decide +kernel
theorem dX7_areThere_28 : decode cX7_areThere 28 = .ok (.iconst 1, 1) := by decide +kernel
theorem dX7_areThere_29 : decode cX7_areThere 29 = .ok (.goto 4, 3) := by decide +kernel
theorem dX7_areThere_32 : decode cX7_areThere 32 = .ok (.iconst 0, 1) := by decide +kernel
theorem dX7_areThere_33 : decode cX7_areThere 33 = .ok (.istore_n 1, 1) := by decide +kernel
theorem dX7_areThere_34 : decode cX7_areThere 34 = .ok (.iinc 2 1, 3) := by decide +kernel
theorem dX7_areThere_37 : decode cX7_areThere 37 = .ok (.goto (-28), 3) := by decide +kernel
theorem dX7_areThere_40 : decode cX7_areThere 40 = .ok (.iload_n 1, 1) := by decide +kernel
theorem dX7_areThere_41 : decode cX7_areThere 41 = .ok (.ireturn, 1) := by decide +kernel
theorem dX7_share_0 : decode cX7_share 0 = .ok (.aload_n 0, 1) := by decide +kernel
theorem dX7_share_1 : decode cX7_share 1 = .ok (.iconst 0, 1) := by decide +kernel
theorem dX7_share_2 : decode cX7_share 2 = .ok (.putfield 40, 3) := by decide +kernel
theorem dX7_share_5 : decode cX7_share 5 = .ok (.aload_n 0, 1) := by decide +kernel
theorem dX7_share_6 : decode cX7_share 6 = .ok (.iload_n 1, 1) := by decide +kernel
theorem dX7_share_7 : decode cX7_share 7 = .ok (.invokevirtual 77, 3) := by decide +kernel
theorem dX7_share_10 : decode cX7_share 10 = .ok (.ifCond .ne 9, 3) := by decide +kernel
theorem dX7_share_13 : decode cX7_share 13 = .ok (.aload_n 0, 1) := by decide +kernel
theorem dX7_share_14 : decode cX7_share 14 = .ok (.iconst 1, 1) := by decide +kernel
theorem dX7_share_15 : decode cX7_share 15 = .ok (.invokevirtual 55, 3) := by decide +kernel
theorem dX7_share_18 : decode cX7_share 18 = .ok (.ireturn, 1) := by decide +kernel
theorem dX7_share_19 : decode cX7_share 19 = .ok (.aload_n 0, 1) := by decide +kernel
theorem dX7_share_20 : decode cX7_share 20 = .ok (.invokevirtual 127, 3) := by decide +kernel
theorem dX7_share_23 : decode cX7_share 23 = .ok (.ifCond .eq 10, 3) := by decide +kernel
theorem dX7_share_26 : decode cX7_share 26 = .ok (.aload_n 0, 1) := by decide +kernel
theorem dX7_share_27 : decode cX7_share 27 = .ok (.invokevirtual 130, 3) := by decide +kernel
theorem dX7_share_30 : decode cX7_share 30 = .ok (.ifCond .ne 9, 3) := by decide +kernel
theorem dX7_share_33 : decode cX7_share 33 = .ok (.aload_n 0, 1) := by decide +kernel
theorem dX7_share_34 : decode cX7_share 34 = .ok (.iconst 2, 1) := by decide +kernel
theorem dX7_share_35 : decode cX7_share 35 = .ok (.invokevirtual 55, 3) := by decide +kernel
theorem dX7_share_38 : decode cX7_share 38 = .ok (.ireturn, 1) := by decide +kernel
theorem dX7_share_39 : decode cX7_share 39 = .ok (.aload_n 0, 1) := by decide +kernel
theorem dX7_share_40 : decode cX7_share 40 = .ok (.iload_n 1, 1) := by decide +kernel
theorem dX7_share_41 : decode cX7_share 41 = .ok (.iconst 2, 1) := by decide +kernel
theorem dX7_share_42 : decode cX7_share 42 = .ok (.invokevirtual 80, 3) := by decide +kernel
theorem dX7_share_45 : decode cX7_share 45 = .ok (.iconst 4, 1) := by decide +kernel
theorem dX7_share_46 : decode cX7_share 46 = .ok (.if_icmp .ne 9, 3) := by decide +kernel
theorem dX7_share_49 : decode cX7_share 49 = .ok (.aload_n 0, 1) := by decide +kernel
theorem dX7_share_50 : decode cX7_share 50 = .ok (.iconst 3, 1) := by decide +kernel
theorem dX7_share_51 : decode cX7_share 51 = .ok (.invokevirtual 55, 3) := by decide +kernel
theorem dX7_share_54 : decode cX7_share 54 = .ok (.ireturn, 1) := by decide +kernel
theorem dX7_share_55 : decode cX7_share 55 = .ok (.aload_n 0, 1) := by decide +kernel
theorem dX7_share_56 : decode cX7_share 56 = .ok (.invokevirtual 58, 3) := by decide +kernel
theorem dX7_share_59 : decode cX7_share 59 = .ok (.iconst 0, 1) := by decide +kernel
theorem dX7_share_60 : decode cX7_share 60 = .ok (.istore_n 2, 1) := by decide +kernel
theorem dX7_share_61 : decode cX7_share 61 = .ok (.iload_n 2, 1) := by decide +kernel
theorem dX7_share_62 : decode cX7_share 62 = .ok (.bipush 12, 2) := by decide +kernel
theorem dX7_share_64 : decode cX7_share 64 = .ok (.if_icmp .ge 30, 3) := by decide +kernel
theorem dX7_share_67 : decode cX7_share 67 = .ok (.aload_n 0, 1) := by decide +kernel
theorem dX7_share_68 : decode cX7_share 68 = .ok (.getfield 7, 3) := by decide +kernel
theorem dX7_share_71 : decode cX7_share 71 = .ok (.sipush 426, 3) := by decide +kernel
theorem dX7_share_74 : decode cX7_share 74 = .ok (.bipush 12, 2) := by decide +kernel
theorem dX7_share_76 : decode cX7_share 76 = .ok (.iload_n 1, 1) := by decide +kernel
theorem dX7_share_77 : decode cX7_share 77 = .ok (.imul, 1) := by decide +kernel
theorem dX7_share_78 : decode cX7_share 78 = .ok (.iadd, 1) := by decide +kernel
theorem dX7_share_79 : decode cX7_share 79 = .ok (.iload_n 2, 1) := by decide +kernel
theorem dX7_share_80 : decode cX7_share 80 = .ok (.iadd, 1) := by decide +kernel
theorem dX7_share_81 : decode cX7_share 81 = .ok (.aload_n 0, 1) := by decide +kernel
theorem dX7_share_82 : decode cX7_share 82 = .ok (.getfield 22, 3) := by decide +kernel
theorem dX7_share_85 : decode cX7_share 85 = .ok (.iload_n 2, 1) := by decide +kernel
theorem dX7_share_86 : decode cX7_share 86 = .ok (.iaload, 1) := by decide +kernel
theorem dX7_share_87 : decode cX7_share 87 = .ok (.iastore, 1) := by decide +kernel
theorem dX7_share_88 : decode cX7_share 88 = .ok (.iinc 2 1, 3) := by decide +kernel
theorem dX7_share_91 : decode cX7_share 91 = .ok (.goto (-30), 3) := by decide +kernel
theorem dX7_share_94 : decode cX7_share 94 = .ok (.aload_n 0, 1) := by decide +kernel
theorem dX7_share_95 : decode cX7_share 95 = .ok (.getfield 7, 3) := by decide +kernel
theorem dX7_share_98 : decode cX7_share 98 = .ok (.bipush 86, 2) := by decide +kernel
theorem dX7_share_100 : decode cX7_share 100 = .ok (.iconst 5, 1) := by decide +kernel
theorem dX7_share_101 : decode cX7_share 101 = .ok (.iload_n 1, 1) := by decide +kernel
theorem dX7_share_102 : decode cX7_share 102 = .ok (.imul, 1) := by decide +kernel
theorem dX7_share_103 : decode cX7_share 103 = .ok (.iadd, 1) := by decide +kernel
theorem dX7_share_104 : decode cX7_share 104 = .ok (.iconst 3, 1) := by decide +kernel
theorem dX7_share_105 : decode cX7_share 105 = .ok (.iadd, 1) := by decide +kernel
theorem dX7_share_106 : decode cX7_share 106 = .ok (.dup2, 1) := by decide +kernel
theorem dX7_share_107 : decode cX7_share 107 = .ok (.iaload, 1) := by decide +kernel
theorem dX7_share_108 : decode cX7_share 108 = .ok (.iconst 1, 1) := by decide +kernel
theorem dX7_share_109 : decode cX7_share 109 = .ok (.iadd, 1) := by decide +kernel
theorem dX7_share_110 : decode cX7_share 110 = .ok (.iastore, 1) := by decide +kernel
theorem dX7_share_111 : decode cX7_share 111 = .ok (.aload_n 0, 1) := by decide +kernel
theorem dX7_share_112 : decode cX7_share 112 = .ok (.iconst 0, 1) := by decide +kernel
theorem dX7_share_113 : decode cX7_share 113 = .ok (.putfield 117, 3) := by decide +kernel
theorem dX7_share_116 : decode cX7_share 116 = .ok (.aload_n 0, 1) := by decide +kernel
theorem dX7_share_117 : decode cX7_share 117 = .ok (.iload_n 1, 1) := by decide +kernel
theorem dX7_share_118 : decode cX7_share 118 = .ok (.invokevirtual 133, 3) := by decide +kernel
theorem dX7_share_121 : decode cX7_share 121 = .ok (.ireturn, 1) := by decide +kernel
theorem dX7_reserves_0 : decode cX7_reserves 0 = .ok (.aload_n 0, 1) := by decide +kernel
theorem dX7_reserves_1 : decode cX7_reserves 1 = .ok (.getfield 7, 3) := by decide +kernel
theorem dX7_reserves_4 : decode cX7_reserves 4 = .ok (.iconst 3, 1) := by decide +kernel
theorem dX7_reserves_5 : decode cX7_reserves 5 = .ok (.dup2, 1) := by decide +kernel
theorem dX7_reserves_6 : decode cX7_reserves 6 = .ok (.iaload, 1) := by decide +kernel
theorem dX7_reserves_7 : decode cX7_reserves 7 = .ok (.iload_n 1, 1) := by decide +kernel
theorem dX7_reserves_8 : decode cX7_reserves 8 = .ok (.iadd, 1) := by decide +kernel
theorem dX7_reserves_9 : decode cX7_reserves 9 = .ok (.iastore, 1) := by decide +kernel
theorem dX7_reserves_10 : decode cX7_reserves 10 = .ok (.aload_n 0, 1) := by decide +kernel
theorem dX7_reserves_11 : decode cX7_reserves 11 = .ok (.dup, 1) := by decide +kernel
theorem dX7_reserves_12 : decode cX7_reserves 12 = .ok (.getfield 136, 3) := by decide +kernel
theorem dX7_reserves_15 : decode cX7_reserves 15 = .ok (.iload_n 1, 1) := by decide +kernel
theorem dX7_reserves_16 : decode cX7_reserves 16 = .ok (.iadd, 1) := by decide +kernel
theorem dX7_reserves_17 : decode cX7_reserves 17 = .ok (.putfield 136, 3) := by decide +kernel
theorem dX7_reserves_20 : decode cX7_reserves 20 = .ok (.return_, 1) := by decide +kernel
theorem dX7_income_0 : decode cX7_income 0 = .ok (.iload_n 2, 1) := by decide +kernel
theorem dX7_income_1 : decode cX7_income 1 = .ok (.iconst 1, 1) := by decide +kernel
theorem dX7_income_2 : decode cX7_income 2 = .ok (.iadd, 1) := by decide +kernel
theorem dX7_income_3 : decode cX7_income 3 = .ok (.iconst 2, 1) := by decide +kernel
theorem dX7_income_4 : decode cX7_income 4 = .ok (.idiv, 1) := by decide +kernel
theorem dX7_income_5 : decode cX7_income 5 = .ok (.istore_n 3, 1) := by decide +kernel
theorem dX7_income_6 : decode cX7_income 6 = .ok (.iload_n 3, 1) := by decide +kernel
theorem dX7_income_7 : decode cX7_income 7 = .ok (.aload_n 0, 1) := by decide +kernel
theorem dX7_income_8 : decode cX7_income 8 = .ok (.iload_n 1, 1) := by decide +kernel
theorem dX7_income_9 : decode cX7_income 9 = .ok (.iconst 1, 1) := by decide +kernel
theorem dX7_income_10 : decode cX7_income 10 = .ok (.invokevirtual 61, 3) := by decide +kernel
theorem dX7_income_13 : decode cX7_income 13 = .ok (.if_icmp .ge 7, 3) := by decide +kernel
theorem dX7_income_16 : decode cX7_income 16 = .ok (.iload_n 3, 1) := by decide +kernel
theorem dX7_income_17 : decode cX7_income 17 = .ok (.goto 9, 3) := by decide +kernel
theorem dX7_income_20 : decode cX7_income 20 = .ok (.aload_n 0, 1) := by decide +kernel
theorem dX7_income_21 : decode cX7_income 21 = .ok (.iload_n 1, 1) := by decide +kernel
theorem dX7_income_22 : decode cX7_income 22 = .ok (.iconst 1, 1) := by decide +kernel
theorem dX7_income_23 : decode cX7_income 23 = .ok (.invokevirtual 61, 3) := by decide +kernel
theorem dX7_income_26 : decode cX7_income 26 = .ok (.istore 4, 2) := by decide +kernel
theorem dX7_income_28 : decode cX7_income 28 = .ok (.aload_n 0, 1) := by decide +kernel
theorem dX7_income_29 : decode cX7_income 29 = .ok (.getfield 7, 3) := by decide +kernel
theorem dX7_income_32 : decode cX7_income 32 = .ok (.bipush 14, 2) := by decide +kernel
theorem dX7_income_34 : decode cX7_income 34 = .ok (.bipush 6, 2) := by decide +kernel
theorem dX7_income_36 : decode cX7_income 36 = .ok (.iload_n 1, 1) := by decide +kernel
theorem dX7_income_37 : decode cX7_income 37 = .ok (.imul, 1) := by decide +kernel
theorem dX7_income_38 : decode cX7_income 38 = .ok (.iadd, 1) := by decide +kernel
theorem dX7_income_39 : decode cX7_income 39 = .ok (.iconst 1, 1) := by decide +kernel
theorem dX7_income_40 : decode cX7_income 40 = .ok (.iadd, 1) := by decide +kernel
theorem dX7_income_41 : decode cX7_income 41 = .ok (.dup2, 1) := by decide +kernel
theorem dX7_income_42 : decode cX7_income 42 = .ok (.iaload, 1) := by decide +kernel
theorem dX7_income_43 : decode cX7_income 43 = .ok (.iload 4, 2) := by decide +kernel
theorem dX7_income_45 : decode cX7_income 45 = .ok (.isub, 1) := by decide +kernel
theorem dX7_income_46 : decode cX7_income 46 = .ok (.iastore, 1) := by decide +kernel
theorem dX7_income_47 : decode cX7_income 47 = .ok (.aload_n 0, 1) := by decide +kernel
theorem dX7_income_48 : decode cX7_income 48 = .ok (.getfield 7, 3) := by decide +kernel
theorem dX7_income_51 : decode cX7_income 51 = .ok (.bipush 14, 2) := by decide +kernel
theorem dX7_income_53 : decode cX7_income 53 = .ok (.bipush 6, 2) := by decide +kernel
theorem dX7_income_55 : decode cX7_income 55 = .ok (.iload_n 1, 1) := by decide +kernel
theorem dX7_income_56 : decode cX7_income 56 = .ok (.imul, 1) := by decide +kernel
theorem dX7_income_57 : decode cX7_income 57 = .ok (.iadd, 1) := by decide +kernel
theorem dX7_income_58 : decode cX7_income 58 = .ok (.iconst 2, 1) := by decide +kernel
theorem dX7_income_59 : decode cX7_income 59 = .ok (.iadd, 1) := by decide +kernel
theorem dX7_income_60 : decode cX7_income 60 = .ok (.dup2, 1) := by decide +kernel
theorem dX7_income_61 : decode cX7_income 61 = .ok (.iaload, 1) := by decide +kernel
theorem dX7_income_62 : decode cX7_income 62 = .ok (.iload_n 2, 1) := by decide +kernel
theorem dX7_income_63 : decode cX7_income 63 = .ok (.iadd, 1) := by decide +kernel
theorem dX7_income_64 : decode cX7_income 64 = .ok (.iastore, 1) := by decide +kernel
theorem dX7_income_65 : decode cX7_income 65 = .ok (.aload_n 0, 1) := by decide +kernel
theorem dX7_income_66 : decode cX7_income 66 = .ok (.getfield 7, 3) := by decide +kernel
theorem dX7_income_69 : decode cX7_income 69 = .ok (.bipush 14, 2) := by decide +kernel
theorem dX7_income_71 : decode cX7_income 71 = .ok (.bipush 6, 2) := by decide +kernel
theorem dX7_income_73 : decode cX7_income 73 = .ok (.iload_n 1, 1) := by decide +kernel
theorem dX7_income_74 : decode cX7_income 74 = .ok (.imul, 1) := by decide +kernel
theorem dX7_income_75 : decode cX7_income 75 = .ok (.iadd, 1) := by decide +kernel
theorem dX7_income_76 : decode cX7_income 76 = .ok (.dup2, 1) := by decide +kernel
theorem dX7_income_77 : decode cX7_income 77 = .ok (.iaload, 1) := by decide +kernel
theorem dX7_income_78 : decode cX7_income 78 = .ok (.iload_n 2, 1) := by decide +kernel
theorem dX7_income_79 : decode cX7_income 79 = .ok (.iload 4, 2) := by decide +kernel
theorem dX7_income_81 : decode cX7_income 81 = .ok (.isub, 1) := by decide +kernel
theorem dX7_income_82 : decode cX7_income 82 = .ok (.iadd, 1) := by decide +kernel
theorem dX7_income_83 : decode cX7_income 83 = .ok (.iastore, 1) := by decide +kernel
theorem dX7_income_84 : decode cX7_income 84 = .ok (.aload_n 0, 1) := by decide +kernel
theorem dX7_income_85 : decode cX7_income 85 = .ok (.iload 4, 2) := by decide +kernel
theorem dX7_income_87 : decode cX7_income 87 = .ok (.invokevirtual 139, 3) := by decide +kernel
theorem dX7_income_90 : decode cX7_income 90 = .ok (.return_, 1) := by decide +kernel
theorem dX7_split_0 : decode cX7_split 0 = .ok (.aload_n 0, 1) := by decide +kernel
theorem dX7_split_1 : decode cX7_split 1 = .ok (.iload_n 1, 1) := by decide +kernel
theorem dX7_split_2 : decode cX7_split 2 = .ok (.invokevirtual 133, 3) := by decide +kernel
theorem dX7_split_5 : decode cX7_split 5 = .ok (.istore_n 3, 1) := by decide +kernel
theorem dX7_split_6 : decode cX7_split 6 = .ok (.iload_n 2, 1) := by decide +kernel
theorem dX7_split_7 : decode cX7_split 7 = .ok (.istore 4, 2) := by decide +kernel
theorem dX7_split_9 : decode cX7_split 9 = .ok (.iconst 0, 1) := by decide +kernel
theorem dX7_split_10 : decode cX7_split 10 = .ok (.istore 5, 2) := by decide +kernel
theorem dX7_split_12 : decode cX7_split 12 = .ok (.iload 5, 2) := by decide +kernel
theorem dX7_split_14 : decode cX7_split 14 = .ok (.bipush 12, 2) := by decide +kernel
theorem dX7_split_16 : decode cX7_split 16 = .ok (.if_icmp .ge 71, 3) := by decide +kernel
theorem dX7_split_19 : decode cX7_split 19 = .ok (.aload_n 0, 1) := by decide +kernel
theorem dX7_split_20 : decode cX7_split 20 = .ok (.getfield 25, 3) := by decide +kernel
theorem dX7_split_23 : decode cX7_split 23 = .ok (.iload 5, 2) := by decide +kernel
theorem dX7_split_25 : decode cX7_split 25 = .ok (.iload_n 2, 1) := by decide +kernel
theorem dX7_split_26 : decode cX7_split 26 = .ok (.aload_n 0, 1) := by decide +kernel
theorem dX7_split_27 : decode cX7_split 27 = .ok (.iload_n 1, 1) := by decide +kernel
theorem dX7_split_28 : decode cX7_split 28 = .ok (.iload 5, 2) := by decide +kernel
theorem dX7_split_30 : decode cX7_split 30 = .ok (.invokevirtual 143, 3) := by decide +kernel
theorem dX7_split_33 : decode cX7_split 33 = .ok (.imul, 1) := by decide +kernel
theorem dX7_split_34 : decode cX7_split 34 = .ok (.iload_n 3, 1) := by decide +kernel
theorem dX7_split_35 : decode cX7_split 35 = .ok (.idiv, 1) := by decide +kernel
theorem dX7_split_36 : decode cX7_split 36 = .ok (.iastore, 1) := by decide +kernel
theorem dX7_split_37 : decode cX7_split 37 = .ok (.aload_n 0, 1) := by decide +kernel
theorem dX7_split_38 : decode cX7_split 38 = .ok (.getfield 28, 3) := by decide +kernel
theorem dX7_split_41 : decode cX7_split 41 = .ok (.iload 5, 2) := by decide +kernel
theorem dX7_split_43 : decode cX7_split 43 = .ok (.aload_n 0, 1) := by decide +kernel
theorem dX7_split_44 : decode cX7_split 44 = .ok (.iload_n 1, 1) := by decide +kernel
theorem dX7_split_45 : decode cX7_split 45 = .ok (.iload 5, 2) := by decide +kernel
theorem dX7_split_47 : decode cX7_split 47 = .ok (.invokevirtual 143, 3) := by decide +kernel
theorem dX7_split_50 : decode cX7_split 50 = .ok (.ifCond .ne 7, 3) := by decide +kernel
theorem dX7_split_53 : decode cX7_split 53 = .ok (.iconst (-1), 1) := by decide +kernel
theorem dX7_split_54 : decode cX7_split 54 = .ok (.goto 14, 3) := by decide +kernel
theorem dX7_split_57 : decode cX7_split 57 = .ok (.iload_n 2, 1) := by decide +kernel
theorem dX7_split_58 : decode cX7_split 58 = .ok (.aload_n 0, 1) := by decide +kernel
theorem dX7_split_59 : decode cX7_split 59 = .ok (.iload_n 1, 1) := by decide +kernel
theorem dX7_split_60 : decode cX7_split 60 = .ok (.iload 5, 2) := by decide +kernel
theorem dX7_split_62 : decode cX7_split 62 = .ok (.invokevirtual 143, 3) := by decide +kernel
theorem dX7_split_65 : decode cX7_split 65 = .ok (.imul, 1) := by decide +kernel
theorem dX7_split_66 : decode cX7_split 66 = .ok (.iload_n 3, 1) := by decide +kernel
theorem dX7_split_67 : decode cX7_split 67 = .ok (.irem, 1) := by decide +kernel
theorem dX7_split_68 : decode cX7_split 68 = .ok (.iastore, 1) := by decide +kernel
theorem dX7_split_69 : decode cX7_split 69 = .ok (.iload 4, 2) := by decide +kernel
theorem dX7_split_71 : decode cX7_split 71 = .ok (.aload_n 0, 1) := by decide +kernel
theorem dX7_split_72 : decode cX7_split 72 = .ok (.getfield 25, 3) := by decide +kernel
theorem dX7_split_75 : decode cX7_split 75 = .ok (.iload 5, 2) := by decide +kernel
theorem dX7_split_77 : decode cX7_split 77 = .ok (.iaload, 1) := by decide +kernel
theorem dX7_split_78 : decode cX7_split 78 = .ok (.isub, 1) := by decide +kernel
theorem dX7_split_79 : decode cX7_split 79 = .ok (.istore 4, 2) := by decide +kernel
theorem dX7_split_81 : decode cX7_split 81 = .ok (.iinc 5 1, 3) := by decide +kernel
theorem dX7_split_84 : decode cX7_split 84 = .ok (.goto (-72), 3) := by decide +kernel
theorem dX7_split_87 : decode cX7_split 87 = .ok (.iload 4, 2) := by decide +kernel
theorem dX7_split_89 : decode cX7_split 89 = .ok (.ifCond .le 73, 3) := by decide +kernel
theorem dX7_split_92 : decode cX7_split 92 = .ok (.iconst 0, 1) := by decide +kernel
theorem dX7_split_93 : decode cX7_split 93 = .ok (.istore 5, 2) := by decide +kernel
theorem dX7_split_95 : decode cX7_split 95 = .ok (.iconst 1, 1) := by decide +kernel
theorem dX7_split_96 : decode cX7_split 96 = .ok (.istore 6, 2) := by decide +kernel
theorem dX7_split_98 : decode cX7_split 98 = .ok (.iload 6, 2) := by decide +kernel
theorem dX7_split_100 : decode cX7_split 100 = .ok (.bipush 12, 2) := by decide +kernel
theorem dX7_split_102 : decode cX7_split 102 = .ok (.if_icmp .ge 35, 3) := by decide +kernel
theorem dX7_split_105 : decode cX7_split 105 = .ok (.aload_n 0, 1) := by decide +kernel
theorem dX7_split_106 : decode cX7_split 106 = .ok (.getfield 28, 3) := by decide +kernel
theorem dX7_split_109 : decode cX7_split 109 = .ok (.iload 6, 2) := by decide +kernel
theorem dX7_split_111 : decode cX7_split 111 = .ok (.iaload, 1) := by decide +kernel
theorem dX7_split_112 : decode cX7_split 112 = .ok (.aload_n 0, 1) := by decide +kernel
theorem dX7_split_113 : decode cX7_split 113 = .ok (.getfield 28, 3) := by decide +kernel
theorem dX7_split_116 : decode cX7_split 116 = .ok (.iload 5, 2) := by decide +kernel
theorem dX7_split_118 : decode cX7_split 118 = .ok (.iaload, 1) := by decide +kernel
theorem dX7_split_119 : decode cX7_split 119 = .ok (.if_icmp .le 8, 3) := by decide +kernel
theorem dX7_split_122 : decode cX7_split 122 = .ok (.iload 6, 2) := by decide +kernel
theorem dX7_split_124 : decode cX7_split 124 = .ok (.goto 5, 3) := by decide +kernel
theorem dX7_split_127 : decode cX7_split 127 = .ok (.iload 5, 2) := by decide +kernel
theorem dX7_split_129 : decode cX7_split 129 = .ok (.istore 5, 2) := by decide +kernel
theorem dX7_split_131 : decode cX7_split 131 = .ok (.iinc 6 1, 3) := by decide +kernel
theorem dX7_split_134 : decode cX7_split 134 = .ok (.goto (-36), 3) := by decide +kernel
theorem dX7_split_137 : decode cX7_split 137 = .ok (.aload_n 0, 1) := by decide +kernel
theorem dX7_split_138 : decode cX7_split 138 = .ok (.getfield 25, 3) := by decide +kernel
theorem dX7_split_141 : decode cX7_split 141 = .ok (.iload 5, 2) := by decide +kernel
theorem dX7_split_143 : decode cX7_split 143 = .ok (.dup2, 1) := by decide +kernel
theorem dX7_split_144 : decode cX7_split 144 = .ok (.iaload, 1) := by decide +kernel
theorem dX7_split_145 : decode cX7_split 145 = .ok (.iconst 1, 1) := by decide +kernel
theorem dX7_split_146 : decode cX7_split 146 = .ok (.iadd, 1) := by decide +kernel
theorem dX7_split_147 : decode cX7_split 147 = .ok (.iastore, 1) := by decide +kernel
theorem dX7_split_148 : decode cX7_split 148 = .ok (.aload_n 0, 1) := by decide +kernel
theorem dX7_split_149 : decode cX7_split 149 = .ok (.getfield 28, 3) := by decide +kernel
theorem dX7_split_152 : decode cX7_split 152 = .ok (.iload 5, 2) := by decide +kernel
theorem dX7_split_154 : decode cX7_split 154 = .ok (.iconst (-1), 1) := by decide +kernel
theorem dX7_split_155 : decode cX7_split 155 = .ok (.iastore, 1) := by decide +kernel
theorem dX7_split_156 : decode cX7_split 156 = .ok (.iinc 4 (-1), 3) := by decide +kernel
theorem dX7_split_159 : decode cX7_split 159 = .ok (.goto (-72), 3) := by decide +kernel
theorem dX7_split_162 : decode cX7_split 162 = .ok (.return_, 1) := by decide +kernel
theorem dX7_capped_0 : decode cX7_capped 0 = .ok (.aload_n 0, 1) := by decide +kernel
theorem dX7_capped_1 : decode cX7_capped 1 = .ok (.getfield 7, 3) := by decide +kernel
theorem dX7_capped_4 : decode cX7_capped 4 = .ok (.bipush 10, 2) := by decide +kernel
theorem dX7_capped_6 : decode cX7_capped 6 = .ok (.iaload, 1) := by decide +kernel
theorem dX7_capped_7 : decode cX7_capped 7 = .ok (.istore 4, 2) := by decide +kernel
theorem dX7_capped_9 : decode cX7_capped 9 = .ok (.sipush 666, 3) := by decide +kernel
theorem dX7_capped_12 : decode cX7_capped 12 = .ok (.bipush 12, 2) := by decide +kernel
theorem dX7_capped_14 : decode cX7_capped 14 = .ok (.iload_n 1, 1) := by decide +kernel
theorem dX7_capped_15 : decode cX7_capped 15 = .ok (.imul, 1) := by decide +kernel
theorem dX7_capped_16 : decode cX7_capped 16 = .ok (.iadd, 1) := by decide +kernel
theorem dX7_capped_17 : decode cX7_capped 17 = .ok (.iload_n 2, 1) := by decide +kernel
theorem dX7_capped_18 : decode cX7_capped 18 = .ok (.iadd, 1) := by decide +kernel
theorem dX7_capped_19 : decode cX7_capped 19 = .ok (.istore 5, 2) := by decide +kernel
theorem dX7_capped_21 : decode cX7_capped 21 = .ok (.iload 4, 2) := by decide +kernel
theorem dX7_capped_23 : decode cX7_capped 23 = .ok (.aload_n 0, 1) := by decide +kernel
theorem dX7_capped_24 : decode cX7_capped 24 = .ok (.getfield 7, 3) := by decide +kernel
theorem dX7_capped_27 : decode cX7_capped 27 = .ok (.iload 5, 2) := by decide +kernel
theorem dX7_capped_29 : decode cX7_capped 29 = .ok (.iaload, 1) := by decide +kernel
theorem dX7_capped_30 : decode cX7_capped 30 = .ok (.if_icmp .le 16, 3) := by decide +kernel
theorem dX7_capped_33 : decode cX7_capped 33 = .ok (.iload 4, 2) := by decide +kernel
theorem dX7_capped_35 : decode cX7_capped 35 = .ok (.aload_n 0, 1) := by decide +kernel
theorem dX7_capped_36 : decode cX7_capped 36 = .ok (.getfield 7, 3) := by decide +kernel
theorem dX7_capped_39 : decode cX7_capped 39 = .ok (.iload 5, 2) := by decide +kernel
theorem dX7_capped_41 : decode cX7_capped 41 = .ok (.iaload, 1) := by decide +kernel
theorem dX7_capped_42 : decode cX7_capped 42 = .ok (.isub, 1) := by decide +kernel
theorem dX7_capped_43 : decode cX7_capped 43 = .ok (.goto 4, 3) := by decide +kernel
theorem dX7_capped_46 : decode cX7_capped 46 = .ok (.iconst 0, 1) := by decide +kernel
theorem dX7_capped_47 : decode cX7_capped 47 = .ok (.istore 6, 2) := by decide +kernel
theorem dX7_capped_49 : decode cX7_capped 49 = .ok (.iload 4, 2) := by decide +kernel
theorem dX7_capped_51 : decode cX7_capped 51 = .ok (.ifCond .le 16, 3) := by decide +kernel
theorem dX7_capped_54 : decode cX7_capped 54 = .ok (.iload_n 3, 1) := by decide +kernel
theorem dX7_capped_55 : decode cX7_capped 55 = .ok (.iload 6, 2) := by decide +kernel
theorem dX7_capped_57 : decode cX7_capped 57 = .ok (.if_icmp .le 10, 3) := by decide +kernel
theorem dX7_capped_60 : decode cX7_capped 60 = .ok (.iload_n 3, 1) := by decide +kernel
theorem dX7_capped_61 : decode cX7_capped 61 = .ok (.iload 6, 2) := by decide +kernel
theorem dX7_capped_63 : decode cX7_capped 63 = .ok (.isub, 1) := by decide +kernel
theorem dX7_capped_64 : decode cX7_capped 64 = .ok (.goto 4, 3) := by decide +kernel
theorem dX7_capped_67 : decode cX7_capped 67 = .ok (.iconst 0, 1) := by decide +kernel
theorem dX7_capped_68 : decode cX7_capped 68 = .ok (.istore 7, 2) := by decide +kernel
theorem dX7_capped_70 : decode cX7_capped 70 = .ok (.aload_n 0, 1) := by decide +kernel
theorem dX7_capped_71 : decode cX7_capped 71 = .ok (.iload 7, 2) := by decide +kernel
theorem dX7_capped_73 : decode cX7_capped 73 = .ok (.invokevirtual 139, 3) := by decide +kernel
theorem dX7_capped_76 : decode cX7_capped 76 = .ok (.aload_n 0, 1) := by decide +kernel
theorem dX7_capped_77 : decode cX7_capped 77 = .ok (.getfield 7, 3) := by decide +kernel
theorem dX7_capped_80 : decode cX7_capped 80 = .ok (.bipush 7, 2) := by decide +kernel
theorem dX7_capped_82 : decode cX7_capped 82 = .ok (.dup2, 1) := by decide +kernel
theorem dX7_capped_83 : decode cX7_capped 83 = .ok (.iaload, 1) := by decide +kernel
theorem dX7_capped_84 : decode cX7_capped 84 = .ok (.iload 7, 2) := by decide +kernel
theorem dX7_capped_86 : decode cX7_capped 86 = .ok (.iadd, 1) := by decide +kernel
theorem dX7_capped_87 : decode cX7_capped 87 = .ok (.iastore, 1) := by decide +kernel
theorem dX7_capped_88 : decode cX7_capped 88 = .ok (.aload_n 0, 1) := by decide +kernel
theorem dX7_capped_89 : decode cX7_capped 89 = .ok (.getfield 7, 3) := by decide +kernel
theorem dX7_capped_92 : decode cX7_capped 92 = .ok (.iload 5, 2) := by decide +kernel
theorem dX7_capped_94 : decode cX7_capped 94 = .ok (.dup2, 1) := by decide +kernel
theorem dX7_capped_95 : decode cX7_capped 95 = .ok (.iaload, 1) := by decide +kernel
theorem dX7_capped_96 : decode cX7_capped 96 = .ok (.iload_n 3, 1) := by decide +kernel
theorem dX7_capped_97 : decode cX7_capped 97 = .ok (.iload 7, 2) := by decide +kernel
theorem dX7_capped_99 : decode cX7_capped 99 = .ok (.isub, 1) := by decide +kernel
theorem dX7_capped_100 : decode cX7_capped 100 = .ok (.iadd, 1) := by decide +kernel
theorem dX7_capped_101 : decode cX7_capped 101 = .ok (.iastore, 1) := by decide +kernel
theorem dX7_capped_102 : decode cX7_capped 102 = .ok (.iload_n 3, 1) := by decide +kernel
theorem dX7_capped_103 : decode cX7_capped 103 = .ok (.iload 7, 2) := by decide +kernel
theorem dX7_capped_105 : decode cX7_capped 105 = .ok (.isub, 1) := by decide +kernel
theorem dX7_capped_106 : decode cX7_capped 106 = .ok (.ireturn, 1) := by decide +kernel
theorem dX7_comesIn_0 : decode cX7_comesIn 0 = .ok (.aload_n 0, 1) := by decide +kernel
theorem dX7_comesIn_1 : decode cX7_comesIn 1 = .ok (.iconst 0, 1) := by decide +kernel
theorem dX7_comesIn_2 : decode cX7_comesIn 2 = .ok (.putfield 136, 3) := by decide +kernel
theorem dX7_comesIn_5 : decode cX7_comesIn 5 = .ok (.aload_n 0, 1) := by decide +kernel
theorem dX7_comesIn_6 : decode cX7_comesIn 6 = .ok (.getfield 7, 3) := by decide +kernel
theorem dX7_comesIn_9 : decode cX7_comesIn 9 = .ok (.iconst 4, 1) := by decide +kernel
theorem dX7_comesIn_10 : decode cX7_comesIn 10 = .ok (.dup2, 1) := by decide +kernel
theorem dX7_comesIn_11 : decode cX7_comesIn 11 = .ok (.iaload, 1) := by decide +kernel
theorem dX7_comesIn_12 : decode cX7_comesIn 12 = .ok (.iload_n 2, 1) := by decide +kernel
theorem dX7_comesIn_13 : decode cX7_comesIn 13 = .ok (.iadd, 1) := by decide +kernel
theorem dX7_comesIn_14 : decode cX7_comesIn 14 = .ok (.iastore, 1) := by decide +kernel
theorem dX7_comesIn_15 : decode cX7_comesIn 15 = .ok (.iload_n 2, 1) := by decide +kernel
theorem dX7_comesIn_16 : decode cX7_comesIn 16 = .ok (.aload_n 0, 1) := by decide +kernel
theorem dX7_comesIn_17 : decode cX7_comesIn 17 = .ok (.getfield 7, 3) := by decide +kernel
theorem dX7_comesIn_20 : decode cX7_comesIn 20 = .ok (.bipush 8, 2) := by decide +kernel
theorem dX7_comesIn_22 : decode cX7_comesIn 22 = .ok (.iaload, 1) := by decide +kernel
theorem dX7_comesIn_23 : decode cX7_comesIn 23 = .ok (.imul, 1) := by decide +kernel
theorem dX7_comesIn_24 : decode cX7_comesIn 24 = .ok (.bipush 100, 2) := by decide +kernel
theorem dX7_comesIn_26 : decode cX7_comesIn 26 = .ok (.idiv, 1) := by decide +kernel
theorem dX7_comesIn_27 : decode cX7_comesIn 27 = .ok (.istore 4, 2) := by decide +kernel
theorem dX7_comesIn_29 : decode cX7_comesIn 29 = .ok (.iload_n 3, 1) := by decide +kernel
theorem dX7_comesIn_30 : decode cX7_comesIn 30 = .ok (.ifCond .eq 18, 3) := by decide +kernel
theorem dX7_comesIn_33 : decode cX7_comesIn 33 = .ok (.iload_n 2, 1) := by decide +kernel
theorem dX7_comesIn_34 : decode cX7_comesIn 34 = .ok (.aload_n 0, 1) := by decide +kernel
theorem dX7_comesIn_35 : decode cX7_comesIn 35 = .ok (.getfield 7, 3) := by decide +kernel
theorem dX7_comesIn_38 : decode cX7_comesIn 38 = .ok (.bipush 9, 2) := by decide +kernel
theorem dX7_comesIn_40 : decode cX7_comesIn 40 = .ok (.iaload, 1) := by decide +kernel
theorem dX7_comesIn_41 : decode cX7_comesIn 41 = .ok (.imul, 1) := by decide +kernel
theorem dX7_comesIn_42 : decode cX7_comesIn 42 = .ok (.bipush 100, 2) := by decide +kernel
theorem dX7_comesIn_44 : decode cX7_comesIn 44 = .ok (.idiv, 1) := by decide +kernel
theorem dX7_comesIn_45 : decode cX7_comesIn 45 = .ok (.goto 4, 3) := by decide +kernel
theorem dX7_comesIn_48 : decode cX7_comesIn 48 = .ok (.iconst 0, 1) := by decide +kernel
theorem dX7_comesIn_49 : decode cX7_comesIn 49 = .ok (.istore 5, 2) := by decide +kernel
theorem dX7_comesIn_51 : decode cX7_comesIn 51 = .ok (.aload_n 0, 1) := by decide +kernel
theorem dX7_comesIn_52 : decode cX7_comesIn 52 = .ok (.iload 4, 2) := by decide +kernel
theorem dX7_comesIn_54 : decode cX7_comesIn 54 = .ok (.invokevirtual 139, 3) := by decide +kernel
theorem dX7_comesIn_57 : decode cX7_comesIn 57 = .ok (.iload_n 3, 1) := by decide +kernel
theorem dX7_comesIn_58 : decode cX7_comesIn 58 = .ok (.ifCond .eq 37, 3) := by decide +kernel
theorem dX7_comesIn_61 : decode cX7_comesIn 61 = .ok (.aload_n 0, 1) := by decide +kernel
theorem dX7_comesIn_62 : decode cX7_comesIn 62 = .ok (.getfield 7, 3) := by decide +kernel
theorem dX7_comesIn_65 : decode cX7_comesIn 65 = .ok (.bipush 86, 2) := by decide +kernel
theorem dX7_comesIn_67 : decode cX7_comesIn 67 = .ok (.iconst 5, 1) := by decide +kernel
theorem dX7_comesIn_68 : decode cX7_comesIn 68 = .ok (.iload_n 1, 1) := by decide +kernel
theorem dX7_comesIn_69 : decode cX7_comesIn 69 = .ok (.imul, 1) := by decide +kernel
theorem dX7_comesIn_70 : decode cX7_comesIn 70 = .ok (.iadd, 1) := by decide +kernel
theorem dX7_comesIn_71 : decode cX7_comesIn 71 = .ok (.iconst 4, 1) := by decide +kernel
theorem dX7_comesIn_72 : decode cX7_comesIn 72 = .ok (.iadd, 1) := by decide +kernel
theorem dX7_comesIn_73 : decode cX7_comesIn 73 = .ok (.dup2, 1) := by decide +kernel
theorem dX7_comesIn_74 : decode cX7_comesIn 74 = .ok (.iaload, 1) := by decide +kernel
theorem dX7_comesIn_75 : decode cX7_comesIn 75 = .ok (.iload_n 2, 1) := by decide +kernel
theorem dX7_comesIn_76 : decode cX7_comesIn 76 = .ok (.iadd, 1) := by decide +kernel
theorem dX7_comesIn_77 : decode cX7_comesIn 77 = .ok (.iastore, 1) := by decide +kernel
theorem dX7_comesIn_78 : decode cX7_comesIn 78 = .ok (.aload_n 0, 1) := by decide +kernel
theorem dX7_comesIn_79 : decode cX7_comesIn 79 = .ok (.aload_n 0, 1) := by decide +kernel
theorem dX7_comesIn_80 : decode cX7_comesIn 80 = .ok (.aload_n 0, 1) := by decide +kernel
theorem dX7_comesIn_81 : decode cX7_comesIn 81 = .ok (.iload_n 1, 1) := by decide +kernel
theorem dX7_comesIn_82 : decode cX7_comesIn 82 = .ok (.iconst 0, 1) := by decide +kernel
theorem dX7_comesIn_83 : decode cX7_comesIn 83 = .ok (.invokevirtual 80, 3) := by decide +kernel
theorem dX7_comesIn_86 : decode cX7_comesIn 86 = .ok (.iconst 3, 1) := by decide +kernel
theorem dX7_comesIn_87 : decode cX7_comesIn 87 = .ok (.invokevirtual 61, 3) := by decide +kernel
theorem dX7_comesIn_90 : decode cX7_comesIn 90 = .ok (.iload 5, 2) := by decide +kernel
theorem dX7_comesIn_92 : decode cX7_comesIn 92 = .ok (.invokevirtual 146, 3) := by decide +kernel
theorem dX7_comesIn_95 : decode cX7_comesIn 95 = .ok (.aload_n 0, 1) := by decide +kernel
theorem dX7_comesIn_96 : decode cX7_comesIn 96 = .ok (.iload_n 1, 1) := by decide +kernel
theorem dX7_comesIn_97 : decode cX7_comesIn 97 = .ok (.iload_n 2, 1) := by decide +kernel
theorem dX7_comesIn_98 : decode cX7_comesIn 98 = .ok (.iload 4, 2) := by decide +kernel
theorem dX7_comesIn_100 : decode cX7_comesIn 100 = .ok (.isub, 1) := by decide +kernel
theorem dX7_comesIn_101 : decode cX7_comesIn 101 = .ok (.iload 5, 2) := by decide +kernel
theorem dX7_comesIn_103 : decode cX7_comesIn 103 = .ok (.isub, 1) := by decide +kernel
theorem dX7_comesIn_104 : decode cX7_comesIn 104 = .ok (.invokevirtual 150, 3) := by decide +kernel
theorem dX7_comesIn_107 : decode cX7_comesIn 107 = .ok (.iconst 0, 1) := by decide +kernel
theorem dX7_comesIn_108 : decode cX7_comesIn 108 = .ok (.istore 6, 2) := by decide +kernel
theorem dX7_comesIn_110 : decode cX7_comesIn 110 = .ok (.iload 6, 2) := by decide +kernel
theorem dX7_comesIn_112 : decode cX7_comesIn 112 = .ok (.aload_n 0, 1) := by decide +kernel
theorem dX7_comesIn_113 : decode cX7_comesIn 113 = .ok (.getfield 7, 3) := by decide +kernel
theorem dX7_comesIn_116 : decode cX7_comesIn 116 = .ok (.iconst 0, 1) := by decide +kernel
theorem dX7_comesIn_117 : decode cX7_comesIn 117 = .ok (.iaload, 1) := by decide +kernel
theorem dX7_comesIn_118 : decode cX7_comesIn 118 = .ok (.if_icmp .ge 47, 3) := by decide +kernel
theorem dX7_comesIn_121 : decode cX7_comesIn 121 = .ok (.iload_n 3, 1) := by decide +kernel
theorem dX7_comesIn_122 : decode cX7_comesIn 122 = .ok (.ifCond .eq 20, 3) := by decide +kernel
theorem dX7_comesIn_125 : decode cX7_comesIn 125 = .ok (.aload_n 0, 1) := by decide +kernel
theorem dX7_comesIn_126 : decode cX7_comesIn 126 = .ok (.iload_n 1, 1) := by decide +kernel
theorem dX7_comesIn_127 : decode cX7_comesIn 127 = .ok (.iload 6, 2) := by decide +kernel
theorem dX7_comesIn_129 : decode cX7_comesIn 129 = .ok (.aload_n 0, 1) := by decide +kernel
theorem dX7_comesIn_130 : decode cX7_comesIn 130 = .ok (.getfield 25, 3) := by decide +kernel
theorem dX7_comesIn_133 : decode cX7_comesIn 133 = .ok (.iload 6, 2) := by decide +kernel
theorem dX7_comesIn_135 : decode cX7_comesIn 135 = .ok (.iaload, 1) := by decide +kernel
theorem dX7_comesIn_136 : decode cX7_comesIn 136 = .ok (.invokevirtual 153, 3) := by decide +kernel
theorem dX7_comesIn_139 : decode cX7_comesIn 139 = .ok (.goto 10, 3) := by decide +kernel
theorem dX7_comesIn_142 : decode cX7_comesIn 142 = .ok (.aload_n 0, 1) := by decide +kernel
theorem dX7_comesIn_143 : decode cX7_comesIn 143 = .ok (.getfield 25, 3) := by decide +kernel
theorem dX7_comesIn_146 : decode cX7_comesIn 146 = .ok (.iload 6, 2) := by decide +kernel
theorem dX7_comesIn_148 : decode cX7_comesIn 148 = .ok (.iaload, 1) := by decide +kernel
theorem dX7_comesIn_149 : decode cX7_comesIn 149 = .ok (.istore 7, 2) := by decide +kernel
theorem dX7_comesIn_151 : decode cX7_comesIn 151 = .ok (.aload_n 0, 1) := by decide +kernel
theorem dX7_comesIn_152 : decode cX7_comesIn 152 = .ok (.iload 6, 2) := by decide +kernel
theorem dX7_comesIn_154 : decode cX7_comesIn 154 = .ok (.iload 7, 2) := by decide +kernel
theorem dX7_comesIn_156 : decode cX7_comesIn 156 = .ok (.invokevirtual 146, 3) := by decide +kernel
theorem dX7_comesIn_159 : decode cX7_comesIn 159 = .ok (.iinc 6 1, 3) := by decide +kernel
theorem dX7_comesIn_162 : decode cX7_comesIn 162 = .ok (.goto (-52), 3) := by decide +kernel
theorem dX7_comesIn_165 : decode cX7_comesIn 165 = .ok (.return_, 1) := by decide +kernel
theorem dX7_accept_0 : decode cX7_accept 0 = .ok (.aload_n 0, 1) := by decide +kernel
theorem dX7_accept_1 : decode cX7_accept 1 = .ok (.iconst 0, 1) := by decide +kernel
theorem dX7_accept_2 : decode cX7_accept 2 = .ok (.putfield 40, 3) := by decide +kernel
theorem dX7_accept_5 : decode cX7_accept 5 = .ok (.aload_n 0, 1) := by decide +kernel
theorem dX7_accept_6 : decode cX7_accept 6 = .ok (.iload_n 1, 1) := by decide +kernel
theorem dX7_accept_7 : decode cX7_accept 7 = .ok (.invokevirtual 77, 3) := by decide +kernel
theorem dX7_accept_10 : decode cX7_accept 10 = .ok (.ifCond .ne 9, 3) := by decide +kernel
theorem dX7_accept_13 : decode cX7_accept 13 = .ok (.aload_n 0, 1) := by decide +kernel
theorem dX7_accept_14 : decode cX7_accept 14 = .ok (.iconst 1, 1) := by decide +kernel
theorem dX7_accept_15 : decode cX7_accept 15 = .ok (.invokevirtual 55, 3) := by decide +kernel
theorem dX7_accept_18 : decode cX7_accept 18 = .ok (.ireturn, 1) := by decide +kernel
theorem dX7_accept_19 : decode cX7_accept 19 = .ok (.aload_n 0, 1) := by decide +kernel
theorem dX7_accept_20 : decode cX7_accept 20 = .ok (.iload_n 1, 1) := by decide +kernel
theorem dX7_accept_21 : decode cX7_accept 21 = .ok (.iconst 2, 1) := by decide +kernel
theorem dX7_accept_22 : decode cX7_accept 22 = .ok (.invokevirtual 80, 3) := by decide +kernel
theorem dX7_accept_25 : decode cX7_accept 25 = .ok (.iconst 1, 1) := by decide +kernel
theorem dX7_accept_26 : decode cX7_accept 26 = .ok (.iconst 2, 1) := by decide +kernel
theorem dX7_accept_27 : decode cX7_accept 27 = .ok (.invokestatic 44, 3) := by decide +kernel
theorem dX7_accept_30 : decode cX7_accept 30 = .ok (.ifCond .ne 9, 3) := by decide +kernel
theorem dX7_accept_33 : decode cX7_accept 33 = .ok (.aload_n 0, 1) := by decide +kernel
theorem dX7_accept_34 : decode cX7_accept 34 = .ok (.iconst 2, 1) := by decide +kernel
theorem dX7_accept_35 : decode cX7_accept 35 = .ok (.invokevirtual 55, 3) := by decide +kernel
theorem dX7_accept_38 : decode cX7_accept 38 = .ok (.ireturn, 1) := by decide +kernel
theorem dX7_accept_39 : decode cX7_accept 39 = .ok (.aload_n 0, 1) := by decide +kernel
theorem dX7_accept_40 : decode cX7_accept 40 = .ok (.invokevirtual 58, 3) := by decide +kernel
theorem dX7_accept_43 : decode cX7_accept 43 = .ok (.aload_n 0, 1) := by decide +kernel
theorem dX7_accept_44 : decode cX7_accept 44 = .ok (.getfield 7, 3) := by decide +kernel
theorem dX7_accept_47 : decode cX7_accept 47 = .ok (.bipush 86, 2) := by decide +kernel
theorem dX7_accept_49 : decode cX7_accept 49 = .ok (.iconst 5, 1) := by decide +kernel
theorem dX7_accept_50 : decode cX7_accept 50 = .ok (.iload_n 1, 1) := by decide +kernel
theorem dX7_accept_51 : decode cX7_accept 51 = .ok (.imul, 1) := by decide +kernel
theorem dX7_accept_52 : decode cX7_accept 52 = .ok (.iadd, 1) := by decide +kernel
theorem dX7_accept_53 : decode cX7_accept 53 = .ok (.iconst 2, 1) := by decide +kernel
theorem dX7_accept_54 : decode cX7_accept 54 = .ok (.iadd, 1) := by decide +kernel
theorem dX7_accept_55 : decode cX7_accept 55 = .ok (.iconst 3, 1) := by decide +kernel
theorem dX7_accept_56 : decode cX7_accept 56 = .ok (.iastore, 1) := by decide +kernel
theorem dX7_accept_57 : decode cX7_accept 57 = .ok (.aload_n 0, 1) := by decide +kernel
theorem dX7_accept_58 : decode cX7_accept 58 = .ok (.iload_n 1, 1) := by decide +kernel
theorem dX7_accept_59 : decode cX7_accept 59 = .ok (.aload_n 0, 1) := by decide +kernel
theorem dX7_accept_60 : decode cX7_accept 60 = .ok (.iload_n 1, 1) := by decide +kernel
theorem dX7_accept_61 : decode cX7_accept 61 = .ok (.iconst 1, 1) := by decide +kernel
theorem dX7_accept_62 : decode cX7_accept 62 = .ok (.invokevirtual 80, 3) := by decide +kernel
theorem dX7_accept_65 : decode cX7_accept 65 = .ok (.iconst 0, 1) := by decide +kernel
theorem dX7_accept_66 : decode cX7_accept 66 = .ok (.invokevirtual 156, 3) := by decide +kernel
theorem dX7_accept_69 : decode cX7_accept 69 = .ok (.aload_n 0, 1) := by decide +kernel
theorem dX7_accept_70 : decode cX7_accept 70 = .ok (.getfield 136, 3) := by decide +kernel
theorem dX7_accept_73 : decode cX7_accept 73 = .ok (.ireturn, 1) := by decide +kernel
theorem dX7_killFee_0 : decode cX7_killFee 0 = .ok (.aload_n 0, 1) := by decide +kernel
theorem dX7_killFee_1 : decode cX7_killFee 1 = .ok (.iload_n 1, 1) := by decide +kernel
theorem dX7_killFee_2 : decode cX7_killFee 2 = .ok (.iconst 2, 1) := by decide +kernel
theorem dX7_killFee_3 : decode cX7_killFee 3 = .ok (.invokevirtual 80, 3) := by decide +kernel
theorem dX7_killFee_6 : decode cX7_killFee 6 = .ok (.istore_n 2, 1) := by decide +kernel
theorem dX7_killFee_7 : decode cX7_killFee 7 = .ok (.iload_n 2, 1) := by decide +kernel
theorem dX7_killFee_8 : decode cX7_killFee 8 = .ok (.iconst 3, 1) := by decide +kernel
theorem dX7_killFee_9 : decode cX7_killFee 9 = .ok (.if_icmp .lt 7, 3) := by decide +kernel
theorem dX7_killFee_12 : decode cX7_killFee 12 = .ok (.iconst 0, 1) := by decide +kernel
theorem dX7_killFee_13 : decode cX7_killFee 13 = .ok (.goto 22, 3) := by decide +kernel
theorem dX7_killFee_16 : decode cX7_killFee 16 = .ok (.aload_n 0, 1) := by decide +kernel
theorem dX7_killFee_17 : decode cX7_killFee 17 = .ok (.iload_n 1, 1) := by decide +kernel
theorem dX7_killFee_18 : decode cX7_killFee 18 = .ok (.iconst 1, 1) := by decide +kernel
theorem dX7_killFee_19 : decode cX7_killFee 19 = .ok (.invokevirtual 80, 3) := by decide +kernel
theorem dX7_killFee_22 : decode cX7_killFee 22 = .ok (.aload_n 0, 1) := by decide +kernel
theorem dX7_killFee_23 : decode cX7_killFee 23 = .ok (.getfield 7, 3) := by decide +kernel
theorem dX7_killFee_26 : decode cX7_killFee 26 = .ok (.bipush 11, 2) := by decide +kernel
theorem dX7_killFee_28 : decode cX7_killFee 28 = .ok (.iload_n 2, 1) := by decide +kernel
theorem dX7_killFee_29 : decode cX7_killFee 29 = .ok (.iadd, 1) := by decide +kernel
theorem dX7_killFee_30 : decode cX7_killFee 30 = .ok (.iaload, 1) := by decide +kernel
theorem dX7_killFee_31 : decode cX7_killFee 31 = .ok (.imul, 1) := by decide +kernel
theorem dX7_killFee_32 : decode cX7_killFee 32 = .ok (.bipush 100, 2) := by decide +kernel
theorem dX7_killFee_34 : decode cX7_killFee 34 = .ok (.idiv, 1) := by decide +kernel
theorem dX7_killFee_35 : decode cX7_killFee 35 = .ok (.ireturn, 1) := by decide +kernel
theorem dX7_kill_0 : decode cX7_kill 0 = .ok (.aload_n 0, 1) := by decide +kernel
theorem dX7_kill_1 : decode cX7_kill 1 = .ok (.iconst 0, 1) := by decide +kernel
theorem dX7_kill_2 : decode cX7_kill 2 = .ok (.putfield 40, 3) := by decide +kernel
theorem dX7_kill_5 : decode cX7_kill 5 = .ok (.aload_n 0, 1) := by decide +kernel
theorem dX7_kill_6 : decode cX7_kill 6 = .ok (.iload_n 1, 1) := by decide +kernel
theorem dX7_kill_7 : decode cX7_kill 7 = .ok (.invokevirtual 77, 3) := by decide +kernel
theorem dX7_kill_10 : decode cX7_kill 10 = .ok (.ifCond .ne 9, 3) := by decide +kernel
theorem dX7_kill_13 : decode cX7_kill 13 = .ok (.aload_n 0, 1) := by decide +kernel
theorem dX7_kill_14 : decode cX7_kill 14 = .ok (.iconst 1, 1) := by decide +kernel
theorem dX7_kill_15 : decode cX7_kill 15 = .ok (.invokevirtual 55, 3) := by decide +kernel
theorem dX7_kill_18 : decode cX7_kill 18 = .ok (.ireturn, 1) := by decide +kernel
theorem dX7_kill_19 : decode cX7_kill 19 = .ok (.aload_n 0, 1) := by decide +kernel
theorem dX7_kill_20 : decode cX7_kill 20 = .ok (.iload_n 1, 1) := by decide +kernel
theorem dX7_kill_21 : decode cX7_kill 21 = .ok (.iconst 2, 1) := by decide +kernel
theorem dX7_kill_22 : decode cX7_kill 22 = .ok (.invokevirtual 80, 3) := by decide +kernel
theorem dX7_kill_25 : decode cX7_kill 25 = .ok (.iconst 3, 1) := by decide +kernel
theorem dX7_kill_26 : decode cX7_kill 26 = .ok (.if_icmp .lt 9, 3) := by decide +kernel
theorem dX7_kill_29 : decode cX7_kill 29 = .ok (.aload_n 0, 1) := by decide +kernel
theorem dX7_kill_30 : decode cX7_kill 30 = .ok (.iconst 2, 1) := by decide +kernel
theorem dX7_kill_31 : decode cX7_kill 31 = .ok (.invokevirtual 55, 3) := by decide +kernel
theorem dX7_kill_34 : decode cX7_kill 34 = .ok (.ireturn, 1) := by decide +kernel
theorem dX7_kill_35 : decode cX7_kill 35 = .ok (.aload_n 0, 1) := by decide +kernel
theorem dX7_kill_36 : decode cX7_kill 36 = .ok (.invokevirtual 58, 3) := by decide +kernel
theorem dX7_kill_39 : decode cX7_kill 39 = .ok (.aload_n 0, 1) := by decide +kernel
theorem dX7_kill_40 : decode cX7_kill 40 = .ok (.iload_n 1, 1) := by decide +kernel
theorem dX7_kill_41 : decode cX7_kill 41 = .ok (.invokevirtual 160, 3) := by decide +kernel
theorem dX7_kill_44 : decode cX7_kill 44 = .ok (.istore_n 2, 1) := by decide +kernel
theorem dX7_kill_45 : decode cX7_kill 45 = .ok (.aload_n 0, 1) := by decide +kernel
theorem dX7_kill_46 : decode cX7_kill 46 = .ok (.getfield 7, 3) := by decide +kernel
theorem dX7_kill_49 : decode cX7_kill 49 = .ok (.bipush 86, 2) := by decide +kernel
theorem dX7_kill_51 : decode cX7_kill 51 = .ok (.iconst 5, 1) := by decide +kernel
theorem dX7_kill_52 : decode cX7_kill 52 = .ok (.iload_n 1, 1) := by decide +kernel
theorem dX7_kill_53 : decode cX7_kill 53 = .ok (.imul, 1) := by decide +kernel
theorem dX7_kill_54 : decode cX7_kill 54 = .ok (.iadd, 1) := by decide +kernel
theorem dX7_kill_55 : decode cX7_kill 55 = .ok (.iconst 2, 1) := by decide +kernel
theorem dX7_kill_56 : decode cX7_kill 56 = .ok (.iadd, 1) := by decide +kernel
theorem dX7_kill_57 : decode cX7_kill 57 = .ok (.iconst 4, 1) := by decide +kernel
theorem dX7_kill_58 : decode cX7_kill 58 = .ok (.iastore, 1) := by decide +kernel
theorem dX7_kill_59 : decode cX7_kill 59 = .ok (.aload_n 0, 1) := by decide +kernel
theorem dX7_kill_60 : decode cX7_kill 60 = .ok (.iload_n 1, 1) := by decide +kernel
theorem dX7_kill_61 : decode cX7_kill 61 = .ok (.iload_n 2, 1) := by decide +kernel
theorem dX7_kill_62 : decode cX7_kill 62 = .ok (.iconst 0, 1) := by decide +kernel
theorem dX7_kill_63 : decode cX7_kill 63 = .ok (.invokevirtual 156, 3) := by decide +kernel
theorem dX7_kill_66 : decode cX7_kill 66 = .ok (.iload_n 2, 1) := by decide +kernel
theorem dX7_kill_67 : decode cX7_kill 67 = .ok (.ireturn, 1) := by decide +kernel
theorem dX7_royalty_0 : decode cX7_royalty 0 = .ok (.aload_n 0, 1) := by decide +kernel
theorem dX7_royalty_1 : decode cX7_royalty 1 = .ok (.iconst 0, 1) := by decide +kernel
theorem dX7_royalty_2 : decode cX7_royalty 2 = .ok (.putfield 40, 3) := by decide +kernel
theorem dX7_royalty_5 : decode cX7_royalty 5 = .ok (.aload_n 0, 1) := by decide +kernel
theorem dX7_royalty_6 : decode cX7_royalty 6 = .ok (.iload_n 1, 1) := by decide +kernel
theorem dX7_royalty_7 : decode cX7_royalty 7 = .ok (.invokevirtual 77, 3) := by decide +kernel
theorem dX7_royalty_10 : decode cX7_royalty 10 = .ok (.ifCond .ne 9, 3) := by decide +kernel
theorem dX7_royalty_13 : decode cX7_royalty 13 = .ok (.aload_n 0, 1) := by decide +kernel
theorem dX7_royalty_14 : decode cX7_royalty 14 = .ok (.iconst 1, 1) := by decide +kernel
theorem dX7_royalty_15 : decode cX7_royalty 15 = .ok (.invokevirtual 55, 3) := by decide +kernel
theorem dX7_royalty_18 : decode cX7_royalty 18 = .ok (.ireturn, 1) := by decide +kernel
theorem dX7_royalty_19 : decode cX7_royalty 19 = .ok (.iload_n 2, 1) := by decide +kernel
theorem dX7_royalty_20 : decode cX7_royalty 20 = .ok (.iconst 1, 1) := by decide +kernel
theorem dX7_royalty_21 : decode cX7_royalty 21 = .ok (.ldc 69, 2) := by decide +kernel
theorem dX7_royalty_23 : decode cX7_royalty 23 = .ok (.invokestatic 44, 3) := by decide +kernel
theorem dX7_royalty_26 : decode cX7_royalty 26 = .ok (.ifCond .ne 9, 3) := by decide +kernel
theorem dX7_royalty_29 : decode cX7_royalty 29 = .ok (.aload_n 0, 1) := by decide +kernel
theorem dX7_royalty_30 : decode cX7_royalty 30 = .ok (.iconst 2, 1) := by decide +kernel
theorem dX7_royalty_31 : decode cX7_royalty 31 = .ok (.invokevirtual 55, 3) := by decide +kernel
theorem dX7_royalty_34 : decode cX7_royalty 34 = .ok (.ireturn, 1) := by decide +kernel
theorem dX7_royalty_35 : decode cX7_royalty 35 = .ok (.aload_n 0, 1) := by decide +kernel
theorem dX7_royalty_36 : decode cX7_royalty 36 = .ok (.iload_n 1, 1) := by decide +kernel
theorem dX7_royalty_37 : decode cX7_royalty 37 = .ok (.iconst 2, 1) := by decide +kernel
theorem dX7_royalty_38 : decode cX7_royalty 38 = .ok (.invokevirtual 80, 3) := by decide +kernel
theorem dX7_royalty_41 : decode cX7_royalty 41 = .ok (.iconst 3, 1) := by decide +kernel
theorem dX7_royalty_42 : decode cX7_royalty 42 = .ok (.if_icmp .eq 9, 3) := by decide +kernel
theorem dX7_royalty_45 : decode cX7_royalty 45 = .ok (.aload_n 0, 1) := by decide +kernel
theorem dX7_royalty_46 : decode cX7_royalty 46 = .ok (.iconst 3, 1) := by decide +kernel
theorem dX7_royalty_47 : decode cX7_royalty 47 = .ok (.invokevirtual 55, 3) := by decide +kernel
theorem dX7_royalty_50 : decode cX7_royalty 50 = .ok (.ireturn, 1) := by decide +kernel
theorem dX7_royalty_51 : decode cX7_royalty 51 = .ok (.aload_n 0, 1) := by decide +kernel
theorem dX7_royalty_52 : decode cX7_royalty 52 = .ok (.invokevirtual 58, 3) := by decide +kernel
theorem dX7_royalty_55 : decode cX7_royalty 55 = .ok (.aload_n 0, 1) := by decide +kernel
theorem dX7_royalty_56 : decode cX7_royalty 56 = .ok (.iload_n 1, 1) := by decide +kernel
theorem dX7_royalty_57 : decode cX7_royalty 57 = .ok (.iload_n 2, 1) := by decide +kernel
theorem dX7_royalty_58 : decode cX7_royalty 58 = .ok (.iconst 1, 1) := by decide +kernel
theorem dX7_royalty_59 : decode cX7_royalty 59 = .ok (.invokevirtual 156, 3) := by decide +kernel
theorem dX7_royalty_62 : decode cX7_royalty 62 = .ok (.aload_n 0, 1) := by decide +kernel
theorem dX7_royalty_63 : decode cX7_royalty 63 = .ok (.getfield 136, 3) := by decide +kernel
theorem dX7_royalty_66 : decode cX7_royalty 66 = .ok (.ireturn, 1) := by decide +kernel
theorem dX7_canDispute_0 : decode cX7_canDispute 0 = .ok (.aload_n 0, 1) := by decide +kernel
theorem dX7_canDispute_1 : decode cX7_canDispute 1 = .ok (.iload_n 1, 1) := by decide +kernel
theorem dX7_canDispute_2 : decode cX7_canDispute 2 = .ok (.iconst 2, 1) := by decide +kernel
theorem dX7_canDispute_3 : decode cX7_canDispute 3 = .ok (.invokevirtual 80, 3) := by decide +kernel
theorem dX7_canDispute_6 : decode cX7_canDispute 6 = .ok (.iconst 4, 1) := by decide +kernel
theorem dX7_canDispute_7 : decode cX7_canDispute 7 = .ok (.if_icmp .eq 34, 3) := by decide +kernel
theorem dX7_canDispute_10 : decode cX7_canDispute 10 = .ok (.aload_n 0, 1) := by decide +kernel
theorem dX7_canDispute_11 : decode cX7_canDispute 11 = .ok (.iload_n 1, 1) := by decide +kernel
theorem dX7_canDispute_12 : decode cX7_canDispute 12 = .ok (.iload_n 2, 1) := by decide +kernel
theorem dX7_canDispute_13 : decode cX7_canDispute 13 = .ok (.invokevirtual 143, 3) := by decide +kernel
theorem dX7_canDispute_16 : decode cX7_canDispute 16 = .ok (.aload_n 0, 1) := by decide +kernel
theorem dX7_canDispute_17 : decode cX7_canDispute 17 = .ok (.iload_n 1, 1) := by decide +kernel
theorem dX7_canDispute_18 : decode cX7_canDispute 18 = .ok (.invokevirtual 83, 3) := by decide +kernel
theorem dX7_canDispute_21 : decode cX7_canDispute 21 = .ok (.imul, 1) := by decide +kernel
theorem dX7_canDispute_22 : decode cX7_canDispute 22 = .ok (.aload_n 0, 1) := by decide +kernel
theorem dX7_canDispute_23 : decode cX7_canDispute 23 = .ok (.iload_n 1, 1) := by decide +kernel
theorem dX7_canDispute_24 : decode cX7_canDispute 24 = .ok (.iload_n 2, 1) := by decide +kernel
theorem dX7_canDispute_25 : decode cX7_canDispute 25 = .ok (.invokevirtual 163, 3) := by decide +kernel
theorem dX7_canDispute_28 : decode cX7_canDispute 28 = .ok (.aload_n 0, 1) := by decide +kernel
theorem dX7_canDispute_29 : decode cX7_canDispute 29 = .ok (.iload_n 1, 1) := by decide +kernel
theorem dX7_canDispute_30 : decode cX7_canDispute 30 = .ok (.invokevirtual 133, 3) := by decide +kernel
theorem dX7_canDispute_33 : decode cX7_canDispute 33 = .ok (.imul, 1) := by decide +kernel
theorem dX7_canDispute_34 : decode cX7_canDispute 34 = .ok (.if_icmp .ge 7, 3) := by decide +kernel
theorem dX7_canDispute_37 : decode cX7_canDispute 37 = .ok (.iconst 1, 1) := by decide +kernel
theorem dX7_canDispute_38 : decode cX7_canDispute 38 = .ok (.goto 4, 3) := by decide +kernel
theorem dX7_canDispute_41 : decode cX7_canDispute 41 = .ok (.iconst 0, 1) := by decide +kernel
theorem dX7_canDispute_42 : decode cX7_canDispute 42 = .ok (.ireturn, 1) := by decide +kernel
theorem dX7_isWriter_0 : decode cX7_isWriter 0 = .ok (.iconst 0, 1) := by decide +kernel
theorem dX7_isWriter_1 : decode cX7_isWriter 1 = .ok (.istore_n 2, 1) := by decide +kernel
theorem dX7_isWriter_2 : decode cX7_isWriter 2 = .ok (.iconst 0, 1) := by decide +kernel
theorem dX7_isWriter_3 : decode cX7_isWriter 3 = .ok (.istore_n 3, 1) := by decide +kernel
theorem dX7_isWriter_4 : decode cX7_isWriter 4 = .ok (.iload_n 3, 1) := by decide +kernel
theorem dX7_isWriter_5 : decode cX7_isWriter 5 = .ok (.aload_n 0, 1) := by decide +kernel
theorem dX7_isWriter_6 : decode cX7_isWriter 6 = .ok (.getfield 166, 3) := by decide +kernel
theorem dX7_isWriter_9 : decode cX7_isWriter 9 = .ok (.if_icmp .ge 29, 3) := by decide +kernel
theorem dX7_isWriter_12 : decode cX7_isWriter 12 = .ok (.iload_n 2, 1) := by decide +kernel
theorem dX7_isWriter_13 : decode cX7_isWriter 13 = .ok (.ifCond .ne 13, 3) := by decide +kernel
theorem dX7_isWriter_16 : decode cX7_isWriter 16 = .ok (.aload_n 0, 1) := by decide +kernel
theorem dX7_isWriter_17 : decode cX7_isWriter 17 = .ok (.getfield 31, 3) := by decide +kernel
theorem dX7_isWriter_20 : decode cX7_isWriter 20 = .ok (.iload_n 3, 1) := by decide +kernel
theorem dX7_isWriter_21 : decode cX7_isWriter 21 = .ok (.iaload, 1) := by decide +kernel
theorem dX7_isWriter_22 : decode cX7_isWriter 22 = .ok (.iload_n 1, 1) := by decide +kernel
theorem dX7_isWriter_23 : decode cX7_isWriter 23 = .ok (.if_icmp .ne 7, 3) := by decide +kernel
theorem dX7_isWriter_26 : decode cX7_isWriter 26 = .ok (.iconst 1, 1) := by decide +kernel
theorem dX7_isWriter_27 : decode cX7_isWriter 27 = .ok (.goto 4, 3) := by decide +kernel
theorem dX7_isWriter_30 : decode cX7_isWriter 30 = .ok (.iconst 0, 1) := by decide +kernel
theorem dX7_isWriter_31 : decode cX7_isWriter 31 = .ok (.istore_n 2, 1) := by decide +kernel
theorem dX7_isWriter_32 : decode cX7_isWriter 32 = .ok (.iinc 3 1, 3) := by decide +kernel
theorem dX7_isWriter_35 : decode cX7_isWriter 35 = .ok (.goto (-31), 3) := by decide +kernel
theorem dX7_isWriter_38 : decode cX7_isWriter 38 = .ok (.iload_n 2, 1) := by decide +kernel
theorem dX7_isWriter_39 : decode cX7_isWriter 39 = .ok (.ireturn, 1) := by decide +kernel
theorem dX7_layWriters_0 : decode cX7_layWriters 0 = .ok (.aload_n 0, 1) := by decide +kernel
theorem dX7_layWriters_1 : decode cX7_layWriters 1 = .ok (.iconst 0, 1) := by decide +kernel
theorem dX7_layWriters_2 : decode cX7_layWriters 2 = .ok (.putfield 166, 3) := by decide +kernel
theorem dX7_layWriters_5 : decode cX7_layWriters 5 = .ok (.iconst 0, 1) := by decide +kernel
theorem dX7_layWriters_6 : decode cX7_layWriters 6 = .ok (.istore_n 2, 1) := by decide +kernel
theorem dX7_layWriters_7 : decode cX7_layWriters 7 = .ok (.aload_n 0, 1) := by decide +kernel
theorem dX7_layWriters_8 : decode cX7_layWriters 8 = .ok (.getfield 166, 3) := by decide +kernel
theorem dX7_layWriters_11 : decode cX7_layWriters 11 = .ok (.iconst 4, 1) := by decide +kernel
theorem dX7_layWriters_12 : decode cX7_layWriters 12 = .ok (.if_icmp .ge 111, 3) := by decide +kernel
theorem dX7_layWriters_15 : decode cX7_layWriters 15 = .ok (.iload_n 2, 1) := by decide +kernel
theorem dX7_layWriters_16 : decode cX7_layWriters 16 = .ok (.iconst (-1), 1) := by decide +kernel
theorem dX7_layWriters_17 : decode cX7_layWriters 17 = .ok (.if_icmp .eq 106, 3) := by decide +kernel
theorem dX7_layWriters_20 : decode cX7_layWriters 20 = .ok (.iconst (-1), 1) := by decide +kernel
theorem dX7_layWriters_21 : decode cX7_layWriters 21 = .ok (.istore_n 2, 1) := by decide +kernel
theorem dX7_layWriters_22 : decode cX7_layWriters 22 = .ok (.iconst 0, 1) := by decide +kernel
theorem dX7_layWriters_23 : decode cX7_layWriters 23 = .ok (.istore_n 3, 1) := by decide +kernel
theorem dX7_layWriters_24 : decode cX7_layWriters 24 = .ok (.iload_n 3, 1) := by decide +kernel
theorem dX7_layWriters_25 : decode cX7_layWriters 25 = .ok (.aload_n 0, 1) := by decide +kernel
theorem dX7_layWriters_26 : decode cX7_layWriters 26 = .ok (.getfield 7, 3) := by decide +kernel
theorem dX7_layWriters_29 : decode cX7_layWriters 29 = .ok (.iconst 0, 1) := by decide +kernel
theorem dX7_layWriters_30 : decode cX7_layWriters 30 = .ok (.iaload, 1) := by decide +kernel
theorem dX7_layWriters_31 : decode cX7_layWriters 31 = .ok (.if_icmp .ge 64, 3) := by decide +kernel
theorem dX7_layWriters_34 : decode cX7_layWriters 34 = .ok (.aload_n 0, 1) := by decide +kernel
theorem dX7_layWriters_35 : decode cX7_layWriters 35 = .ok (.iload_n 1, 1) := by decide +kernel
theorem dX7_layWriters_36 : decode cX7_layWriters 36 = .ok (.iload_n 3, 1) := by decide +kernel
theorem dX7_layWriters_37 : decode cX7_layWriters 37 = .ok (.invokevirtual 163, 3) := by decide +kernel
theorem dX7_layWriters_40 : decode cX7_layWriters 40 = .ok (.ifCond .le 15, 3) := by decide +kernel
theorem dX7_layWriters_43 : decode cX7_layWriters 43 = .ok (.aload_n 0, 1) := by decide +kernel
theorem dX7_layWriters_44 : decode cX7_layWriters 44 = .ok (.iload_n 3, 1) := by decide +kernel
theorem dX7_layWriters_45 : decode cX7_layWriters 45 = .ok (.invokevirtual 169, 3) := by decide +kernel
theorem dX7_layWriters_48 : decode cX7_layWriters 48 = .ok (.ifCond .ne 7, 3) := by decide +kernel
theorem dX7_layWriters_51 : decode cX7_layWriters 51 = .ok (.iconst 1, 1) := by decide +kernel
theorem dX7_layWriters_52 : decode cX7_layWriters 52 = .ok (.goto 4, 3) := by decide +kernel
theorem dX7_layWriters_55 : decode cX7_layWriters 55 = .ok (.iconst 0, 1) := by decide +kernel
theorem dX7_layWriters_56 : decode cX7_layWriters 56 = .ok (.istore 4, 2) := by decide +kernel
theorem dX7_layWriters_58 : decode cX7_layWriters 58 = .ok (.iload 4, 2) := by decide +kernel
theorem dX7_layWriters_60 : decode cX7_layWriters 60 = .ok (.ifCond .eq 27, 3) := by decide +kernel
theorem dX7_layWriters_63 : decode cX7_layWriters 63 = .ok (.iload_n 2, 1) := by decide +kernel
theorem dX7_layWriters_64 : decode cX7_layWriters 64 = .ok (.iconst (-1), 1) := by decide +kernel
theorem dX7_layWriters_65 : decode cX7_layWriters 65 = .ok (.if_icmp .eq 18, 3) := by decide +kernel
theorem dX7_layWriters_68 : decode cX7_layWriters 68 = .ok (.aload_n 0, 1) := by decide +kernel
theorem dX7_layWriters_69 : decode cX7_layWriters 69 = .ok (.iload_n 1, 1) := by decide +kernel
theorem dX7_layWriters_70 : decode cX7_layWriters 70 = .ok (.iload_n 3, 1) := by decide +kernel
theorem dX7_layWriters_71 : decode cX7_layWriters 71 = .ok (.invokevirtual 163, 3) := by decide +kernel
theorem dX7_layWriters_74 : decode cX7_layWriters 74 = .ok (.aload_n 0, 1) := by decide +kernel
theorem dX7_layWriters_75 : decode cX7_layWriters 75 = .ok (.iload_n 1, 1) := by decide +kernel
theorem dX7_layWriters_76 : decode cX7_layWriters 76 = .ok (.iload_n 2, 1) := by decide +kernel
theorem dX7_layWriters_77 : decode cX7_layWriters 77 = .ok (.invokevirtual 163, 3) := by decide +kernel
theorem dX7_layWriters_80 : decode cX7_layWriters 80 = .ok (.if_icmp .le 7, 3) := by decide +kernel
theorem dX7_layWriters_83 : decode cX7_layWriters 83 = .ok (.iload_n 3, 1) := by decide +kernel
theorem dX7_layWriters_84 : decode cX7_layWriters 84 = .ok (.goto 4, 3) := by decide +kernel
theorem dX7_layWriters_87 : decode cX7_layWriters 87 = .ok (.iload_n 2, 1) := by decide +kernel
theorem dX7_layWriters_88 : decode cX7_layWriters 88 = .ok (.istore_n 2, 1) := by decide +kernel
theorem dX7_layWriters_89 : decode cX7_layWriters 89 = .ok (.iinc 3 1, 3) := by decide +kernel
theorem dX7_layWriters_92 : decode cX7_layWriters 92 = .ok (.goto (-68), 3) := by decide +kernel
theorem dX7_layWriters_95 : decode cX7_layWriters 95 = .ok (.iload_n 2, 1) := by decide +kernel
theorem dX7_layWriters_96 : decode cX7_layWriters 96 = .ok (.iconst (-1), 1) := by decide +kernel
theorem dX7_layWriters_97 : decode cX7_layWriters 97 = .ok (.if_icmp .eq (-90), 3) := by decide +kernel
theorem dX7_layWriters_100 : decode cX7_layWriters 100 = .ok (.aload_n 0, 1) := by decide +kernel
theorem dX7_layWriters_101 : decode cX7_layWriters 101 = .ok (.getfield 31, 3) := by decide +kernel
theorem dX7_layWriters_104 : decode cX7_layWriters 104 = .ok (.aload_n 0, 1) := by decide +kernel
theorem dX7_layWriters_105 : decode cX7_layWriters 105 = .ok (.getfield 166, 3) := by decide +kernel
theorem dX7_layWriters_108 : decode cX7_layWriters 108 = .ok (.iload_n 2, 1) := by decide +kernel
theorem dX7_layWriters_109 : decode cX7_layWriters 109 = .ok (.iastore, 1) := by decide +kernel
theorem dX7_layWriters_110 : decode cX7_layWriters 110 = .ok (.aload_n 0, 1) := by decide +kernel
theorem dX7_layWriters_111 : decode cX7_layWriters 111 = .ok (.dup, 1) := by decide +kernel
theorem dX7_layWriters_112 : decode cX7_layWriters 112 = .ok (.getfield 166, 3) := by decide +kernel
theorem dX7_layWriters_115 : decode cX7_layWriters 115 = .ok (.iconst 1, 1) := by decide +kernel
theorem dX7_layWriters_116 : decode cX7_layWriters 116 = .ok (.iadd, 1) := by decide +kernel
theorem dX7_layWriters_117 : decode cX7_layWriters 117 = .ok (.putfield 166, 3) := by decide +kernel
theorem dX7_layWriters_120 : decode cX7_layWriters 120 = .ok (.goto (-113), 3) := by decide +kernel
theorem dX7_layWriters_123 : decode cX7_layWriters 123 = .ok (.iconst 0, 1) := by decide +kernel
theorem dX7_layWriters_124 : decode cX7_layWriters 124 = .ok (.istore_n 3, 1) := by decide +kernel
theorem dX7_layWriters_125 : decode cX7_layWriters 125 = .ok (.iload_n 3, 1) := by decide +kernel
theorem dX7_layWriters_126 : decode cX7_layWriters 126 = .ok (.aload_n 0, 1) := by decide +kernel
theorem dX7_layWriters_127 : decode cX7_layWriters 127 = .ok (.getfield 166, 3) := by decide +kernel
theorem dX7_layWriters_130 : decode cX7_layWriters 130 = .ok (.aload_n 0, 1) := by decide +kernel
theorem dX7_layWriters_131 : decode cX7_layWriters 131 = .ok (.getfield 166, 3) := by decide +kernel
theorem dX7_layWriters_134 : decode cX7_layWriters 134 = .ok (.imul, 1) := by decide +kernel
theorem dX7_layWriters_135 : decode cX7_layWriters 135 = .ok (.if_icmp .ge 83, 3) := by decide +kernel
theorem dX7_layWriters_138 : decode cX7_layWriters 138 = .ok (.iload_n 3, 1) := by decide +kernel
theorem dX7_layWriters_139 : decode cX7_layWriters 139 = .ok (.aload_n 0, 1) := by decide +kernel
theorem dX7_layWriters_140 : decode cX7_layWriters 140 = .ok (.getfield 166, 3) := by decide +kernel
theorem dX7_layWriters_143 : decode cX7_layWriters 143 = .ok (.irem, 1) := by decide +kernel
theorem dX7_layWriters_144 : decode cX7_layWriters 144 = .ok (.istore 4, 2) := by decide +kernel
theorem dX7_layWriters_146 : decode cX7_layWriters 146 = .ok (.iload 4, 2) := by decide +kernel
theorem dX7_layWriters_148 : decode cX7_layWriters 148 = .ok (.iconst 1, 1) := by decide +kernel
theorem dX7_layWriters_149 : decode cX7_layWriters 149 = .ok (.iadd, 1) := by decide +kernel
theorem dX7_layWriters_150 : decode cX7_layWriters 150 = .ok (.aload_n 0, 1) := by decide +kernel
theorem dX7_layWriters_151 : decode cX7_layWriters 151 = .ok (.getfield 166, 3) := by decide +kernel
theorem dX7_layWriters_154 : decode cX7_layWriters 154 = .ok (.if_icmp .ge 58, 3) := by decide +kernel
theorem dX7_layWriters_157 : decode cX7_layWriters 157 = .ok (.aload_n 0, 1) := by decide +kernel
theorem dX7_layWriters_158 : decode cX7_layWriters 158 = .ok (.getfield 31, 3) := by decide +kernel
theorem dX7_layWriters_161 : decode cX7_layWriters 161 = .ok (.iload 4, 2) := by decide +kernel
theorem dX7_layWriters_163 : decode cX7_layWriters 163 = .ok (.iaload, 1) := by decide +kernel
theorem dX7_layWriters_164 : decode cX7_layWriters 164 = .ok (.aload_n 0, 1) := by decide +kernel
theorem dX7_layWriters_165 : decode cX7_layWriters 165 = .ok (.getfield 31, 3) := by decide +kernel
theorem dX7_layWriters_168 : decode cX7_layWriters 168 = .ok (.iload 4, 2) := by decide +kernel
theorem dX7_layWriters_170 : decode cX7_layWriters 170 = .ok (.iconst 1, 1) := by decide +kernel
theorem dX7_layWriters_171 : decode cX7_layWriters 171 = .ok (.iadd, 1) := by decide +kernel
theorem dX7_layWriters_172 : decode cX7_layWriters 172 = .ok (.iaload, 1) := by decide +kernel
theorem dX7_layWriters_173 : decode cX7_layWriters 173 = .ok (.if_icmp .le 39, 3) := by decide +kernel
theorem dX7_layWriters_176 : decode cX7_layWriters 176 = .ok (.aload_n 0, 1) := by decide +kernel
theorem dX7_layWriters_177 : decode cX7_layWriters 177 = .ok (.getfield 31, 3) := by decide +kernel
theorem dX7_layWriters_180 : decode cX7_layWriters 180 = .ok (.iload 4, 2) := by decide +kernel
theorem dX7_layWriters_182 : decode cX7_layWriters 182 = .ok (.iaload, 1) := by decide +kernel
theorem dX7_layWriters_183 : decode cX7_layWriters 183 = .ok (.istore 5, 2) := by decide +kernel
theorem dX7_layWriters_185 : decode cX7_layWriters 185 = .ok (.aload_n 0, 1) := by decide +kernel
theorem dX7_layWriters_186 : decode cX7_layWriters 186 = .ok (.getfield 31, 3) := by decide +kernel
theorem dX7_layWriters_189 : decode cX7_layWriters 189 = .ok (.iload 4, 2) := by decide +kernel
theorem dX7_layWriters_191 : decode cX7_layWriters 191 = .ok (.aload_n 0, 1) := by decide +kernel
theorem dX7_layWriters_192 : decode cX7_layWriters 192 = .ok (.getfield 31, 3) := by decide +kernel
theorem dX7_layWriters_195 : decode cX7_layWriters 195 = .ok (.iload 4, 2) := by decide +kernel
theorem dX7_layWriters_197 : decode cX7_layWriters 197 = .ok (.iconst 1, 1) := by decide +kernel
theorem dX7_layWriters_198 : decode cX7_layWriters 198 = .ok (.iadd, 1) := by decide +kernel
theorem dX7_layWriters_199 : decode cX7_layWriters 199 = .ok (.iaload, 1) := by decide +kernel
theorem dX7_layWriters_200 : decode cX7_layWriters 200 = .ok (.iastore, 1) := by decide +kernel
theorem dX7_layWriters_201 : decode cX7_layWriters 201 = .ok (.aload_n 0, 1) := by decide +kernel
theorem dX7_layWriters_202 : decode cX7_layWriters 202 = .ok (.getfield 31, 3) := by decide +kernel
theorem dX7_layWriters_205 : decode cX7_layWriters 205 = .ok (.iload 4, 2) := by decide +kernel
theorem dX7_layWriters_207 : decode cX7_layWriters 207 = .ok (.iconst 1, 1) := by decide +kernel
theorem dX7_layWriters_208 : decode cX7_layWriters 208 = .ok (.iadd, 1) := by decide +kernel
theorem dX7_layWriters_209 : decode cX7_layWriters 209 = .ok (.iload 5, 2) := by decide +kernel
theorem dX7_layWriters_211 : decode cX7_layWriters 211 = .ok (.iastore, 1) := by decide +kernel
theorem dX7_layWriters_212 : decode cX7_layWriters 212 = .ok (.iinc 3 1, 3) := by decide +kernel
theorem dX7_layWriters_215 : decode cX7_layWriters 215 = .ok (.goto (-90), 3) := by decide +kernel
theorem dX7_layWriters_218 : decode cX7_layWriters 218 = .ok (.return_, 1) := by decide +kernel
theorem dX7_dispute_0 : decode cX7_dispute 0 = .ok (.aload_n 0, 1) := by decide +kernel
theorem dX7_dispute_1 : decode cX7_dispute 1 = .ok (.iconst 0, 1) := by decide +kernel
theorem dX7_dispute_2 : decode cX7_dispute 2 = .ok (.putfield 40, 3) := by decide +kernel
theorem dX7_dispute_5 : decode cX7_dispute 5 = .ok (.aload_n 0, 1) := by decide +kernel
theorem dX7_dispute_6 : decode cX7_dispute 6 = .ok (.iload_n 1, 1) := by decide +kernel
theorem dX7_dispute_7 : decode cX7_dispute 7 = .ok (.invokevirtual 77, 3) := by decide +kernel
theorem dX7_dispute_10 : decode cX7_dispute 10 = .ok (.ifCond .eq 11, 3) := by decide +kernel
theorem dX7_dispute_13 : decode cX7_dispute 13 = .ok (.aload_n 0, 1) := by decide +kernel
theorem dX7_dispute_14 : decode cX7_dispute 14 = .ok (.iload_n 2, 1) := by decide +kernel
theorem dX7_dispute_15 : decode cX7_dispute 15 = .ok (.invokevirtual 65, 3) := by decide +kernel
theorem dX7_dispute_18 : decode cX7_dispute 18 = .ok (.ifCond .ne 9, 3) := by decide +kernel
theorem dX7_dispute_21 : decode cX7_dispute 21 = .ok (.aload_n 0, 1) := by decide +kernel
theorem dX7_dispute_22 : decode cX7_dispute 22 = .ok (.iconst 1, 1) := by decide +kernel
theorem dX7_dispute_23 : decode cX7_dispute 23 = .ok (.invokevirtual 55, 3) := by decide +kernel
theorem dX7_dispute_26 : decode cX7_dispute 26 = .ok (.ireturn, 1) := by decide +kernel
theorem dX7_dispute_27 : decode cX7_dispute 27 = .ok (.aload_n 0, 1) := by decide +kernel
theorem dX7_dispute_28 : decode cX7_dispute 28 = .ok (.iload_n 1, 1) := by decide +kernel
theorem dX7_dispute_29 : decode cX7_dispute 29 = .ok (.iload_n 2, 1) := by decide +kernel
theorem dX7_dispute_30 : decode cX7_dispute 30 = .ok (.invokevirtual 172, 3) := by decide +kernel
theorem dX7_dispute_33 : decode cX7_dispute 33 = .ok (.ifCond .ne 9, 3) := by decide +kernel
theorem dX7_dispute_36 : decode cX7_dispute 36 = .ok (.aload_n 0, 1) := by decide +kernel
theorem dX7_dispute_37 : decode cX7_dispute 37 = .ok (.iconst 2, 1) := by decide +kernel
theorem dX7_dispute_38 : decode cX7_dispute 38 = .ok (.invokevirtual 55, 3) := by decide +kernel
theorem dX7_dispute_41 : decode cX7_dispute 41 = .ok (.ireturn, 1) := by decide +kernel
theorem dX7_dispute_42 : decode cX7_dispute 42 = .ok (.aload_n 0, 1) := by decide +kernel
theorem dX7_dispute_43 : decode cX7_dispute 43 = .ok (.invokevirtual 58, 3) := by decide +kernel
theorem dX7_dispute_46 : decode cX7_dispute 46 = .ok (.aload_n 0, 1) := by decide +kernel
theorem dX7_dispute_47 : decode cX7_dispute 47 = .ok (.iload_n 1, 1) := by decide +kernel
theorem dX7_dispute_48 : decode cX7_dispute 48 = .ok (.invokevirtual 176, 3) := by decide +kernel
theorem dX7_dispute_51 : decode cX7_dispute 51 = .ok (.iconst 0, 1) := by decide +kernel
theorem dX7_dispute_52 : decode cX7_dispute 52 = .ok (.istore_n 3, 1) := by decide +kernel
theorem dX7_dispute_53 : decode cX7_dispute 53 = .ok (.iload_n 3, 1) := by decide +kernel
theorem dX7_dispute_54 : decode cX7_dispute 54 = .ok (.bipush 12, 2) := by decide +kernel
theorem dX7_dispute_56 : decode cX7_dispute 56 = .ok (.if_icmp .ge 42, 3) := by decide +kernel
theorem dX7_dispute_59 : decode cX7_dispute 59 = .ok (.aload_n 0, 1) := by decide +kernel
theorem dX7_dispute_60 : decode cX7_dispute 60 = .ok (.getfield 7, 3) := by decide +kernel
theorem dX7_dispute_63 : decode cX7_dispute 63 = .ok (.sipush 426, 3) := by decide +kernel
theorem dX7_dispute_66 : decode cX7_dispute 66 = .ok (.bipush 12, 2) := by decide +kernel
theorem dX7_dispute_68 : decode cX7_dispute 68 = .ok (.iload_n 1, 1) := by decide +kernel
theorem dX7_dispute_69 : decode cX7_dispute 69 = .ok (.imul, 1) := by decide +kernel
theorem dX7_dispute_70 : decode cX7_dispute 70 = .ok (.iadd, 1) := by decide +kernel
theorem dX7_dispute_71 : decode cX7_dispute 71 = .ok (.iload_n 3, 1) := by decide +kernel
theorem dX7_dispute_72 : decode cX7_dispute 72 = .ok (.iadd, 1) := by decide +kernel
theorem dX7_dispute_73 : decode cX7_dispute 73 = .ok (.aload_n 0, 1) := by decide +kernel
theorem dX7_dispute_74 : decode cX7_dispute 74 = .ok (.iload_n 3, 1) := by decide +kernel
theorem dX7_dispute_75 : decode cX7_dispute 75 = .ok (.invokevirtual 169, 3) := by decide +kernel
theorem dX7_dispute_78 : decode cX7_dispute 78 = .ok (.ifCond .eq 12, 3) := by decide +kernel
theorem dX7_dispute_81 : decode cX7_dispute 81 = .ok (.aload_n 0, 1) := by decide +kernel
theorem dX7_dispute_82 : decode cX7_dispute 82 = .ok (.iload_n 1, 1) := by decide +kernel
theorem dX7_dispute_83 : decode cX7_dispute 83 = .ok (.iload_n 3, 1) := by decide +kernel
theorem dX7_dispute_84 : decode cX7_dispute 84 = .ok (.invokevirtual 163, 3) := by decide +kernel
theorem dX7_dispute_87 : decode cX7_dispute 87 = .ok (.goto 4, 3) := by decide +kernel
theorem dX7_dispute_90 : decode cX7_dispute 90 = .ok (.iconst 0, 1) := by decide +kernel
theorem dX7_dispute_91 : decode cX7_dispute 91 = .ok (.iastore, 1) := by decide +kernel
theorem dX7_dispute_92 : decode cX7_dispute 92 = .ok (.iinc 3 1, 3) := by decide +kernel
theorem dX7_dispute_95 : decode cX7_dispute 95 = .ok (.goto (-42), 3) := by decide +kernel
theorem dX7_dispute_98 : decode cX7_dispute 98 = .ok (.aload_n 0, 1) := by decide +kernel
theorem dX7_dispute_99 : decode cX7_dispute 99 = .ok (.getfield 7, 3) := by decide +kernel
theorem dX7_dispute_102 : decode cX7_dispute 102 = .ok (.bipush 86, 2) := by decide +kernel
theorem dX7_dispute_104 : decode cX7_dispute 104 = .ok (.iconst 5, 1) := by decide +kernel
theorem dX7_dispute_105 : decode cX7_dispute 105 = .ok (.iload_n 1, 1) := by decide +kernel
theorem dX7_dispute_106 : decode cX7_dispute 106 = .ok (.imul, 1) := by decide +kernel
theorem dX7_dispute_107 : decode cX7_dispute 107 = .ok (.iadd, 1) := by decide +kernel
theorem dX7_dispute_108 : decode cX7_dispute 108 = .ok (.iconst 3, 1) := by decide +kernel
theorem dX7_dispute_109 : decode cX7_dispute 109 = .ok (.iadd, 1) := by decide +kernel
theorem dX7_dispute_110 : decode cX7_dispute 110 = .ok (.dup2, 1) := by decide +kernel
theorem dX7_dispute_111 : decode cX7_dispute 111 = .ok (.iaload, 1) := by decide +kernel
theorem dX7_dispute_112 : decode cX7_dispute 112 = .ok (.iconst 1, 1) := by decide +kernel
theorem dX7_dispute_113 : decode cX7_dispute 113 = .ok (.iadd, 1) := by decide +kernel
theorem dX7_dispute_114 : decode cX7_dispute 114 = .ok (.iastore, 1) := by decide +kernel
theorem dX7_dispute_115 : decode cX7_dispute 115 = .ok (.aload_n 0, 1) := by decide +kernel
theorem dX7_dispute_116 : decode cX7_dispute 116 = .ok (.getfield 7, 3) := by decide +kernel
theorem dX7_dispute_119 : decode cX7_dispute 119 = .ok (.bipush 6, 2) := by decide +kernel
theorem dX7_dispute_121 : decode cX7_dispute 121 = .ok (.dup2, 1) := by decide +kernel
theorem dX7_dispute_122 : decode cX7_dispute 122 = .ok (.iaload, 1) := by decide +kernel
theorem dX7_dispute_123 : decode cX7_dispute 123 = .ok (.iconst 1, 1) := by decide +kernel
theorem dX7_dispute_124 : decode cX7_dispute 124 = .ok (.iadd, 1) := by decide +kernel
theorem dX7_dispute_125 : decode cX7_dispute 125 = .ok (.iastore, 1) := by decide +kernel
theorem dX7_dispute_126 : decode cX7_dispute 126 = .ok (.aload_n 0, 1) := by decide +kernel
theorem dX7_dispute_127 : decode cX7_dispute 127 = .ok (.iload_n 1, 1) := by decide +kernel
theorem dX7_dispute_128 : decode cX7_dispute 128 = .ok (.iload_n 2, 1) := by decide +kernel
theorem dX7_dispute_129 : decode cX7_dispute 129 = .ok (.invokevirtual 143, 3) := by decide +kernel
theorem dX7_dispute_132 : decode cX7_dispute 132 = .ok (.ireturn, 1) := by decide +kernel
theorem dX7_append_0 : decode cX7_append 0 = .ok (.aload_n 0, 1) := by decide +kernel
theorem dX7_append_1 : decode cX7_append 1 = .ok (.iconst 0, 1) := by decide +kernel
theorem dX7_append_2 : decode cX7_append 2 = .ok (.putfield 40, 3) := by decide +kernel
theorem dX7_append_5 : decode cX7_append 5 = .ok (.iload_n 1, 1) := by decide +kernel
theorem dX7_append_6 : decode cX7_append 6 = .ok (.bipush 33, 2) := by decide +kernel
theorem dX7_append_8 : decode cX7_append 8 = .ok (.bipush 126, 2) := by decide +kernel
theorem dX7_append_10 : decode cX7_append 10 = .ok (.invokestatic 44, 3) := by decide +kernel
theorem dX7_append_13 : decode cX7_append 13 = .ok (.ifCond .ne 9, 3) := by decide +kernel
theorem dX7_append_16 : decode cX7_append 16 = .ok (.aload_n 0, 1) := by decide +kernel
theorem dX7_append_17 : decode cX7_append 17 = .ok (.iconst 1, 1) := by decide +kernel
theorem dX7_append_18 : decode cX7_append 18 = .ok (.invokevirtual 55, 3) := by decide +kernel
theorem dX7_append_21 : decode cX7_append 21 = .ok (.ireturn, 1) := by decide +kernel
theorem dX7_append_22 : decode cX7_append 22 = .ok (.aload_n 0, 1) := by decide +kernel
theorem dX7_append_23 : decode cX7_append 23 = .ok (.getfield 117, 3) := by decide +kernel
theorem dX7_append_26 : decode cX7_append 26 = .ok (.bipush 60, 2) := by decide +kernel
theorem dX7_append_28 : decode cX7_append 28 = .ok (.if_icmp .ne 9, 3) := by decide +kernel
theorem dX7_append_31 : decode cX7_append 31 = .ok (.aload_n 0, 1) := by decide +kernel
theorem dX7_append_32 : decode cX7_append 32 = .ok (.iconst 2, 1) := by decide +kernel
theorem dX7_append_33 : decode cX7_append 33 = .ok (.invokevirtual 55, 3) := by decide +kernel
theorem dX7_append_36 : decode cX7_append 36 = .ok (.ireturn, 1) := by decide +kernel
theorem dX7_append_37 : decode cX7_append 37 = .ok (.aload_n 0, 1) := by decide +kernel
theorem dX7_append_38 : decode cX7_append 38 = .ok (.getfield 19, 3) := by decide +kernel
theorem dX7_append_41 : decode cX7_append 41 = .ok (.aload_n 0, 1) := by decide +kernel
theorem dX7_append_42 : decode cX7_append 42 = .ok (.getfield 117, 3) := by decide +kernel
theorem dX7_append_45 : decode cX7_append 45 = .ok (.iload_n 1, 1) := by decide +kernel
theorem dX7_append_46 : decode cX7_append 46 = .ok (.iastore, 1) := by decide +kernel
theorem dX7_append_47 : decode cX7_append 47 = .ok (.aload_n 0, 1) := by decide +kernel
theorem dX7_append_48 : decode cX7_append 48 = .ok (.dup, 1) := by decide +kernel
theorem dX7_append_49 : decode cX7_append 49 = .ok (.getfield 117, 3) := by decide +kernel
theorem dX7_append_52 : decode cX7_append 52 = .ok (.iconst 1, 1) := by decide +kernel
theorem dX7_append_53 : decode cX7_append 53 = .ok (.iadd, 1) := by decide +kernel
theorem dX7_append_54 : decode cX7_append 54 = .ok (.putfield 117, 3) := by decide +kernel
theorem dX7_append_57 : decode cX7_append 57 = .ok (.aload_n 0, 1) := by decide +kernel
theorem dX7_append_58 : decode cX7_append 58 = .ok (.getfield 117, 3) := by decide +kernel
theorem dX7_append_61 : decode cX7_append 61 = .ok (.ireturn, 1) := by decide +kernel
theorem dX7_clearBuffer_0 : decode cX7_clearBuffer 0 = .ok (.aload_n 0, 1) := by decide +kernel
theorem dX7_clearBuffer_1 : decode cX7_clearBuffer 1 = .ok (.iconst 0, 1) := by decide +kernel
theorem dX7_clearBuffer_2 : decode cX7_clearBuffer 2 = .ok (.putfield 40, 3) := by decide +kernel
theorem dX7_clearBuffer_5 : decode cX7_clearBuffer 5 = .ok (.aload_n 0, 1) := by decide +kernel
theorem dX7_clearBuffer_6 : decode cX7_clearBuffer 6 = .ok (.getfield 117, 3) := by decide +kernel
theorem dX7_clearBuffer_9 : decode cX7_clearBuffer 9 = .ok (.istore_n 1, 1) := by decide +kernel
theorem dX7_clearBuffer_10 : decode cX7_clearBuffer 10 = .ok (.aload_n 0, 1) := by decide +kernel
theorem dX7_clearBuffer_11 : decode cX7_clearBuffer 11 = .ok (.iconst 0, 1) := by decide +kernel
theorem dX7_clearBuffer_12 : decode cX7_clearBuffer 12 = .ok (.putfield 117, 3) := by decide +kernel
theorem dX7_clearBuffer_15 : decode cX7_clearBuffer 15 = .ok (.iload_n 1, 1) := by decide +kernel
theorem dX7_clearBuffer_16 : decode cX7_clearBuffer 16 = .ok (.ireturn, 1) := by decide +kernel
theorem dX7_firstError_0 : decode cX7_firstError 0 = .ok (.aload_n 0, 1) := by decide +kernel
theorem dX7_firstError_1 : decode cX7_firstError 1 = .ok (.iconst 0, 1) := by decide +kernel
theorem dX7_firstError_2 : decode cX7_firstError 2 = .ok (.putfield 40, 3) := by decide +kernel
theorem dX7_firstError_5 : decode cX7_firstError 5 = .ok (.aload_n 0, 1) := by decide +kernel
theorem dX7_firstError_6 : decode cX7_firstError 6 = .ok (.invokevirtual 123, 3) := by decide +kernel
theorem dX7_firstError_9 : decode cX7_firstError 9 = .ok (.ireturn, 1) := by decide +kernel
theorem dX7_undo_0 : decode cX7_undo 0 = .ok (.aload_n 0, 1) := by decide +kernel
theorem dX7_undo_1 : decode cX7_undo 1 = .ok (.iconst 0, 1) := by decide +kernel
theorem dX7_undo_2 : decode cX7_undo 2 = .ok (.putfield 40, 3) := by decide +kernel
theorem dX7_undo_5 : decode cX7_undo 5 = .ok (.aload_n 0, 1) := by decide +kernel
theorem dX7_undo_6 : decode cX7_undo 6 = .ok (.getfield 48, 3) := by decide +kernel
theorem dX7_undo_9 : decode cX7_undo 9 = .ok (.ifCond .ne 9, 3) := by decide +kernel
theorem dX7_undo_12 : decode cX7_undo 12 = .ok (.aload_n 0, 1) := by decide +kernel
theorem dX7_undo_13 : decode cX7_undo 13 = .ok (.iconst 1, 1) := by decide +kernel
theorem dX7_undo_14 : decode cX7_undo 14 = .ok (.invokevirtual 55, 3) := by decide +kernel
theorem dX7_undo_17 : decode cX7_undo 17 = .ok (.ireturn, 1) := by decide +kernel
theorem dX7_undo_18 : decode cX7_undo 18 = .ok (.aload_n 0, 1) := by decide +kernel
theorem dX7_undo_19 : decode cX7_undo 19 = .ok (.dup, 1) := by decide +kernel
theorem dX7_undo_20 : decode cX7_undo 20 = .ok (.getfield 48, 3) := by decide +kernel
theorem dX7_undo_23 : decode cX7_undo 23 = .ok (.iconst 1, 1) := by decide +kernel
theorem dX7_undo_24 : decode cX7_undo 24 = .ok (.isub, 1) := by decide +kernel
theorem dX7_undo_25 : decode cX7_undo 25 = .ok (.putfield 48, 3) := by decide +kernel
theorem dX7_undo_28 : decode cX7_undo 28 = .ok (.iconst 0, 1) := by decide +kernel
theorem dX7_undo_29 : decode cX7_undo 29 = .ok (.istore_n 1, 1) := by decide +kernel
theorem dX7_undo_30 : decode cX7_undo 30 = .ok (.iload_n 1, 1) := by decide +kernel
theorem dX7_undo_31 : decode cX7_undo 31 = .ok (.sipush 906, 3) := by decide +kernel
theorem dX7_undo_34 : decode cX7_undo 34 = .ok (.if_icmp .ge 30, 3) := by decide +kernel
theorem dX7_undo_37 : decode cX7_undo 37 = .ok (.aload_n 0, 1) := by decide +kernel
theorem dX7_undo_38 : decode cX7_undo 38 = .ok (.getfield 7, 3) := by decide +kernel
theorem dX7_undo_41 : decode cX7_undo 41 = .ok (.iload_n 1, 1) := by decide +kernel
theorem dX7_undo_42 : decode cX7_undo 42 = .ok (.aload_n 0, 1) := by decide +kernel
theorem dX7_undo_43 : decode cX7_undo 43 = .ok (.getfield 16, 3) := by decide +kernel
theorem dX7_undo_46 : decode cX7_undo 46 = .ok (.sipush 906, 3) := by decide +kernel
theorem dX7_undo_49 : decode cX7_undo 49 = .ok (.aload_n 0, 1) := by decide +kernel
theorem dX7_undo_50 : decode cX7_undo 50 = .ok (.getfield 48, 3) := by decide +kernel
theorem dX7_undo_53 : decode cX7_undo 53 = .ok (.imul, 1) := by decide +kernel
theorem dX7_undo_54 : decode cX7_undo 54 = .ok (.iload_n 1, 1) := by decide +kernel
theorem dX7_undo_55 : decode cX7_undo 55 = .ok (.iadd, 1) := by decide +kernel
theorem dX7_undo_56 : decode cX7_undo 56 = .ok (.iaload, 1) := by decide +kernel
theorem dX7_undo_57 : decode cX7_undo 57 = .ok (.iastore, 1) := by decide +kernel
theorem dX7_undo_58 : decode cX7_undo 58 = .ok (.iinc 1 1, 3) := by decide +kernel
theorem dX7_undo_61 : decode cX7_undo 61 = .ok (.goto (-31), 3) := by decide +kernel
theorem dX7_undo_64 : decode cX7_undo 64 = .ok (.aload_n 0, 1) := by decide +kernel
theorem dX7_undo_65 : decode cX7_undo 65 = .ok (.getfield 48, 3) := by decide +kernel
theorem dX7_undo_68 : decode cX7_undo 68 = .ok (.ireturn, 1) := by decide +kernel
theorem dX7_owns_0 : decode cX7_owns 0 = .ok (.iconst 0, 1) := by decide +kernel
theorem dX7_owns_1 : decode cX7_owns 1 = .ok (.istore_n 2, 1) := by decide +kernel
theorem dX7_owns_2 : decode cX7_owns 2 = .ok (.iconst 0, 1) := by decide +kernel
theorem dX7_owns_3 : decode cX7_owns 3 = .ok (.istore_n 3, 1) := by decide +kernel
theorem dX7_owns_4 : decode cX7_owns 4 = .ok (.iload_n 3, 1) := by decide +kernel
theorem dX7_owns_5 : decode cX7_owns 5 = .ok (.aload_n 0, 1) := by decide +kernel
theorem dX7_owns_6 : decode cX7_owns 6 = .ok (.getfield 7, 3) := by decide +kernel
theorem dX7_owns_9 : decode cX7_owns 9 = .ok (.iconst 0, 1) := by decide +kernel
theorem dX7_owns_10 : decode cX7_owns 10 = .ok (.iaload, 1) := by decide +kernel
theorem dX7_owns_11 : decode cX7_owns 11 = .ok (.if_icmp .ge 27, 3) := by decide +kernel
theorem dX7_owns_14 : decode cX7_owns 14 = .ok (.iload_n 2, 1) := by decide +kernel
theorem dX7_owns_15 : decode cX7_owns 15 = .ok (.aload_n 0, 1) := by decide +kernel
theorem dX7_owns_16 : decode cX7_owns 16 = .ok (.iload_n 3, 1) := by decide +kernel
theorem dX7_owns_17 : decode cX7_owns 17 = .ok (.iconst 3, 1) := by decide +kernel
theorem dX7_owns_18 : decode cX7_owns 18 = .ok (.invokevirtual 61, 3) := by decide +kernel
theorem dX7_owns_21 : decode cX7_owns 21 = .ok (.iload_n 1, 1) := by decide +kernel
theorem dX7_owns_22 : decode cX7_owns 22 = .ok (.if_icmp .ne 7, 3) := by decide +kernel
theorem dX7_owns_25 : decode cX7_owns 25 = .ok (.iconst 1, 1) := by decide +kernel
theorem dX7_owns_26 : decode cX7_owns 26 = .ok (.goto 4, 3) := by decide +kernel
theorem dX7_owns_29 : decode cX7_owns 29 = .ok (.iconst 0, 1) := by decide +kernel
theorem dX7_owns_30 : decode cX7_owns 30 = .ok (.iadd, 1) := by decide +kernel
theorem dX7_owns_31 : decode cX7_owns 31 = .ok (.istore_n 2, 1) := by decide +kernel
theorem dX7_owns_32 : decode cX7_owns 32 = .ok (.iinc 3 1, 3) := by decide +kernel
theorem dX7_owns_35 : decode cX7_owns 35 = .ok (.goto (-31), 3) := by decide +kernel
theorem dX7_owns_38 : decode cX7_owns 38 = .ok (.iload_n 2, 1) := by decide +kernel
theorem dX7_owns_39 : decode cX7_owns 39 = .ok (.ireturn, 1) := by decide +kernel
theorem dX7_wrote_0 : decode cX7_wrote 0 = .ok (.iconst 0, 1) := by decide +kernel
theorem dX7_wrote_1 : decode cX7_wrote 1 = .ok (.istore_n 2, 1) := by decide +kernel
theorem dX7_wrote_2 : decode cX7_wrote 2 = .ok (.iconst 0, 1) := by decide +kernel
theorem dX7_wrote_3 : decode cX7_wrote 3 = .ok (.istore_n 3, 1) := by decide +kernel
theorem dX7_wrote_4 : decode cX7_wrote 4 = .ok (.iload_n 3, 1) := by decide +kernel
theorem dX7_wrote_5 : decode cX7_wrote 5 = .ok (.aload_n 0, 1) := by decide +kernel
theorem dX7_wrote_6 : decode cX7_wrote 6 = .ok (.getfield 7, 3) := by decide +kernel
theorem dX7_wrote_9 : decode cX7_wrote 9 = .ok (.iconst 1, 1) := by decide +kernel
theorem dX7_wrote_10 : decode cX7_wrote 10 = .ok (.iaload, 1) := by decide +kernel
theorem dX7_wrote_11 : decode cX7_wrote 11 = .ok (.if_icmp .ge 18, 3) := by decide +kernel
theorem dX7_wrote_14 : decode cX7_wrote 14 = .ok (.iload_n 2, 1) := by decide +kernel
theorem dX7_wrote_15 : decode cX7_wrote 15 = .ok (.aload_n 0, 1) := by decide +kernel
theorem dX7_wrote_16 : decode cX7_wrote 16 = .ok (.iload_n 3, 1) := by decide +kernel
theorem dX7_wrote_17 : decode cX7_wrote 17 = .ok (.iload_n 1, 1) := by decide +kernel
theorem dX7_wrote_18 : decode cX7_wrote 18 = .ok (.invokevirtual 163, 3) := by decide +kernel
theorem dX7_wrote_21 : decode cX7_wrote 21 = .ok (.iadd, 1) := by decide +kernel
theorem dX7_wrote_22 : decode cX7_wrote 22 = .ok (.istore_n 2, 1) := by decide +kernel
theorem dX7_wrote_23 : decode cX7_wrote 23 = .ok (.iinc 3 1, 3) := by decide +kernel
theorem dX7_wrote_26 : decode cX7_wrote 26 = .ok (.goto (-22), 3) := by decide +kernel
theorem dX7_wrote_29 : decode cX7_wrote 29 = .ok (.iload_n 2, 1) := by decide +kernel
theorem dX7_wrote_30 : decode cX7_wrote 30 = .ok (.ireturn, 1) := by decide +kernel
theorem dX7_placeOf_0 : decode cX7_placeOf 0 = .ok (.iconst 0, 1) := by decide +kernel
theorem dX7_placeOf_1 : decode cX7_placeOf 1 = .ok (.istore_n 2, 1) := by decide +kernel
theorem dX7_placeOf_2 : decode cX7_placeOf 2 = .ok (.iconst 0, 1) := by decide +kernel
theorem dX7_placeOf_3 : decode cX7_placeOf 3 = .ok (.istore_n 3, 1) := by decide +kernel
theorem dX7_placeOf_4 : decode cX7_placeOf 4 = .ok (.iload_n 3, 1) := by decide +kernel
theorem dX7_placeOf_5 : decode cX7_placeOf 5 = .ok (.aload_n 0, 1) := by decide +kernel
theorem dX7_placeOf_6 : decode cX7_placeOf 6 = .ok (.getfield 7, 3) := by decide +kernel
theorem dX7_placeOf_9 : decode cX7_placeOf 9 = .ok (.iconst 0, 1) := by decide +kernel
theorem dX7_placeOf_10 : decode cX7_placeOf 10 = .ok (.iaload, 1) := by decide +kernel
theorem dX7_placeOf_11 : decode cX7_placeOf 11 = .ok (.if_icmp .ge 52, 3) := by decide +kernel
theorem dX7_placeOf_14 : decode cX7_placeOf 14 = .ok (.iload_n 2, 1) := by decide +kernel
theorem dX7_placeOf_15 : decode cX7_placeOf 15 = .ok (.aload_n 0, 1) := by decide +kernel
theorem dX7_placeOf_16 : decode cX7_placeOf 16 = .ok (.iload_n 3, 1) := by decide +kernel
theorem dX7_placeOf_17 : decode cX7_placeOf 17 = .ok (.iconst 0, 1) := by decide +kernel
theorem dX7_placeOf_18 : decode cX7_placeOf 18 = .ok (.invokevirtual 61, 3) := by decide +kernel
theorem dX7_placeOf_21 : decode cX7_placeOf 21 = .ok (.aload_n 0, 1) := by decide +kernel
theorem dX7_placeOf_22 : decode cX7_placeOf 22 = .ok (.iload_n 1, 1) := by decide +kernel
theorem dX7_placeOf_23 : decode cX7_placeOf 23 = .ok (.iconst 0, 1) := by decide +kernel
theorem dX7_placeOf_24 : decode cX7_placeOf 24 = .ok (.invokevirtual 61, 3) := by decide +kernel
theorem dX7_placeOf_27 : decode cX7_placeOf 27 = .ok (.if_icmp .gt 23, 3) := by decide +kernel
theorem dX7_placeOf_30 : decode cX7_placeOf 30 = .ok (.aload_n 0, 1) := by decide +kernel
theorem dX7_placeOf_31 : decode cX7_placeOf 31 = .ok (.iload_n 3, 1) := by decide +kernel
theorem dX7_placeOf_32 : decode cX7_placeOf 32 = .ok (.iconst 0, 1) := by decide +kernel
theorem dX7_placeOf_33 : decode cX7_placeOf 33 = .ok (.invokevirtual 61, 3) := by decide +kernel
theorem dX7_placeOf_36 : decode cX7_placeOf 36 = .ok (.aload_n 0, 1) := by decide +kernel
theorem dX7_placeOf_37 : decode cX7_placeOf 37 = .ok (.iload_n 1, 1) := by decide +kernel
theorem dX7_placeOf_38 : decode cX7_placeOf 38 = .ok (.iconst 0, 1) := by decide +kernel
theorem dX7_placeOf_39 : decode cX7_placeOf 39 = .ok (.invokevirtual 61, 3) := by decide +kernel
theorem dX7_placeOf_42 : decode cX7_placeOf 42 = .ok (.if_icmp .ne 12, 3) := by decide +kernel
theorem dX7_placeOf_45 : decode cX7_placeOf 45 = .ok (.iload_n 3, 1) := by decide +kernel
theorem dX7_placeOf_46 : decode cX7_placeOf 46 = .ok (.iload_n 1, 1) := by decide +kernel
theorem dX7_placeOf_47 : decode cX7_placeOf 47 = .ok (.if_icmp .ge 7, 3) := by decide +kernel
theorem dX7_placeOf_50 : decode cX7_placeOf 50 = .ok (.iconst 1, 1) := by decide +kernel
theorem dX7_placeOf_51 : decode cX7_placeOf 51 = .ok (.goto 4, 3) := by decide +kernel
theorem dX7_placeOf_54 : decode cX7_placeOf 54 = .ok (.iconst 0, 1) := by decide +kernel
theorem dX7_placeOf_55 : decode cX7_placeOf 55 = .ok (.iadd, 1) := by decide +kernel
theorem dX7_placeOf_56 : decode cX7_placeOf 56 = .ok (.istore_n 2, 1) := by decide +kernel
theorem dX7_placeOf_57 : decode cX7_placeOf 57 = .ok (.iinc 3 1, 3) := by decide +kernel
theorem dX7_placeOf_60 : decode cX7_placeOf 60 = .ok (.goto (-56), 3) := by decide +kernel
theorem dX7_placeOf_63 : decode cX7_placeOf 63 = .ok (.iload_n 2, 1) := by decide +kernel
theorem dX7_placeOf_64 : decode cX7_placeOf 64 = .ok (.ireturn, 1) := by decide +kernel
theorem dX7_penNow_0 : decode cX7_penNow 0 = .ok (.iload_n 2, 1) := by decide +kernel
theorem dX7_penNow_1 : decode cX7_penNow 1 = .ok (.tableswitch 73 0 7 #[47, 47, 47, 47, 47, 54, 60, 67], 47) := by decide +kernel
theorem dX7_penNow_48 : decode cX7_penNow 48 = .ok (.aload_n 0, 1) := by decide +kernel
theorem dX7_penNow_49 : decode cX7_penNow 49 = .ok (.iload_n 1, 1) := by decide +kernel
theorem dX7_penNow_50 : decode cX7_penNow 50 = .ok (.iload_n 2, 1) := by decide +kernel
theorem dX7_penNow_51 : decode cX7_penNow 51 = .ok (.invokevirtual 61, 3) := by decide +kernel
theorem dX7_penNow_54 : decode cX7_penNow 54 = .ok (.ireturn, 1) := by decide +kernel
theorem dX7_penNow_55 : decode cX7_penNow 55 = .ok (.aload_n 0, 1) := by decide +kernel
theorem dX7_penNow_56 : decode cX7_penNow 56 = .ok (.iload_n 1, 1) := by decide +kernel
theorem dX7_penNow_57 : decode cX7_penNow 57 = .ok (.invokevirtual 179, 3) := by decide +kernel
theorem dX7_penNow_60 : decode cX7_penNow 60 = .ok (.ireturn, 1) := by decide +kernel
theorem dX7_penNow_61 : decode cX7_penNow 61 = .ok (.aload_n 0, 1) := by decide +kernel
theorem dX7_penNow_62 : decode cX7_penNow 62 = .ok (.iload_n 1, 1) := by decide +kernel
theorem dX7_penNow_63 : decode cX7_penNow 63 = .ok (.iconst 5, 1) := by decide +kernel
theorem dX7_penNow_64 : decode cX7_penNow 64 = .ok (.invokevirtual 61, 3) := by decide +kernel
theorem dX7_penNow_67 : decode cX7_penNow 67 = .ok (.ireturn, 1) := by decide +kernel
theorem dX7_penNow_68 : decode cX7_penNow 68 = .ok (.aload_n 0, 1) := by decide +kernel
theorem dX7_penNow_69 : decode cX7_penNow 69 = .ok (.iload_n 1, 1) := by decide +kernel
theorem dX7_penNow_70 : decode cX7_penNow 70 = .ok (.invokevirtual 182, 3) := by decide +kernel
theorem dX7_penNow_73 : decode cX7_penNow 73 = .ok (.ireturn, 1) := by decide +kernel
theorem dX7_penNow_74 : decode cX7_penNow 74 = .ok (.aload_n 0, 1) := by decide +kernel
theorem dX7_penNow_75 : decode cX7_penNow 75 = .ok (.iload_n 1, 1) := by decide +kernel
theorem dX7_penNow_76 : decode cX7_penNow 76 = .ok (.invokevirtual 185, 3) := by decide +kernel
theorem dX7_penNow_79 : decode cX7_penNow 79 = .ok (.ireturn, 1) := by decide +kernel
theorem dX7_pen_0 : decode cX7_pen 0 = .ok (.aload_n 0, 1) := by decide +kernel
theorem dX7_pen_1 : decode cX7_pen 1 = .ok (.iconst 0, 1) := by decide +kernel
theorem dX7_pen_2 : decode cX7_pen 2 = .ok (.putfield 40, 3) := by decide +kernel
theorem dX7_pen_5 : decode cX7_pen 5 = .ok (.aload_n 0, 1) := by decide +kernel
theorem dX7_pen_6 : decode cX7_pen 6 = .ok (.iload_n 1, 1) := by decide +kernel
theorem dX7_pen_7 : decode cX7_pen 7 = .ok (.invokevirtual 65, 3) := by decide +kernel
theorem dX7_pen_10 : decode cX7_pen 10 = .ok (.ifCond .ne 9, 3) := by decide +kernel
theorem dX7_pen_13 : decode cX7_pen 13 = .ok (.aload_n 0, 1) := by decide +kernel
theorem dX7_pen_14 : decode cX7_pen 14 = .ok (.iconst 1, 1) := by decide +kernel
theorem dX7_pen_15 : decode cX7_pen 15 = .ok (.invokevirtual 55, 3) := by decide +kernel
theorem dX7_pen_18 : decode cX7_pen 18 = .ok (.ireturn, 1) := by decide +kernel
theorem dX7_pen_19 : decode cX7_pen 19 = .ok (.iload_n 2, 1) := by decide +kernel
theorem dX7_pen_20 : decode cX7_pen 20 = .ok (.iconst 0, 1) := by decide +kernel
theorem dX7_pen_21 : decode cX7_pen 21 = .ok (.bipush 8, 2) := by decide +kernel
theorem dX7_pen_23 : decode cX7_pen 23 = .ok (.invokestatic 44, 3) := by decide +kernel
theorem dX7_pen_26 : decode cX7_pen 26 = .ok (.ifCond .eq 12, 3) := by decide +kernel
theorem dX7_pen_29 : decode cX7_pen 29 = .ok (.aload_n 0, 1) := by decide +kernel
theorem dX7_pen_30 : decode cX7_pen 30 = .ok (.iload_n 1, 1) := by decide +kernel
theorem dX7_pen_31 : decode cX7_pen 31 = .ok (.iload_n 2, 1) := by decide +kernel
theorem dX7_pen_32 : decode cX7_pen 32 = .ok (.invokevirtual 188, 3) := by decide +kernel
theorem dX7_pen_35 : decode cX7_pen 35 = .ok (.goto 8, 3) := by decide +kernel
theorem dX7_pen_38 : decode cX7_pen 38 = .ok (.aload_n 0, 1) := by decide +kernel
theorem dX7_pen_39 : decode cX7_pen 39 = .ok (.iconst 2, 1) := by decide +kernel
theorem dX7_pen_40 : decode cX7_pen 40 = .ok (.invokevirtual 55, 3) := by decide +kernel
theorem dX7_pen_43 : decode cX7_pen 43 = .ok (.ireturn, 1) := by decide +kernel
theorem dX7_pensWith_0 : decode cX7_pensWith 0 = .ok (.iconst 0, 1) := by decide +kernel
theorem dX7_pensWith_1 : decode cX7_pensWith 1 = .ok (.istore_n 2, 1) := by decide +kernel
theorem dX7_pensWith_2 : decode cX7_pensWith 2 = .ok (.iconst 0, 1) := by decide +kernel
theorem dX7_pensWith_3 : decode cX7_pensWith 3 = .ok (.istore_n 3, 1) := by decide +kernel
theorem dX7_pensWith_4 : decode cX7_pensWith 4 = .ok (.iload_n 3, 1) := by decide +kernel
theorem dX7_pensWith_5 : decode cX7_pensWith 5 = .ok (.aload_n 0, 1) := by decide +kernel
theorem dX7_pensWith_6 : decode cX7_pensWith 6 = .ok (.getfield 7, 3) := by decide +kernel
theorem dX7_pensWith_9 : decode cX7_pensWith 9 = .ok (.iconst 0, 1) := by decide +kernel
theorem dX7_pensWith_10 : decode cX7_pensWith 10 = .ok (.iaload, 1) := by decide +kernel
theorem dX7_pensWith_11 : decode cX7_pensWith 11 = .ok (.if_icmp .ge 26, 3) := by decide +kernel
theorem dX7_pensWith_14 : decode cX7_pensWith 14 = .ok (.iload_n 2, 1) := by decide +kernel
theorem dX7_pensWith_15 : decode cX7_pensWith 15 = .ok (.aload_n 0, 1) := by decide +kernel
theorem dX7_pensWith_16 : decode cX7_pensWith 16 = .ok (.iload_n 1, 1) := by decide +kernel
theorem dX7_pensWith_17 : decode cX7_pensWith 17 = .ok (.iload_n 3, 1) := by decide +kernel
theorem dX7_pensWith_18 : decode cX7_pensWith 18 = .ok (.invokevirtual 143, 3) := by decide +kernel
theorem dX7_pensWith_21 : decode cX7_pensWith 21 = .ok (.ifCond .le 7, 3) := by decide +kernel
theorem dX7_pensWith_24 : decode cX7_pensWith 24 = .ok (.iconst 1, 1) := by decide +kernel
theorem dX7_pensWith_25 : decode cX7_pensWith 25 = .ok (.goto 4, 3) := by decide +kernel
theorem dX7_pensWith_28 : decode cX7_pensWith 28 = .ok (.iconst 0, 1) := by decide +kernel
theorem dX7_pensWith_29 : decode cX7_pensWith 29 = .ok (.iadd, 1) := by decide +kernel
theorem dX7_pensWith_30 : decode cX7_pensWith 30 = .ok (.istore_n 2, 1) := by decide +kernel
theorem dX7_pensWith_31 : decode cX7_pensWith 31 = .ok (.iinc 3 1, 3) := by decide +kernel
theorem dX7_pensWith_34 : decode cX7_pensWith 34 = .ok (.goto (-30), 3) := by decide +kernel
theorem dX7_pensWith_37 : decode cX7_pensWith 37 = .ok (.iload_n 2, 1) := by decide +kernel
theorem dX7_pensWith_38 : decode cX7_pensWith 38 = .ok (.ireturn, 1) := by decide +kernel
theorem dX7_whoDisputes_0 : decode cX7_whoDisputes 0 = .ok (.iconst 0, 1) := by decide +kernel
theorem dX7_whoDisputes_1 : decode cX7_whoDisputes 1 = .ok (.istore_n 2, 1) := by decide +kernel
theorem dX7_whoDisputes_2 : decode cX7_whoDisputes 2 = .ok (.iconst 0, 1) := by decide +kernel
theorem dX7_whoDisputes_3 : decode cX7_whoDisputes 3 = .ok (.istore_n 3, 1) := by decide +kernel
theorem dX7_whoDisputes_4 : decode cX7_whoDisputes 4 = .ok (.iload_n 3, 1) := by decide +kernel
theorem dX7_whoDisputes_5 : decode cX7_whoDisputes 5 = .ok (.aload_n 0, 1) := by decide +kernel
theorem dX7_whoDisputes_6 : decode cX7_whoDisputes 6 = .ok (.getfield 7, 3) := by decide +kernel
theorem dX7_whoDisputes_9 : decode cX7_whoDisputes 9 = .ok (.iconst 0, 1) := by decide +kernel
theorem dX7_whoDisputes_10 : decode cX7_whoDisputes 10 = .ok (.iaload, 1) := by decide +kernel
theorem dX7_whoDisputes_11 : decode cX7_whoDisputes 11 = .ok (.if_icmp .ge 28, 3) := by decide +kernel
theorem dX7_whoDisputes_14 : decode cX7_whoDisputes 14 = .ok (.iload_n 2, 1) := by decide +kernel
theorem dX7_whoDisputes_15 : decode cX7_whoDisputes 15 = .ok (.aload_n 0, 1) := by decide +kernel
theorem dX7_whoDisputes_16 : decode cX7_whoDisputes 16 = .ok (.iload_n 1, 1) := by decide +kernel
theorem dX7_whoDisputes_17 : decode cX7_whoDisputes 17 = .ok (.iload_n 3, 1) := by decide +kernel
theorem dX7_whoDisputes_18 : decode cX7_whoDisputes 18 = .ok (.invokevirtual 172, 3) := by decide +kernel
theorem dX7_whoDisputes_21 : decode cX7_whoDisputes 21 = .ok (.ifCond .eq 9, 3) := by decide +kernel
theorem dX7_whoDisputes_24 : decode cX7_whoDisputes 24 = .ok (.iconst 1, 1) := by decide +kernel
theorem dX7_whoDisputes_25 : decode cX7_whoDisputes 25 = .ok (.iload_n 3, 1) := by decide +kernel
theorem dX7_whoDisputes_26 : decode cX7_whoDisputes 26 = .ok (.ishl, 1) := by decide +kernel
theorem dX7_whoDisputes_27 : decode cX7_whoDisputes 27 = .ok (.goto 4, 3) := by decide +kernel
theorem dX7_whoDisputes_30 : decode cX7_whoDisputes 30 = .ok (.iconst 0, 1) := by decide +kernel
theorem dX7_whoDisputes_31 : decode cX7_whoDisputes 31 = .ok (.ior, 1) := by decide +kernel
theorem dX7_whoDisputes_32 : decode cX7_whoDisputes 32 = .ok (.istore_n 2, 1) := by decide +kernel
theorem dX7_whoDisputes_33 : decode cX7_whoDisputes 33 = .ok (.iinc 3 1, 3) := by decide +kernel
theorem dX7_whoDisputes_36 : decode cX7_whoDisputes 36 = .ok (.goto (-32), 3) := by decide +kernel
theorem dX7_whoDisputes_39 : decode cX7_whoDisputes 39 = .ok (.iload_n 2, 1) := by decide +kernel
theorem dX7_whoDisputes_40 : decode cX7_whoDisputes 40 = .ok (.ireturn, 1) := by decide +kernel
theorem dX7_pieceNow_0 : decode cX7_pieceNow 0 = .ok (.iload_n 2, 1) := by decide +kernel
theorem dX7_pieceNow_1 : decode cX7_pieceNow 1 = .ok (.tableswitch 89 0 8 #[51, 51, 51, 51, 58, 64, 70, 76, 83], 51) := by decide +kernel
theorem dX7_pieceNow_52 : decode cX7_pieceNow 52 = .ok (.aload_n 0, 1) := by decide +kernel
theorem dX7_pieceNow_53 : decode cX7_pieceNow 53 = .ok (.iload_n 1, 1) := by decide +kernel
theorem dX7_pieceNow_54 : decode cX7_pieceNow 54 = .ok (.iload_n 2, 1) := by decide +kernel
theorem dX7_pieceNow_55 : decode cX7_pieceNow 55 = .ok (.invokevirtual 80, 3) := by decide +kernel
theorem dX7_pieceNow_58 : decode cX7_pieceNow 58 = .ok (.ireturn, 1) := by decide +kernel
theorem dX7_pieceNow_59 : decode cX7_pieceNow 59 = .ok (.aload_n 0, 1) := by decide +kernel
theorem dX7_pieceNow_60 : decode cX7_pieceNow 60 = .ok (.iload_n 1, 1) := by decide +kernel
theorem dX7_pieceNow_61 : decode cX7_pieceNow 61 = .ok (.invokevirtual 83, 3) := by decide +kernel
theorem dX7_pieceNow_64 : decode cX7_pieceNow 64 = .ok (.ireturn, 1) := by decide +kernel
theorem dX7_pieceNow_65 : decode cX7_pieceNow 65 = .ok (.aload_n 0, 1) := by decide +kernel
theorem dX7_pieceNow_66 : decode cX7_pieceNow 66 = .ok (.iload_n 1, 1) := by decide +kernel
theorem dX7_pieceNow_67 : decode cX7_pieceNow 67 = .ok (.invokevirtual 191, 3) := by decide +kernel
theorem dX7_pieceNow_70 : decode cX7_pieceNow 70 = .ok (.ireturn, 1) := by decide +kernel
theorem dX7_pieceNow_71 : decode cX7_pieceNow 71 = .ok (.aload_n 0, 1) := by decide +kernel
theorem dX7_pieceNow_72 : decode cX7_pieceNow 72 = .ok (.iload_n 1, 1) := by decide +kernel
theorem dX7_pieceNow_73 : decode cX7_pieceNow 73 = .ok (.invokevirtual 133, 3) := by decide +kernel
theorem dX7_pieceNow_76 : decode cX7_pieceNow 76 = .ok (.ireturn, 1) := by decide +kernel
theorem dX7_pieceNow_77 : decode cX7_pieceNow 77 = .ok (.aload_n 0, 1) := by decide +kernel
theorem dX7_pieceNow_78 : decode cX7_pieceNow 78 = .ok (.iload_n 1, 1) := by decide +kernel
theorem dX7_pieceNow_79 : decode cX7_pieceNow 79 = .ok (.iconst 4, 1) := by decide +kernel
theorem dX7_pieceNow_80 : decode cX7_pieceNow 80 = .ok (.invokevirtual 80, 3) := by decide +kernel
theorem dX7_pieceNow_83 : decode cX7_pieceNow 83 = .ok (.ireturn, 1) := by decide +kernel
theorem dX7_pieceNow_84 : decode cX7_pieceNow 84 = .ok (.aload_n 0, 1) := by decide +kernel
theorem dX7_pieceNow_85 : decode cX7_pieceNow 85 = .ok (.iload_n 1, 1) := by decide +kernel
theorem dX7_pieceNow_86 : decode cX7_pieceNow 86 = .ok (.invokevirtual 160, 3) := by decide +kernel
theorem dX7_pieceNow_89 : decode cX7_pieceNow 89 = .ok (.ireturn, 1) := by decide +kernel
theorem dX7_pieceNow_90 : decode cX7_pieceNow 90 = .ok (.aload_n 0, 1) := by decide +kernel
theorem dX7_pieceNow_91 : decode cX7_pieceNow 91 = .ok (.iload_n 1, 1) := by decide +kernel
theorem dX7_pieceNow_92 : decode cX7_pieceNow 92 = .ok (.invokevirtual 194, 3) := by decide +kernel
theorem dX7_pieceNow_95 : decode cX7_pieceNow 95 = .ok (.ireturn, 1) := by decide +kernel
theorem dX7_piece_0 : decode cX7_piece 0 = .ok (.aload_n 0, 1) := by decide +kernel
theorem dX7_piece_1 : decode cX7_piece 1 = .ok (.iconst 0, 1) := by decide +kernel
theorem dX7_piece_2 : decode cX7_piece 2 = .ok (.putfield 40, 3) := by decide +kernel
theorem dX7_piece_5 : decode cX7_piece 5 = .ok (.aload_n 0, 1) := by decide +kernel
theorem dX7_piece_6 : decode cX7_piece 6 = .ok (.iload_n 1, 1) := by decide +kernel
theorem dX7_piece_7 : decode cX7_piece 7 = .ok (.invokevirtual 77, 3) := by decide +kernel
theorem dX7_piece_10 : decode cX7_piece 10 = .ok (.ifCond .ne 9, 3) := by decide +kernel
theorem dX7_piece_13 : decode cX7_piece 13 = .ok (.aload_n 0, 1) := by decide +kernel
theorem dX7_piece_14 : decode cX7_piece 14 = .ok (.iconst 1, 1) := by decide +kernel
theorem dX7_piece_15 : decode cX7_piece 15 = .ok (.invokevirtual 55, 3) := by decide +kernel
theorem dX7_piece_18 : decode cX7_piece 18 = .ok (.ireturn, 1) := by decide +kernel
theorem dX7_piece_19 : decode cX7_piece 19 = .ok (.iload_n 2, 1) := by decide +kernel
theorem dX7_piece_20 : decode cX7_piece 20 = .ok (.iconst 0, 1) := by decide +kernel
theorem dX7_piece_21 : decode cX7_piece 21 = .ok (.bipush 9, 2) := by decide +kernel
theorem dX7_piece_23 : decode cX7_piece 23 = .ok (.invokestatic 44, 3) := by decide +kernel
theorem dX7_piece_26 : decode cX7_piece 26 = .ok (.ifCond .eq 12, 3) := by decide +kernel
theorem dX7_piece_29 : decode cX7_piece 29 = .ok (.aload_n 0, 1) := by decide +kernel
theorem dX7_piece_30 : decode cX7_piece 30 = .ok (.iload_n 1, 1) := by decide +kernel
theorem dX7_piece_31 : decode cX7_piece 31 = .ok (.iload_n 2, 1) := by decide +kernel
theorem dX7_piece_32 : decode cX7_piece 32 = .ok (.invokevirtual 197, 3) := by decide +kernel
theorem dX7_piece_35 : decode cX7_piece 35 = .ok (.goto 8, 3) := by decide +kernel
theorem dX7_piece_38 : decode cX7_piece 38 = .ok (.aload_n 0, 1) := by decide +kernel
theorem dX7_piece_39 : decode cX7_piece 39 = .ok (.iconst 2, 1) := by decide +kernel
theorem dX7_piece_40 : decode cX7_piece 40 = .ok (.invokevirtual 55, 3) := by decide +kernel
theorem dX7_piece_43 : decode cX7_piece 43 = .ok (.ireturn, 1) := by decide +kernel
theorem dX7_betweenNow_0 : decode cX7_betweenNow 0 = .ok (.iload_n 3, 1) := by decide +kernel
theorem dX7_betweenNow_1 : decode cX7_betweenNow 1 = .ok (.ifCond .ne 12, 3) := by decide +kernel
theorem dX7_betweenNow_4 : decode cX7_betweenNow 4 = .ok (.aload_n 0, 1) := by decide +kernel
theorem dX7_betweenNow_5 : decode cX7_betweenNow 5 = .ok (.iload_n 1, 1) := by decide +kernel
theorem dX7_betweenNow_6 : decode cX7_betweenNow 6 = .ok (.iload_n 2, 1) := by decide +kernel
theorem dX7_betweenNow_7 : decode cX7_betweenNow 7 = .ok (.invokevirtual 143, 3) := by decide +kernel
theorem dX7_betweenNow_10 : decode cX7_betweenNow 10 = .ok (.goto 32, 3) := by decide +kernel
theorem dX7_betweenNow_13 : decode cX7_betweenNow 13 = .ok (.iload_n 3, 1) := by decide +kernel
theorem dX7_betweenNow_14 : decode cX7_betweenNow 14 = .ok (.iconst 1, 1) := by decide +kernel
theorem dX7_betweenNow_15 : decode cX7_betweenNow 15 = .ok (.if_icmp .ne 12, 3) := by decide +kernel
theorem dX7_betweenNow_18 : decode cX7_betweenNow 18 = .ok (.aload_n 0, 1) := by decide +kernel
theorem dX7_betweenNow_19 : decode cX7_betweenNow 19 = .ok (.iload_n 1, 1) := by decide +kernel
theorem dX7_betweenNow_20 : decode cX7_betweenNow 20 = .ok (.iload_n 2, 1) := by decide +kernel
theorem dX7_betweenNow_21 : decode cX7_betweenNow 21 = .ok (.invokevirtual 163, 3) := by decide +kernel
theorem dX7_betweenNow_24 : decode cX7_betweenNow 24 = .ok (.goto 18, 3) := by decide +kernel
theorem dX7_betweenNow_27 : decode cX7_betweenNow 27 = .ok (.aload_n 0, 1) := by decide +kernel
theorem dX7_betweenNow_28 : decode cX7_betweenNow 28 = .ok (.getfield 7, 3) := by decide +kernel
theorem dX7_betweenNow_31 : decode cX7_betweenNow 31 = .ok (.sipush 666, 3) := by decide +kernel
theorem dX7_betweenNow_34 : decode cX7_betweenNow 34 = .ok (.bipush 12, 2) := by decide +kernel
theorem dX7_betweenNow_36 : decode cX7_betweenNow 36 = .ok (.iload_n 1, 1) := by decide +kernel
theorem dX7_betweenNow_37 : decode cX7_betweenNow 37 = .ok (.imul, 1) := by decide +kernel
theorem dX7_betweenNow_38 : decode cX7_betweenNow 38 = .ok (.iadd, 1) := by decide +kernel
theorem dX7_betweenNow_39 : decode cX7_betweenNow 39 = .ok (.iload_n 2, 1) := by decide +kernel
theorem dX7_betweenNow_40 : decode cX7_betweenNow 40 = .ok (.iadd, 1) := by decide +kernel
theorem dX7_betweenNow_41 : decode cX7_betweenNow 41 = .ok (.iaload, 1) := by decide +kernel
theorem dX7_betweenNow_42 : decode cX7_betweenNow 42 = .ok (.ireturn, 1) := by decide +kernel
theorem dX7_between_0 : decode cX7_between 0 = .ok (.aload_n 0, 1) := by decide +kernel
theorem dX7_between_1 : decode cX7_between 1 = .ok (.iconst 0, 1) := by decide +kernel
theorem dX7_between_2 : decode cX7_between 2 = .ok (.putfield 40, 3) := by decide +kernel
theorem dX7_between_5 : decode cX7_between 5 = .ok (.aload_n 0, 1) := by decide +kernel
theorem dX7_between_6 : decode cX7_between 6 = .ok (.iload_n 1, 1) := by decide +kernel
theorem dX7_between_7 : decode cX7_between 7 = .ok (.invokevirtual 77, 3) := by decide +kernel
theorem dX7_between_10 : decode cX7_between 10 = .ok (.ifCond .eq 11, 3) := by decide +kernel
theorem dX7_between_13 : decode cX7_between 13 = .ok (.aload_n 0, 1) := by decide +kernel
theorem dX7_between_14 : decode cX7_between 14 = .ok (.iload_n 2, 1) := by decide +kernel
theorem dX7_between_15 : decode cX7_between 15 = .ok (.invokevirtual 65, 3) := by decide +kernel
theorem dX7_between_18 : decode cX7_between 18 = .ok (.ifCond .ne 9, 3) := by decide +kernel
theorem dX7_between_21 : decode cX7_between 21 = .ok (.aload_n 0, 1) := by decide +kernel
theorem dX7_between_22 : decode cX7_between 22 = .ok (.iconst 1, 1) := by decide +kernel
theorem dX7_between_23 : decode cX7_between 23 = .ok (.invokevirtual 55, 3) := by decide +kernel
theorem dX7_between_26 : decode cX7_between 26 = .ok (.ireturn, 1) := by decide +kernel
theorem dX7_between_27 : decode cX7_between 27 = .ok (.iload_n 3, 1) := by decide +kernel
theorem dX7_between_28 : decode cX7_between 28 = .ok (.iconst 0, 1) := by decide +kernel
theorem dX7_between_29 : decode cX7_between 29 = .ok (.iconst 2, 1) := by decide +kernel
theorem dX7_between_30 : decode cX7_between 30 = .ok (.invokestatic 44, 3) := by decide +kernel
theorem dX7_between_33 : decode cX7_between 33 = .ok (.ifCond .eq 13, 3) := by decide +kernel
theorem dX7_between_36 : decode cX7_between 36 = .ok (.aload_n 0, 1) := by decide +kernel
theorem dX7_between_37 : decode cX7_between 37 = .ok (.iload_n 1, 1) := by decide +kernel
theorem dX7_between_38 : decode cX7_between 38 = .ok (.iload_n 2, 1) := by decide +kernel
theorem dX7_between_39 : decode cX7_between 39 = .ok (.iload_n 3, 1) := by decide +kernel
theorem dX7_between_40 : decode cX7_between 40 = .ok (.invokevirtual 200, 3) := by decide +kernel
theorem dX7_between_43 : decode cX7_between 43 = .ok (.goto 8, 3) := by decide +kernel
theorem dX7_between_46 : decode cX7_between 46 = .ok (.aload_n 0, 1) := by decide +kernel
theorem dX7_between_47 : decode cX7_between 47 = .ok (.iconst 2, 1) := by decide +kernel
theorem dX7_between_48 : decode cX7_between 48 = .ok (.invokevirtual 55, 3) := by decide +kernel
theorem dX7_between_51 : decode cX7_between 51 = .ok (.ireturn, 1) := by decide +kernel
theorem dX7_sumOf_0 : decode cX7_sumOf 0 = .ok (.iconst 0, 1) := by decide +kernel
theorem dX7_sumOf_1 : decode cX7_sumOf 1 = .ok (.istore_n 2, 1) := by decide +kernel
theorem dX7_sumOf_2 : decode cX7_sumOf 2 = .ok (.iconst 0, 1) := by decide +kernel
theorem dX7_sumOf_3 : decode cX7_sumOf 3 = .ok (.istore_n 3, 1) := by decide +kernel
theorem dX7_sumOf_4 : decode cX7_sumOf 4 = .ok (.iload_n 3, 1) := by decide +kernel
theorem dX7_sumOf_5 : decode cX7_sumOf 5 = .ok (.aload_n 0, 1) := by decide +kernel
theorem dX7_sumOf_6 : decode cX7_sumOf 6 = .ok (.getfield 7, 3) := by decide +kernel
theorem dX7_sumOf_9 : decode cX7_sumOf 9 = .ok (.iconst 0, 1) := by decide +kernel
theorem dX7_sumOf_10 : decode cX7_sumOf 10 = .ok (.iaload, 1) := by decide +kernel
theorem dX7_sumOf_11 : decode cX7_sumOf 11 = .ok (.if_icmp .ge 18, 3) := by decide +kernel
theorem dX7_sumOf_14 : decode cX7_sumOf 14 = .ok (.iload_n 2, 1) := by decide +kernel
theorem dX7_sumOf_15 : decode cX7_sumOf 15 = .ok (.aload_n 0, 1) := by decide +kernel
theorem dX7_sumOf_16 : decode cX7_sumOf 16 = .ok (.iload_n 3, 1) := by decide +kernel
theorem dX7_sumOf_17 : decode cX7_sumOf 17 = .ok (.iload_n 1, 1) := by decide +kernel
theorem dX7_sumOf_18 : decode cX7_sumOf 18 = .ok (.invokevirtual 61, 3) := by decide +kernel
theorem dX7_sumOf_21 : decode cX7_sumOf 21 = .ok (.iadd, 1) := by decide +kernel
theorem dX7_sumOf_22 : decode cX7_sumOf 22 = .ok (.istore_n 2, 1) := by decide +kernel
theorem dX7_sumOf_23 : decode cX7_sumOf 23 = .ok (.iinc 3 1, 3) := by decide +kernel
theorem dX7_sumOf_26 : decode cX7_sumOf 26 = .ok (.goto (-22), 3) := by decide +kernel
theorem dX7_sumOf_29 : decode cX7_sumOf 29 = .ok (.iload_n 2, 1) := by decide +kernel
theorem dX7_sumOf_30 : decode cX7_sumOf 30 = .ok (.ireturn, 1) := by decide +kernel
theorem dX7_inStage_0 : decode cX7_inStage 0 = .ok (.iconst 0, 1) := by decide +kernel
theorem dX7_inStage_1 : decode cX7_inStage 1 = .ok (.istore_n 2, 1) := by decide +kernel
theorem dX7_inStage_2 : decode cX7_inStage 2 = .ok (.iconst 0, 1) := by decide +kernel
theorem dX7_inStage_3 : decode cX7_inStage 3 = .ok (.istore_n 3, 1) := by decide +kernel
theorem dX7_inStage_4 : decode cX7_inStage 4 = .ok (.iload_n 3, 1) := by decide +kernel
theorem dX7_inStage_5 : decode cX7_inStage 5 = .ok (.aload_n 0, 1) := by decide +kernel
theorem dX7_inStage_6 : decode cX7_inStage 6 = .ok (.getfield 7, 3) := by decide +kernel
theorem dX7_inStage_9 : decode cX7_inStage 9 = .ok (.iconst 1, 1) := by decide +kernel
theorem dX7_inStage_10 : decode cX7_inStage 10 = .ok (.iaload, 1) := by decide +kernel
theorem dX7_inStage_11 : decode cX7_inStage 11 = .ok (.if_icmp .ge 27, 3) := by decide +kernel
theorem dX7_inStage_14 : decode cX7_inStage 14 = .ok (.iload_n 2, 1) := by decide +kernel
theorem dX7_inStage_15 : decode cX7_inStage 15 = .ok (.aload_n 0, 1) := by decide +kernel
theorem dX7_inStage_16 : decode cX7_inStage 16 = .ok (.iload_n 3, 1) := by decide +kernel
theorem dX7_inStage_17 : decode cX7_inStage 17 = .ok (.iconst 2, 1) := by decide +kernel
theorem dX7_inStage_18 : decode cX7_inStage 18 = .ok (.invokevirtual 80, 3) := by decide +kernel
theorem dX7_inStage_21 : decode cX7_inStage 21 = .ok (.iload_n 1, 1) := by decide +kernel
theorem dX7_inStage_22 : decode cX7_inStage 22 = .ok (.if_icmp .ne 7, 3) := by decide +kernel
theorem dX7_inStage_25 : decode cX7_inStage 25 = .ok (.iconst 1, 1) := by decide +kernel
theorem dX7_inStage_26 : decode cX7_inStage 26 = .ok (.goto 4, 3) := by decide +kernel
theorem dX7_inStage_29 : decode cX7_inStage 29 = .ok (.iconst 0, 1) := by decide +kernel
theorem dX7_inStage_30 : decode cX7_inStage 30 = .ok (.iadd, 1) := by decide +kernel
theorem dX7_inStage_31 : decode cX7_inStage 31 = .ok (.istore_n 2, 1) := by decide +kernel
theorem dX7_inStage_32 : decode cX7_inStage 32 = .ok (.iinc 3 1, 3) := by decide +kernel
theorem dX7_inStage_35 : decode cX7_inStage 35 = .ok (.goto (-31), 3) := by decide +kernel
theorem dX7_inStage_38 : decode cX7_inStage 38 = .ok (.iload_n 2, 1) := by decide +kernel
theorem dX7_inStage_39 : decode cX7_inStage 39 = .ok (.ireturn, 1) := by decide +kernel
theorem dX7_soldOnes_0 : decode cX7_soldOnes 0 = .ok (.iconst 0, 1) := by decide +kernel
theorem dX7_soldOnes_1 : decode cX7_soldOnes 1 = .ok (.istore_n 1, 1) := by decide +kernel
theorem dX7_soldOnes_2 : decode cX7_soldOnes 2 = .ok (.iconst 0, 1) := by decide +kernel
theorem dX7_soldOnes_3 : decode cX7_soldOnes 3 = .ok (.istore_n 2, 1) := by decide +kernel
theorem dX7_soldOnes_4 : decode cX7_soldOnes 4 = .ok (.iload_n 2, 1) := by decide +kernel
theorem dX7_soldOnes_5 : decode cX7_soldOnes 5 = .ok (.aload_n 0, 1) := by decide +kernel
theorem dX7_soldOnes_6 : decode cX7_soldOnes 6 = .ok (.getfield 7, 3) := by decide +kernel
theorem dX7_soldOnes_9 : decode cX7_soldOnes 9 = .ok (.iconst 0, 1) := by decide +kernel
theorem dX7_soldOnes_10 : decode cX7_soldOnes 10 = .ok (.iaload, 1) := by decide +kernel
theorem dX7_soldOnes_11 : decode cX7_soldOnes 11 = .ok (.if_icmp .ge 27, 3) := by decide +kernel
theorem dX7_soldOnes_14 : decode cX7_soldOnes 14 = .ok (.iload_n 1, 1) := by decide +kernel
theorem dX7_soldOnes_15 : decode cX7_soldOnes 15 = .ok (.aload_n 0, 1) := by decide +kernel
theorem dX7_soldOnes_16 : decode cX7_soldOnes 16 = .ok (.iload_n 2, 1) := by decide +kernel
theorem dX7_soldOnes_17 : decode cX7_soldOnes 17 = .ok (.iconst 3, 1) := by decide +kernel
theorem dX7_soldOnes_18 : decode cX7_soldOnes 18 = .ok (.invokevirtual 61, 3) := by decide +kernel
theorem dX7_soldOnes_21 : decode cX7_soldOnes 21 = .ok (.iload_n 2, 1) := by decide +kernel
theorem dX7_soldOnes_22 : decode cX7_soldOnes 22 = .ok (.if_icmp .ne 7, 3) := by decide +kernel
theorem dX7_soldOnes_25 : decode cX7_soldOnes 25 = .ok (.iconst 0, 1) := by decide +kernel
theorem dX7_soldOnes_26 : decode cX7_soldOnes 26 = .ok (.goto 4, 3) := by decide +kernel
theorem dX7_soldOnes_29 : decode cX7_soldOnes 29 = .ok (.iconst 1, 1) := by decide +kernel
theorem dX7_soldOnes_30 : decode cX7_soldOnes 30 = .ok (.iadd, 1) := by decide +kernel
theorem dX7_soldOnes_31 : decode cX7_soldOnes 31 = .ok (.istore_n 1, 1) := by decide +kernel
theorem dX7_soldOnes_32 : decode cX7_soldOnes 32 = .ok (.iinc 2 1, 3) := by decide +kernel
theorem dX7_soldOnes_35 : decode cX7_soldOnes 35 = .ok (.goto (-31), 3) := by decide +kernel
theorem dX7_soldOnes_38 : decode cX7_soldOnes 38 = .ok (.iload_n 1, 1) := by decide +kernel
theorem dX7_soldOnes_39 : decode cX7_soldOnes 39 = .ok (.ireturn, 1) := by decide +kernel
theorem dX7_counted_0 : decode cX7_counted 0 = .ok (.iload_n 1, 1) := by decide +kernel
theorem dX7_counted_1 : decode cX7_counted 1 = .ok (.tableswitch 154 0 12 #[67, 74, 81, 88, 95, 102, 108, 114, 121, 127, 133, 141, 146], 67) := by decide +kernel
theorem dX7_counted_68 : decode cX7_counted 68 = .ok (.aload_n 0, 1) := by decide +kernel
theorem dX7_counted_69 : decode cX7_counted 69 = .ok (.getfield 7, 3) := by decide +kernel
theorem dX7_counted_72 : decode cX7_counted 72 = .ok (.iconst 0, 1) := by decide +kernel
theorem dX7_counted_73 : decode cX7_counted 73 = .ok (.iaload, 1) := by decide +kernel
theorem dX7_counted_74 : decode cX7_counted 74 = .ok (.ireturn, 1) := by decide +kernel
theorem dX7_counted_75 : decode cX7_counted 75 = .ok (.aload_n 0, 1) := by decide +kernel
theorem dX7_counted_76 : decode cX7_counted 76 = .ok (.getfield 7, 3) := by decide +kernel
theorem dX7_counted_79 : decode cX7_counted 79 = .ok (.iconst 1, 1) := by decide +kernel
theorem dX7_counted_80 : decode cX7_counted 80 = .ok (.iaload, 1) := by decide +kernel
theorem dX7_counted_81 : decode cX7_counted 81 = .ok (.ireturn, 1) := by decide +kernel
theorem dX7_counted_82 : decode cX7_counted 82 = .ok (.aload_n 0, 1) := by decide +kernel
theorem dX7_counted_83 : decode cX7_counted 83 = .ok (.getfield 7, 3) := by decide +kernel
theorem dX7_counted_86 : decode cX7_counted 86 = .ok (.iconst 2, 1) := by decide +kernel
theorem dX7_counted_87 : decode cX7_counted 87 = .ok (.iaload, 1) := by decide +kernel
theorem dX7_counted_88 : decode cX7_counted 88 = .ok (.ireturn, 1) := by decide +kernel
theorem dX7_counted_89 : decode cX7_counted 89 = .ok (.aload_n 0, 1) := by decide +kernel
theorem dX7_counted_90 : decode cX7_counted 90 = .ok (.getfield 7, 3) := by decide +kernel
theorem dX7_counted_93 : decode cX7_counted 93 = .ok (.iconst 3, 1) := by decide +kernel
theorem dX7_counted_94 : decode cX7_counted 94 = .ok (.iaload, 1) := by decide +kernel
theorem dX7_counted_95 : decode cX7_counted 95 = .ok (.ireturn, 1) := by decide +kernel
theorem dX7_counted_96 : decode cX7_counted 96 = .ok (.aload_n 0, 1) := by decide +kernel
theorem dX7_counted_97 : decode cX7_counted 97 = .ok (.getfield 7, 3) := by decide +kernel
theorem dX7_counted_100 : decode cX7_counted 100 = .ok (.iconst 4, 1) := by decide +kernel
theorem dX7_counted_101 : decode cX7_counted 101 = .ok (.iaload, 1) := by decide +kernel
theorem dX7_counted_102 : decode cX7_counted 102 = .ok (.ireturn, 1) := by decide +kernel
theorem dX7_counted_103 : decode cX7_counted 103 = .ok (.aload_n 0, 1) := by decide +kernel
theorem dX7_counted_104 : decode cX7_counted 104 = .ok (.iconst 0, 1) := by decide +kernel
theorem dX7_counted_105 : decode cX7_counted 105 = .ok (.invokevirtual 203, 3) := by decide +kernel
theorem dX7_counted_108 : decode cX7_counted 108 = .ok (.ireturn, 1) := by decide +kernel
theorem dX7_counted_109 : decode cX7_counted 109 = .ok (.aload_n 0, 1) := by decide +kernel
theorem dX7_counted_110 : decode cX7_counted 110 = .ok (.iconst 1, 1) := by decide +kernel
theorem dX7_counted_111 : decode cX7_counted 111 = .ok (.invokevirtual 203, 3) := by decide +kernel
theorem dX7_counted_114 : decode cX7_counted 114 = .ok (.ireturn, 1) := by decide +kernel
theorem dX7_counted_115 : decode cX7_counted 115 = .ok (.aload_n 0, 1) := by decide +kernel
theorem dX7_counted_116 : decode cX7_counted 116 = .ok (.getfield 7, 3) := by decide +kernel
theorem dX7_counted_119 : decode cX7_counted 119 = .ok (.iconst 5, 1) := by decide +kernel
theorem dX7_counted_120 : decode cX7_counted 120 = .ok (.iaload, 1) := by decide +kernel
theorem dX7_counted_121 : decode cX7_counted 121 = .ok (.ireturn, 1) := by decide +kernel
theorem dX7_counted_122 : decode cX7_counted 122 = .ok (.aload_n 0, 1) := by decide +kernel
theorem dX7_counted_123 : decode cX7_counted 123 = .ok (.iconst 3, 1) := by decide +kernel
theorem dX7_counted_124 : decode cX7_counted 124 = .ok (.invokevirtual 206, 3) := by decide +kernel
theorem dX7_counted_127 : decode cX7_counted 127 = .ok (.ireturn, 1) := by decide +kernel
theorem dX7_counted_128 : decode cX7_counted 128 = .ok (.aload_n 0, 1) := by decide +kernel
theorem dX7_counted_129 : decode cX7_counted 129 = .ok (.iconst 4, 1) := by decide +kernel
theorem dX7_counted_130 : decode cX7_counted 130 = .ok (.invokevirtual 206, 3) := by decide +kernel
theorem dX7_counted_133 : decode cX7_counted 133 = .ok (.ireturn, 1) := by decide +kernel
theorem dX7_counted_134 : decode cX7_counted 134 = .ok (.aload_n 0, 1) := by decide +kernel
theorem dX7_counted_135 : decode cX7_counted 135 = .ok (.getfield 7, 3) := by decide +kernel
theorem dX7_counted_138 : decode cX7_counted 138 = .ok (.bipush 6, 2) := by decide +kernel
theorem dX7_counted_140 : decode cX7_counted 140 = .ok (.iaload, 1) := by decide +kernel
theorem dX7_counted_141 : decode cX7_counted 141 = .ok (.ireturn, 1) := by decide +kernel
theorem dX7_counted_142 : decode cX7_counted 142 = .ok (.aload_n 0, 1) := by decide +kernel
theorem dX7_counted_143 : decode cX7_counted 143 = .ok (.invokevirtual 209, 3) := by decide +kernel
theorem dX7_counted_146 : decode cX7_counted 146 = .ok (.ireturn, 1) := by decide +kernel
theorem dX7_counted_147 : decode cX7_counted 147 = .ok (.aload_n 0, 1) := by decide +kernel
theorem dX7_counted_148 : decode cX7_counted 148 = .ok (.getfield 7, 3) := by decide +kernel
theorem dX7_counted_151 : decode cX7_counted 151 = .ok (.bipush 7, 2) := by decide +kernel
theorem dX7_counted_153 : decode cX7_counted 153 = .ok (.iaload, 1) := by decide +kernel
theorem dX7_counted_154 : decode cX7_counted 154 = .ok (.ireturn, 1) := by decide +kernel
theorem dX7_counted_155 : decode cX7_counted 155 = .ok (.aload_n 0, 1) := by decide +kernel
theorem dX7_counted_156 : decode cX7_counted 156 = .ok (.getfield 48, 3) := by decide +kernel
theorem dX7_counted_159 : decode cX7_counted 159 = .ok (.ireturn, 1) := by decide +kernel
theorem dX7_count_0 : decode cX7_count 0 = .ok (.aload_n 0, 1) := by decide +kernel
theorem dX7_count_1 : decode cX7_count 1 = .ok (.iconst 0, 1) := by decide +kernel
theorem dX7_count_2 : decode cX7_count 2 = .ok (.putfield 40, 3) := by decide +kernel
theorem dX7_count_5 : decode cX7_count 5 = .ok (.iload_n 1, 1) := by decide +kernel
theorem dX7_count_6 : decode cX7_count 6 = .ok (.iconst 0, 1) := by decide +kernel
theorem dX7_count_7 : decode cX7_count 7 = .ok (.bipush 13, 2) := by decide +kernel
theorem dX7_count_9 : decode cX7_count 9 = .ok (.invokestatic 44, 3) := by decide +kernel
theorem dX7_count_12 : decode cX7_count 12 = .ok (.ifCond .eq 11, 3) := by decide +kernel
theorem dX7_count_15 : decode cX7_count 15 = .ok (.aload_n 0, 1) := by decide +kernel
theorem dX7_count_16 : decode cX7_count 16 = .ok (.iload_n 1, 1) := by decide +kernel
theorem dX7_count_17 : decode cX7_count 17 = .ok (.invokevirtual 212, 3) := by decide +kernel
theorem dX7_count_20 : decode cX7_count 20 = .ok (.goto 8, 3) := by decide +kernel
theorem dX7_count_23 : decode cX7_count 23 = .ok (.aload_n 0, 1) := by decide +kernel
theorem dX7_count_24 : decode cX7_count 24 = .ok (.iconst 1, 1) := by decide +kernel
theorem dX7_count_25 : decode cX7_count 25 = .ok (.invokevirtual 55, 3) := by decide +kernel
theorem dX7_count_28 : decode cX7_count 28 = .ok (.ireturn, 1) := by decide +kernel
theorem dX7_setting_0 : decode cX7_setting 0 = .ok (.aload_n 0, 1) := by decide +kernel
theorem dX7_setting_1 : decode cX7_setting 1 = .ok (.iconst 0, 1) := by decide +kernel
theorem dX7_setting_2 : decode cX7_setting 2 = .ok (.putfield 40, 3) := by decide +kernel
theorem dX7_setting_5 : decode cX7_setting 5 = .ok (.iload_n 1, 1) := by decide +kernel
theorem dX7_setting_6 : decode cX7_setting 6 = .ok (.iconst 0, 1) := by decide +kernel
theorem dX7_setting_7 : decode cX7_setting 7 = .ok (.iconst 5, 1) := by decide +kernel
theorem dX7_setting_8 : decode cX7_setting 8 = .ok (.invokestatic 44, 3) := by decide +kernel
theorem dX7_setting_11 : decode cX7_setting 11 = .ok (.ifCond .eq 15, 3) := by decide +kernel
theorem dX7_setting_14 : decode cX7_setting 14 = .ok (.aload_n 0, 1) := by decide +kernel
theorem dX7_setting_15 : decode cX7_setting 15 = .ok (.getfield 7, 3) := by decide +kernel
theorem dX7_setting_18 : decode cX7_setting 18 = .ok (.bipush 8, 2) := by decide +kernel
theorem dX7_setting_20 : decode cX7_setting 20 = .ok (.iload_n 1, 1) := by decide +kernel
theorem dX7_setting_21 : decode cX7_setting 21 = .ok (.iadd, 1) := by decide +kernel
theorem dX7_setting_22 : decode cX7_setting 22 = .ok (.iaload, 1) := by decide +kernel
theorem dX7_setting_23 : decode cX7_setting 23 = .ok (.goto 8, 3) := by decide +kernel
theorem dX7_setting_26 : decode cX7_setting 26 = .ok (.aload_n 0, 1) := by decide +kernel
theorem dX7_setting_27 : decode cX7_setting 27 = .ok (.iconst 1, 1) := by decide +kernel
theorem dX7_setting_28 : decode cX7_setting 28 = .ok (.invokevirtual 55, 3) := by decide +kernel
theorem dX7_setting_31 : decode cX7_setting 31 = .ok (.ireturn, 1) := by decide +kernel
theorem dX7_paidNow_0 : decode cX7_paidNow 0 = .ok (.aload_n 0, 1) := by decide +kernel
theorem dX7_paidNow_1 : decode cX7_paidNow 1 = .ok (.invokevirtual 215, 3) := by decide +kernel
theorem dX7_paidNow_4 : decode cX7_paidNow 4 = .ok (.aload_n 0, 1) := by decide +kernel
theorem dX7_paidNow_5 : decode cX7_paidNow 5 = .ok (.iload_n 1, 1) := by decide +kernel
theorem dX7_paidNow_6 : decode cX7_paidNow 6 = .ok (.iload_n 2, 1) := by decide +kernel
theorem dX7_paidNow_7 : decode cX7_paidNow 7 = .ok (.iconst 1, 1) := by decide +kernel
theorem dX7_paidNow_8 : decode cX7_paidNow 8 = .ok (.invokevirtual 156, 3) := by decide +kernel
theorem dX7_paidNow_11 : decode cX7_paidNow 11 = .ok (.aload_n 0, 1) := by decide +kernel
theorem dX7_paidNow_12 : decode cX7_paidNow 12 = .ok (.iload_n 3, 1) := by decide +kernel
theorem dX7_paidNow_13 : decode cX7_paidNow 13 = .ok (.iconst 0, 1) := by decide +kernel
theorem dX7_paidNow_14 : decode cX7_paidNow 14 = .ok (.invokevirtual 61, 3) := by decide +kernel
theorem dX7_paidNow_17 : decode cX7_paidNow 17 = .ok (.istore 4, 2) := by decide +kernel
theorem dX7_paidNow_19 : decode cX7_paidNow 19 = .ok (.aload_n 0, 1) := by decide +kernel
theorem dX7_paidNow_20 : decode cX7_paidNow 20 = .ok (.invokevirtual 218, 3) := by decide +kernel
theorem dX7_paidNow_23 : decode cX7_paidNow 23 = .ok (.iload 4, 2) := by decide +kernel
theorem dX7_paidNow_25 : decode cX7_paidNow 25 = .ok (.aload_n 0, 1) := by decide +kernel
theorem dX7_paidNow_26 : decode cX7_paidNow 26 = .ok (.iload_n 3, 1) := by decide +kernel
theorem dX7_paidNow_27 : decode cX7_paidNow 27 = .ok (.iconst 0, 1) := by decide +kernel
theorem dX7_paidNow_28 : decode cX7_paidNow 28 = .ok (.invokevirtual 61, 3) := by decide +kernel
theorem dX7_paidNow_31 : decode cX7_paidNow 31 = .ok (.isub, 1) := by decide +kernel
theorem dX7_paidNow_32 : decode cX7_paidNow 32 = .ok (.ireturn, 1) := by decide +kernel
theorem dX7_ifPaid_0 : decode cX7_ifPaid 0 = .ok (.aload_n 0, 1) := by decide +kernel
theorem dX7_ifPaid_1 : decode cX7_ifPaid 1 = .ok (.iconst 0, 1) := by decide +kernel
theorem dX7_ifPaid_2 : decode cX7_ifPaid 2 = .ok (.putfield 40, 3) := by decide +kernel
theorem dX7_ifPaid_5 : decode cX7_ifPaid 5 = .ok (.aload_n 0, 1) := by decide +kernel
theorem dX7_ifPaid_6 : decode cX7_ifPaid 6 = .ok (.iload_n 1, 1) := by decide +kernel
theorem dX7_ifPaid_7 : decode cX7_ifPaid 7 = .ok (.invokevirtual 77, 3) := by decide +kernel
theorem dX7_ifPaid_10 : decode cX7_ifPaid 10 = .ok (.ifCond .eq 11, 3) := by decide +kernel
theorem dX7_ifPaid_13 : decode cX7_ifPaid 13 = .ok (.aload_n 0, 1) := by decide +kernel
theorem dX7_ifPaid_14 : decode cX7_ifPaid 14 = .ok (.iload_n 3, 1) := by decide +kernel
theorem dX7_ifPaid_15 : decode cX7_ifPaid 15 = .ok (.invokevirtual 65, 3) := by decide +kernel
theorem dX7_ifPaid_18 : decode cX7_ifPaid 18 = .ok (.ifCond .ne 9, 3) := by decide +kernel
theorem dX7_ifPaid_21 : decode cX7_ifPaid 21 = .ok (.aload_n 0, 1) := by decide +kernel
theorem dX7_ifPaid_22 : decode cX7_ifPaid 22 = .ok (.iconst 1, 1) := by decide +kernel
theorem dX7_ifPaid_23 : decode cX7_ifPaid 23 = .ok (.invokevirtual 55, 3) := by decide +kernel
theorem dX7_ifPaid_26 : decode cX7_ifPaid 26 = .ok (.ireturn, 1) := by decide +kernel
theorem dX7_ifPaid_27 : decode cX7_ifPaid 27 = .ok (.iload_n 2, 1) := by decide +kernel
theorem dX7_ifPaid_28 : decode cX7_ifPaid 28 = .ok (.iconst 1, 1) := by decide +kernel
theorem dX7_ifPaid_29 : decode cX7_ifPaid 29 = .ok (.ldc 69, 2) := by decide +kernel
theorem dX7_ifPaid_31 : decode cX7_ifPaid 31 = .ok (.invokestatic 44, 3) := by decide +kernel
theorem dX7_ifPaid_34 : decode cX7_ifPaid 34 = .ok (.ifCond .ne 9, 3) := by decide +kernel
theorem dX7_ifPaid_37 : decode cX7_ifPaid 37 = .ok (.aload_n 0, 1) := by decide +kernel
theorem dX7_ifPaid_38 : decode cX7_ifPaid 38 = .ok (.iconst 2, 1) := by decide +kernel
theorem dX7_ifPaid_39 : decode cX7_ifPaid 39 = .ok (.invokevirtual 55, 3) := by decide +kernel
theorem dX7_ifPaid_42 : decode cX7_ifPaid 42 = .ok (.ireturn, 1) := by decide +kernel
theorem dX7_ifPaid_43 : decode cX7_ifPaid 43 = .ok (.aload_n 0, 1) := by decide +kernel
theorem dX7_ifPaid_44 : decode cX7_ifPaid 44 = .ok (.iload_n 1, 1) := by decide +kernel
theorem dX7_ifPaid_45 : decode cX7_ifPaid 45 = .ok (.iconst 2, 1) := by decide +kernel
theorem dX7_ifPaid_46 : decode cX7_ifPaid 46 = .ok (.invokevirtual 80, 3) := by decide +kernel
theorem dX7_ifPaid_49 : decode cX7_ifPaid 49 = .ok (.iconst 3, 1) := by decide +kernel
theorem dX7_ifPaid_50 : decode cX7_ifPaid 50 = .ok (.if_icmp .ne 13, 3) := by decide +kernel
theorem dX7_ifPaid_53 : decode cX7_ifPaid 53 = .ok (.aload_n 0, 1) := by decide +kernel
theorem dX7_ifPaid_54 : decode cX7_ifPaid 54 = .ok (.iload_n 1, 1) := by decide +kernel
theorem dX7_ifPaid_55 : decode cX7_ifPaid 55 = .ok (.iload_n 2, 1) := by decide +kernel
theorem dX7_ifPaid_56 : decode cX7_ifPaid 56 = .ok (.iload_n 3, 1) := by decide +kernel
theorem dX7_ifPaid_57 : decode cX7_ifPaid 57 = .ok (.invokevirtual 221, 3) := by decide +kernel
theorem dX7_ifPaid_60 : decode cX7_ifPaid 60 = .ok (.goto 8, 3) := by decide +kernel
theorem dX7_ifPaid_63 : decode cX7_ifPaid 63 = .ok (.aload_n 0, 1) := by decide +kernel
theorem dX7_ifPaid_64 : decode cX7_ifPaid 64 = .ok (.iconst 3, 1) := by decide +kernel
theorem dX7_ifPaid_65 : decode cX7_ifPaid 65 = .ok (.invokevirtual 55, 3) := by decide +kernel
theorem dX7_ifPaid_68 : decode cX7_ifPaid 68 = .ok (.ireturn, 1) := by decide +kernel
theorem dX7_writersDrafts_0 : decode cX7_writersDrafts 0 = .ok (.iconst 0, 1) := by decide +kernel
theorem dX7_writersDrafts_1 : decode cX7_writersDrafts 1 = .ok (.istore_n 2, 1) := by decide +kernel
theorem dX7_writersDrafts_2 : decode cX7_writersDrafts 2 = .ok (.iconst 0, 1) := by decide +kernel
theorem dX7_writersDrafts_3 : decode cX7_writersDrafts 3 = .ok (.istore_n 3, 1) := by decide +kernel
theorem dX7_writersDrafts_4 : decode cX7_writersDrafts 4 = .ok (.iload_n 3, 1) := by decide +kernel
theorem dX7_writersDrafts_5 : decode cX7_writersDrafts 5 = .ok (.aload_n 0, 1) := by decide +kernel
theorem dX7_writersDrafts_6 : decode cX7_writersDrafts 6 = .ok (.getfield 166, 3) := by decide +kernel
theorem dX7_writersDrafts_9 : decode cX7_writersDrafts 9 = .ok (.if_icmp .ge 23, 3) := by decide +kernel
theorem dX7_writersDrafts_12 : decode cX7_writersDrafts 12 = .ok (.iload_n 2, 1) := by decide +kernel
theorem dX7_writersDrafts_13 : decode cX7_writersDrafts 13 = .ok (.aload_n 0, 1) := by decide +kernel
theorem dX7_writersDrafts_14 : decode cX7_writersDrafts 14 = .ok (.iload_n 1, 1) := by decide +kernel
theorem dX7_writersDrafts_15 : decode cX7_writersDrafts 15 = .ok (.aload_n 0, 1) := by decide +kernel
theorem dX7_writersDrafts_16 : decode cX7_writersDrafts 16 = .ok (.getfield 31, 3) := by decide +kernel
theorem dX7_writersDrafts_19 : decode cX7_writersDrafts 19 = .ok (.iload_n 3, 1) := by decide +kernel
theorem dX7_writersDrafts_20 : decode cX7_writersDrafts 20 = .ok (.iaload, 1) := by decide +kernel
theorem dX7_writersDrafts_21 : decode cX7_writersDrafts 21 = .ok (.invokevirtual 163, 3) := by decide +kernel
theorem dX7_writersDrafts_24 : decode cX7_writersDrafts 24 = .ok (.iadd, 1) := by decide +kernel
theorem dX7_writersDrafts_25 : decode cX7_writersDrafts 25 = .ok (.istore_n 2, 1) := by decide +kernel
theorem dX7_writersDrafts_26 : decode cX7_writersDrafts 26 = .ok (.iinc 3 1, 3) := by decide +kernel
theorem dX7_writersDrafts_29 : decode cX7_writersDrafts 29 = .ok (.goto (-25), 3) := by decide +kernel
theorem dX7_writersDrafts_32 : decode cX7_writersDrafts 32 = .ok (.iload_n 2, 1) := by decide +kernel
theorem dX7_writersDrafts_33 : decode cX7_writersDrafts 33 = .ok (.ireturn, 1) := by decide +kernel
theorem dX7_layParts_0 : decode cX7_layParts 0 = .ok (.iload_n 1, 1) := by decide +kernel
theorem dX7_layParts_1 : decode cX7_layParts 1 = .ok (.istore_n 2, 1) := by decide +kernel
theorem dX7_layParts_2 : decode cX7_layParts 2 = .ok (.iconst 0, 1) := by decide +kernel
theorem dX7_layParts_3 : decode cX7_layParts 3 = .ok (.istore_n 3, 1) := by decide +kernel
theorem dX7_layParts_4 : decode cX7_layParts 4 = .ok (.aload_n 0, 1) := by decide +kernel
theorem dX7_layParts_5 : decode cX7_layParts 5 = .ok (.getfield 166, 3) := by decide +kernel
theorem dX7_layParts_8 : decode cX7_layParts 8 = .ok (.iconst 1, 1) := by decide +kernel
theorem dX7_layParts_9 : decode cX7_layParts 9 = .ok (.isub, 1) := by decide +kernel
theorem dX7_layParts_10 : decode cX7_layParts 10 = .ok (.istore 4, 2) := by decide +kernel
theorem dX7_layParts_12 : decode cX7_layParts 12 = .ok (.iload 4, 2) := by decide +kernel
theorem dX7_layParts_14 : decode cX7_layParts 14 = .ok (.ifCond .lt 35, 3) := by decide +kernel
theorem dX7_layParts_17 : decode cX7_layParts 17 = .ok (.aload_n 0, 1) := by decide +kernel
theorem dX7_layParts_18 : decode cX7_layParts 18 = .ok (.getfield 37, 3) := by decide +kernel
theorem dX7_layParts_21 : decode cX7_layParts 21 = .ok (.iload 4, 2) := by decide +kernel
theorem dX7_layParts_23 : decode cX7_layParts 23 = .ok (.iconst 1, 1) := by decide +kernel
theorem dX7_layParts_24 : decode cX7_layParts 24 = .ok (.iload_n 2, 1) := by decide +kernel
theorem dX7_layParts_25 : decode cX7_layParts 25 = .ok (.iconst 4, 1) := by decide +kernel
theorem dX7_layParts_26 : decode cX7_layParts 26 = .ok (.irem, 1) := by decide +kernel
theorem dX7_layParts_27 : decode cX7_layParts 27 = .ok (.iadd, 1) := by decide +kernel
theorem dX7_layParts_28 : decode cX7_layParts 28 = .ok (.iastore, 1) := by decide +kernel
theorem dX7_layParts_29 : decode cX7_layParts 29 = .ok (.iload_n 2, 1) := by decide +kernel
theorem dX7_layParts_30 : decode cX7_layParts 30 = .ok (.iconst 4, 1) := by decide +kernel
theorem dX7_layParts_31 : decode cX7_layParts 31 = .ok (.idiv, 1) := by decide +kernel
theorem dX7_layParts_32 : decode cX7_layParts 32 = .ok (.istore_n 2, 1) := by decide +kernel
theorem dX7_layParts_33 : decode cX7_layParts 33 = .ok (.iload_n 3, 1) := by decide +kernel
theorem dX7_layParts_34 : decode cX7_layParts 34 = .ok (.aload_n 0, 1) := by decide +kernel
theorem dX7_layParts_35 : decode cX7_layParts 35 = .ok (.getfield 37, 3) := by decide +kernel
theorem dX7_layParts_38 : decode cX7_layParts 38 = .ok (.iload 4, 2) := by decide +kernel
theorem dX7_layParts_40 : decode cX7_layParts 40 = .ok (.iaload, 1) := by decide +kernel
theorem dX7_layParts_41 : decode cX7_layParts 41 = .ok (.iadd, 1) := by decide +kernel
theorem dX7_layParts_42 : decode cX7_layParts 42 = .ok (.istore_n 3, 1) := by decide +kernel
theorem dX7_layParts_43 : decode cX7_layParts 43 = .ok (.iinc 4 (-1), 3) := by decide +kernel
theorem dX7_layParts_46 : decode cX7_layParts 46 = .ok (.goto (-34), 3) := by decide +kernel
theorem dX7_layParts_49 : decode cX7_layParts 49 = .ok (.iload_n 3, 1) := by decide +kernel
theorem dX7_layParts_50 : decode cX7_layParts 50 = .ok (.ireturn, 1) := by decide +kernel
theorem dX7_unfair_0 : decode cX7_unfair 0 = .ok (.iconst 0, 1) := by decide +kernel
theorem dX7_unfair_1 : decode cX7_unfair 1 = .ok (.istore 4, 2) := by decide +kernel
theorem dX7_unfair_3 : decode cX7_unfair 3 = .ok (.iconst 0, 1) := by decide +kernel
theorem dX7_unfair_4 : decode cX7_unfair 4 = .ok (.istore 5, 2) := by decide +kernel
theorem dX7_unfair_6 : decode cX7_unfair 6 = .ok (.iload 5, 2) := by decide +kernel
theorem dX7_unfair_8 : decode cX7_unfair 8 = .ok (.aload_n 0, 1) := by decide +kernel
theorem dX7_unfair_9 : decode cX7_unfair 9 = .ok (.getfield 166, 3) := by decide +kernel
theorem dX7_unfair_12 : decode cX7_unfair 12 = .ok (.if_icmp .ge 66, 3) := by decide +kernel
theorem dX7_unfair_15 : decode cX7_unfair 15 = .ok (.aload_n 0, 1) := by decide +kernel
theorem dX7_unfair_16 : decode cX7_unfair 16 = .ok (.getfield 37, 3) := by decide +kernel
theorem dX7_unfair_19 : decode cX7_unfair 19 = .ok (.iload 5, 2) := by decide +kernel
theorem dX7_unfair_21 : decode cX7_unfair 21 = .ok (.iaload, 1) := by decide +kernel
theorem dX7_unfair_22 : decode cX7_unfair 22 = .ok (.iload_n 3, 1) := by decide +kernel
theorem dX7_unfair_23 : decode cX7_unfair 23 = .ok (.imul, 1) := by decide +kernel
theorem dX7_unfair_24 : decode cX7_unfair 24 = .ok (.aload_n 0, 1) := by decide +kernel
theorem dX7_unfair_25 : decode cX7_unfair 25 = .ok (.iload_n 1, 1) := by decide +kernel
theorem dX7_unfair_26 : decode cX7_unfair 26 = .ok (.aload_n 0, 1) := by decide +kernel
theorem dX7_unfair_27 : decode cX7_unfair 27 = .ok (.getfield 31, 3) := by decide +kernel
theorem dX7_unfair_30 : decode cX7_unfair 30 = .ok (.iload 5, 2) := by decide +kernel
theorem dX7_unfair_32 : decode cX7_unfair 32 = .ok (.iaload, 1) := by decide +kernel
theorem dX7_unfair_33 : decode cX7_unfair 33 = .ok (.invokevirtual 163, 3) := by decide +kernel
theorem dX7_unfair_36 : decode cX7_unfair 36 = .ok (.iload_n 2, 1) := by decide +kernel
theorem dX7_unfair_37 : decode cX7_unfair 37 = .ok (.imul, 1) := by decide +kernel
theorem dX7_unfair_38 : decode cX7_unfair 38 = .ok (.isub, 1) := by decide +kernel
theorem dX7_unfair_39 : decode cX7_unfair 39 = .ok (.istore 6, 2) := by decide +kernel
theorem dX7_unfair_41 : decode cX7_unfair 41 = .ok (.iload 6, 2) := by decide +kernel
theorem dX7_unfair_43 : decode cX7_unfair 43 = .ok (.ifCond .ge 9, 3) := by decide +kernel
theorem dX7_unfair_46 : decode cX7_unfair 46 = .ok (.iload 6, 2) := by decide +kernel
theorem dX7_unfair_48 : decode cX7_unfair 48 = .ok (.ineg, 1) := by decide +kernel
theorem dX7_unfair_49 : decode cX7_unfair 49 = .ok (.goto 5, 3) := by decide +kernel
theorem dX7_unfair_52 : decode cX7_unfair 52 = .ok (.iload 6, 2) := by decide +kernel
theorem dX7_unfair_54 : decode cX7_unfair 54 = .ok (.istore 6, 2) := by decide +kernel
theorem dX7_unfair_56 : decode cX7_unfair 56 = .ok (.iload 6, 2) := by decide +kernel
theorem dX7_unfair_58 : decode cX7_unfair 58 = .ok (.iload 4, 2) := by decide +kernel
theorem dX7_unfair_60 : decode cX7_unfair 60 = .ok (.if_icmp .le 8, 3) := by decide +kernel
theorem dX7_unfair_63 : decode cX7_unfair 63 = .ok (.iload 6, 2) := by decide +kernel
theorem dX7_unfair_65 : decode cX7_unfair 65 = .ok (.goto 5, 3) := by decide +kernel
theorem dX7_unfair_68 : decode cX7_unfair 68 = .ok (.iload 4, 2) := by decide +kernel
theorem dX7_unfair_70 : decode cX7_unfair 70 = .ok (.istore 4, 2) := by decide +kernel
theorem dX7_unfair_72 : decode cX7_unfair 72 = .ok (.iinc 5 1, 3) := by decide +kernel
theorem dX7_unfair_75 : decode cX7_unfair 75 = .ok (.goto (-69), 3) := by decide +kernel
theorem dX7_unfair_78 : decode cX7_unfair 78 = .ok (.iload 4, 2) := by decide +kernel
theorem dX7_unfair_80 : decode cX7_unfair 80 = .ok (.ireturn, 1) := by decide +kernel
theorem dX7_layFairest_0 : decode cX7_layFairest 0 = .ok (.aload_n 0, 1) := by decide +kernel
theorem dX7_layFairest_1 : decode cX7_layFairest 1 = .ok (.iload_n 1, 1) := by decide +kernel
theorem dX7_layFairest_2 : decode cX7_layFairest 2 = .ok (.invokevirtual 176, 3) := by decide +kernel
theorem dX7_layFairest_5 : decode cX7_layFairest 5 = .ok (.aload_n 0, 1) := by decide +kernel
theorem dX7_layFairest_6 : decode cX7_layFairest 6 = .ok (.iload_n 1, 1) := by decide +kernel
theorem dX7_layFairest_7 : decode cX7_layFairest 7 = .ok (.invokevirtual 224, 3) := by decide +kernel
theorem dX7_layFairest_10 : decode cX7_layFairest 10 = .ok (.istore_n 2, 1) := by decide +kernel
theorem dX7_layFairest_11 : decode cX7_layFairest 11 = .ok (.iconst 1, 1) := by decide +kernel
theorem dX7_layFairest_12 : decode cX7_layFairest 12 = .ok (.istore_n 3, 1) := by decide +kernel
theorem dX7_layFairest_13 : decode cX7_layFairest 13 = .ok (.iconst 0, 1) := by decide +kernel
theorem dX7_layFairest_14 : decode cX7_layFairest 14 = .ok (.istore 4, 2) := by decide +kernel
theorem dX7_layFairest_16 : decode cX7_layFairest 16 = .ok (.iload 4, 2) := by decide +kernel
theorem dX7_layFairest_18 : decode cX7_layFairest 18 = .ok (.aload_n 0, 1) := by decide +kernel
theorem dX7_layFairest_19 : decode cX7_layFairest 19 = .ok (.getfield 166, 3) := by decide +kernel
theorem dX7_layFairest_22 : decode cX7_layFairest 22 = .ok (.if_icmp .ge 13, 3) := by decide +kernel
theorem dX7_layFairest_25 : decode cX7_layFairest 25 = .ok (.iload_n 3, 1) := by decide +kernel
theorem dX7_layFairest_26 : decode cX7_layFairest 26 = .ok (.iconst 4, 1) := by decide +kernel
theorem dX7_layFairest_27 : decode cX7_layFairest 27 = .ok (.imul, 1) := by decide +kernel
theorem dX7_layFairest_28 : decode cX7_layFairest 28 = .ok (.istore_n 3, 1) := by decide +kernel
theorem dX7_layFairest_29 : decode cX7_layFairest 29 = .ok (.iinc 4 1, 3) := by decide +kernel
theorem dX7_layFairest_32 : decode cX7_layFairest 32 = .ok (.goto (-16), 3) := by decide +kernel
theorem dX7_layFairest_35 : decode cX7_layFairest 35 = .ok (.iconst 0, 1) := by decide +kernel
theorem dX7_layFairest_36 : decode cX7_layFairest 36 = .ok (.istore 4, 2) := by decide +kernel
theorem dX7_layFairest_38 : decode cX7_layFairest 38 = .ok (.iconst 0, 1) := by decide +kernel
theorem dX7_layFairest_39 : decode cX7_layFairest 39 = .ok (.istore 5, 2) := by decide +kernel
theorem dX7_layFairest_41 : decode cX7_layFairest 41 = .ok (.iconst 0, 1) := by decide +kernel
theorem dX7_layFairest_42 : decode cX7_layFairest 42 = .ok (.istore 6, 2) := by decide +kernel
theorem dX7_layFairest_44 : decode cX7_layFairest 44 = .ok (.iload 6, 2) := by decide +kernel
theorem dX7_layFairest_46 : decode cX7_layFairest 46 = .ok (.iload_n 3, 1) := by decide +kernel
theorem dX7_layFairest_47 : decode cX7_layFairest 47 = .ok (.if_icmp .ge 113, 3) := by decide +kernel
theorem dX7_layFairest_50 : decode cX7_layFairest 50 = .ok (.aload_n 0, 1) := by decide +kernel
theorem dX7_layFairest_51 : decode cX7_layFairest 51 = .ok (.getfield 166, 3) := by decide +kernel
theorem dX7_layFairest_54 : decode cX7_layFairest 54 = .ok (.ifCond .le 106, 3) := by decide +kernel
theorem dX7_layFairest_57 : decode cX7_layFairest 57 = .ok (.aload_n 0, 1) := by decide +kernel
theorem dX7_layFairest_58 : decode cX7_layFairest 58 = .ok (.iload 6, 2) := by decide +kernel
theorem dX7_layFairest_60 : decode cX7_layFairest 60 = .ok (.invokevirtual 227, 3) := by decide +kernel
theorem dX7_layFairest_63 : decode cX7_layFairest 63 = .ok (.istore 7, 2) := by decide +kernel
theorem dX7_layFairest_65 : decode cX7_layFairest 65 = .ok (.aload_n 0, 1) := by decide +kernel
theorem dX7_layFairest_66 : decode cX7_layFairest 66 = .ok (.iload_n 1, 1) := by decide +kernel
theorem dX7_layFairest_67 : decode cX7_layFairest 67 = .ok (.iload 7, 2) := by decide +kernel
theorem dX7_layFairest_69 : decode cX7_layFairest 69 = .ok (.iload_n 2, 1) := by decide +kernel
theorem dX7_layFairest_70 : decode cX7_layFairest 70 = .ok (.invokevirtual 230, 3) := by decide +kernel
theorem dX7_layFairest_73 : decode cX7_layFairest 73 = .ok (.istore 8, 2) := by decide +kernel
theorem dX7_layFairest_75 : decode cX7_layFairest 75 = .ok (.iload 4, 2) := by decide +kernel
theorem dX7_layFairest_77 : decode cX7_layFairest 77 = .ok (.ifCond .ne 7, 3) := by decide +kernel
theorem dX7_layFairest_80 : decode cX7_layFairest 80 = .ok (.iconst (-1), 1) := by decide +kernel
theorem dX7_layFairest_81 : decode cX7_layFairest 81 = .ok (.goto 14, 3) := by decide +kernel
theorem dX7_layFairest_84 : decode cX7_layFairest 84 = .ok (.iload 8, 2) := by decide +kernel
theorem dX7_layFairest_86 : decode cX7_layFairest 86 = .ok (.iload 4, 2) := by decide +kernel
theorem dX7_layFairest_88 : decode cX7_layFairest 88 = .ok (.imul, 1) := by decide +kernel
theorem dX7_layFairest_89 : decode cX7_layFairest 89 = .ok (.iload 5, 2) := by decide +kernel
theorem dX7_layFairest_91 : decode cX7_layFairest 91 = .ok (.iload 7, 2) := by decide +kernel
theorem dX7_layFairest_93 : decode cX7_layFairest 93 = .ok (.imul, 1) := by decide +kernel
theorem dX7_layFairest_94 : decode cX7_layFairest 94 = .ok (.isub, 1) := by decide +kernel
theorem dX7_layFairest_95 : decode cX7_layFairest 95 = .ok (.istore 9, 2) := by decide +kernel
theorem dX7_layFairest_97 : decode cX7_layFairest 97 = .ok (.iload 9, 2) := by decide +kernel
theorem dX7_layFairest_99 : decode cX7_layFairest 99 = .ok (.ifCond .lt 15, 3) := by decide +kernel
theorem dX7_layFairest_102 : decode cX7_layFairest 102 = .ok (.iload 9, 2) := by decide +kernel
theorem dX7_layFairest_104 : decode cX7_layFairest 104 = .ok (.ifCond .ne 50, 3) := by decide +kernel
theorem dX7_layFairest_107 : decode cX7_layFairest 107 = .ok (.iload 7, 2) := by decide +kernel
theorem dX7_layFairest_109 : decode cX7_layFairest 109 = .ok (.iload 4, 2) := by decide +kernel
theorem dX7_layFairest_111 : decode cX7_layFairest 111 = .ok (.if_icmp .ge 43, 3) := by decide +kernel
theorem dX7_layFairest_114 : decode cX7_layFairest 114 = .ok (.iload 7, 2) := by decide +kernel
theorem dX7_layFairest_116 : decode cX7_layFairest 116 = .ok (.istore 4, 2) := by decide +kernel
theorem dX7_layFairest_118 : decode cX7_layFairest 118 = .ok (.iload 8, 2) := by decide +kernel
theorem dX7_layFairest_120 : decode cX7_layFairest 120 = .ok (.istore 5, 2) := by decide +kernel
theorem dX7_layFairest_122 : decode cX7_layFairest 122 = .ok (.iconst 0, 1) := by decide +kernel
theorem dX7_layFairest_123 : decode cX7_layFairest 123 = .ok (.istore 10, 2) := by decide +kernel
theorem dX7_layFairest_125 : decode cX7_layFairest 125 = .ok (.iload 10, 2) := by decide +kernel
theorem dX7_layFairest_127 : decode cX7_layFairest 127 = .ok (.aload_n 0, 1) := by decide +kernel
theorem dX7_layFairest_128 : decode cX7_layFairest 128 = .ok (.getfield 166, 3) := by decide +kernel
theorem dX7_layFairest_131 : decode cX7_layFairest 131 = .ok (.if_icmp .ge 23, 3) := by decide +kernel
theorem dX7_layFairest_134 : decode cX7_layFairest 134 = .ok (.aload_n 0, 1) := by decide +kernel
theorem dX7_layFairest_135 : decode cX7_layFairest 135 = .ok (.getfield 34, 3) := by decide +kernel
theorem dX7_layFairest_138 : decode cX7_layFairest 138 = .ok (.iload 10, 2) := by decide +kernel
theorem dX7_layFairest_140 : decode cX7_layFairest 140 = .ok (.aload_n 0, 1) := by decide +kernel
theorem dX7_layFairest_141 : decode cX7_layFairest 141 = .ok (.getfield 37, 3) := by decide +kernel
theorem dX7_layFairest_144 : decode cX7_layFairest 144 = .ok (.iload 10, 2) := by decide +kernel
theorem dX7_layFairest_146 : decode cX7_layFairest 146 = .ok (.iaload, 1) := by decide +kernel
theorem dX7_layFairest_147 : decode cX7_layFairest 147 = .ok (.iastore, 1) := by decide +kernel
theorem dX7_layFairest_148 : decode cX7_layFairest 148 = .ok (.iinc 10 1, 3) := by decide +kernel
theorem dX7_layFairest_151 : decode cX7_layFairest 151 = .ok (.goto (-26), 3) := by decide +kernel
theorem dX7_layFairest_154 : decode cX7_layFairest 154 = .ok (.iinc 6 1, 3) := by decide +kernel
theorem dX7_layFairest_157 : decode cX7_layFairest 157 = .ok (.goto (-113), 3) := by decide +kernel
theorem dX7_layFairest_160 : decode cX7_layFairest 160 = .ok (.return_, 1) := by decide +kernel
theorem dX7_fairOf_0 : decode cX7_fairOf 0 = .ok (.iconst 0, 1) := by decide +kernel
theorem dX7_fairOf_1 : decode cX7_fairOf 1 = .ok (.istore_n 2, 1) := by decide +kernel
theorem dX7_fairOf_2 : decode cX7_fairOf 2 = .ok (.iconst 0, 1) := by decide +kernel
theorem dX7_fairOf_3 : decode cX7_fairOf 3 = .ok (.istore_n 3, 1) := by decide +kernel
theorem dX7_fairOf_4 : decode cX7_fairOf 4 = .ok (.iload_n 3, 1) := by decide +kernel
theorem dX7_fairOf_5 : decode cX7_fairOf 5 = .ok (.aload_n 0, 1) := by decide +kernel
theorem dX7_fairOf_6 : decode cX7_fairOf 6 = .ok (.getfield 166, 3) := by decide +kernel
theorem dX7_fairOf_9 : decode cX7_fairOf 9 = .ok (.if_icmp .ge 30, 3) := by decide +kernel
theorem dX7_fairOf_12 : decode cX7_fairOf 12 = .ok (.aload_n 0, 1) := by decide +kernel
theorem dX7_fairOf_13 : decode cX7_fairOf 13 = .ok (.getfield 31, 3) := by decide +kernel
theorem dX7_fairOf_16 : decode cX7_fairOf 16 = .ok (.iload_n 3, 1) := by decide +kernel
theorem dX7_fairOf_17 : decode cX7_fairOf 17 = .ok (.iaload, 1) := by decide +kernel
theorem dX7_fairOf_18 : decode cX7_fairOf 18 = .ok (.iload_n 1, 1) := by decide +kernel
theorem dX7_fairOf_19 : decode cX7_fairOf 19 = .ok (.if_icmp .ne 12, 3) := by decide +kernel
theorem dX7_fairOf_22 : decode cX7_fairOf 22 = .ok (.aload_n 0, 1) := by decide +kernel
theorem dX7_fairOf_23 : decode cX7_fairOf 23 = .ok (.getfield 34, 3) := by decide +kernel
theorem dX7_fairOf_26 : decode cX7_fairOf 26 = .ok (.iload_n 3, 1) := by decide +kernel
theorem dX7_fairOf_27 : decode cX7_fairOf 27 = .ok (.iaload, 1) := by decide +kernel
theorem dX7_fairOf_28 : decode cX7_fairOf 28 = .ok (.goto 4, 3) := by decide +kernel
theorem dX7_fairOf_31 : decode cX7_fairOf 31 = .ok (.iload_n 2, 1) := by decide +kernel
theorem dX7_fairOf_32 : decode cX7_fairOf 32 = .ok (.istore_n 2, 1) := by decide +kernel
theorem dX7_fairOf_33 : decode cX7_fairOf 33 = .ok (.iinc 3 1, 3) := by decide +kernel
theorem dX7_fairOf_36 : decode cX7_fairOf 36 = .ok (.goto (-32), 3) := by decide +kernel
theorem dX7_fairOf_39 : decode cX7_fairOf 39 = .ok (.iload_n 2, 1) := by decide +kernel
theorem dX7_fairOf_40 : decode cX7_fairOf 40 = .ok (.ireturn, 1) := by decide +kernel
theorem dX7_fairest_0 : decode cX7_fairest 0 = .ok (.aload_n 0, 1) := by decide +kernel
theorem dX7_fairest_1 : decode cX7_fairest 1 = .ok (.iconst 0, 1) := by decide +kernel
theorem dX7_fairest_2 : decode cX7_fairest 2 = .ok (.putfield 40, 3) := by decide +kernel
theorem dX7_fairest_5 : decode cX7_fairest 5 = .ok (.aload_n 0, 1) := by decide +kernel
theorem dX7_fairest_6 : decode cX7_fairest 6 = .ok (.iload_n 1, 1) := by decide +kernel
theorem dX7_fairest_7 : decode cX7_fairest 7 = .ok (.invokevirtual 77, 3) := by decide +kernel
theorem dX7_fairest_10 : decode cX7_fairest 10 = .ok (.ifCond .eq 11, 3) := by decide +kernel
theorem dX7_fairest_13 : decode cX7_fairest 13 = .ok (.aload_n 0, 1) := by decide +kernel
theorem dX7_fairest_14 : decode cX7_fairest 14 = .ok (.iload_n 2, 1) := by decide +kernel
theorem dX7_fairest_15 : decode cX7_fairest 15 = .ok (.invokevirtual 65, 3) := by decide +kernel
theorem dX7_fairest_18 : decode cX7_fairest 18 = .ok (.ifCond .ne 9, 3) := by decide +kernel
theorem dX7_fairest_21 : decode cX7_fairest 21 = .ok (.aload_n 0, 1) := by decide +kernel
theorem dX7_fairest_22 : decode cX7_fairest 22 = .ok (.iconst 1, 1) := by decide +kernel
theorem dX7_fairest_23 : decode cX7_fairest 23 = .ok (.invokevirtual 55, 3) := by decide +kernel
theorem dX7_fairest_26 : decode cX7_fairest 26 = .ok (.ireturn, 1) := by decide +kernel
theorem dX7_fairest_27 : decode cX7_fairest 27 = .ok (.aload_n 0, 1) := by decide +kernel
theorem dX7_fairest_28 : decode cX7_fairest 28 = .ok (.iload_n 1, 1) := by decide +kernel
theorem dX7_fairest_29 : decode cX7_fairest 29 = .ok (.invokevirtual 233, 3) := by decide +kernel
theorem dX7_fairest_32 : decode cX7_fairest 32 = .ok (.aload_n 0, 1) := by decide +kernel
theorem dX7_fairest_33 : decode cX7_fairest 33 = .ok (.iload_n 2, 1) := by decide +kernel
theorem dX7_fairest_34 : decode cX7_fairest 34 = .ok (.invokevirtual 236, 3) := by decide +kernel
theorem dX7_fairest_37 : decode cX7_fairest 37 = .ok (.ireturn, 1) := by decide +kernel
theorem dX7_bestNow_0 : decode cX7_bestNow 0 = .ok (.iconst (-1), 1) := by decide +kernel
theorem dX7_bestNow_1 : decode cX7_bestNow 1 = .ok (.istore_n 3, 1) := by decide +kernel
theorem dX7_bestNow_2 : decode cX7_bestNow 2 = .ok (.iconst (-1), 1) := by decide +kernel
theorem dX7_bestNow_3 : decode cX7_bestNow 3 = .ok (.istore 4, 2) := by decide +kernel
theorem dX7_bestNow_5 : decode cX7_bestNow 5 = .ok (.iconst 0, 1) := by decide +kernel
theorem dX7_bestNow_6 : decode cX7_bestNow 6 = .ok (.istore 5, 2) := by decide +kernel
theorem dX7_bestNow_8 : decode cX7_bestNow 8 = .ok (.iload 5, 2) := by decide +kernel
theorem dX7_bestNow_10 : decode cX7_bestNow 10 = .ok (.aload_n 0, 1) := by decide +kernel
theorem dX7_bestNow_11 : decode cX7_bestNow 11 = .ok (.getfield 7, 3) := by decide +kernel
theorem dX7_bestNow_14 : decode cX7_bestNow 14 = .ok (.iconst 1, 1) := by decide +kernel
theorem dX7_bestNow_15 : decode cX7_bestNow 15 = .ok (.iaload, 1) := by decide +kernel
theorem dX7_bestNow_16 : decode cX7_bestNow 16 = .ok (.if_icmp .ge 64, 3) := by decide +kernel
theorem dX7_bestNow_19 : decode cX7_bestNow 19 = .ok (.aload_n 0, 1) := by decide +kernel
theorem dX7_bestNow_20 : decode cX7_bestNow 20 = .ok (.iload 5, 2) := by decide +kernel
theorem dX7_bestNow_22 : decode cX7_bestNow 22 = .ok (.iconst 2, 1) := by decide +kernel
theorem dX7_bestNow_23 : decode cX7_bestNow 23 = .ok (.invokevirtual 80, 3) := by decide +kernel
theorem dX7_bestNow_26 : decode cX7_bestNow 26 = .ok (.iconst 3, 1) := by decide +kernel
theorem dX7_bestNow_27 : decode cX7_bestNow 27 = .ok (.if_icmp .ne 14, 3) := by decide +kernel
theorem dX7_bestNow_30 : decode cX7_bestNow 30 = .ok (.aload_n 0, 1) := by decide +kernel
theorem dX7_bestNow_31 : decode cX7_bestNow 31 = .ok (.iload 5, 2) := by decide +kernel
theorem dX7_bestNow_33 : decode cX7_bestNow 33 = .ok (.iload_n 2, 1) := by decide +kernel
theorem dX7_bestNow_34 : decode cX7_bestNow 34 = .ok (.iload_n 1, 1) := by decide +kernel
theorem dX7_bestNow_35 : decode cX7_bestNow 35 = .ok (.invokevirtual 221, 3) := by decide +kernel
theorem dX7_bestNow_38 : decode cX7_bestNow 38 = .ok (.goto 4, 3) := by decide +kernel
theorem dX7_bestNow_41 : decode cX7_bestNow 41 = .ok (.iconst (-1), 1) := by decide +kernel
theorem dX7_bestNow_42 : decode cX7_bestNow 42 = .ok (.istore 6, 2) := by decide +kernel
theorem dX7_bestNow_44 : decode cX7_bestNow 44 = .ok (.iload 6, 2) := by decide +kernel
theorem dX7_bestNow_46 : decode cX7_bestNow 46 = .ok (.iload 4, 2) := by decide +kernel
theorem dX7_bestNow_48 : decode cX7_bestNow 48 = .ok (.if_icmp .le 8, 3) := by decide +kernel
theorem dX7_bestNow_51 : decode cX7_bestNow 51 = .ok (.iload 5, 2) := by decide +kernel
theorem dX7_bestNow_53 : decode cX7_bestNow 53 = .ok (.goto 4, 3) := by decide +kernel
theorem dX7_bestNow_56 : decode cX7_bestNow 56 = .ok (.iload_n 3, 1) := by decide +kernel
theorem dX7_bestNow_57 : decode cX7_bestNow 57 = .ok (.istore_n 3, 1) := by decide +kernel
theorem dX7_bestNow_58 : decode cX7_bestNow 58 = .ok (.iload 6, 2) := by decide +kernel
theorem dX7_bestNow_60 : decode cX7_bestNow 60 = .ok (.iload 4, 2) := by decide +kernel
theorem dX7_bestNow_62 : decode cX7_bestNow 62 = .ok (.if_icmp .le 8, 3) := by decide +kernel
theorem dX7_bestNow_65 : decode cX7_bestNow 65 = .ok (.iload 6, 2) := by decide +kernel
theorem dX7_bestNow_67 : decode cX7_bestNow 67 = .ok (.goto 5, 3) := by decide +kernel
theorem dX7_bestNow_70 : decode cX7_bestNow 70 = .ok (.iload 4, 2) := by decide +kernel
theorem dX7_bestNow_72 : decode cX7_bestNow 72 = .ok (.istore 4, 2) := by decide +kernel
theorem dX7_bestNow_74 : decode cX7_bestNow 74 = .ok (.iinc 5 1, 3) := by decide +kernel
theorem dX7_bestNow_77 : decode cX7_bestNow 77 = .ok (.goto (-69), 3) := by decide +kernel
theorem dX7_bestNow_80 : decode cX7_bestNow 80 = .ok (.iload_n 3, 1) := by decide +kernel
theorem dX7_bestNow_81 : decode cX7_bestNow 81 = .ok (.ireturn, 1) := by decide +kernel
theorem dX7_bestPiece_0 : decode cX7_bestPiece 0 = .ok (.aload_n 0, 1) := by decide +kernel
theorem dX7_bestPiece_1 : decode cX7_bestPiece 1 = .ok (.iconst 0, 1) := by decide +kernel
theorem dX7_bestPiece_2 : decode cX7_bestPiece 2 = .ok (.putfield 40, 3) := by decide +kernel
theorem dX7_bestPiece_5 : decode cX7_bestPiece 5 = .ok (.aload_n 0, 1) := by decide +kernel
theorem dX7_bestPiece_6 : decode cX7_bestPiece 6 = .ok (.iload_n 1, 1) := by decide +kernel
theorem dX7_bestPiece_7 : decode cX7_bestPiece 7 = .ok (.invokevirtual 65, 3) := by decide +kernel
theorem dX7_bestPiece_10 : decode cX7_bestPiece 10 = .ok (.ifCond .ne 9, 3) := by decide +kernel
theorem dX7_bestPiece_13 : decode cX7_bestPiece 13 = .ok (.aload_n 0, 1) := by decide +kernel
theorem dX7_bestPiece_14 : decode cX7_bestPiece 14 = .ok (.iconst 1, 1) := by decide +kernel
theorem dX7_bestPiece_15 : decode cX7_bestPiece 15 = .ok (.invokevirtual 55, 3) := by decide +kernel
theorem dX7_bestPiece_18 : decode cX7_bestPiece 18 = .ok (.ireturn, 1) := by decide +kernel
theorem dX7_bestPiece_19 : decode cX7_bestPiece 19 = .ok (.iload_n 2, 1) := by decide +kernel
theorem dX7_bestPiece_20 : decode cX7_bestPiece 20 = .ok (.iconst 1, 1) := by decide +kernel
theorem dX7_bestPiece_21 : decode cX7_bestPiece 21 = .ok (.ldc 69, 2) := by decide +kernel
theorem dX7_bestPiece_23 : decode cX7_bestPiece 23 = .ok (.invokestatic 44, 3) := by decide +kernel
theorem dX7_bestPiece_26 : decode cX7_bestPiece 26 = .ok (.ifCond .eq 12, 3) := by decide +kernel
theorem dX7_bestPiece_29 : decode cX7_bestPiece 29 = .ok (.aload_n 0, 1) := by decide +kernel
theorem dX7_bestPiece_30 : decode cX7_bestPiece 30 = .ok (.iload_n 1, 1) := by decide +kernel
theorem dX7_bestPiece_31 : decode cX7_bestPiece 31 = .ok (.iload_n 2, 1) := by decide +kernel
theorem dX7_bestPiece_32 : decode cX7_bestPiece 32 = .ok (.invokevirtual 239, 3) := by decide +kernel
theorem dX7_bestPiece_35 : decode cX7_bestPiece 35 = .ok (.goto 8, 3) := by decide +kernel
theorem dX7_bestPiece_38 : decode cX7_bestPiece 38 = .ok (.aload_n 0, 1) := by decide +kernel
theorem dX7_bestPiece_39 : decode cX7_bestPiece 39 = .ok (.iconst 2, 1) := by decide +kernel
theorem dX7_bestPiece_40 : decode cX7_bestPiece 40 = .ok (.invokevirtual 55, 3) := by decide +kernel
theorem dX7_bestPiece_43 : decode cX7_bestPiece 43 = .ok (.ireturn, 1) := by decide +kernel
theorem dX7_spreadNow_0 : decode cX7_spreadNow 0 = .ok (.iconst 0, 1) := by decide +kernel
theorem dX7_spreadNow_1 : decode cX7_spreadNow 1 = .ok (.istore_n 1, 1) := by decide +kernel
theorem dX7_spreadNow_2 : decode cX7_spreadNow 2 = .ok (.iconst 0, 1) := by decide +kernel
theorem dX7_spreadNow_3 : decode cX7_spreadNow 3 = .ok (.istore_n 2, 1) := by decide +kernel
theorem dX7_spreadNow_4 : decode cX7_spreadNow 4 = .ok (.iload_n 2, 1) := by decide +kernel
theorem dX7_spreadNow_5 : decode cX7_spreadNow 5 = .ok (.aload_n 0, 1) := by decide +kernel
theorem dX7_spreadNow_6 : decode cX7_spreadNow 6 = .ok (.getfield 7, 3) := by decide +kernel
theorem dX7_spreadNow_9 : decode cX7_spreadNow 9 = .ok (.iconst 0, 1) := by decide +kernel
theorem dX7_spreadNow_10 : decode cX7_spreadNow 10 = .ok (.iaload, 1) := by decide +kernel
theorem dX7_spreadNow_11 : decode cX7_spreadNow 11 = .ok (.if_icmp .ge 53, 3) := by decide +kernel
theorem dX7_spreadNow_14 : decode cX7_spreadNow 14 = .ok (.iconst 0, 1) := by decide +kernel
theorem dX7_spreadNow_15 : decode cX7_spreadNow 15 = .ok (.istore_n 3, 1) := by decide +kernel
theorem dX7_spreadNow_16 : decode cX7_spreadNow 16 = .ok (.iload_n 3, 1) := by decide +kernel
theorem dX7_spreadNow_17 : decode cX7_spreadNow 17 = .ok (.iload_n 2, 1) := by decide +kernel
theorem dX7_spreadNow_18 : decode cX7_spreadNow 18 = .ok (.if_icmp .ge 40, 3) := by decide +kernel
theorem dX7_spreadNow_21 : decode cX7_spreadNow 21 = .ok (.aload_n 0, 1) := by decide +kernel
theorem dX7_spreadNow_22 : decode cX7_spreadNow 22 = .ok (.iload_n 2, 1) := by decide +kernel
theorem dX7_spreadNow_23 : decode cX7_spreadNow 23 = .ok (.iconst 0, 1) := by decide +kernel
theorem dX7_spreadNow_24 : decode cX7_spreadNow 24 = .ok (.invokevirtual 61, 3) := by decide +kernel
theorem dX7_spreadNow_27 : decode cX7_spreadNow 27 = .ok (.aload_n 0, 1) := by decide +kernel
theorem dX7_spreadNow_28 : decode cX7_spreadNow 28 = .ok (.iload_n 3, 1) := by decide +kernel
theorem dX7_spreadNow_29 : decode cX7_spreadNow 29 = .ok (.iconst 0, 1) := by decide +kernel
theorem dX7_spreadNow_30 : decode cX7_spreadNow 30 = .ok (.invokevirtual 61, 3) := by decide +kernel
theorem dX7_spreadNow_33 : decode cX7_spreadNow 33 = .ok (.isub, 1) := by decide +kernel
theorem dX7_spreadNow_34 : decode cX7_spreadNow 34 = .ok (.istore 4, 2) := by decide +kernel
theorem dX7_spreadNow_36 : decode cX7_spreadNow 36 = .ok (.iload_n 1, 1) := by decide +kernel
theorem dX7_spreadNow_37 : decode cX7_spreadNow 37 = .ok (.iload 4, 2) := by decide +kernel
theorem dX7_spreadNow_39 : decode cX7_spreadNow 39 = .ok (.ifCond .ge 9, 3) := by decide +kernel
theorem dX7_spreadNow_42 : decode cX7_spreadNow 42 = .ok (.iload 4, 2) := by decide +kernel
theorem dX7_spreadNow_44 : decode cX7_spreadNow 44 = .ok (.ineg, 1) := by decide +kernel
theorem dX7_spreadNow_45 : decode cX7_spreadNow 45 = .ok (.goto 5, 3) := by decide +kernel
theorem dX7_spreadNow_48 : decode cX7_spreadNow 48 = .ok (.iload 4, 2) := by decide +kernel
theorem dX7_spreadNow_50 : decode cX7_spreadNow 50 = .ok (.iadd, 1) := by decide +kernel
theorem dX7_spreadNow_51 : decode cX7_spreadNow 51 = .ok (.istore_n 1, 1) := by decide +kernel
theorem dX7_spreadNow_52 : decode cX7_spreadNow 52 = .ok (.iinc 3 1, 3) := by decide +kernel
theorem dX7_spreadNow_55 : decode cX7_spreadNow 55 = .ok (.goto (-39), 3) := by decide +kernel
theorem dX7_spreadNow_58 : decode cX7_spreadNow 58 = .ok (.iinc 2 1, 3) := by decide +kernel
theorem dX7_spreadNow_61 : decode cX7_spreadNow 61 = .ok (.goto (-57), 3) := by decide +kernel
theorem dX7_spreadNow_64 : decode cX7_spreadNow 64 = .ok (.aload_n 0, 1) := by decide +kernel
theorem dX7_spreadNow_65 : decode cX7_spreadNow 65 = .ok (.iconst 0, 1) := by decide +kernel
theorem dX7_spreadNow_66 : decode cX7_spreadNow 66 = .ok (.invokevirtual 203, 3) := by decide +kernel
theorem dX7_spreadNow_69 : decode cX7_spreadNow 69 = .ok (.istore_n 2, 1) := by decide +kernel
theorem dX7_spreadNow_70 : decode cX7_spreadNow 70 = .ok (.iload_n 2, 1) := by decide +kernel
theorem dX7_spreadNow_71 : decode cX7_spreadNow 71 = .ok (.ifCond .ne 7, 3) := by decide +kernel
theorem dX7_spreadNow_74 : decode cX7_spreadNow 74 = .ok (.dconst 0, 1) := by decide +kernel
theorem dX7_spreadNow_75 : decode cX7_spreadNow 75 = .ok (.goto 15, 3) := by decide +kernel
theorem dX7_spreadNow_78 : decode cX7_spreadNow 78 = .ok (.iload_n 1, 1) := by decide +kernel
theorem dX7_spreadNow_79 : decode cX7_spreadNow 79 = .ok (.i2d, 1) := by decide +kernel
theorem dX7_spreadNow_80 : decode cX7_spreadNow 80 = .ok (.aload_n 0, 1) := by decide +kernel
theorem dX7_spreadNow_81 : decode cX7_spreadNow 81 = .ok (.getfield 7, 3) := by decide +kernel
theorem dX7_spreadNow_84 : decode cX7_spreadNow 84 = .ok (.iconst 0, 1) := by decide +kernel
theorem dX7_spreadNow_85 : decode cX7_spreadNow 85 = .ok (.iaload, 1) := by decide +kernel
theorem dX7_spreadNow_86 : decode cX7_spreadNow 86 = .ok (.iload_n 2, 1) := by decide +kernel
theorem dX7_spreadNow_87 : decode cX7_spreadNow 87 = .ok (.imul, 1) := by decide +kernel
theorem dX7_spreadNow_88 : decode cX7_spreadNow 88 = .ok (.i2d, 1) := by decide +kernel
theorem dX7_spreadNow_89 : decode cX7_spreadNow 89 = .ok (.ddiv, 1) := by decide +kernel
theorem dX7_spreadNow_90 : decode cX7_spreadNow 90 = .ok (.dreturn, 1) := by decide +kernel
theorem dX7_spread_0 : decode cX7_spread 0 = .ok (.aload_n 0, 1) := by decide +kernel
theorem dX7_spread_1 : decode cX7_spread 1 = .ok (.iconst 0, 1) := by decide +kernel
theorem dX7_spread_2 : decode cX7_spread 2 = .ok (.putfield 40, 3) := by decide +kernel
theorem dX7_spread_5 : decode cX7_spread 5 = .ok (.aload_n 0, 1) := by decide +kernel
theorem dX7_spread_6 : decode cX7_spread 6 = .ok (.invokevirtual 242, 3) := by decide +kernel
theorem dX7_spread_9 : decode cX7_spread 9 = .ok (.dreturn, 1) := by decide +kernel
theorem dX7_mix_0 : decode cX7_mix 0 = .ok (.aload_n 0, 1) := by decide +kernel
theorem dX7_mix_1 : decode cX7_mix 1 = .ok (.ldc2_w 246, 3) := by decide +kernel
theorem dX7_mix_4 : decode cX7_mix 4 = .ok (.aload_n 0, 1) := by decide +kernel
theorem dX7_mix_5 : decode cX7_mix 5 = .ok (.getfield 248, 3) := by decide +kernel
theorem dX7_mix_8 : decode cX7_mix 8 = .ok (.lmul, 1) := by decide +kernel
theorem dX7_mix_9 : decode cX7_mix 9 = .ok (.lload_n 1, 1) := by decide +kernel
theorem dX7_mix_10 : decode cX7_mix 10 = .ok (.ladd, 1) := by decide +kernel
theorem dX7_mix_11 : decode cX7_mix 11 = .ok (.putfield 248, 3) := by decide +kernel
theorem dX7_mix_14 : decode cX7_mix 14 = .ok (.return_, 1) := by decide +kernel
theorem dX7_mixPiece_0 : decode cX7_mixPiece 0 = .ok (.iconst 0, 1) := by decide +kernel
theorem dX7_mixPiece_1 : decode cX7_mixPiece 1 = .ok (.istore_n 2, 1) := by decide +kernel
theorem dX7_mixPiece_2 : decode cX7_mixPiece 2 = .ok (.iload_n 2, 1) := by decide +kernel
theorem dX7_mixPiece_3 : decode cX7_mixPiece 3 = .ok (.bipush 10, 2) := by decide +kernel
theorem dX7_mixPiece_5 : decode cX7_mixPiece 5 = .ok (.if_icmp .ge 20, 3) := by decide +kernel
theorem dX7_mixPiece_8 : decode cX7_mixPiece 8 = .ok (.aload_n 0, 1) := by decide +kernel
theorem dX7_mixPiece_9 : decode cX7_mixPiece 9 = .ok (.aload_n 0, 1) := by decide +kernel
theorem dX7_mixPiece_10 : decode cX7_mixPiece 10 = .ok (.iload_n 1, 1) := by decide +kernel
theorem dX7_mixPiece_11 : decode cX7_mixPiece 11 = .ok (.iload_n 2, 1) := by decide +kernel
theorem dX7_mixPiece_12 : decode cX7_mixPiece 12 = .ok (.invokevirtual 197, 3) := by decide +kernel
theorem dX7_mixPiece_15 : decode cX7_mixPiece 15 = .ok (.i2l, 1) := by decide +kernel
theorem dX7_mixPiece_16 : decode cX7_mixPiece 16 = .ok (.invokevirtual 252, 3) := by decide +kernel
theorem dX7_mixPiece_19 : decode cX7_mixPiece 19 = .ok (.iinc 2 1, 3) := by decide +kernel
theorem dX7_mixPiece_22 : decode cX7_mixPiece 22 = .ok (.goto (-20), 3) := by decide +kernel
theorem dX7_mixPiece_25 : decode cX7_mixPiece 25 = .ok (.aload_n 0, 1) := by decide +kernel
theorem dX7_mixPiece_26 : decode cX7_mixPiece 26 = .ok (.iload_n 1, 1) := by decide +kernel
theorem dX7_mixPiece_27 : decode cX7_mixPiece 27 = .ok (.invokevirtual 233, 3) := by decide +kernel
theorem dX7_mixPiece_30 : decode cX7_mixPiece 30 = .ok (.iconst 0, 1) := by decide +kernel
theorem dX7_mixPiece_31 : decode cX7_mixPiece 31 = .ok (.istore_n 2, 1) := by decide +kernel
theorem dX7_mixPiece_32 : decode cX7_mixPiece 32 = .ok (.iload_n 2, 1) := by decide +kernel
theorem dX7_mixPiece_33 : decode cX7_mixPiece 33 = .ok (.aload_n 0, 1) := by decide +kernel
theorem dX7_mixPiece_34 : decode cX7_mixPiece 34 = .ok (.getfield 7, 3) := by decide +kernel
theorem dX7_mixPiece_37 : decode cX7_mixPiece 37 = .ok (.iconst 0, 1) := by decide +kernel
theorem dX7_mixPiece_38 : decode cX7_mixPiece 38 = .ok (.iaload, 1) := by decide +kernel
theorem dX7_mixPiece_39 : decode cX7_mixPiece 39 = .ok (.if_icmp .ge 44, 3) := by decide +kernel
theorem dX7_mixPiece_42 : decode cX7_mixPiece 42 = .ok (.iconst 0, 1) := by decide +kernel
theorem dX7_mixPiece_43 : decode cX7_mixPiece 43 = .ok (.istore_n 3, 1) := by decide +kernel
theorem dX7_mixPiece_44 : decode cX7_mixPiece 44 = .ok (.iload_n 3, 1) := by decide +kernel
theorem dX7_mixPiece_45 : decode cX7_mixPiece 45 = .ok (.iconst 3, 1) := by decide +kernel
theorem dX7_mixPiece_46 : decode cX7_mixPiece 46 = .ok (.if_icmp .ge 21, 3) := by decide +kernel
theorem dX7_mixPiece_49 : decode cX7_mixPiece 49 = .ok (.aload_n 0, 1) := by decide +kernel
theorem dX7_mixPiece_50 : decode cX7_mixPiece 50 = .ok (.aload_n 0, 1) := by decide +kernel
theorem dX7_mixPiece_51 : decode cX7_mixPiece 51 = .ok (.iload_n 1, 1) := by decide +kernel
theorem dX7_mixPiece_52 : decode cX7_mixPiece 52 = .ok (.iload_n 2, 1) := by decide +kernel
theorem dX7_mixPiece_53 : decode cX7_mixPiece 53 = .ok (.iload_n 3, 1) := by decide +kernel
theorem dX7_mixPiece_54 : decode cX7_mixPiece 54 = .ok (.invokevirtual 200, 3) := by decide +kernel
theorem dX7_mixPiece_57 : decode cX7_mixPiece 57 = .ok (.i2l, 1) := by decide +kernel
theorem dX7_mixPiece_58 : decode cX7_mixPiece 58 = .ok (.invokevirtual 252, 3) := by decide +kernel
theorem dX7_mixPiece_61 : decode cX7_mixPiece 61 = .ok (.iinc 3 1, 3) := by decide +kernel
theorem dX7_mixPiece_64 : decode cX7_mixPiece 64 = .ok (.goto (-20), 3) := by decide +kernel
theorem dX7_mixPiece_67 : decode cX7_mixPiece 67 = .ok (.aload_n 0, 1) := by decide +kernel
theorem dX7_mixPiece_68 : decode cX7_mixPiece 68 = .ok (.aload_n 0, 1) := by decide +kernel
theorem dX7_mixPiece_69 : decode cX7_mixPiece 69 = .ok (.iload_n 2, 1) := by decide +kernel
theorem dX7_mixPiece_70 : decode cX7_mixPiece 70 = .ok (.invokevirtual 236, 3) := by decide +kernel
theorem dX7_mixPiece_73 : decode cX7_mixPiece 73 = .ok (.i2l, 1) := by decide +kernel
theorem dX7_mixPiece_74 : decode cX7_mixPiece 74 = .ok (.invokevirtual 252, 3) := by decide +kernel
theorem dX7_mixPiece_77 : decode cX7_mixPiece 77 = .ok (.iinc 2 1, 3) := by decide +kernel
theorem dX7_mixPiece_80 : decode cX7_mixPiece 80 = .ok (.goto (-48), 3) := by decide +kernel
theorem dX7_mixPiece_83 : decode cX7_mixPiece 83 = .ok (.return_, 1) := by decide +kernel
theorem dX7_digest_0 : decode cX7_digest 0 = .ok (.aload_n 0, 1) := by decide +kernel
theorem dX7_digest_1 : decode cX7_digest 1 = .ok (.iconst 0, 1) := by decide +kernel
theorem dX7_digest_2 : decode cX7_digest 2 = .ok (.putfield 40, 3) := by decide +kernel
theorem dX7_digest_5 : decode cX7_digest 5 = .ok (.aload_n 0, 1) := by decide +kernel
theorem dX7_digest_6 : decode cX7_digest 6 = .ok (.ldc2_w 256, 3) := by decide +kernel
theorem dX7_digest_9 : decode cX7_digest 9 = .ok (.putfield 248, 3) := by decide +kernel
theorem dX7_digest_12 : decode cX7_digest 12 = .ok (.iconst 0, 1) := by decide +kernel
theorem dX7_digest_13 : decode cX7_digest 13 = .ok (.istore_n 1, 1) := by decide +kernel
theorem dX7_digest_14 : decode cX7_digest 14 = .ok (.iload_n 1, 1) := by decide +kernel
theorem dX7_digest_15 : decode cX7_digest 15 = .ok (.bipush 14, 2) := by decide +kernel
theorem dX7_digest_17 : decode cX7_digest 17 = .ok (.if_icmp .ge 19, 3) := by decide +kernel
theorem dX7_digest_20 : decode cX7_digest 20 = .ok (.aload_n 0, 1) := by decide +kernel
theorem dX7_digest_21 : decode cX7_digest 21 = .ok (.aload_n 0, 1) := by decide +kernel
theorem dX7_digest_22 : decode cX7_digest 22 = .ok (.iload_n 1, 1) := by decide +kernel
theorem dX7_digest_23 : decode cX7_digest 23 = .ok (.invokevirtual 212, 3) := by decide +kernel
theorem dX7_digest_26 : decode cX7_digest 26 = .ok (.i2l, 1) := by decide +kernel
theorem dX7_digest_27 : decode cX7_digest 27 = .ok (.invokevirtual 252, 3) := by decide +kernel
theorem dX7_digest_30 : decode cX7_digest 30 = .ok (.iinc 1 1, 3) := by decide +kernel
theorem dX7_digest_33 : decode cX7_digest 33 = .ok (.goto (-19), 3) := by decide +kernel
theorem dX7_digest_36 : decode cX7_digest 36 = .ok (.iconst 0, 1) := by decide +kernel
theorem dX7_digest_37 : decode cX7_digest 37 = .ok (.istore_n 1, 1) := by decide +kernel
theorem dX7_digest_38 : decode cX7_digest 38 = .ok (.iload_n 1, 1) := by decide +kernel
theorem dX7_digest_39 : decode cX7_digest 39 = .ok (.bipush 6, 2) := by decide +kernel
theorem dX7_digest_41 : decode cX7_digest 41 = .ok (.if_icmp .ge 23, 3) := by decide +kernel
theorem dX7_digest_44 : decode cX7_digest 44 = .ok (.aload_n 0, 1) := by decide +kernel
theorem dX7_digest_45 : decode cX7_digest 45 = .ok (.aload_n 0, 1) := by decide +kernel
theorem dX7_digest_46 : decode cX7_digest 46 = .ok (.getfield 7, 3) := by decide +kernel
theorem dX7_digest_49 : decode cX7_digest 49 = .ok (.bipush 8, 2) := by decide +kernel
theorem dX7_digest_51 : decode cX7_digest 51 = .ok (.iload_n 1, 1) := by decide +kernel
theorem dX7_digest_52 : decode cX7_digest 52 = .ok (.iadd, 1) := by decide +kernel
theorem dX7_digest_53 : decode cX7_digest 53 = .ok (.iaload, 1) := by decide +kernel
theorem dX7_digest_54 : decode cX7_digest 54 = .ok (.i2l, 1) := by decide +kernel
theorem dX7_digest_55 : decode cX7_digest 55 = .ok (.invokevirtual 252, 3) := by decide +kernel
theorem dX7_digest_58 : decode cX7_digest 58 = .ok (.iinc 1 1, 3) := by decide +kernel
theorem dX7_digest_61 : decode cX7_digest 61 = .ok (.goto (-23), 3) := by decide +kernel
theorem dX7_digest_64 : decode cX7_digest 64 = .ok (.iconst 0, 1) := by decide +kernel
theorem dX7_digest_65 : decode cX7_digest 65 = .ok (.istore_n 1, 1) := by decide +kernel
theorem dX7_digest_66 : decode cX7_digest 66 = .ok (.iload_n 1, 1) := by decide +kernel
theorem dX7_digest_67 : decode cX7_digest 67 = .ok (.aload_n 0, 1) := by decide +kernel
theorem dX7_digest_68 : decode cX7_digest 68 = .ok (.getfield 7, 3) := by decide +kernel
theorem dX7_digest_71 : decode cX7_digest 71 = .ok (.iconst 0, 1) := by decide +kernel
theorem dX7_digest_72 : decode cX7_digest 72 = .ok (.iaload, 1) := by decide +kernel
theorem dX7_digest_73 : decode cX7_digest 73 = .ok (.if_icmp .ge 46, 3) := by decide +kernel
theorem dX7_digest_76 : decode cX7_digest 76 = .ok (.iconst 0, 1) := by decide +kernel
theorem dX7_digest_77 : decode cX7_digest 77 = .ok (.istore_n 2, 1) := by decide +kernel
theorem dX7_digest_78 : decode cX7_digest 78 = .ok (.iload_n 2, 1) := by decide +kernel
theorem dX7_digest_79 : decode cX7_digest 79 = .ok (.bipush 9, 2) := by decide +kernel
theorem dX7_digest_81 : decode cX7_digest 81 = .ok (.if_icmp .ge 20, 3) := by decide +kernel
theorem dX7_digest_84 : decode cX7_digest 84 = .ok (.aload_n 0, 1) := by decide +kernel
theorem dX7_digest_85 : decode cX7_digest 85 = .ok (.aload_n 0, 1) := by decide +kernel
theorem dX7_digest_86 : decode cX7_digest 86 = .ok (.iload_n 1, 1) := by decide +kernel
theorem dX7_digest_87 : decode cX7_digest 87 = .ok (.iload_n 2, 1) := by decide +kernel
theorem dX7_digest_88 : decode cX7_digest 88 = .ok (.invokevirtual 188, 3) := by decide +kernel
theorem dX7_digest_91 : decode cX7_digest 91 = .ok (.i2l, 1) := by decide +kernel
theorem dX7_digest_92 : decode cX7_digest 92 = .ok (.invokevirtual 252, 3) := by decide +kernel
theorem dX7_digest_95 : decode cX7_digest 95 = .ok (.iinc 2 1, 3) := by decide +kernel
theorem dX7_digest_98 : decode cX7_digest 98 = .ok (.goto (-20), 3) := by decide +kernel
theorem dX7_digest_101 : decode cX7_digest 101 = .ok (.aload_n 0, 1) := by decide +kernel
theorem dX7_digest_102 : decode cX7_digest 102 = .ok (.aload_n 0, 1) := by decide +kernel
theorem dX7_digest_103 : decode cX7_digest 103 = .ok (.iload_n 1, 1) := by decide +kernel
theorem dX7_digest_104 : decode cX7_digest 104 = .ok (.bipush 100, 2) := by decide +kernel
theorem dX7_digest_106 : decode cX7_digest 106 = .ok (.invokevirtual 239, 3) := by decide +kernel
theorem dX7_digest_109 : decode cX7_digest 109 = .ok (.i2l, 1) := by decide +kernel
theorem dX7_digest_110 : decode cX7_digest 110 = .ok (.invokevirtual 252, 3) := by decide +kernel
theorem dX7_digest_113 : decode cX7_digest 113 = .ok (.iinc 1 1, 3) := by decide +kernel
theorem dX7_digest_116 : decode cX7_digest 116 = .ok (.goto (-50), 3) := by decide +kernel
theorem dX7_digest_119 : decode cX7_digest 119 = .ok (.iconst 0, 1) := by decide +kernel
theorem dX7_digest_120 : decode cX7_digest 120 = .ok (.istore_n 1, 1) := by decide +kernel
theorem dX7_digest_121 : decode cX7_digest 121 = .ok (.iload_n 1, 1) := by decide +kernel
theorem dX7_digest_122 : decode cX7_digest 122 = .ok (.aload_n 0, 1) := by decide +kernel
theorem dX7_digest_123 : decode cX7_digest 123 = .ok (.getfield 7, 3) := by decide +kernel
theorem dX7_digest_126 : decode cX7_digest 126 = .ok (.iconst 1, 1) := by decide +kernel
theorem dX7_digest_127 : decode cX7_digest 127 = .ok (.iaload, 1) := by decide +kernel
theorem dX7_digest_128 : decode cX7_digest 128 = .ok (.if_icmp .ge 14, 3) := by decide +kernel
theorem dX7_digest_131 : decode cX7_digest 131 = .ok (.aload_n 0, 1) := by decide +kernel
theorem dX7_digest_132 : decode cX7_digest 132 = .ok (.iload_n 1, 1) := by decide +kernel
theorem dX7_digest_133 : decode cX7_digest 133 = .ok (.invokevirtual 258, 3) := by decide +kernel
theorem dX7_digest_136 : decode cX7_digest 136 = .ok (.iinc 1 1, 3) := by decide +kernel
theorem dX7_digest_139 : decode cX7_digest 139 = .ok (.goto (-18), 3) := by decide +kernel
theorem dX7_digest_142 : decode cX7_digest 142 = .ok (.aload_n 0, 1) := by decide +kernel
theorem dX7_digest_143 : decode cX7_digest 143 = .ok (.aload_n 0, 1) := by decide +kernel
theorem dX7_digest_144 : decode cX7_digest 144 = .ok (.invokevirtual 242, 3) := by decide +kernel
theorem dX7_digest_147 : decode cX7_digest 147 = .ok (.invokestatic 261, 3) := by decide +kernel
theorem dX7_digest_150 : decode cX7_digest 150 = .ok (.invokevirtual 252, 3) := by decide +kernel
theorem dX7_digest_153 : decode cX7_digest 153 = .ok (.aload_n 0, 1) := by decide +kernel
theorem dX7_digest_154 : decode cX7_digest 154 = .ok (.aload_n 0, 1) := by decide +kernel
theorem dX7_digest_155 : decode cX7_digest 155 = .ok (.getfield 117, 3) := by decide +kernel
theorem dX7_digest_158 : decode cX7_digest 158 = .ok (.i2l, 1) := by decide +kernel
theorem dX7_digest_159 : decode cX7_digest 159 = .ok (.invokevirtual 252, 3) := by decide +kernel
theorem dX7_digest_162 : decode cX7_digest 162 = .ok (.iconst 0, 1) := by decide +kernel
theorem dX7_digest_163 : decode cX7_digest 163 = .ok (.istore_n 1, 1) := by decide +kernel
theorem dX7_digest_164 : decode cX7_digest 164 = .ok (.iload_n 1, 1) := by decide +kernel
theorem dX7_digest_165 : decode cX7_digest 165 = .ok (.aload_n 0, 1) := by decide +kernel
theorem dX7_digest_166 : decode cX7_digest 166 = .ok (.getfield 117, 3) := by decide +kernel
theorem dX7_digest_169 : decode cX7_digest 169 = .ok (.if_icmp .ge 20, 3) := by decide +kernel
theorem dX7_digest_172 : decode cX7_digest 172 = .ok (.aload_n 0, 1) := by decide +kernel
theorem dX7_digest_173 : decode cX7_digest 173 = .ok (.aload_n 0, 1) := by decide +kernel
theorem dX7_digest_174 : decode cX7_digest 174 = .ok (.getfield 19, 3) := by decide +kernel
theorem dX7_digest_177 : decode cX7_digest 177 = .ok (.iload_n 1, 1) := by decide +kernel
theorem dX7_digest_178 : decode cX7_digest 178 = .ok (.iaload, 1) := by decide +kernel
theorem dX7_digest_179 : decode cX7_digest 179 = .ok (.i2l, 1) := by decide +kernel
theorem dX7_digest_180 : decode cX7_digest 180 = .ok (.invokevirtual 252, 3) := by decide +kernel
theorem dX7_digest_183 : decode cX7_digest 183 = .ok (.iinc 1 1, 3) := by decide +kernel
theorem dX7_digest_186 : decode cX7_digest 186 = .ok (.goto (-22), 3) := by decide +kernel
theorem dX7_digest_189 : decode cX7_digest 189 = .ok (.aload_n 0, 1) := by decide +kernel
theorem dX7_digest_190 : decode cX7_digest 190 = .ok (.getfield 248, 3) := by decide +kernel
theorem dX7_digest_193 : decode cX7_digest 193 = .ok (.lreturn, 1) := by decide +kernel

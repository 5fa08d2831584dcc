theorem dL_cell_0 : decode cL_cell 0 = .ok (.iload_n 1, 1) := by decide +kernel
theorem dL_cell_1 : decode cL_cell 1 = .ok (.aload_n 0, 1) := by decide +kernel
theorem dL_cell_2 : decode cL_cell 2 = .ok (.arraylength, 1) := by decide +kernel
theorem dL_cell_3 : decode cL_cell 3 = .ok (.if_icmp .ge 9, 3) := by decide +kernel
theorem dL_cell_6 : decode cL_cell 6 = .ok (.aload_n 0, 1) := by decide +kernel
theorem dL_cell_7 : decode cL_cell 7 = .ok (.iload_n 1, 1) := by decide +kernel
theorem dL_cell_8 : decode cL_cell 8 = .ok (.iaload, 1) := by decide +kernel
theorem dL_cell_9 : decode cL_cell 9 = .ok (.goto 9, 3) := by decide +kernel
theorem dL_cell_12 : decode cL_cell 12 = .ok (.ldc 7, 2) := by decide +kernel
theorem dL_cell_14 : decode cL_cell 14 = .ok (.iload_n 1, 1) := by decide +kernel
theorem dL_cell_15 : decode cL_cell 15 = .ok (.iconst 1, 1) := by decide +kernel
theorem dL_cell_16 : decode cL_cell 16 = .ok (.iadd, 1) := by decide +kernel
theorem dL_cell_17 : decode cL_cell 17 = .ok (.imul, 1) := by decide +kernel
theorem dL_cell_18 : decode cL_cell 18 = .ok (.ireturn, 1) := by decide +kernel
theorem dL_at_0 : decode cL_at 0 = .ok (.iload_n 0, 1) := by decide +kernel
theorem dL_at_1 : decode cL_at 1 = .ok (.iconst 1, 1) := by decide +kernel
theorem dL_at_2 : decode cL_at 2 = .ok (.iushr, 1) := by decide +kernel
theorem dL_at_3 : decode cL_at 3 = .ok (.iload_n 1, 1) := by decide +kernel
theorem dL_at_4 : decode cL_at 4 = .ok (.irem, 1) := by decide +kernel
theorem dL_at_5 : decode cL_at 5 = .ok (.ireturn, 1) := by decide +kernel
theorem dL_four_0 : decode cL_four 0 = .ok (.aload_n 0, 1) := by decide +kernel
theorem dL_four_1 : decode cL_four 1 = .ok (.iconst 4, 1) := by decide +kernel
theorem dL_four_2 : decode cL_four 2 = .ok (.iload_n 1, 1) := by decide +kernel
theorem dL_four_3 : decode cL_four 3 = .ok (.imul, 1) := by decide +kernel
theorem dL_four_4 : decode cL_four 4 = .ok (.iaload, 1) := by decide +kernel
theorem dL_four_5 : decode cL_four 5 = .ok (.aload_n 0, 1) := by decide +kernel
theorem dL_four_6 : decode cL_four 6 = .ok (.iconst 4, 1) := by decide +kernel
theorem dL_four_7 : decode cL_four 7 = .ok (.iload_n 1, 1) := by decide +kernel
theorem dL_four_8 : decode cL_four 8 = .ok (.imul, 1) := by decide +kernel
theorem dL_four_9 : decode cL_four 9 = .ok (.iconst 1, 1) := by decide +kernel
theorem dL_four_10 : decode cL_four 10 = .ok (.iadd, 1) := by decide +kernel
theorem dL_four_11 : decode cL_four 11 = .ok (.iaload, 1) := by decide +kernel
theorem dL_four_12 : decode cL_four 12 = .ok (.iadd, 1) := by decide +kernel
theorem dL_four_13 : decode cL_four 13 = .ok (.aload_n 0, 1) := by decide +kernel
theorem dL_four_14 : decode cL_four 14 = .ok (.iconst 4, 1) := by decide +kernel
theorem dL_four_15 : decode cL_four 15 = .ok (.iload_n 1, 1) := by decide +kernel
theorem dL_four_16 : decode cL_four 16 = .ok (.imul, 1) := by decide +kernel
theorem dL_four_17 : decode cL_four 17 = .ok (.iconst 2, 1) := by decide +kernel
theorem dL_four_18 : decode cL_four 18 = .ok (.iadd, 1) := by decide +kernel
theorem dL_four_19 : decode cL_four 19 = .ok (.iaload, 1) := by decide +kernel
theorem dL_four_20 : decode cL_four 20 = .ok (.iadd, 1) := by decide +kernel
theorem dL_four_21 : decode cL_four 21 = .ok (.aload_n 0, 1) := by decide +kernel
theorem dL_four_22 : decode cL_four 22 = .ok (.iconst 4, 1) := by decide +kernel
theorem dL_four_23 : decode cL_four 23 = .ok (.iload_n 1, 1) := by decide +kernel
theorem dL_four_24 : decode cL_four 24 = .ok (.imul, 1) := by decide +kernel
theorem dL_four_25 : decode cL_four 25 = .ok (.iconst 3, 1) := by decide +kernel
theorem dL_four_26 : decode cL_four 26 = .ok (.iadd, 1) := by decide +kernel
theorem dL_four_27 : decode cL_four 27 = .ok (.iaload, 1) := by decide +kernel
theorem dL_four_28 : decode cL_four 28 = .ok (.iadd, 1) := by decide +kernel
theorem dL_four_29 : decode cL_four 29 = .ok (.ireturn, 1) := by decide +kernel
theorem dL_gets_0 : decode cL_gets 0 = .ok (.iload_n 1, 1) := by decide +kernel
theorem dL_gets_1 : decode cL_gets 1 = .ok (.iconst 2, 1) := by decide +kernel
theorem dL_gets_2 : decode cL_gets 2 = .ok (.idiv, 1) := by decide +kernel
theorem dL_gets_3 : decode cL_gets 3 = .ok (.iload_n 1, 1) := by decide +kernel
theorem dL_gets_4 : decode cL_gets 4 = .ok (.iconst 2, 1) := by decide +kernel
theorem dL_gets_5 : decode cL_gets 5 = .ok (.irem, 1) := by decide +kernel
theorem dL_gets_6 : decode cL_gets 6 = .ok (.iadd, 1) := by decide +kernel
theorem dL_gets_7 : decode cL_gets 7 = .ok (.istore 4, 2) := by decide +kernel
theorem dL_gets_9 : decode cL_gets 9 = .ok (.iload 4, 2) := by decide +kernel
theorem dL_gets_11 : decode cL_gets 11 = .ok (.aload_n 2, 1) := by decide +kernel
theorem dL_gets_12 : decode cL_gets 12 = .ok (.bipush 6, 2) := by decide +kernel
theorem dL_gets_14 : decode cL_gets 14 = .ok (.iload_n 0, 1) := by decide +kernel
theorem dL_gets_15 : decode cL_gets 15 = .ok (.imul, 1) := by decide +kernel
theorem dL_gets_16 : decode cL_gets 16 = .ok (.iconst 1, 1) := by decide +kernel
theorem dL_gets_17 : decode cL_gets 17 = .ok (.iadd, 1) := by decide +kernel
theorem dL_gets_18 : decode cL_gets 18 = .ok (.iaload, 1) := by decide +kernel
theorem dL_gets_19 : decode cL_gets 19 = .ok (.if_icmp .le 13, 3) := by decide +kernel
theorem dL_gets_22 : decode cL_gets 22 = .ok (.aload_n 2, 1) := by decide +kernel
theorem dL_gets_23 : decode cL_gets 23 = .ok (.bipush 6, 2) := by decide +kernel
theorem dL_gets_25 : decode cL_gets 25 = .ok (.iload_n 0, 1) := by decide +kernel
theorem dL_gets_26 : decode cL_gets 26 = .ok (.imul, 1) := by decide +kernel
theorem dL_gets_27 : decode cL_gets 27 = .ok (.iconst 1, 1) := by decide +kernel
theorem dL_gets_28 : decode cL_gets 28 = .ok (.iadd, 1) := by decide +kernel
theorem dL_gets_29 : decode cL_gets 29 = .ok (.iaload, 1) := by decide +kernel
theorem dL_gets_30 : decode cL_gets 30 = .ok (.istore 4, 2) := by decide +kernel
theorem dL_gets_32 : decode cL_gets 32 = .ok (.aload_n 2, 1) := by decide +kernel
theorem dL_gets_33 : decode cL_gets 33 = .ok (.bipush 6, 2) := by decide +kernel
theorem dL_gets_35 : decode cL_gets 35 = .ok (.iload_n 0, 1) := by decide +kernel
theorem dL_gets_36 : decode cL_gets 36 = .ok (.imul, 1) := by decide +kernel
theorem dL_gets_37 : decode cL_gets 37 = .ok (.iconst 1, 1) := by decide +kernel
theorem dL_gets_38 : decode cL_gets 38 = .ok (.iadd, 1) := by decide +kernel
theorem dL_gets_39 : decode cL_gets 39 = .ok (.dup2, 1) := by decide +kernel
theorem dL_gets_40 : decode cL_gets 40 = .ok (.iaload, 1) := by decide +kernel
theorem dL_gets_41 : decode cL_gets 41 = .ok (.iload 4, 2) := by decide +kernel
theorem dL_gets_43 : decode cL_gets 43 = .ok (.isub, 1) := by decide +kernel
theorem dL_gets_44 : decode cL_gets 44 = .ok (.iastore, 1) := by decide +kernel
theorem dL_gets_45 : decode cL_gets 45 = .ok (.aload_n 2, 1) := by decide +kernel
theorem dL_gets_46 : decode cL_gets 46 = .ok (.bipush 6, 2) := by decide +kernel
theorem dL_gets_48 : decode cL_gets 48 = .ok (.iload_n 0, 1) := by decide +kernel
theorem dL_gets_49 : decode cL_gets 49 = .ok (.imul, 1) := by decide +kernel
theorem dL_gets_50 : decode cL_gets 50 = .ok (.dup2, 1) := by decide +kernel
theorem dL_gets_51 : decode cL_gets 51 = .ok (.iaload, 1) := by decide +kernel
theorem dL_gets_52 : decode cL_gets 52 = .ok (.iload_n 1, 1) := by decide +kernel
theorem dL_gets_53 : decode cL_gets 53 = .ok (.iload 4, 2) := by decide +kernel
theorem dL_gets_55 : decode cL_gets 55 = .ok (.isub, 1) := by decide +kernel
theorem dL_gets_56 : decode cL_gets 56 = .ok (.iadd, 1) := by decide +kernel
theorem dL_gets_57 : decode cL_gets 57 = .ok (.iastore, 1) := by decide +kernel
theorem dL_gets_58 : decode cL_gets 58 = .ok (.aload_n 2, 1) := by decide +kernel
theorem dL_gets_59 : decode cL_gets 59 = .ok (.bipush 6, 2) := by decide +kernel
theorem dL_gets_61 : decode cL_gets 61 = .ok (.iload_n 0, 1) := by decide +kernel
theorem dL_gets_62 : decode cL_gets 62 = .ok (.imul, 1) := by decide +kernel
theorem dL_gets_63 : decode cL_gets 63 = .ok (.iconst 2, 1) := by decide +kernel
theorem dL_gets_64 : decode cL_gets 64 = .ok (.iadd, 1) := by decide +kernel
theorem dL_gets_65 : decode cL_gets 65 = .ok (.dup2, 1) := by decide +kernel
theorem dL_gets_66 : decode cL_gets 66 = .ok (.iaload, 1) := by decide +kernel
theorem dL_gets_67 : decode cL_gets 67 = .ok (.iload_n 1, 1) := by decide +kernel
theorem dL_gets_68 : decode cL_gets 68 = .ok (.iadd, 1) := by decide +kernel
theorem dL_gets_69 : decode cL_gets 69 = .ok (.iastore, 1) := by decide +kernel
theorem dL_gets_70 : decode cL_gets 70 = .ok (.aload_n 3, 1) := by decide +kernel
theorem dL_gets_71 : decode cL_gets 71 = .ok (.iconst 3, 1) := by decide +kernel
theorem dL_gets_72 : decode cL_gets 72 = .ok (.dup2, 1) := by decide +kernel
theorem dL_gets_73 : decode cL_gets 73 = .ok (.iaload, 1) := by decide +kernel
theorem dL_gets_74 : decode cL_gets 74 = .ok (.iload 4, 2) := by decide +kernel
theorem dL_gets_76 : decode cL_gets 76 = .ok (.iadd, 1) := by decide +kernel
theorem dL_gets_77 : decode cL_gets 77 = .ok (.iastore, 1) := by decide +kernel
theorem dL_gets_78 : decode cL_gets 78 = .ok (.iload 4, 2) := by decide +kernel
theorem dL_gets_80 : decode cL_gets 80 = .ok (.ireturn, 1) := by decide +kernel
theorem dL_share_0 : decode cL_share 0 = .ok (.aload_n 3, 1) := by decide +kernel
theorem dL_share_1 : decode cL_share 1 = .ok (.iload_n 0, 1) := by decide +kernel
theorem dL_share_2 : decode cL_share 2 = .ok (.invokestatic 8, 3) := by decide +kernel
theorem dL_share_5 : decode cL_share 5 = .ok (.istore 4, 2) := by decide +kernel
theorem dL_share_7 : decode cL_share 7 = .ok (.iload_n 2, 1) := by decide +kernel
theorem dL_share_8 : decode cL_share 8 = .ok (.istore 5, 2) := by decide +kernel
theorem dL_share_10 : decode cL_share 10 = .ok (.iconst 0, 1) := by decide +kernel
theorem dL_share_11 : decode cL_share 11 = .ok (.istore 6, 2) := by decide +kernel
theorem dL_share_13 : decode cL_share 13 = .ok (.iload_n 2, 1) := by decide +kernel
theorem dL_share_14 : decode cL_share 14 = .ok (.aload_n 3, 1) := by decide +kernel
theorem dL_share_15 : decode cL_share 15 = .ok (.iconst 4, 1) := by decide +kernel
theorem dL_share_16 : decode cL_share 16 = .ok (.iload_n 0, 1) := by decide +kernel
theorem dL_share_17 : decode cL_share 17 = .ok (.imul, 1) := by decide +kernel
theorem dL_share_18 : decode cL_share 18 = .ok (.iload_n 1, 1) := by decide +kernel
theorem dL_share_19 : decode cL_share 19 = .ok (.iadd, 1) := by decide +kernel
theorem dL_share_20 : decode cL_share 20 = .ok (.iaload, 1) := by decide +kernel
theorem dL_share_21 : decode cL_share 21 = .ok (.imul, 1) := by decide +kernel
theorem dL_share_22 : decode cL_share 22 = .ok (.iload 4, 2) := by decide +kernel
theorem dL_share_24 : decode cL_share 24 = .ok (.irem, 1) := by decide +kernel
theorem dL_share_25 : decode cL_share 25 = .ok (.istore 7, 2) := by decide +kernel
theorem dL_share_27 : decode cL_share 27 = .ok (.iconst 0, 1) := by decide +kernel
theorem dL_share_28 : decode cL_share 28 = .ok (.istore 8, 2) := by decide +kernel
theorem dL_share_30 : decode cL_share 30 = .ok (.iload 8, 2) := by decide +kernel
theorem dL_share_32 : decode cL_share 32 = .ok (.iconst 4, 1) := by decide +kernel
theorem dL_share_33 : decode cL_share 33 = .ok (.if_icmp .ge 76, 3) := by decide +kernel
theorem dL_share_36 : decode cL_share 36 = .ok (.iload_n 2, 1) := by decide +kernel
theorem dL_share_37 : decode cL_share 37 = .ok (.aload_n 3, 1) := by decide +kernel
theorem dL_share_38 : decode cL_share 38 = .ok (.iconst 4, 1) := by decide +kernel
theorem dL_share_39 : decode cL_share 39 = .ok (.iload_n 0, 1) := by decide +kernel
theorem dL_share_40 : decode cL_share 40 = .ok (.imul, 1) := by decide +kernel
theorem dL_share_41 : decode cL_share 41 = .ok (.iload 8, 2) := by decide +kernel
theorem dL_share_43 : decode cL_share 43 = .ok (.iadd, 1) := by decide +kernel
theorem dL_share_44 : decode cL_share 44 = .ok (.iaload, 1) := by decide +kernel
theorem dL_share_45 : decode cL_share 45 = .ok (.imul, 1) := by decide +kernel
theorem dL_share_46 : decode cL_share 46 = .ok (.iload 4, 2) := by decide +kernel
theorem dL_share_48 : decode cL_share 48 = .ok (.irem, 1) := by decide +kernel
theorem dL_share_49 : decode cL_share 49 = .ok (.istore 9, 2) := by decide +kernel
theorem dL_share_51 : decode cL_share 51 = .ok (.iload 5, 2) := by decide +kernel
theorem dL_share_53 : decode cL_share 53 = .ok (.iload_n 2, 1) := by decide +kernel
theorem dL_share_54 : decode cL_share 54 = .ok (.aload_n 3, 1) := by decide +kernel
theorem dL_share_55 : decode cL_share 55 = .ok (.iconst 4, 1) := by decide +kernel
theorem dL_share_56 : decode cL_share 56 = .ok (.iload_n 0, 1) := by decide +kernel
theorem dL_share_57 : decode cL_share 57 = .ok (.imul, 1) := by decide +kernel
theorem dL_share_58 : decode cL_share 58 = .ok (.iload 8, 2) := by decide +kernel
theorem dL_share_60 : decode cL_share 60 = .ok (.iadd, 1) := by decide +kernel
theorem dL_share_61 : decode cL_share 61 = .ok (.iaload, 1) := by decide +kernel
theorem dL_share_62 : decode cL_share 62 = .ok (.imul, 1) := by decide +kernel
theorem dL_share_63 : decode cL_share 63 = .ok (.iload 4, 2) := by decide +kernel
theorem dL_share_65 : decode cL_share 65 = .ok (.idiv, 1) := by decide +kernel
theorem dL_share_66 : decode cL_share 66 = .ok (.isub, 1) := by decide +kernel
theorem dL_share_67 : decode cL_share 67 = .ok (.istore 5, 2) := by decide +kernel
theorem dL_share_69 : decode cL_share 69 = .ok (.aload_n 3, 1) := by decide +kernel
theorem dL_share_70 : decode cL_share 70 = .ok (.iconst 4, 1) := by decide +kernel
theorem dL_share_71 : decode cL_share 71 = .ok (.iload_n 0, 1) := by decide +kernel
theorem dL_share_72 : decode cL_share 72 = .ok (.imul, 1) := by decide +kernel
theorem dL_share_73 : decode cL_share 73 = .ok (.iload 8, 2) := by decide +kernel
theorem dL_share_75 : decode cL_share 75 = .ok (.iadd, 1) := by decide +kernel
theorem dL_share_76 : decode cL_share 76 = .ok (.iaload, 1) := by decide +kernel
theorem dL_share_77 : decode cL_share 77 = .ok (.ifCond .le 26, 3) := by decide +kernel
theorem dL_share_80 : decode cL_share 80 = .ok (.iload 9, 2) := by decide +kernel
theorem dL_share_82 : decode cL_share 82 = .ok (.iload 7, 2) := by decide +kernel
theorem dL_share_84 : decode cL_share 84 = .ok (.if_icmp .gt 16, 3) := by decide +kernel
theorem dL_share_87 : decode cL_share 87 = .ok (.iload 9, 2) := by decide +kernel
theorem dL_share_89 : decode cL_share 89 = .ok (.iload 7, 2) := by decide +kernel
theorem dL_share_91 : decode cL_share 91 = .ok (.if_icmp .ne 12, 3) := by decide +kernel
theorem dL_share_94 : decode cL_share 94 = .ok (.iload 8, 2) := by decide +kernel
theorem dL_share_96 : decode cL_share 96 = .ok (.iload_n 1, 1) := by decide +kernel
theorem dL_share_97 : decode cL_share 97 = .ok (.if_icmp .ge 6, 3) := by decide +kernel
theorem dL_share_100 : decode cL_share 100 = .ok (.iinc 6 1, 3) := by decide +kernel
theorem dL_share_103 : decode cL_share 103 = .ok (.iinc 8 1, 3) := by decide +kernel
theorem dL_share_106 : decode cL_share 106 = .ok (.goto (-76), 3) := by decide +kernel
theorem dL_share_109 : decode cL_share 109 = .ok (.aload_n 3, 1) := by decide +kernel
theorem dL_share_110 : decode cL_share 110 = .ok (.iconst 4, 1) := by decide +kernel
theorem dL_share_111 : decode cL_share 111 = .ok (.iload_n 0, 1) := by decide +kernel
theorem dL_share_112 : decode cL_share 112 = .ok (.imul, 1) := by decide +kernel
theorem dL_share_113 : decode cL_share 113 = .ok (.iload_n 1, 1) := by decide +kernel
theorem dL_share_114 : decode cL_share 114 = .ok (.iadd, 1) := by decide +kernel
theorem dL_share_115 : decode cL_share 115 = .ok (.iaload, 1) := by decide +kernel
theorem dL_share_116 : decode cL_share 116 = .ok (.ifCond .ne 7, 3) := by decide +kernel
theorem dL_share_119 : decode cL_share 119 = .ok (.iconst 0, 1) := by decide +kernel
theorem dL_share_120 : decode cL_share 120 = .ok (.goto 28, 3) := by decide +kernel
theorem dL_share_123 : decode cL_share 123 = .ok (.iload_n 2, 1) := by decide +kernel
theorem dL_share_124 : decode cL_share 124 = .ok (.aload_n 3, 1) := by decide +kernel
theorem dL_share_125 : decode cL_share 125 = .ok (.iconst 4, 1) := by decide +kernel
theorem dL_share_126 : decode cL_share 126 = .ok (.iload_n 0, 1) := by decide +kernel
theorem dL_share_127 : decode cL_share 127 = .ok (.imul, 1) := by decide +kernel
theorem dL_share_128 : decode cL_share 128 = .ok (.iload_n 1, 1) := by decide +kernel
theorem dL_share_129 : decode cL_share 129 = .ok (.iadd, 1) := by decide +kernel
theorem dL_share_130 : decode cL_share 130 = .ok (.iaload, 1) := by decide +kernel
theorem dL_share_131 : decode cL_share 131 = .ok (.imul, 1) := by decide +kernel
theorem dL_share_132 : decode cL_share 132 = .ok (.iload 4, 2) := by decide +kernel
theorem dL_share_134 : decode cL_share 134 = .ok (.idiv, 1) := by decide +kernel
theorem dL_share_135 : decode cL_share 135 = .ok (.iload 6, 2) := by decide +kernel
theorem dL_share_137 : decode cL_share 137 = .ok (.iload 5, 2) := by decide +kernel
theorem dL_share_139 : decode cL_share 139 = .ok (.if_icmp .ge 7, 3) := by decide +kernel
theorem dL_share_142 : decode cL_share 142 = .ok (.iconst 1, 1) := by decide +kernel
theorem dL_share_143 : decode cL_share 143 = .ok (.goto 4, 3) := by decide +kernel
theorem dL_share_146 : decode cL_share 146 = .ok (.iconst 0, 1) := by decide +kernel
theorem dL_share_147 : decode cL_share 147 = .ok (.iadd, 1) := by decide +kernel
theorem dL_share_148 : decode cL_share 148 = .ok (.ireturn, 1) := by decide +kernel
theorem dL_comes_0 : decode cL_comes 0 = .ok (.iload_n 1, 1) := by decide +kernel
theorem dL_comes_1 : decode cL_comes 1 = .ok (.aload 7, 2) := by decide +kernel
theorem dL_comes_3 : decode cL_comes 3 = .ok (.iconst 0, 1) := by decide +kernel
theorem dL_comes_4 : decode cL_comes 4 = .ok (.iaload, 1) := by decide +kernel
theorem dL_comes_5 : decode cL_comes 5 = .ok (.imul, 1) := by decide +kernel
theorem dL_comes_6 : decode cL_comes 6 = .ok (.bipush 100, 2) := by decide +kernel
theorem dL_comes_8 : decode cL_comes 8 = .ok (.idiv, 1) := by decide +kernel
theorem dL_comes_9 : decode cL_comes 9 = .ok (.istore 9, 2) := by decide +kernel
theorem dL_comes_11 : decode cL_comes 11 = .ok (.iload_n 2, 1) := by decide +kernel
theorem dL_comes_12 : decode cL_comes 12 = .ok (.ifCond .eq 15, 3) := by decide +kernel
theorem dL_comes_15 : decode cL_comes 15 = .ok (.iload_n 1, 1) := by decide +kernel
theorem dL_comes_16 : decode cL_comes 16 = .ok (.aload 7, 2) := by decide +kernel
theorem dL_comes_18 : decode cL_comes 18 = .ok (.iconst 1, 1) := by decide +kernel
theorem dL_comes_19 : decode cL_comes 19 = .ok (.iaload, 1) := by decide +kernel
theorem dL_comes_20 : decode cL_comes 20 = .ok (.imul, 1) := by decide +kernel
theorem dL_comes_21 : decode cL_comes 21 = .ok (.bipush 100, 2) := by decide +kernel
theorem dL_comes_23 : decode cL_comes 23 = .ok (.idiv, 1) := by decide +kernel
theorem dL_comes_24 : decode cL_comes 24 = .ok (.goto 4, 3) := by decide +kernel
theorem dL_comes_27 : decode cL_comes 27 = .ok (.iconst 0, 1) := by decide +kernel
theorem dL_comes_28 : decode cL_comes 28 = .ok (.istore 10, 2) := by decide +kernel
theorem dL_comes_30 : decode cL_comes 30 = .ok (.iload 9, 2) := by decide +kernel
theorem dL_comes_32 : decode cL_comes 32 = .ok (.istore 11, 2) := by decide +kernel
theorem dL_comes_34 : decode cL_comes 34 = .ok (.aload 8, 2) := by decide +kernel
theorem dL_comes_36 : decode cL_comes 36 = .ok (.iconst 4, 1) := by decide +kernel
theorem dL_comes_37 : decode cL_comes 37 = .ok (.dup2, 1) := by decide +kernel
theorem dL_comes_38 : decode cL_comes 38 = .ok (.iaload, 1) := by decide +kernel
theorem dL_comes_39 : decode cL_comes 39 = .ok (.iload_n 1, 1) := by decide +kernel
theorem dL_comes_40 : decode cL_comes 40 = .ok (.iadd, 1) := by decide +kernel
theorem dL_comes_41 : decode cL_comes 41 = .ok (.iastore, 1) := by decide +kernel
theorem dL_comes_42 : decode cL_comes 42 = .ok (.aload 8, 2) := by decide +kernel
theorem dL_comes_44 : decode cL_comes 44 = .ok (.iconst 3, 1) := by decide +kernel
theorem dL_comes_45 : decode cL_comes 45 = .ok (.dup2, 1) := by decide +kernel
theorem dL_comes_46 : decode cL_comes 46 = .ok (.iaload, 1) := by decide +kernel
theorem dL_comes_47 : decode cL_comes 47 = .ok (.iload 9, 2) := by decide +kernel
theorem dL_comes_49 : decode cL_comes 49 = .ok (.iadd, 1) := by decide +kernel
theorem dL_comes_50 : decode cL_comes 50 = .ok (.iastore, 1) := by decide +kernel
theorem dL_comes_51 : decode cL_comes 51 = .ok (.iload_n 2, 1) := by decide +kernel
theorem dL_comes_52 : decode cL_comes 52 = .ok (.ifCond .eq 41, 3) := by decide +kernel
theorem dL_comes_55 : decode cL_comes 55 = .ok (.aload 4, 2) := by decide +kernel
theorem dL_comes_57 : decode cL_comes 57 = .ok (.iconst 5, 1) := by decide +kernel
theorem dL_comes_58 : decode cL_comes 58 = .ok (.iload_n 0, 1) := by decide +kernel
theorem dL_comes_59 : decode cL_comes 59 = .ok (.imul, 1) := by decide +kernel
theorem dL_comes_60 : decode cL_comes 60 = .ok (.iconst 4, 1) := by decide +kernel
theorem dL_comes_61 : decode cL_comes 61 = .ok (.iadd, 1) := by decide +kernel
theorem dL_comes_62 : decode cL_comes 62 = .ok (.dup2, 1) := by decide +kernel
theorem dL_comes_63 : decode cL_comes 63 = .ok (.iaload, 1) := by decide +kernel
theorem dL_comes_64 : decode cL_comes 64 = .ok (.iload_n 1, 1) := by decide +kernel
theorem dL_comes_65 : decode cL_comes 65 = .ok (.iadd, 1) := by decide +kernel
theorem dL_comes_66 : decode cL_comes 66 = .ok (.iastore, 1) := by decide +kernel
theorem dL_comes_67 : decode cL_comes 67 = .ok (.iload 11, 2) := by decide +kernel
theorem dL_comes_69 : decode cL_comes 69 = .ok (.aload_n 3, 1) := by decide +kernel
theorem dL_comes_70 : decode cL_comes 70 = .ok (.bipush 6, 2) := by decide +kernel
theorem dL_comes_72 : decode cL_comes 72 = .ok (.aload 4, 2) := by decide +kernel
theorem dL_comes_74 : decode cL_comes 74 = .ok (.iconst 5, 1) := by decide +kernel
theorem dL_comes_75 : decode cL_comes 75 = .ok (.iload_n 0, 1) := by decide +kernel
theorem dL_comes_76 : decode cL_comes 76 = .ok (.imul, 1) := by decide +kernel
theorem dL_comes_77 : decode cL_comes 77 = .ok (.iaload, 1) := by decide +kernel
theorem dL_comes_78 : decode cL_comes 78 = .ok (.imul, 1) := by decide +kernel
theorem dL_comes_79 : decode cL_comes 79 = .ok (.iconst 3, 1) := by decide +kernel
theorem dL_comes_80 : decode cL_comes 80 = .ok (.iadd, 1) := by decide +kernel
theorem dL_comes_81 : decode cL_comes 81 = .ok (.iaload, 1) := by decide +kernel
theorem dL_comes_82 : decode cL_comes 82 = .ok (.iload 10, 2) := by decide +kernel
theorem dL_comes_84 : decode cL_comes 84 = .ok (.aload_n 3, 1) := by decide +kernel
theorem dL_comes_85 : decode cL_comes 85 = .ok (.aload 8, 2) := by decide +kernel
theorem dL_comes_87 : decode cL_comes 87 = .ok (.invokestatic 14, 3) := by decide +kernel
theorem dL_comes_90 : decode cL_comes 90 = .ok (.iadd, 1) := by decide +kernel
theorem dL_comes_91 : decode cL_comes 91 = .ok (.istore 11, 2) := by decide +kernel
theorem dL_comes_93 : decode cL_comes 93 = .ok (.iconst 0, 1) := by decide +kernel
theorem dL_comes_94 : decode cL_comes 94 = .ok (.istore 12, 2) := by decide +kernel
theorem dL_comes_96 : decode cL_comes 96 = .ok (.iload 12, 2) := by decide +kernel
theorem dL_comes_98 : decode cL_comes 98 = .ok (.aload 8, 2) := by decide +kernel
theorem dL_comes_100 : decode cL_comes 100 = .ok (.iconst 0, 1) := by decide +kernel
theorem dL_comes_101 : decode cL_comes 101 = .ok (.iaload, 1) := by decide +kernel
theorem dL_comes_102 : decode cL_comes 102 = .ok (.if_icmp .ge 140, 3) := by decide +kernel
theorem dL_comes_105 : decode cL_comes 105 = .ok (.iload_n 0, 1) := by decide +kernel
theorem dL_comes_106 : decode cL_comes 106 = .ok (.iload 12, 2) := by decide +kernel
theorem dL_comes_108 : decode cL_comes 108 = .ok (.iload_n 1, 1) := by decide +kernel
theorem dL_comes_109 : decode cL_comes 109 = .ok (.iload 9, 2) := by decide +kernel
theorem dL_comes_111 : decode cL_comes 111 = .ok (.isub, 1) := by decide +kernel
theorem dL_comes_112 : decode cL_comes 112 = .ok (.iload 10, 2) := by decide +kernel
theorem dL_comes_114 : decode cL_comes 114 = .ok (.isub, 1) := by decide +kernel
theorem dL_comes_115 : decode cL_comes 115 = .ok (.aload 5, 2) := by decide +kernel
theorem dL_comes_117 : decode cL_comes 117 = .ok (.invokestatic 18, 3) := by decide +kernel
theorem dL_comes_120 : decode cL_comes 120 = .ok (.istore 13, 2) := by decide +kernel
theorem dL_comes_122 : decode cL_comes 122 = .ok (.iload_n 2, 1) := by decide +kernel
theorem dL_comes_123 : decode cL_comes 123 = .ok (.ifCond .eq 80, 3) := by decide +kernel
theorem dL_comes_126 : decode cL_comes 126 = .ok (.aload 7, 2) := by decide +kernel
theorem dL_comes_128 : decode cL_comes 128 = .ok (.iconst 2, 1) := by decide +kernel
theorem dL_comes_129 : decode cL_comes 129 = .ok (.iaload, 1) := by decide +kernel
theorem dL_comes_130 : decode cL_comes 130 = .ok (.ifCond .le 73, 3) := by decide +kernel
theorem dL_comes_133 : decode cL_comes 133 = .ok (.aload 7, 2) := by decide +kernel
theorem dL_comes_135 : decode cL_comes 135 = .ok (.iconst 2, 1) := by decide +kernel
theorem dL_comes_136 : decode cL_comes 136 = .ok (.iaload, 1) := by decide +kernel
theorem dL_comes_137 : decode cL_comes 137 = .ok (.aload 6, 2) := by decide +kernel
theorem dL_comes_139 : decode cL_comes 139 = .ok (.iconst 4, 1) := by decide +kernel
theorem dL_comes_140 : decode cL_comes 140 = .ok (.iload_n 0, 1) := by decide +kernel
theorem dL_comes_141 : decode cL_comes 141 = .ok (.imul, 1) := by decide +kernel
theorem dL_comes_142 : decode cL_comes 142 = .ok (.iload 12, 2) := by decide +kernel
theorem dL_comes_144 : decode cL_comes 144 = .ok (.iadd, 1) := by decide +kernel
theorem dL_comes_145 : decode cL_comes 145 = .ok (.iaload, 1) := by decide +kernel
theorem dL_comes_146 : decode cL_comes 146 = .ok (.isub, 1) := by decide +kernel
theorem dL_comes_147 : decode cL_comes 147 = .ok (.istore 14, 2) := by decide +kernel
theorem dL_comes_149 : decode cL_comes 149 = .ok (.iload 13, 2) := by decide +kernel
theorem dL_comes_151 : decode cL_comes 151 = .ok (.iload 14, 2) := by decide +kernel
theorem dL_comes_153 : decode cL_comes 153 = .ok (.ifCond .ge 7, 3) := by decide +kernel
theorem dL_comes_156 : decode cL_comes 156 = .ok (.iconst 0, 1) := by decide +kernel
theorem dL_comes_157 : decode cL_comes 157 = .ok (.goto 5, 3) := by decide +kernel
theorem dL_comes_160 : decode cL_comes 160 = .ok (.iload 14, 2) := by decide +kernel
theorem dL_comes_162 : decode cL_comes 162 = .ok (.isub, 1) := by decide +kernel
theorem dL_comes_163 : decode cL_comes 163 = .ok (.istore 15, 2) := by decide +kernel
theorem dL_comes_165 : decode cL_comes 165 = .ok (.iload 15, 2) := by decide +kernel
theorem dL_comes_167 : decode cL_comes 167 = .ok (.ifCond .le 36, 3) := by decide +kernel
theorem dL_comes_170 : decode cL_comes 170 = .ok (.iload 13, 2) := by decide +kernel
theorem dL_comes_172 : decode cL_comes 172 = .ok (.iload 15, 2) := by decide +kernel
theorem dL_comes_174 : decode cL_comes 174 = .ok (.isub, 1) := by decide +kernel
theorem dL_comes_175 : decode cL_comes 175 = .ok (.istore 13, 2) := by decide +kernel
theorem dL_comes_177 : decode cL_comes 177 = .ok (.iload 11, 2) := by decide +kernel
theorem dL_comes_179 : decode cL_comes 179 = .ok (.iload 15, 2) := by decide +kernel
theorem dL_comes_181 : decode cL_comes 181 = .ok (.iadd, 1) := by decide +kernel
theorem dL_comes_182 : decode cL_comes 182 = .ok (.istore 11, 2) := by decide +kernel
theorem dL_comes_184 : decode cL_comes 184 = .ok (.aload 8, 2) := by decide +kernel
theorem dL_comes_186 : decode cL_comes 186 = .ok (.iconst 3, 1) := by decide +kernel
theorem dL_comes_187 : decode cL_comes 187 = .ok (.dup2, 1) := by decide +kernel
theorem dL_comes_188 : decode cL_comes 188 = .ok (.iaload, 1) := by decide +kernel
theorem dL_comes_189 : decode cL_comes 189 = .ok (.iload 15, 2) := by decide +kernel
theorem dL_comes_191 : decode cL_comes 191 = .ok (.iadd, 1) := by decide +kernel
theorem dL_comes_192 : decode cL_comes 192 = .ok (.iastore, 1) := by decide +kernel
theorem dL_comes_193 : decode cL_comes 193 = .ok (.aload 8, 2) := by decide +kernel
theorem dL_comes_195 : decode cL_comes 195 = .ok (.bipush 7, 2) := by decide +kernel
theorem dL_comes_197 : decode cL_comes 197 = .ok (.dup2, 1) := by decide +kernel
theorem dL_comes_198 : decode cL_comes 198 = .ok (.iaload, 1) := by decide +kernel
theorem dL_comes_199 : decode cL_comes 199 = .ok (.iload 15, 2) := by decide +kernel
theorem dL_comes_201 : decode cL_comes 201 = .ok (.iadd, 1) := by decide +kernel
theorem dL_comes_202 : decode cL_comes 202 = .ok (.iastore, 1) := by decide +kernel
theorem dL_comes_203 : decode cL_comes 203 = .ok (.iload_n 2, 1) := by decide +kernel
theorem dL_comes_204 : decode cL_comes 204 = .ok (.ifCond .eq 17, 3) := by decide +kernel
theorem dL_comes_207 : decode cL_comes 207 = .ok (.aload 6, 2) := by decide +kernel
theorem dL_comes_209 : decode cL_comes 209 = .ok (.iconst 4, 1) := by decide +kernel
theorem dL_comes_210 : decode cL_comes 210 = .ok (.iload_n 0, 1) := by decide +kernel
theorem dL_comes_211 : decode cL_comes 211 = .ok (.imul, 1) := by decide +kernel
theorem dL_comes_212 : decode cL_comes 212 = .ok (.iload 12, 2) := by decide +kernel
theorem dL_comes_214 : decode cL_comes 214 = .ok (.iadd, 1) := by decide +kernel
theorem dL_comes_215 : decode cL_comes 215 = .ok (.dup2, 1) := by decide +kernel
theorem dL_comes_216 : decode cL_comes 216 = .ok (.iaload, 1) := by decide +kernel
theorem dL_comes_217 : decode cL_comes 217 = .ok (.iload 13, 2) := by decide +kernel
theorem dL_comes_219 : decode cL_comes 219 = .ok (.iadd, 1) := by decide +kernel
theorem dL_comes_220 : decode cL_comes 220 = .ok (.iastore, 1) := by decide +kernel
theorem dL_comes_221 : decode cL_comes 221 = .ok (.iload 11, 2) := by decide +kernel
theorem dL_comes_223 : decode cL_comes 223 = .ok (.iload 12, 2) := by decide +kernel
theorem dL_comes_225 : decode cL_comes 225 = .ok (.iload 13, 2) := by decide +kernel
theorem dL_comes_227 : decode cL_comes 227 = .ok (.aload_n 3, 1) := by decide +kernel
theorem dL_comes_228 : decode cL_comes 228 = .ok (.aload 8, 2) := by decide +kernel
theorem dL_comes_230 : decode cL_comes 230 = .ok (.invokestatic 14, 3) := by decide +kernel
theorem dL_comes_233 : decode cL_comes 233 = .ok (.iadd, 1) := by decide +kernel
theorem dL_comes_234 : decode cL_comes 234 = .ok (.istore 11, 2) := by decide +kernel
theorem dL_comes_236 : decode cL_comes 236 = .ok (.iinc 12 1, 3) := by decide +kernel
theorem dL_comes_239 : decode cL_comes 239 = .ok (.goto (-143), 3) := by decide +kernel
theorem dL_comes_242 : decode cL_comes 242 = .ok (.iload 11, 2) := by decide +kernel
theorem dL_comes_244 : decode cL_comes 244 = .ok (.ireturn, 1) := by decide +kernel
theorem dL_kill_0 : decode cL_kill 0 = .ok (.aload_n 1, 1) := by decide +kernel
theorem dL_kill_1 : decode cL_kill 1 = .ok (.iconst 5, 1) := by decide +kernel
theorem dL_kill_2 : decode cL_kill 2 = .ok (.iload_n 0, 1) := by decide +kernel
theorem dL_kill_3 : decode cL_kill 3 = .ok (.imul, 1) := by decide +kernel
theorem dL_kill_4 : decode cL_kill 4 = .ok (.iconst 2, 1) := by decide +kernel
theorem dL_kill_5 : decode cL_kill 5 = .ok (.iadd, 1) := by decide +kernel
theorem dL_kill_6 : decode cL_kill 6 = .ok (.iaload, 1) := by decide +kernel
theorem dL_kill_7 : decode cL_kill 7 = .ok (.iconst 2, 1) := by decide +kernel
theorem dL_kill_8 : decode cL_kill 8 = .ok (.if_icmp .le 7, 3) := by decide +kernel
theorem dL_kill_11 : decode cL_kill 11 = .ok (.iconst 0, 1) := by decide +kernel
theorem dL_kill_12 : decode cL_kill 12 = .ok (.goto 25, 3) := by decide +kernel
theorem dL_kill_15 : decode cL_kill 15 = .ok (.aload_n 1, 1) := by decide +kernel
theorem dL_kill_16 : decode cL_kill 16 = .ok (.iconst 5, 1) := by decide +kernel
theorem dL_kill_17 : decode cL_kill 17 = .ok (.iload_n 0, 1) := by decide +kernel
theorem dL_kill_18 : decode cL_kill 18 = .ok (.imul, 1) := by decide +kernel
theorem dL_kill_19 : decode cL_kill 19 = .ok (.iconst 1, 1) := by decide +kernel
theorem dL_kill_20 : decode cL_kill 20 = .ok (.iadd, 1) := by decide +kernel
theorem dL_kill_21 : decode cL_kill 21 = .ok (.iaload, 1) := by decide +kernel
theorem dL_kill_22 : decode cL_kill 22 = .ok (.aload_n 2, 1) := by decide +kernel
theorem dL_kill_23 : decode cL_kill 23 = .ok (.iconst 3, 1) := by decide +kernel
theorem dL_kill_24 : decode cL_kill 24 = .ok (.aload_n 1, 1) := by decide +kernel
theorem dL_kill_25 : decode cL_kill 25 = .ok (.iconst 5, 1) := by decide +kernel
theorem dL_kill_26 : decode cL_kill 26 = .ok (.iload_n 0, 1) := by decide +kernel
theorem dL_kill_27 : decode cL_kill 27 = .ok (.imul, 1) := by decide +kernel
theorem dL_kill_28 : decode cL_kill 28 = .ok (.iconst 2, 1) := by decide +kernel
theorem dL_kill_29 : decode cL_kill 29 = .ok (.iadd, 1) := by decide +kernel
theorem dL_kill_30 : decode cL_kill 30 = .ok (.iaload, 1) := by decide +kernel
theorem dL_kill_31 : decode cL_kill 31 = .ok (.iadd, 1) := by decide +kernel
theorem dL_kill_32 : decode cL_kill 32 = .ok (.iaload, 1) := by decide +kernel
theorem dL_kill_33 : decode cL_kill 33 = .ok (.imul, 1) := by decide +kernel
theorem dL_kill_34 : decode cL_kill 34 = .ok (.bipush 100, 2) := by decide +kernel
theorem dL_kill_36 : decode cL_kill 36 = .ok (.idiv, 1) := by decide +kernel
theorem dL_kill_37 : decode cL_kill 37 = .ok (.ireturn, 1) := by decide +kernel
theorem dL_quarrels_0 : decode cL_quarrels 0 = .ok (.aload_n 2, 1) := by decide +kernel
theorem dL_quarrels_1 : decode cL_quarrels 1 = .ok (.iconst 5, 1) := by decide +kernel
theorem dL_quarrels_2 : decode cL_quarrels 2 = .ok (.iload_n 0, 1) := by decide +kernel
theorem dL_quarrels_3 : decode cL_quarrels 3 = .ok (.imul, 1) := by decide +kernel
theorem dL_quarrels_4 : decode cL_quarrels 4 = .ok (.iconst 2, 1) := by decide +kernel
theorem dL_quarrels_5 : decode cL_quarrels 5 = .ok (.iadd, 1) := by decide +kernel
theorem dL_quarrels_6 : decode cL_quarrels 6 = .ok (.iaload, 1) := by decide +kernel
theorem dL_quarrels_7 : decode cL_quarrels 7 = .ok (.iconst 4, 1) := by decide +kernel
theorem dL_quarrels_8 : decode cL_quarrels 8 = .ok (.if_icmp .ge 38, 3) := by decide +kernel
theorem dL_quarrels_11 : decode cL_quarrels 11 = .ok (.aload 4, 2) := by decide +kernel
theorem dL_quarrels_13 : decode cL_quarrels 13 = .ok (.iconst 4, 1) := by decide +kernel
theorem dL_quarrels_14 : decode cL_quarrels 14 = .ok (.iload_n 0, 1) := by decide +kernel
theorem dL_quarrels_15 : decode cL_quarrels 15 = .ok (.imul, 1) := by decide +kernel
theorem dL_quarrels_16 : decode cL_quarrels 16 = .ok (.iload_n 1, 1) := by decide +kernel
theorem dL_quarrels_17 : decode cL_quarrels 17 = .ok (.iadd, 1) := by decide +kernel
theorem dL_quarrels_18 : decode cL_quarrels 18 = .ok (.iaload, 1) := by decide +kernel
theorem dL_quarrels_19 : decode cL_quarrels 19 = .ok (.aload_n 3, 1) := by decide +kernel
theorem dL_quarrels_20 : decode cL_quarrels 20 = .ok (.iload_n 0, 1) := by decide +kernel
theorem dL_quarrels_21 : decode cL_quarrels 21 = .ok (.invokestatic 8, 3) := by decide +kernel
theorem dL_quarrels_24 : decode cL_quarrels 24 = .ok (.imul, 1) := by decide +kernel
theorem dL_quarrels_25 : decode cL_quarrels 25 = .ok (.aload_n 3, 1) := by decide +kernel
theorem dL_quarrels_26 : decode cL_quarrels 26 = .ok (.iconst 4, 1) := by decide +kernel
theorem dL_quarrels_27 : decode cL_quarrels 27 = .ok (.iload_n 0, 1) := by decide +kernel
theorem dL_quarrels_28 : decode cL_quarrels 28 = .ok (.imul, 1) := by decide +kernel
theorem dL_quarrels_29 : decode cL_quarrels 29 = .ok (.iload_n 1, 1) := by decide +kernel
theorem dL_quarrels_30 : decode cL_quarrels 30 = .ok (.iadd, 1) := by decide +kernel
theorem dL_quarrels_31 : decode cL_quarrels 31 = .ok (.iaload, 1) := by decide +kernel
theorem dL_quarrels_32 : decode cL_quarrels 32 = .ok (.aload 4, 2) := by decide +kernel
theorem dL_quarrels_34 : decode cL_quarrels 34 = .ok (.iload_n 0, 1) := by decide +kernel
theorem dL_quarrels_35 : decode cL_quarrels 35 = .ok (.invokestatic 8, 3) := by decide +kernel
theorem dL_quarrels_38 : decode cL_quarrels 38 = .ok (.imul, 1) := by decide +kernel
theorem dL_quarrels_39 : decode cL_quarrels 39 = .ok (.if_icmp .ge 7, 3) := by decide +kernel
theorem dL_quarrels_42 : decode cL_quarrels 42 = .ok (.iconst 1, 1) := by decide +kernel
theorem dL_quarrels_43 : decode cL_quarrels 43 = .ok (.goto 4, 3) := by decide +kernel
theorem dL_quarrels_46 : decode cL_quarrels 46 = .ok (.iconst 0, 1) := by decide +kernel
theorem dL_quarrels_47 : decode cL_quarrels 47 = .ok (.ireturn, 1) := by decide +kernel
theorem dL_sum_0 : decode cL_sum 0 = .ok (.iconst 0, 1) := by decide +kernel
theorem dL_sum_1 : decode cL_sum 1 = .ok (.istore_n 3, 1) := by decide +kernel
theorem dL_sum_2 : decode cL_sum 2 = .ok (.iconst 0, 1) := by decide +kernel
theorem dL_sum_3 : decode cL_sum 3 = .ok (.istore 4, 2) := by decide +kernel
theorem dL_sum_5 : decode cL_sum 5 = .ok (.iload 4, 2) := by decide +kernel
theorem dL_sum_7 : decode cL_sum 7 = .ok (.aload_n 2, 1) := by decide +kernel
theorem dL_sum_8 : decode cL_sum 8 = .ok (.iconst 0, 1) := by decide +kernel
theorem dL_sum_9 : decode cL_sum 9 = .ok (.iaload, 1) := by decide +kernel
theorem dL_sum_10 : decode cL_sum 10 = .ok (.if_icmp .ge 48, 3) := by decide +kernel
theorem dL_sum_13 : decode cL_sum 13 = .ok (.iload_n 3, 1) := by decide +kernel
theorem dL_sum_14 : decode cL_sum 14 = .ok (.iload_n 0, 1) := by decide +kernel
theorem dL_sum_15 : decode cL_sum 15 = .ok (.iconst 3, 1) := by decide +kernel
theorem dL_sum_16 : decode cL_sum 16 = .ok (.if_icmp .ne 25, 3) := by decide +kernel
theorem dL_sum_19 : decode cL_sum 19 = .ok (.aload_n 1, 1) := by decide +kernel
theorem dL_sum_20 : decode cL_sum 20 = .ok (.bipush 6, 2) := by decide +kernel
theorem dL_sum_22 : decode cL_sum 22 = .ok (.iload 4, 2) := by decide +kernel
theorem dL_sum_24 : decode cL_sum 24 = .ok (.imul, 1) := by decide +kernel
theorem dL_sum_25 : decode cL_sum 25 = .ok (.iconst 3, 1) := by decide +kernel
theorem dL_sum_26 : decode cL_sum 26 = .ok (.iadd, 1) := by decide +kernel
theorem dL_sum_27 : decode cL_sum 27 = .ok (.iaload, 1) := by decide +kernel
theorem dL_sum_28 : decode cL_sum 28 = .ok (.iload 4, 2) := by decide +kernel
theorem dL_sum_30 : decode cL_sum 30 = .ok (.if_icmp .ne 7, 3) := by decide +kernel
theorem dL_sum_33 : decode cL_sum 33 = .ok (.iconst 0, 1) := by decide +kernel
theorem dL_sum_34 : decode cL_sum 34 = .ok (.goto 16, 3) := by decide +kernel
theorem dL_sum_37 : decode cL_sum 37 = .ok (.iconst 1, 1) := by decide +kernel
theorem dL_sum_38 : decode cL_sum 38 = .ok (.goto 12, 3) := by decide +kernel
theorem dL_sum_41 : decode cL_sum 41 = .ok (.aload_n 1, 1) := by decide +kernel
theorem dL_sum_42 : decode cL_sum 42 = .ok (.bipush 6, 2) := by decide +kernel
theorem dL_sum_44 : decode cL_sum 44 = .ok (.iload 4, 2) := by decide +kernel
theorem dL_sum_46 : decode cL_sum 46 = .ok (.imul, 1) := by decide +kernel
theorem dL_sum_47 : decode cL_sum 47 = .ok (.iload_n 0, 1) := by decide +kernel
theorem dL_sum_48 : decode cL_sum 48 = .ok (.iadd, 1) := by decide +kernel
theorem dL_sum_49 : decode cL_sum 49 = .ok (.iaload, 1) := by decide +kernel
theorem dL_sum_50 : decode cL_sum 50 = .ok (.iadd, 1) := by decide +kernel
theorem dL_sum_51 : decode cL_sum 51 = .ok (.istore_n 3, 1) := by decide +kernel
theorem dL_sum_52 : decode cL_sum 52 = .ok (.iinc 4 1, 3) := by decide +kernel
theorem dL_sum_55 : decode cL_sum 55 = .ok (.goto (-50), 3) := by decide +kernel
theorem dL_sum_58 : decode cL_sum 58 = .ok (.iload_n 3, 1) := by decide +kernel
theorem dL_sum_59 : decode cL_sum 59 = .ok (.ireturn, 1) := by decide +kernel
theorem dL_pens_0 : decode cL_pens 0 = .ok (.iconst 0, 1) := by decide +kernel
theorem dL_pens_1 : decode cL_pens 1 = .ok (.istore 4, 2) := by decide +kernel
theorem dL_pens_3 : decode cL_pens 3 = .ok (.iload 4, 2) := by decide +kernel
theorem dL_pens_5 : decode cL_pens 5 = .ok (.aload_n 3, 1) := by decide +kernel
theorem dL_pens_6 : decode cL_pens 6 = .ok (.iconst 0, 1) := by decide +kernel
theorem dL_pens_7 : decode cL_pens 7 = .ok (.iaload, 1) := by decide +kernel
theorem dL_pens_8 : decode cL_pens 8 = .ok (.if_icmp .ge 239, 3) := by decide +kernel
theorem dL_pens_11 : decode cL_pens 11 = .ok (.iconst 0, 1) := by decide +kernel
theorem dL_pens_12 : decode cL_pens 12 = .ok (.istore 5, 2) := by decide +kernel
theorem dL_pens_14 : decode cL_pens 14 = .ok (.iconst 0, 1) := by decide +kernel
theorem dL_pens_15 : decode cL_pens 15 = .ok (.istore 6, 2) := by decide +kernel
theorem dL_pens_17 : decode cL_pens 17 = .ok (.iconst 0, 1) := by decide +kernel
theorem dL_pens_18 : decode cL_pens 18 = .ok (.istore 7, 2) := by decide +kernel
theorem dL_pens_20 : decode cL_pens 20 = .ok (.iconst 0, 1) := by decide +kernel
theorem dL_pens_21 : decode cL_pens 21 = .ok (.istore 8, 2) := by decide +kernel
theorem dL_pens_23 : decode cL_pens 23 = .ok (.iload 8, 2) := by decide +kernel
theorem dL_pens_25 : decode cL_pens 25 = .ok (.aload_n 3, 1) := by decide +kernel
theorem dL_pens_26 : decode cL_pens 26 = .ok (.iconst 0, 1) := by decide +kernel
theorem dL_pens_27 : decode cL_pens 27 = .ok (.iaload, 1) := by decide +kernel
theorem dL_pens_28 : decode cL_pens 28 = .ok (.if_icmp .ge 84, 3) := by decide +kernel
theorem dL_pens_31 : decode cL_pens 31 = .ok (.iload 5, 2) := by decide +kernel
theorem dL_pens_33 : decode cL_pens 33 = .ok (.aload_n 1, 1) := by decide +kernel
theorem dL_pens_34 : decode cL_pens 34 = .ok (.bipush 6, 2) := by decide +kernel
theorem dL_pens_36 : decode cL_pens 36 = .ok (.iload 8, 2) := by decide +kernel
theorem dL_pens_38 : decode cL_pens 38 = .ok (.imul, 1) := by decide +kernel
theorem dL_pens_39 : decode cL_pens 39 = .ok (.iconst 3, 1) := by decide +kernel
theorem dL_pens_40 : decode cL_pens 40 = .ok (.iadd, 1) := by decide +kernel
theorem dL_pens_41 : decode cL_pens 41 = .ok (.iaload, 1) := by decide +kernel
theorem dL_pens_42 : decode cL_pens 42 = .ok (.iload 4, 2) := by decide +kernel
theorem dL_pens_44 : decode cL_pens 44 = .ok (.if_icmp .ne 7, 3) := by decide +kernel
theorem dL_pens_47 : decode cL_pens 47 = .ok (.iconst 1, 1) := by decide +kernel
theorem dL_pens_48 : decode cL_pens 48 = .ok (.goto 4, 3) := by decide +kernel
theorem dL_pens_51 : decode cL_pens 51 = .ok (.iconst 0, 1) := by decide +kernel
theorem dL_pens_52 : decode cL_pens 52 = .ok (.iadd, 1) := by decide +kernel
theorem dL_pens_53 : decode cL_pens 53 = .ok (.istore 5, 2) := by decide +kernel
theorem dL_pens_55 : decode cL_pens 55 = .ok (.iload 7, 2) := by decide +kernel
theorem dL_pens_57 : decode cL_pens 57 = .ok (.aload_n 1, 1) := by decide +kernel
theorem dL_pens_58 : decode cL_pens 58 = .ok (.bipush 6, 2) := by decide +kernel
theorem dL_pens_60 : decode cL_pens 60 = .ok (.iload 8, 2) := by decide +kernel
theorem dL_pens_62 : decode cL_pens 62 = .ok (.imul, 1) := by decide +kernel
theorem dL_pens_63 : decode cL_pens 63 = .ok (.iaload, 1) := by decide +kernel
theorem dL_pens_64 : decode cL_pens 64 = .ok (.aload_n 1, 1) := by decide +kernel
theorem dL_pens_65 : decode cL_pens 65 = .ok (.bipush 6, 2) := by decide +kernel
theorem dL_pens_67 : decode cL_pens 67 = .ok (.iload 4, 2) := by decide +kernel
theorem dL_pens_69 : decode cL_pens 69 = .ok (.imul, 1) := by decide +kernel
theorem dL_pens_70 : decode cL_pens 70 = .ok (.iaload, 1) := by decide +kernel
theorem dL_pens_71 : decode cL_pens 71 = .ok (.if_icmp .gt 27, 3) := by decide +kernel
theorem dL_pens_74 : decode cL_pens 74 = .ok (.aload_n 1, 1) := by decide +kernel
theorem dL_pens_75 : decode cL_pens 75 = .ok (.bipush 6, 2) := by decide +kernel
theorem dL_pens_77 : decode cL_pens 77 = .ok (.iload 8, 2) := by decide +kernel
theorem dL_pens_79 : decode cL_pens 79 = .ok (.imul, 1) := by decide +kernel
theorem dL_pens_80 : decode cL_pens 80 = .ok (.iaload, 1) := by decide +kernel
theorem dL_pens_81 : decode cL_pens 81 = .ok (.aload_n 1, 1) := by decide +kernel
theorem dL_pens_82 : decode cL_pens 82 = .ok (.bipush 6, 2) := by decide +kernel
theorem dL_pens_84 : decode cL_pens 84 = .ok (.iload 4, 2) := by decide +kernel
theorem dL_pens_86 : decode cL_pens 86 = .ok (.imul, 1) := by decide +kernel
theorem dL_pens_87 : decode cL_pens 87 = .ok (.iaload, 1) := by decide +kernel
theorem dL_pens_88 : decode cL_pens 88 = .ok (.if_icmp .ne 14, 3) := by decide +kernel
theorem dL_pens_91 : decode cL_pens 91 = .ok (.iload 8, 2) := by decide +kernel
theorem dL_pens_93 : decode cL_pens 93 = .ok (.iload 4, 2) := by decide +kernel
theorem dL_pens_95 : decode cL_pens 95 = .ok (.if_icmp .ge 7, 3) := by decide +kernel
theorem dL_pens_98 : decode cL_pens 98 = .ok (.iconst 1, 1) := by decide +kernel
theorem dL_pens_99 : decode cL_pens 99 = .ok (.goto 4, 3) := by decide +kernel
theorem dL_pens_102 : decode cL_pens 102 = .ok (.iconst 0, 1) := by decide +kernel
theorem dL_pens_103 : decode cL_pens 103 = .ok (.iadd, 1) := by decide +kernel
theorem dL_pens_104 : decode cL_pens 104 = .ok (.istore 7, 2) := by decide +kernel
theorem dL_pens_106 : decode cL_pens 106 = .ok (.iinc 8 1, 3) := by decide +kernel
theorem dL_pens_109 : decode cL_pens 109 = .ok (.goto (-86), 3) := by decide +kernel
theorem dL_pens_112 : decode cL_pens 112 = .ok (.iconst 0, 1) := by decide +kernel
theorem dL_pens_113 : decode cL_pens 113 = .ok (.istore 8, 2) := by decide +kernel
theorem dL_pens_115 : decode cL_pens 115 = .ok (.iload 8, 2) := by decide +kernel
theorem dL_pens_117 : decode cL_pens 117 = .ok (.aload_n 3, 1) := by decide +kernel
theorem dL_pens_118 : decode cL_pens 118 = .ok (.iconst 1, 1) := by decide +kernel
theorem dL_pens_119 : decode cL_pens 119 = .ok (.iaload, 1) := by decide +kernel
theorem dL_pens_120 : decode cL_pens 120 = .ok (.if_icmp .ge 23, 3) := by decide +kernel
theorem dL_pens_123 : decode cL_pens 123 = .ok (.iload 6, 2) := by decide +kernel
theorem dL_pens_125 : decode cL_pens 125 = .ok (.aload_n 2, 1) := by decide +kernel
theorem dL_pens_126 : decode cL_pens 126 = .ok (.iconst 4, 1) := by decide +kernel
theorem dL_pens_127 : decode cL_pens 127 = .ok (.iload 8, 2) := by decide +kernel
theorem dL_pens_129 : decode cL_pens 129 = .ok (.imul, 1) := by decide +kernel
theorem dL_pens_130 : decode cL_pens 130 = .ok (.iload 4, 2) := by decide +kernel
theorem dL_pens_132 : decode cL_pens 132 = .ok (.iadd, 1) := by decide +kernel
theorem dL_pens_133 : decode cL_pens 133 = .ok (.iaload, 1) := by decide +kernel
theorem dL_pens_134 : decode cL_pens 134 = .ok (.iadd, 1) := by decide +kernel
theorem dL_pens_135 : decode cL_pens 135 = .ok (.istore 6, 2) := by decide +kernel
theorem dL_pens_137 : decode cL_pens 137 = .ok (.iinc 8 1, 3) := by decide +kernel
theorem dL_pens_140 : decode cL_pens 140 = .ok (.goto (-25), 3) := by decide +kernel
theorem dL_pens_143 : decode cL_pens 143 = .ok (.iconst 0, 1) := by decide +kernel
theorem dL_pens_144 : decode cL_pens 144 = .ok (.istore 8, 2) := by decide +kernel
theorem dL_pens_146 : decode cL_pens 146 = .ok (.iload 8, 2) := by decide +kernel
theorem dL_pens_148 : decode cL_pens 148 = .ok (.iconst 5, 1) := by decide +kernel
theorem dL_pens_149 : decode cL_pens 149 = .ok (.if_icmp .ge 32, 3) := by decide +kernel
theorem dL_pens_152 : decode cL_pens 152 = .ok (.aload_n 0, 1) := by decide +kernel
theorem dL_pens_153 : decode cL_pens 153 = .ok (.iload 4, 2) := by decide +kernel
theorem dL_pens_155 : decode cL_pens 155 = .ok (.iload 8, 2) := by decide +kernel
theorem dL_pens_157 : decode cL_pens 157 = .ok (.invokevirtual 22, 3) := by decide +kernel
theorem dL_pens_160 : decode cL_pens 160 = .ok (.aload_n 1, 1) := by decide +kernel
theorem dL_pens_161 : decode cL_pens 161 = .ok (.bipush 6, 2) := by decide +kernel
theorem dL_pens_163 : decode cL_pens 163 = .ok (.iload 4, 2) := by decide +kernel
theorem dL_pens_165 : decode cL_pens 165 = .ok (.imul, 1) := by decide +kernel
theorem dL_pens_166 : decode cL_pens 166 = .ok (.iload 8, 2) := by decide +kernel
theorem dL_pens_168 : decode cL_pens 168 = .ok (.iadd, 1) := by decide +kernel
theorem dL_pens_169 : decode cL_pens 169 = .ok (.iaload, 1) := by decide +kernel
theorem dL_pens_170 : decode cL_pens 170 = .ok (.if_icmp .eq 5, 3) := by decide +kernel
theorem dL_pens_173 : decode cL_pens 173 = .ok (.iconst 0, 1) := by decide +kernel
theorem dL_pens_174 : decode cL_pens 174 = .ok (.ireturn, 1) := by decide +kernel
theorem dL_pens_175 : decode cL_pens 175 = .ok (.iinc 8 1, 3) := by decide +kernel
theorem dL_pens_178 : decode cL_pens 178 = .ok (.goto (-32), 3) := by decide +kernel
theorem dL_pens_181 : decode cL_pens 181 = .ok (.aload_n 0, 1) := by decide +kernel
theorem dL_pens_182 : decode cL_pens 182 = .ok (.iload 4, 2) := by decide +kernel
theorem dL_pens_184 : decode cL_pens 184 = .ok (.iconst 5, 1) := by decide +kernel
theorem dL_pens_185 : decode cL_pens 185 = .ok (.invokevirtual 22, 3) := by decide +kernel
theorem dL_pens_188 : decode cL_pens 188 = .ok (.iload 5, 2) := by decide +kernel
theorem dL_pens_190 : decode cL_pens 190 = .ok (.if_icmp .ne 49, 3) := by decide +kernel
theorem dL_pens_193 : decode cL_pens 193 = .ok (.aload_n 0, 1) := by decide +kernel
theorem dL_pens_194 : decode cL_pens 194 = .ok (.iload 4, 2) := by decide +kernel
theorem dL_pens_196 : decode cL_pens 196 = .ok (.bipush 6, 2) := by decide +kernel
theorem dL_pens_198 : decode cL_pens 198 = .ok (.invokevirtual 22, 3) := by decide +kernel
theorem dL_pens_201 : decode cL_pens 201 = .ok (.aload_n 1, 1) := by decide +kernel
theorem dL_pens_202 : decode cL_pens 202 = .ok (.bipush 6, 2) := by decide +kernel
theorem dL_pens_204 : decode cL_pens 204 = .ok (.iload 4, 2) := by decide +kernel
theorem dL_pens_206 : decode cL_pens 206 = .ok (.imul, 1) := by decide +kernel
theorem dL_pens_207 : decode cL_pens 207 = .ok (.iconst 5, 1) := by decide +kernel
theorem dL_pens_208 : decode cL_pens 208 = .ok (.iadd, 1) := by decide +kernel
theorem dL_pens_209 : decode cL_pens 209 = .ok (.iaload, 1) := by decide +kernel
theorem dL_pens_210 : decode cL_pens 210 = .ok (.if_icmp .ne 29, 3) := by decide +kernel
theorem dL_pens_213 : decode cL_pens 213 = .ok (.aload_n 0, 1) := by decide +kernel
theorem dL_pens_214 : decode cL_pens 214 = .ok (.iload 4, 2) := by decide +kernel
theorem dL_pens_216 : decode cL_pens 216 = .ok (.bipush 7, 2) := by decide +kernel
theorem dL_pens_218 : decode cL_pens 218 = .ok (.invokevirtual 22, 3) := by decide +kernel
theorem dL_pens_221 : decode cL_pens 221 = .ok (.iload 6, 2) := by decide +kernel
theorem dL_pens_223 : decode cL_pens 223 = .ok (.if_icmp .ne 16, 3) := by decide +kernel
theorem dL_pens_226 : decode cL_pens 226 = .ok (.aload_n 0, 1) := by decide +kernel
theorem dL_pens_227 : decode cL_pens 227 = .ok (.iload 4, 2) := by decide +kernel
theorem dL_pens_229 : decode cL_pens 229 = .ok (.bipush 8, 2) := by decide +kernel
theorem dL_pens_231 : decode cL_pens 231 = .ok (.invokevirtual 22, 3) := by decide +kernel
theorem dL_pens_234 : decode cL_pens 234 = .ok (.iload 7, 2) := by decide +kernel
theorem dL_pens_236 : decode cL_pens 236 = .ok (.if_icmp .eq 5, 3) := by decide +kernel
theorem dL_pens_239 : decode cL_pens 239 = .ok (.iconst 0, 1) := by decide +kernel
theorem dL_pens_240 : decode cL_pens 240 = .ok (.ireturn, 1) := by decide +kernel
theorem dL_pens_241 : decode cL_pens 241 = .ok (.iinc 4 1, 3) := by decide +kernel
theorem dL_pens_244 : decode cL_pens 244 = .ok (.goto (-241), 3) := by decide +kernel
theorem dL_pens_247 : decode cL_pens 247 = .ok (.iconst 1, 1) := by decide +kernel
theorem dL_pens_248 : decode cL_pens 248 = .ok (.ireturn, 1) := by decide +kernel
theorem dL_pieces_0 : decode cL_pieces 0 = .ok (.iconst 0, 1) := by decide +kernel
theorem dL_pieces_1 : decode cL_pieces 1 = .ok (.istore 7, 2) := by decide +kernel
theorem dL_pieces_3 : decode cL_pieces 3 = .ok (.iload 7, 2) := by decide +kernel
theorem dL_pieces_5 : decode cL_pieces 5 = .ok (.aload 6, 2) := by decide +kernel
theorem dL_pieces_7 : decode cL_pieces 7 = .ok (.iconst 1, 1) := by decide +kernel
theorem dL_pieces_8 : decode cL_pieces 8 = .ok (.iaload, 1) := by decide +kernel
theorem dL_pieces_9 : decode cL_pieces 9 = .ok (.if_icmp .ge 282, 3) := by decide +kernel
theorem dL_pieces_12 : decode cL_pieces 12 = .ok (.iconst 0, 1) := by decide +kernel
theorem dL_pieces_13 : decode cL_pieces 13 = .ok (.istore 8, 2) := by decide +kernel
theorem dL_pieces_15 : decode cL_pieces 15 = .ok (.iconst 0, 1) := by decide +kernel
theorem dL_pieces_16 : decode cL_pieces 16 = .ok (.istore 9, 2) := by decide +kernel
theorem dL_pieces_18 : decode cL_pieces 18 = .ok (.iconst 0, 1) := by decide +kernel
theorem dL_pieces_19 : decode cL_pieces 19 = .ok (.istore 10, 2) := by decide +kernel
theorem dL_pieces_21 : decode cL_pieces 21 = .ok (.iload 10, 2) := by decide +kernel
theorem dL_pieces_23 : decode cL_pieces 23 = .ok (.aload 6, 2) := by decide +kernel
theorem dL_pieces_25 : decode cL_pieces 25 = .ok (.iconst 0, 1) := by decide +kernel
theorem dL_pieces_26 : decode cL_pieces 26 = .ok (.iaload, 1) := by decide +kernel
theorem dL_pieces_27 : decode cL_pieces 27 = .ok (.if_icmp .ge 123, 3) := by decide +kernel
theorem dL_pieces_30 : decode cL_pieces 30 = .ok (.iload 8, 2) := by decide +kernel
theorem dL_pieces_32 : decode cL_pieces 32 = .ok (.aload_n 3, 1) := by decide +kernel
theorem dL_pieces_33 : decode cL_pieces 33 = .ok (.iconst 4, 1) := by decide +kernel
theorem dL_pieces_34 : decode cL_pieces 34 = .ok (.iload 7, 2) := by decide +kernel
theorem dL_pieces_36 : decode cL_pieces 36 = .ok (.imul, 1) := by decide +kernel
theorem dL_pieces_37 : decode cL_pieces 37 = .ok (.iload 10, 2) := by decide +kernel
theorem dL_pieces_39 : decode cL_pieces 39 = .ok (.iadd, 1) := by decide +kernel
theorem dL_pieces_40 : decode cL_pieces 40 = .ok (.iaload, 1) := by decide +kernel
theorem dL_pieces_41 : decode cL_pieces 41 = .ok (.ifCond .le 7, 3) := by decide +kernel
theorem dL_pieces_44 : decode cL_pieces 44 = .ok (.iconst 1, 1) := by decide +kernel
theorem dL_pieces_45 : decode cL_pieces 45 = .ok (.goto 4, 3) := by decide +kernel
theorem dL_pieces_48 : decode cL_pieces 48 = .ok (.iconst 0, 1) := by decide +kernel
theorem dL_pieces_49 : decode cL_pieces 49 = .ok (.iadd, 1) := by decide +kernel
theorem dL_pieces_50 : decode cL_pieces 50 = .ok (.istore 8, 2) := by decide +kernel
theorem dL_pieces_52 : decode cL_pieces 52 = .ok (.iload 9, 2) := by decide +kernel
theorem dL_pieces_54 : decode cL_pieces 54 = .ok (.iload 7, 2) := by decide +kernel
theorem dL_pieces_56 : decode cL_pieces 56 = .ok (.iload 10, 2) := by decide +kernel
theorem dL_pieces_58 : decode cL_pieces 58 = .ok (.aload_n 1, 1) := by decide +kernel
theorem dL_pieces_59 : decode cL_pieces 59 = .ok (.aload_n 2, 1) := by decide +kernel
theorem dL_pieces_60 : decode cL_pieces 60 = .ok (.aload_n 3, 1) := by decide +kernel
theorem dL_pieces_61 : decode cL_pieces 61 = .ok (.invokestatic 28, 3) := by decide +kernel
theorem dL_pieces_64 : decode cL_pieces 64 = .ok (.ifCond .eq 10, 3) := by decide +kernel
theorem dL_pieces_67 : decode cL_pieces 67 = .ok (.iconst 1, 1) := by decide +kernel
theorem dL_pieces_68 : decode cL_pieces 68 = .ok (.iload 10, 2) := by decide +kernel
theorem dL_pieces_70 : decode cL_pieces 70 = .ok (.ishl, 1) := by decide +kernel
theorem dL_pieces_71 : decode cL_pieces 71 = .ok (.goto 4, 3) := by decide +kernel
theorem dL_pieces_74 : decode cL_pieces 74 = .ok (.iconst 0, 1) := by decide +kernel
theorem dL_pieces_75 : decode cL_pieces 75 = .ok (.iadd, 1) := by decide +kernel
theorem dL_pieces_76 : decode cL_pieces 76 = .ok (.istore 9, 2) := by decide +kernel
theorem dL_pieces_78 : decode cL_pieces 78 = .ok (.aload_n 0, 1) := by decide +kernel
theorem dL_pieces_79 : decode cL_pieces 79 = .ok (.iload 7, 2) := by decide +kernel
theorem dL_pieces_81 : decode cL_pieces 81 = .ok (.iload 10, 2) := by decide +kernel
theorem dL_pieces_83 : decode cL_pieces 83 = .ok (.iconst 0, 1) := by decide +kernel
theorem dL_pieces_84 : decode cL_pieces 84 = .ok (.invokevirtual 32, 3) := by decide +kernel
theorem dL_pieces_87 : decode cL_pieces 87 = .ok (.aload_n 3, 1) := by decide +kernel
theorem dL_pieces_88 : decode cL_pieces 88 = .ok (.iconst 4, 1) := by decide +kernel
theorem dL_pieces_89 : decode cL_pieces 89 = .ok (.iload 7, 2) := by decide +kernel
theorem dL_pieces_91 : decode cL_pieces 91 = .ok (.imul, 1) := by decide +kernel
theorem dL_pieces_92 : decode cL_pieces 92 = .ok (.iload 10, 2) := by decide +kernel
theorem dL_pieces_94 : decode cL_pieces 94 = .ok (.iadd, 1) := by decide +kernel
theorem dL_pieces_95 : decode cL_pieces 95 = .ok (.iaload, 1) := by decide +kernel
theorem dL_pieces_96 : decode cL_pieces 96 = .ok (.if_icmp .ne 46, 3) := by decide +kernel
theorem dL_pieces_99 : decode cL_pieces 99 = .ok (.aload_n 0, 1) := by decide +kernel
theorem dL_pieces_100 : decode cL_pieces 100 = .ok (.iload 7, 2) := by decide +kernel
theorem dL_pieces_102 : decode cL_pieces 102 = .ok (.iload 10, 2) := by decide +kernel
theorem dL_pieces_104 : decode cL_pieces 104 = .ok (.iconst 1, 1) := by decide +kernel
theorem dL_pieces_105 : decode cL_pieces 105 = .ok (.invokevirtual 32, 3) := by decide +kernel
theorem dL_pieces_108 : decode cL_pieces 108 = .ok (.aload_n 2, 1) := by decide +kernel
theorem dL_pieces_109 : decode cL_pieces 109 = .ok (.iconst 4, 1) := by decide +kernel
theorem dL_pieces_110 : decode cL_pieces 110 = .ok (.iload 7, 2) := by decide +kernel
theorem dL_pieces_112 : decode cL_pieces 112 = .ok (.imul, 1) := by decide +kernel
theorem dL_pieces_113 : decode cL_pieces 113 = .ok (.iload 10, 2) := by decide +kernel
theorem dL_pieces_115 : decode cL_pieces 115 = .ok (.iadd, 1) := by decide +kernel
theorem dL_pieces_116 : decode cL_pieces 116 = .ok (.iaload, 1) := by decide +kernel
theorem dL_pieces_117 : decode cL_pieces 117 = .ok (.if_icmp .ne 25, 3) := by decide +kernel
theorem dL_pieces_120 : decode cL_pieces 120 = .ok (.aload_n 0, 1) := by decide +kernel
theorem dL_pieces_121 : decode cL_pieces 121 = .ok (.iload 7, 2) := by decide +kernel
theorem dL_pieces_123 : decode cL_pieces 123 = .ok (.iload 10, 2) := by decide +kernel
theorem dL_pieces_125 : decode cL_pieces 125 = .ok (.iconst 2, 1) := by decide +kernel
theorem dL_pieces_126 : decode cL_pieces 126 = .ok (.invokevirtual 32, 3) := by decide +kernel
theorem dL_pieces_129 : decode cL_pieces 129 = .ok (.aload 4, 2) := by decide +kernel
theorem dL_pieces_131 : decode cL_pieces 131 = .ok (.iconst 4, 1) := by decide +kernel
theorem dL_pieces_132 : decode cL_pieces 132 = .ok (.iload 7, 2) := by decide +kernel
theorem dL_pieces_134 : decode cL_pieces 134 = .ok (.imul, 1) := by decide +kernel
theorem dL_pieces_135 : decode cL_pieces 135 = .ok (.iload 10, 2) := by decide +kernel
theorem dL_pieces_137 : decode cL_pieces 137 = .ok (.iadd, 1) := by decide +kernel
theorem dL_pieces_138 : decode cL_pieces 138 = .ok (.iaload, 1) := by decide +kernel
theorem dL_pieces_139 : decode cL_pieces 139 = .ok (.if_icmp .eq 5, 3) := by decide +kernel
theorem dL_pieces_142 : decode cL_pieces 142 = .ok (.iconst 0, 1) := by decide +kernel
theorem dL_pieces_143 : decode cL_pieces 143 = .ok (.ireturn, 1) := by decide +kernel
theorem dL_pieces_144 : decode cL_pieces 144 = .ok (.iinc 10 1, 3) := by decide +kernel
theorem dL_pieces_147 : decode cL_pieces 147 = .ok (.goto (-126), 3) := by decide +kernel
theorem dL_pieces_150 : decode cL_pieces 150 = .ok (.iconst 0, 1) := by decide +kernel
theorem dL_pieces_151 : decode cL_pieces 151 = .ok (.istore 10, 2) := by decide +kernel
theorem dL_pieces_153 : decode cL_pieces 153 = .ok (.iload 10, 2) := by decide +kernel
theorem dL_pieces_155 : decode cL_pieces 155 = .ok (.iconst 4, 1) := by decide +kernel
theorem dL_pieces_156 : decode cL_pieces 156 = .ok (.if_icmp .ge 31, 3) := by decide +kernel
theorem dL_pieces_159 : decode cL_pieces 159 = .ok (.aload_n 0, 1) := by decide +kernel
theorem dL_pieces_160 : decode cL_pieces 160 = .ok (.iload 7, 2) := by decide +kernel
theorem dL_pieces_162 : decode cL_pieces 162 = .ok (.iload 10, 2) := by decide +kernel
theorem dL_pieces_164 : decode cL_pieces 164 = .ok (.invokevirtual 36, 3) := by decide +kernel
theorem dL_pieces_167 : decode cL_pieces 167 = .ok (.aload_n 1, 1) := by decide +kernel
theorem dL_pieces_168 : decode cL_pieces 168 = .ok (.iconst 5, 1) := by decide +kernel
theorem dL_pieces_169 : decode cL_pieces 169 = .ok (.iload 7, 2) := by decide +kernel
theorem dL_pieces_171 : decode cL_pieces 171 = .ok (.imul, 1) := by decide +kernel
theorem dL_pieces_172 : decode cL_pieces 172 = .ok (.iload 10, 2) := by decide +kernel
theorem dL_pieces_174 : decode cL_pieces 174 = .ok (.iadd, 1) := by decide +kernel
theorem dL_pieces_175 : decode cL_pieces 175 = .ok (.iaload, 1) := by decide +kernel
theorem dL_pieces_176 : decode cL_pieces 176 = .ok (.if_icmp .eq 5, 3) := by decide +kernel
theorem dL_pieces_179 : decode cL_pieces 179 = .ok (.iconst 0, 1) := by decide +kernel
theorem dL_pieces_180 : decode cL_pieces 180 = .ok (.ireturn, 1) := by decide +kernel
theorem dL_pieces_181 : decode cL_pieces 181 = .ok (.iinc 10 1, 3) := by decide +kernel
theorem dL_pieces_184 : decode cL_pieces 184 = .ok (.goto (-31), 3) := by decide +kernel
theorem dL_pieces_187 : decode cL_pieces 187 = .ok (.aload_n 0, 1) := by decide +kernel
theorem dL_pieces_188 : decode cL_pieces 188 = .ok (.iload 7, 2) := by decide +kernel
theorem dL_pieces_190 : decode cL_pieces 190 = .ok (.iconst 4, 1) := by decide +kernel
theorem dL_pieces_191 : decode cL_pieces 191 = .ok (.invokevirtual 36, 3) := by decide +kernel
theorem dL_pieces_194 : decode cL_pieces 194 = .ok (.aload_n 2, 1) := by decide +kernel
theorem dL_pieces_195 : decode cL_pieces 195 = .ok (.iload 7, 2) := by decide +kernel
theorem dL_pieces_197 : decode cL_pieces 197 = .ok (.invokestatic 8, 3) := by decide +kernel
theorem dL_pieces_200 : decode cL_pieces 200 = .ok (.if_icmp .ne 83, 3) := by decide +kernel
theorem dL_pieces_203 : decode cL_pieces 203 = .ok (.aload_n 0, 1) := by decide +kernel
theorem dL_pieces_204 : decode cL_pieces 204 = .ok (.iload 7, 2) := by decide +kernel
theorem dL_pieces_206 : decode cL_pieces 206 = .ok (.iconst 5, 1) := by decide +kernel
theorem dL_pieces_207 : decode cL_pieces 207 = .ok (.invokevirtual 36, 3) := by decide +kernel
theorem dL_pieces_210 : decode cL_pieces 210 = .ok (.iload 8, 2) := by decide +kernel
theorem dL_pieces_212 : decode cL_pieces 212 = .ok (.if_icmp .ne 71, 3) := by decide +kernel
theorem dL_pieces_215 : decode cL_pieces 215 = .ok (.aload_n 0, 1) := by decide +kernel
theorem dL_pieces_216 : decode cL_pieces 216 = .ok (.iload 7, 2) := by decide +kernel
theorem dL_pieces_218 : decode cL_pieces 218 = .ok (.bipush 6, 2) := by decide +kernel
theorem dL_pieces_220 : decode cL_pieces 220 = .ok (.invokevirtual 36, 3) := by decide +kernel
theorem dL_pieces_223 : decode cL_pieces 223 = .ok (.aload_n 3, 1) := by decide +kernel
theorem dL_pieces_224 : decode cL_pieces 224 = .ok (.iload 7, 2) := by decide +kernel
theorem dL_pieces_226 : decode cL_pieces 226 = .ok (.invokestatic 8, 3) := by decide +kernel
theorem dL_pieces_229 : decode cL_pieces 229 = .ok (.if_icmp .ne 54, 3) := by decide +kernel
theorem dL_pieces_232 : decode cL_pieces 232 = .ok (.aload_n 0, 1) := by decide +kernel
theorem dL_pieces_233 : decode cL_pieces 233 = .ok (.iload 7, 2) := by decide +kernel
theorem dL_pieces_235 : decode cL_pieces 235 = .ok (.bipush 7, 2) := by decide +kernel
theorem dL_pieces_237 : decode cL_pieces 237 = .ok (.invokevirtual 36, 3) := by decide +kernel
theorem dL_pieces_240 : decode cL_pieces 240 = .ok (.aload_n 1, 1) := by decide +kernel
theorem dL_pieces_241 : decode cL_pieces 241 = .ok (.iconst 5, 1) := by decide +kernel
theorem dL_pieces_242 : decode cL_pieces 242 = .ok (.iload 7, 2) := by decide +kernel
theorem dL_pieces_244 : decode cL_pieces 244 = .ok (.imul, 1) := by decide +kernel
theorem dL_pieces_245 : decode cL_pieces 245 = .ok (.iconst 4, 1) := by decide +kernel
theorem dL_pieces_246 : decode cL_pieces 246 = .ok (.iadd, 1) := by decide +kernel
theorem dL_pieces_247 : decode cL_pieces 247 = .ok (.iaload, 1) := by decide +kernel
theorem dL_pieces_248 : decode cL_pieces 248 = .ok (.if_icmp .ne 35, 3) := by decide +kernel
theorem dL_pieces_251 : decode cL_pieces 251 = .ok (.aload_n 0, 1) := by decide +kernel
theorem dL_pieces_252 : decode cL_pieces 252 = .ok (.iload 7, 2) := by decide +kernel
theorem dL_pieces_254 : decode cL_pieces 254 = .ok (.bipush 8, 2) := by decide +kernel
theorem dL_pieces_256 : decode cL_pieces 256 = .ok (.invokevirtual 36, 3) := by decide +kernel
theorem dL_pieces_259 : decode cL_pieces 259 = .ok (.iload 7, 2) := by decide +kernel
theorem dL_pieces_261 : decode cL_pieces 261 = .ok (.aload_n 1, 1) := by decide +kernel
theorem dL_pieces_262 : decode cL_pieces 262 = .ok (.aload 5, 2) := by decide +kernel
theorem dL_pieces_264 : decode cL_pieces 264 = .ok (.invokestatic 39, 3) := by decide +kernel
theorem dL_pieces_267 : decode cL_pieces 267 = .ok (.if_icmp .ne 16, 3) := by decide +kernel
theorem dL_pieces_270 : decode cL_pieces 270 = .ok (.aload_n 0, 1) := by decide +kernel
theorem dL_pieces_271 : decode cL_pieces 271 = .ok (.iload 7, 2) := by decide +kernel
theorem dL_pieces_273 : decode cL_pieces 273 = .ok (.bipush 9, 2) := by decide +kernel
theorem dL_pieces_275 : decode cL_pieces 275 = .ok (.invokevirtual 36, 3) := by decide +kernel
theorem dL_pieces_278 : decode cL_pieces 278 = .ok (.iload 9, 2) := by decide +kernel
theorem dL_pieces_280 : decode cL_pieces 280 = .ok (.if_icmp .eq 5, 3) := by decide +kernel
theorem dL_pieces_283 : decode cL_pieces 283 = .ok (.iconst 0, 1) := by decide +kernel
theorem dL_pieces_284 : decode cL_pieces 284 = .ok (.ireturn, 1) := by decide +kernel
theorem dL_pieces_285 : decode cL_pieces 285 = .ok (.iinc 7 1, 3) := by decide +kernel
theorem dL_pieces_288 : decode cL_pieces 288 = .ok (.goto (-285), 3) := by decide +kernel
theorem dL_pieces_291 : decode cL_pieces 291 = .ok (.iconst 1, 1) := by decide +kernel
theorem dL_pieces_292 : decode cL_pieces 292 = .ok (.ireturn, 1) := by decide +kernel
theorem dL_told_0 : decode cL_told 0 = .ok (.aload_n 0, 1) := by decide +kernel
theorem dL_told_1 : decode cL_told 1 = .ok (.aload_n 1, 1) := by decide +kernel
theorem dL_told_2 : decode cL_told 2 = .ok (.aload_n 3, 1) := by decide +kernel
theorem dL_told_3 : decode cL_told 3 = .ok (.aload 7, 2) := by decide +kernel
theorem dL_told_5 : decode cL_told 5 = .ok (.invokestatic 43, 3) := by decide +kernel
theorem dL_told_8 : decode cL_told 8 = .ok (.ifCond .eq 20, 3) := by decide +kernel
theorem dL_told_11 : decode cL_told 11 = .ok (.aload_n 0, 1) := by decide +kernel
theorem dL_told_12 : decode cL_told 12 = .ok (.aload_n 2, 1) := by decide +kernel
theorem dL_told_13 : decode cL_told 13 = .ok (.aload_n 3, 1) := by decide +kernel
theorem dL_told_14 : decode cL_told 14 = .ok (.aload 4, 2) := by decide +kernel
theorem dL_told_16 : decode cL_told 16 = .ok (.aload 5, 2) := by decide +kernel
theorem dL_told_18 : decode cL_told 18 = .ok (.aload 6, 2) := by decide +kernel
theorem dL_told_20 : decode cL_told 20 = .ok (.aload 7, 2) := by decide +kernel
theorem dL_told_22 : decode cL_told 22 = .ok (.invokestatic 47, 3) := by decide +kernel
theorem dL_told_25 : decode cL_told 25 = .ok (.ifCond .ne 5, 3) := by decide +kernel
theorem dL_told_28 : decode cL_told 28 = .ok (.iconst 0, 1) := by decide +kernel
theorem dL_told_29 : decode cL_told 29 = .ok (.ireturn, 1) := by decide +kernel
theorem dL_told_30 : decode cL_told 30 = .ok (.iconst 0, 1) := by decide +kernel
theorem dL_told_31 : decode cL_told 31 = .ok (.istore 8, 2) := by decide +kernel
theorem dL_told_33 : decode cL_told 33 = .ok (.iconst 0, 1) := by decide +kernel
theorem dL_told_34 : decode cL_told 34 = .ok (.istore 9, 2) := by decide +kernel
theorem dL_told_36 : decode cL_told 36 = .ok (.iconst 0, 1) := by decide +kernel
theorem dL_told_37 : decode cL_told 37 = .ok (.istore 10, 2) := by decide +kernel
theorem dL_told_39 : decode cL_told 39 = .ok (.iconst 0, 1) := by decide +kernel
theorem dL_told_40 : decode cL_told 40 = .ok (.istore 11, 2) := by decide +kernel
theorem dL_told_42 : decode cL_told 42 = .ok (.iload 11, 2) := by decide +kernel
theorem dL_told_44 : decode cL_told 44 = .ok (.aload 7, 2) := by decide +kernel
theorem dL_told_46 : decode cL_told 46 = .ok (.iconst 1, 1) := by decide +kernel
theorem dL_told_47 : decode cL_told 47 = .ok (.iaload, 1) := by decide +kernel
theorem dL_told_48 : decode cL_told 48 = .ok (.if_icmp .ge 53, 3) := by decide +kernel
theorem dL_told_51 : decode cL_told 51 = .ok (.iload 8, 2) := by decide +kernel
theorem dL_told_53 : decode cL_told 53 = .ok (.aload_n 2, 1) := by decide +kernel
theorem dL_told_54 : decode cL_told 54 = .ok (.iconst 5, 1) := by decide +kernel
theorem dL_told_55 : decode cL_told 55 = .ok (.iload 11, 2) := by decide +kernel
theorem dL_told_57 : decode cL_told 57 = .ok (.imul, 1) := by decide +kernel
theorem dL_told_58 : decode cL_told 58 = .ok (.iconst 2, 1) := by decide +kernel
theorem dL_told_59 : decode cL_told 59 = .ok (.iadd, 1) := by decide +kernel
theorem dL_told_60 : decode cL_told 60 = .ok (.iaload, 1) := by decide +kernel
theorem dL_told_61 : decode cL_told 61 = .ok (.iconst 3, 1) := by decide +kernel
theorem dL_told_62 : decode cL_told 62 = .ok (.if_icmp .ne 7, 3) := by decide +kernel
theorem dL_told_65 : decode cL_told 65 = .ok (.iconst 1, 1) := by decide +kernel
theorem dL_told_66 : decode cL_told 66 = .ok (.goto 4, 3) := by decide +kernel
theorem dL_told_69 : decode cL_told 69 = .ok (.iconst 0, 1) := by decide +kernel
theorem dL_told_70 : decode cL_told 70 = .ok (.iadd, 1) := by decide +kernel
theorem dL_told_71 : decode cL_told 71 = .ok (.istore 8, 2) := by decide +kernel
theorem dL_told_73 : decode cL_told 73 = .ok (.iload 9, 2) := by decide +kernel
theorem dL_told_75 : decode cL_told 75 = .ok (.aload_n 2, 1) := by decide +kernel
theorem dL_told_76 : decode cL_told 76 = .ok (.iconst 5, 1) := by decide +kernel
theorem dL_told_77 : decode cL_told 77 = .ok (.iload 11, 2) := by decide +kernel
theorem dL_told_79 : decode cL_told 79 = .ok (.imul, 1) := by decide +kernel
theorem dL_told_80 : decode cL_told 80 = .ok (.iconst 2, 1) := by decide +kernel
theorem dL_told_81 : decode cL_told 81 = .ok (.iadd, 1) := by decide +kernel
theorem dL_told_82 : decode cL_told 82 = .ok (.iaload, 1) := by decide +kernel
theorem dL_told_83 : decode cL_told 83 = .ok (.iconst 4, 1) := by decide +kernel
theorem dL_told_84 : decode cL_told 84 = .ok (.if_icmp .ne 7, 3) := by decide +kernel
theorem dL_told_87 : decode cL_told 87 = .ok (.iconst 1, 1) := by decide +kernel
theorem dL_told_88 : decode cL_told 88 = .ok (.goto 4, 3) := by decide +kernel
theorem dL_told_91 : decode cL_told 91 = .ok (.iconst 0, 1) := by decide +kernel
theorem dL_told_92 : decode cL_told 92 = .ok (.iadd, 1) := by decide +kernel
theorem dL_told_93 : decode cL_told 93 = .ok (.istore 9, 2) := by decide +kernel
theorem dL_told_95 : decode cL_told 95 = .ok (.iinc 11 1, 3) := by decide +kernel
theorem dL_told_98 : decode cL_told 98 = .ok (.goto (-56), 3) := by decide +kernel
theorem dL_told_101 : decode cL_told 101 = .ok (.iconst 0, 1) := by decide +kernel
theorem dL_told_102 : decode cL_told 102 = .ok (.istore 11, 2) := by decide +kernel
theorem dL_told_104 : decode cL_told 104 = .ok (.iload 11, 2) := by decide +kernel
theorem dL_told_106 : decode cL_told 106 = .ok (.aload 7, 2) := by decide +kernel
theorem dL_told_108 : decode cL_told 108 = .ok (.iconst 0, 1) := by decide +kernel
theorem dL_told_109 : decode cL_told 109 = .ok (.iaload, 1) := by decide +kernel
theorem dL_told_110 : decode cL_told 110 = .ok (.if_icmp .ge 80, 3) := by decide +kernel
theorem dL_told_113 : decode cL_told 113 = .ok (.iconst 0, 1) := by decide +kernel
theorem dL_told_114 : decode cL_told 114 = .ok (.istore 12, 2) := by decide +kernel
theorem dL_told_116 : decode cL_told 116 = .ok (.iload 12, 2) := by decide +kernel
theorem dL_told_118 : decode cL_told 118 = .ok (.iload 11, 2) := by decide +kernel
theorem dL_told_120 : decode cL_told 120 = .ok (.if_icmp .ge 64, 3) := by decide +kernel
theorem dL_told_123 : decode cL_told 123 = .ok (.iload 10, 2) := by decide +kernel
theorem dL_told_125 : decode cL_told 125 = .ok (.aload_n 1, 1) := by decide +kernel
theorem dL_told_126 : decode cL_told 126 = .ok (.bipush 6, 2) := by decide +kernel
theorem dL_told_128 : decode cL_told 128 = .ok (.iload 11, 2) := by decide +kernel
theorem dL_told_130 : decode cL_told 130 = .ok (.imul, 1) := by decide +kernel
theorem dL_told_131 : decode cL_told 131 = .ok (.iaload, 1) := by decide +kernel
theorem dL_told_132 : decode cL_told 132 = .ok (.aload_n 1, 1) := by decide +kernel
theorem dL_told_133 : decode cL_told 133 = .ok (.bipush 6, 2) := by decide +kernel
theorem dL_told_135 : decode cL_told 135 = .ok (.iload 12, 2) := by decide +kernel
theorem dL_told_137 : decode cL_told 137 = .ok (.imul, 1) := by decide +kernel
theorem dL_told_138 : decode cL_told 138 = .ok (.iaload, 1) := by decide +kernel
theorem dL_told_139 : decode cL_told 139 = .ok (.if_icmp .le 21, 3) := by decide +kernel
theorem dL_told_142 : decode cL_told 142 = .ok (.aload_n 1, 1) := by decide +kernel
theorem dL_told_143 : decode cL_told 143 = .ok (.bipush 6, 2) := by decide +kernel
theorem dL_told_145 : decode cL_told 145 = .ok (.iload 11, 2) := by decide +kernel
theorem dL_told_147 : decode cL_told 147 = .ok (.imul, 1) := by decide +kernel
theorem dL_told_148 : decode cL_told 148 = .ok (.iaload, 1) := by decide +kernel
theorem dL_told_149 : decode cL_told 149 = .ok (.aload_n 1, 1) := by decide +kernel
theorem dL_told_150 : decode cL_told 150 = .ok (.bipush 6, 2) := by decide +kernel
theorem dL_told_152 : decode cL_told 152 = .ok (.iload 12, 2) := by decide +kernel
theorem dL_told_154 : decode cL_told 154 = .ok (.imul, 1) := by decide +kernel
theorem dL_told_155 : decode cL_told 155 = .ok (.iaload, 1) := by decide +kernel
theorem dL_told_156 : decode cL_told 156 = .ok (.isub, 1) := by decide +kernel
theorem dL_told_157 : decode cL_told 157 = .ok (.goto 18, 3) := by decide +kernel
theorem dL_told_160 : decode cL_told 160 = .ok (.aload_n 1, 1) := by decide +kernel
theorem dL_told_161 : decode cL_told 161 = .ok (.bipush 6, 2) := by decide +kernel
theorem dL_told_163 : decode cL_told 163 = .ok (.iload 12, 2) := by decide +kernel
theorem dL_told_165 : decode cL_told 165 = .ok (.imul, 1) := by decide +kernel
theorem dL_told_166 : decode cL_told 166 = .ok (.iaload, 1) := by decide +kernel
theorem dL_told_167 : decode cL_told 167 = .ok (.aload_n 1, 1) := by decide +kernel
theorem dL_told_168 : decode cL_told 168 = .ok (.bipush 6, 2) := by decide +kernel
theorem dL_told_170 : decode cL_told 170 = .ok (.iload 11, 2) := by decide +kernel
theorem dL_told_172 : decode cL_told 172 = .ok (.imul, 1) := by decide +kernel
theorem dL_told_173 : decode cL_told 173 = .ok (.iaload, 1) := by decide +kernel
theorem dL_told_174 : decode cL_told 174 = .ok (.isub, 1) := by decide +kernel
theorem dL_told_175 : decode cL_told 175 = .ok (.iadd, 1) := by decide +kernel
theorem dL_told_176 : decode cL_told 176 = .ok (.istore 10, 2) := by decide +kernel
theorem dL_told_178 : decode cL_told 178 = .ok (.iinc 12 1, 3) := by decide +kernel
theorem dL_told_181 : decode cL_told 181 = .ok (.goto (-65), 3) := by decide +kernel
theorem dL_told_184 : decode cL_told 184 = .ok (.iinc 11 1, 3) := by decide +kernel
theorem dL_told_187 : decode cL_told 187 = .ok (.goto (-83), 3) := by decide +kernel
theorem dL_told_190 : decode cL_told 190 = .ok (.iconst 0, 1) := by decide +kernel
theorem dL_told_191 : decode cL_told 191 = .ok (.istore 11, 2) := by decide +kernel
theorem dL_told_193 : decode cL_told 193 = .ok (.iload 11, 2) := by decide +kernel
theorem dL_told_195 : decode cL_told 195 = .ok (.bipush 6, 2) := by decide +kernel
theorem dL_told_197 : decode cL_told 197 = .ok (.if_icmp .ge 25, 3) := by decide +kernel
theorem dL_told_200 : decode cL_told 200 = .ok (.aload_n 0, 1) := by decide +kernel
theorem dL_told_201 : decode cL_told 201 = .ok (.iload 11, 2) := by decide +kernel
theorem dL_told_203 : decode cL_told 203 = .ok (.invokevirtual 51, 3) := by decide +kernel
theorem dL_told_206 : decode cL_told 206 = .ok (.aload 6, 2) := by decide +kernel
theorem dL_told_208 : decode cL_told 208 = .ok (.iload 11, 2) := by decide +kernel
theorem dL_told_210 : decode cL_told 210 = .ok (.iaload, 1) := by decide +kernel
theorem dL_told_211 : decode cL_told 211 = .ok (.if_icmp .eq 5, 3) := by decide +kernel
theorem dL_told_214 : decode cL_told 214 = .ok (.iconst 0, 1) := by decide +kernel
theorem dL_told_215 : decode cL_told 215 = .ok (.ireturn, 1) := by decide +kernel
theorem dL_told_216 : decode cL_told 216 = .ok (.iinc 11 1, 3) := by decide +kernel
theorem dL_told_219 : decode cL_told 219 = .ok (.goto (-26), 3) := by decide +kernel
theorem dL_told_222 : decode cL_told 222 = .ok (.iconst 0, 1) := by decide +kernel
theorem dL_told_223 : decode cL_told 223 = .ok (.istore 11, 2) := by decide +kernel
theorem dL_told_225 : decode cL_told 225 = .ok (.iload 11, 2) := by decide +kernel
theorem dL_told_227 : decode cL_told 227 = .ok (.iconst 5, 1) := by decide +kernel
theorem dL_told_228 : decode cL_told 228 = .ok (.if_icmp .ge 25, 3) := by decide +kernel
theorem dL_told_231 : decode cL_told 231 = .ok (.aload_n 0, 1) := by decide +kernel
theorem dL_told_232 : decode cL_told 232 = .ok (.iload 11, 2) := by decide +kernel
theorem dL_told_234 : decode cL_told 234 = .ok (.invokevirtual 55, 3) := by decide +kernel
theorem dL_told_237 : decode cL_told 237 = .ok (.aload 7, 2) := by decide +kernel
theorem dL_told_239 : decode cL_told 239 = .ok (.iload 11, 2) := by decide +kernel
theorem dL_told_241 : decode cL_told 241 = .ok (.iaload, 1) := by decide +kernel
theorem dL_told_242 : decode cL_told 242 = .ok (.if_icmp .eq 5, 3) := by decide +kernel
theorem dL_told_245 : decode cL_told 245 = .ok (.iconst 0, 1) := by decide +kernel
theorem dL_told_246 : decode cL_told 246 = .ok (.ireturn, 1) := by decide +kernel
theorem dL_told_247 : decode cL_told 247 = .ok (.iinc 11 1, 3) := by decide +kernel
theorem dL_told_250 : decode cL_told 250 = .ok (.goto (-25), 3) := by decide +kernel
theorem dL_told_253 : decode cL_told 253 = .ok (.aload_n 0, 1) := by decide +kernel
theorem dL_told_254 : decode cL_told 254 = .ok (.iconst 5, 1) := by decide +kernel
theorem dL_told_255 : decode cL_told 255 = .ok (.invokevirtual 55, 3) := by decide +kernel
theorem dL_told_258 : decode cL_told 258 = .ok (.iconst 0, 1) := by decide +kernel
theorem dL_told_259 : decode cL_told 259 = .ok (.aload_n 1, 1) := by decide +kernel
theorem dL_told_260 : decode cL_told 260 = .ok (.aload 7, 2) := by decide +kernel
theorem dL_told_262 : decode cL_told 262 = .ok (.invokestatic 58, 3) := by decide +kernel
theorem dL_told_265 : decode cL_told 265 = .ok (.if_icmp .ne 98, 3) := by decide +kernel
theorem dL_told_268 : decode cL_told 268 = .ok (.aload_n 0, 1) := by decide +kernel
theorem dL_told_269 : decode cL_told 269 = .ok (.bipush 6, 2) := by decide +kernel
theorem dL_told_271 : decode cL_told 271 = .ok (.invokevirtual 55, 3) := by decide +kernel
theorem dL_told_274 : decode cL_told 274 = .ok (.iconst 1, 1) := by decide +kernel
theorem dL_told_275 : decode cL_told 275 = .ok (.aload_n 1, 1) := by decide +kernel
theorem dL_told_276 : decode cL_told 276 = .ok (.aload 7, 2) := by decide +kernel
theorem dL_told_278 : decode cL_told 278 = .ok (.invokestatic 58, 3) := by decide +kernel
theorem dL_told_281 : decode cL_told 281 = .ok (.if_icmp .ne 82, 3) := by decide +kernel
theorem dL_told_284 : decode cL_told 284 = .ok (.aload_n 0, 1) := by decide +kernel
theorem dL_told_285 : decode cL_told 285 = .ok (.bipush 7, 2) := by decide +kernel
theorem dL_told_287 : decode cL_told 287 = .ok (.invokevirtual 55, 3) := by decide +kernel
theorem dL_told_290 : decode cL_told 290 = .ok (.aload 7, 2) := by decide +kernel
theorem dL_told_292 : decode cL_told 292 = .ok (.iconst 5, 1) := by decide +kernel
theorem dL_told_293 : decode cL_told 293 = .ok (.iaload, 1) := by decide +kernel
theorem dL_told_294 : decode cL_told 294 = .ok (.if_icmp .ne 69, 3) := by decide +kernel
theorem dL_told_297 : decode cL_told 297 = .ok (.aload_n 0, 1) := by decide +kernel
theorem dL_told_298 : decode cL_told 298 = .ok (.bipush 8, 2) := by decide +kernel
theorem dL_told_300 : decode cL_told 300 = .ok (.invokevirtual 55, 3) := by decide +kernel
theorem dL_told_303 : decode cL_told 303 = .ok (.iload 8, 2) := by decide +kernel
theorem dL_told_305 : decode cL_told 305 = .ok (.if_icmp .ne 58, 3) := by decide +kernel
theorem dL_told_308 : decode cL_told 308 = .ok (.aload_n 0, 1) := by decide +kernel
theorem dL_told_309 : decode cL_told 309 = .ok (.bipush 9, 2) := by decide +kernel
theorem dL_told_311 : decode cL_told 311 = .ok (.invokevirtual 55, 3) := by decide +kernel
theorem dL_told_314 : decode cL_told 314 = .ok (.iload 9, 2) := by decide +kernel
theorem dL_told_316 : decode cL_told 316 = .ok (.if_icmp .ne 47, 3) := by decide +kernel
theorem dL_told_319 : decode cL_told 319 = .ok (.aload_n 0, 1) := by decide +kernel
theorem dL_told_320 : decode cL_told 320 = .ok (.bipush 10, 2) := by decide +kernel
theorem dL_told_322 : decode cL_told 322 = .ok (.invokevirtual 55, 3) := by decide +kernel
theorem dL_told_325 : decode cL_told 325 = .ok (.aload 7, 2) := by decide +kernel
theorem dL_told_327 : decode cL_told 327 = .ok (.bipush 6, 2) := by decide +kernel
theorem dL_told_329 : decode cL_told 329 = .ok (.iaload, 1) := by decide +kernel
theorem dL_told_330 : decode cL_told 330 = .ok (.if_icmp .ne 33, 3) := by decide +kernel
theorem dL_told_333 : decode cL_told 333 = .ok (.aload_n 0, 1) := by decide +kernel
theorem dL_told_334 : decode cL_told 334 = .ok (.bipush 11, 2) := by decide +kernel
theorem dL_told_336 : decode cL_told 336 = .ok (.invokevirtual 55, 3) := by decide +kernel
theorem dL_told_339 : decode cL_told 339 = .ok (.iconst 3, 1) := by decide +kernel
theorem dL_told_340 : decode cL_told 340 = .ok (.aload_n 1, 1) := by decide +kernel
theorem dL_told_341 : decode cL_told 341 = .ok (.aload 7, 2) := by decide +kernel
theorem dL_told_343 : decode cL_told 343 = .ok (.invokestatic 58, 3) := by decide +kernel
theorem dL_told_346 : decode cL_told 346 = .ok (.if_icmp .ne 17, 3) := by decide +kernel
theorem dL_told_349 : decode cL_told 349 = .ok (.aload_n 0, 1) := by decide +kernel
theorem dL_told_350 : decode cL_told 350 = .ok (.bipush 12, 2) := by decide +kernel
theorem dL_told_352 : decode cL_told 352 = .ok (.invokevirtual 55, 3) := by decide +kernel
theorem dL_told_355 : decode cL_told 355 = .ok (.aload 7, 2) := by decide +kernel
theorem dL_told_357 : decode cL_told 357 = .ok (.bipush 7, 2) := by decide +kernel
theorem dL_told_359 : decode cL_told 359 = .ok (.iaload, 1) := by decide +kernel
theorem dL_told_360 : decode cL_told 360 = .ok (.if_icmp .eq 5, 3) := by decide +kernel
theorem dL_told_363 : decode cL_told 363 = .ok (.iconst 0, 1) := by decide +kernel
theorem dL_told_364 : decode cL_told 364 = .ok (.ireturn, 1) := by decide +kernel
theorem dL_told_365 : decode cL_told 365 = .ok (.aload_n 0, 1) := by decide +kernel
theorem dL_told_366 : decode cL_told 366 = .ok (.invokevirtual 61, 3) := by decide +kernel
theorem dL_told_369 : decode cL_told 369 = .ok (.iconst 0, 1) := by decide +kernel
theorem dL_told_370 : decode cL_told 370 = .ok (.aload_n 1, 1) := by decide +kernel
theorem dL_told_371 : decode cL_told 371 = .ok (.aload 7, 2) := by decide +kernel
theorem dL_told_373 : decode cL_told 373 = .ok (.invokestatic 58, 3) := by decide +kernel
theorem dL_told_376 : decode cL_told 376 = .ok (.ifCond .ne 7, 3) := by decide +kernel
theorem dL_told_379 : decode cL_told 379 = .ok (.dconst 0, 1) := by decide +kernel
theorem dL_told_380 : decode cL_told 380 = .ok (.goto 22, 3) := by decide +kernel
theorem dL_told_383 : decode cL_told 383 = .ok (.dconst 1, 1) := by decide +kernel
theorem dL_told_384 : decode cL_told 384 = .ok (.iload 10, 2) := by decide +kernel
theorem dL_told_386 : decode cL_told 386 = .ok (.i2d, 1) := by decide +kernel
theorem dL_told_387 : decode cL_told 387 = .ok (.dmul, 1) := by decide +kernel
theorem dL_told_388 : decode cL_told 388 = .ok (.aload 7, 2) := by decide +kernel
theorem dL_told_390 : decode cL_told 390 = .ok (.iconst 0, 1) := by decide +kernel
theorem dL_told_391 : decode cL_told 391 = .ok (.iaload, 1) := by decide +kernel
theorem dL_told_392 : decode cL_told 392 = .ok (.iconst 0, 1) := by decide +kernel
theorem dL_told_393 : decode cL_told 393 = .ok (.aload_n 1, 1) := by decide +kernel
theorem dL_told_394 : decode cL_told 394 = .ok (.aload 7, 2) := by decide +kernel
theorem dL_told_396 : decode cL_told 396 = .ok (.invokestatic 58, 3) := by decide +kernel
theorem dL_told_399 : decode cL_told 399 = .ok (.imul, 1) := by decide +kernel
theorem dL_told_400 : decode cL_told 400 = .ok (.i2d, 1) := by decide +kernel
theorem dL_told_401 : decode cL_told 401 = .ok (.ddiv, 1) := by decide +kernel
theorem dL_told_402 : decode cL_told 402 = .ok (.dcmp .l, 1) := by decide +kernel
theorem dL_told_403 : decode cL_told 403 = .ok (.ifCond .ne 7, 3) := by decide +kernel
theorem dL_told_406 : decode cL_told 406 = .ok (.iconst 1, 1) := by decide +kernel
theorem dL_told_407 : decode cL_told 407 = .ok (.goto 4, 3) := by decide +kernel
theorem dL_told_410 : decode cL_told 410 = .ok (.iconst 0, 1) := by decide +kernel
theorem dL_told_411 : decode cL_told 411 = .ok (.ireturn, 1) := by decide +kernel
theorem dL_same_0 : decode cL_same 0 = .ok (.iconst 0, 1) := by decide +kernel
theorem dL_same_1 : decode cL_same 1 = .ok (.istore_n 2, 1) := by decide +kernel
theorem dL_same_2 : decode cL_same 2 = .ok (.iload_n 2, 1) := by decide +kernel
theorem dL_same_3 : decode cL_same 3 = .ok (.aload_n 1, 1) := by decide +kernel
theorem dL_same_4 : decode cL_same 4 = .ok (.arraylength, 1) := by decide +kernel
theorem dL_same_5 : decode cL_same 5 = .ok (.if_icmp .ge 15, 3) := by decide +kernel
theorem dL_same_8 : decode cL_same 8 = .ok (.aload_n 0, 1) := by decide +kernel
theorem dL_same_9 : decode cL_same 9 = .ok (.iload_n 2, 1) := by decide +kernel
theorem dL_same_10 : decode cL_same 10 = .ok (.aload_n 1, 1) := by decide +kernel
theorem dL_same_11 : decode cL_same 11 = .ok (.iload_n 2, 1) := by decide +kernel
theorem dL_same_12 : decode cL_same 12 = .ok (.iaload, 1) := by decide +kernel
theorem dL_same_13 : decode cL_same 13 = .ok (.iastore, 1) := by decide +kernel
theorem dL_same_14 : decode cL_same 14 = .ok (.iinc 2 1, 3) := by decide +kernel
theorem dL_same_17 : decode cL_same 17 = .ok (.goto (-15), 3) := by decide +kernel
theorem dL_same_20 : decode cL_same 20 = .ok (.return_, 1) := by decide +kernel
theorem dL_fair_0 : decode cL_fair 0 = .ok (.iconst 0, 1) := by decide +kernel
theorem dL_fair_1 : decode cL_fair 1 = .ok (.istore_n 3, 1) := by decide +kernel
theorem dL_fair_2 : decode cL_fair 2 = .ok (.iconst 0, 1) := by decide +kernel
theorem dL_fair_3 : decode cL_fair 3 = .ok (.istore 4, 2) := by decide +kernel
theorem dL_fair_5 : decode cL_fair 5 = .ok (.iconst 0, 1) := by decide +kernel
theorem dL_fair_6 : decode cL_fair 6 = .ok (.istore 5, 2) := by decide +kernel
theorem dL_fair_8 : decode cL_fair 8 = .ok (.aload_n 2, 1) := by decide +kernel
theorem dL_fair_9 : decode cL_fair 9 = .ok (.iload_n 0, 1) := by decide +kernel
theorem dL_fair_10 : decode cL_fair 10 = .ok (.invokestatic 8, 3) := by decide +kernel
theorem dL_fair_13 : decode cL_fair 13 = .ok (.istore 6, 2) := by decide +kernel
theorem dL_fair_15 : decode cL_fair 15 = .ok (.iconst 0, 1) := by decide +kernel
theorem dL_fair_16 : decode cL_fair 16 = .ok (.istore 7, 2) := by decide +kernel
theorem dL_fair_18 : decode cL_fair 18 = .ok (.iload 7, 2) := by decide +kernel
theorem dL_fair_20 : decode cL_fair 20 = .ok (.sipush 256, 3) := by decide +kernel
theorem dL_fair_23 : decode cL_fair 23 = .ok (.if_icmp .ge 258, 3) := by decide +kernel
theorem dL_fair_26 : decode cL_fair 26 = .ok (.iload 6, 2) := by decide +kernel
theorem dL_fair_28 : decode cL_fair 28 = .ok (.ifCond .le 253, 3) := by decide +kernel
theorem dL_fair_31 : decode cL_fair 31 = .ok (.iconst 0, 1) := by decide +kernel
theorem dL_fair_32 : decode cL_fair 32 = .ok (.istore 8, 2) := by decide +kernel
theorem dL_fair_34 : decode cL_fair 34 = .ok (.iconst 1, 1) := by decide +kernel
theorem dL_fair_35 : decode cL_fair 35 = .ok (.istore 9, 2) := by decide +kernel
theorem dL_fair_37 : decode cL_fair 37 = .ok (.iconst 0, 1) := by decide +kernel
theorem dL_fair_38 : decode cL_fair 38 = .ok (.istore 10, 2) := by decide +kernel
theorem dL_fair_40 : decode cL_fair 40 = .ok (.iload 10, 2) := by decide +kernel
theorem dL_fair_42 : decode cL_fair 42 = .ok (.iconst 4, 1) := by decide +kernel
theorem dL_fair_43 : decode cL_fair 43 = .ok (.if_icmp .ge 81, 3) := by decide +kernel
theorem dL_fair_46 : decode cL_fair 46 = .ok (.iload 9, 2) := by decide +kernel
theorem dL_fair_48 : decode cL_fair 48 = .ok (.ifCond .eq 33, 3) := by decide +kernel
theorem dL_fair_51 : decode cL_fair 51 = .ok (.aload_n 2, 1) := by decide +kernel
theorem dL_fair_52 : decode cL_fair 52 = .ok (.iconst 4, 1) := by decide +kernel
theorem dL_fair_53 : decode cL_fair 53 = .ok (.iload_n 0, 1) := by decide +kernel
theorem dL_fair_54 : decode cL_fair 54 = .ok (.imul, 1) := by decide +kernel
theorem dL_fair_55 : decode cL_fair 55 = .ok (.iload 10, 2) := by decide +kernel
theorem dL_fair_57 : decode cL_fair 57 = .ok (.iadd, 1) := by decide +kernel
theorem dL_fair_58 : decode cL_fair 58 = .ok (.iaload, 1) := by decide +kernel
theorem dL_fair_59 : decode cL_fair 59 = .ok (.ifCond .gt 18, 3) := by decide +kernel
theorem dL_fair_62 : decode cL_fair 62 = .ok (.iload 7, 2) := by decide +kernel
theorem dL_fair_64 : decode cL_fair 64 = .ok (.bipush 6, 2) := by decide +kernel
theorem dL_fair_66 : decode cL_fair 66 = .ok (.iconst 2, 1) := by decide +kernel
theorem dL_fair_67 : decode cL_fair 67 = .ok (.iload 10, 2) := by decide +kernel
theorem dL_fair_69 : decode cL_fair 69 = .ok (.imul, 1) := by decide +kernel
theorem dL_fair_70 : decode cL_fair 70 = .ok (.isub, 1) := by decide +kernel
theorem dL_fair_71 : decode cL_fair 71 = .ok (.ishr, 1) := by decide +kernel
theorem dL_fair_72 : decode cL_fair 72 = .ok (.iconst 3, 1) := by decide +kernel
theorem dL_fair_73 : decode cL_fair 73 = .ok (.iand, 1) := by decide +kernel
theorem dL_fair_74 : decode cL_fair 74 = .ok (.ifCond .ne 7, 3) := by decide +kernel
theorem dL_fair_77 : decode cL_fair 77 = .ok (.iconst 1, 1) := by decide +kernel
theorem dL_fair_78 : decode cL_fair 78 = .ok (.goto 4, 3) := by decide +kernel
theorem dL_fair_81 : decode cL_fair 81 = .ok (.iconst 0, 1) := by decide +kernel
theorem dL_fair_82 : decode cL_fair 82 = .ok (.istore 9, 2) := by decide +kernel
theorem dL_fair_84 : decode cL_fair 84 = .ok (.iload 8, 2) := by decide +kernel
theorem dL_fair_86 : decode cL_fair 86 = .ok (.aload_n 2, 1) := by decide +kernel
theorem dL_fair_87 : decode cL_fair 87 = .ok (.iconst 4, 1) := by decide +kernel
theorem dL_fair_88 : decode cL_fair 88 = .ok (.iload_n 0, 1) := by decide +kernel
theorem dL_fair_89 : decode cL_fair 89 = .ok (.imul, 1) := by decide +kernel
theorem dL_fair_90 : decode cL_fair 90 = .ok (.iload 10, 2) := by decide +kernel
theorem dL_fair_92 : decode cL_fair 92 = .ok (.iadd, 1) := by decide +kernel
theorem dL_fair_93 : decode cL_fair 93 = .ok (.iaload, 1) := by decide +kernel
theorem dL_fair_94 : decode cL_fair 94 = .ok (.ifCond .le 20, 3) := by decide +kernel
theorem dL_fair_97 : decode cL_fair 97 = .ok (.iconst 1, 1) := by decide +kernel
theorem dL_fair_98 : decode cL_fair 98 = .ok (.iload 7, 2) := by decide +kernel
theorem dL_fair_100 : decode cL_fair 100 = .ok (.bipush 6, 2) := by decide +kernel
theorem dL_fair_102 : decode cL_fair 102 = .ok (.iconst 2, 1) := by decide +kernel
theorem dL_fair_103 : decode cL_fair 103 = .ok (.iload 10, 2) := by decide +kernel
theorem dL_fair_105 : decode cL_fair 105 = .ok (.imul, 1) := by decide +kernel
theorem dL_fair_106 : decode cL_fair 106 = .ok (.isub, 1) := by decide +kernel
theorem dL_fair_107 : decode cL_fair 107 = .ok (.ishr, 1) := by decide +kernel
theorem dL_fair_108 : decode cL_fair 108 = .ok (.iconst 3, 1) := by decide +kernel
theorem dL_fair_109 : decode cL_fair 109 = .ok (.iand, 1) := by decide +kernel
theorem dL_fair_110 : decode cL_fair 110 = .ok (.iadd, 1) := by decide +kernel
theorem dL_fair_111 : decode cL_fair 111 = .ok (.goto 4, 3) := by decide +kernel
theorem dL_fair_114 : decode cL_fair 114 = .ok (.iconst 0, 1) := by decide +kernel
theorem dL_fair_115 : decode cL_fair 115 = .ok (.iadd, 1) := by decide +kernel
theorem dL_fair_116 : decode cL_fair 116 = .ok (.istore 8, 2) := by decide +kernel
theorem dL_fair_118 : decode cL_fair 118 = .ok (.iinc 10 1, 3) := by decide +kernel
theorem dL_fair_121 : decode cL_fair 121 = .ok (.goto (-81), 3) := by decide +kernel
theorem dL_fair_124 : decode cL_fair 124 = .ok (.iconst 0, 1) := by decide +kernel
theorem dL_fair_125 : decode cL_fair 125 = .ok (.istore 10, 2) := by decide +kernel
theorem dL_fair_127 : decode cL_fair 127 = .ok (.iconst 0, 1) := by decide +kernel
theorem dL_fair_128 : decode cL_fair 128 = .ok (.istore 11, 2) := by decide +kernel
theorem dL_fair_130 : decode cL_fair 130 = .ok (.iload 11, 2) := by decide +kernel
theorem dL_fair_132 : decode cL_fair 132 = .ok (.iconst 4, 1) := by decide +kernel
theorem dL_fair_133 : decode cL_fair 133 = .ok (.if_icmp .ge 85, 3) := by decide +kernel
theorem dL_fair_136 : decode cL_fair 136 = .ok (.aload_n 2, 1) := by decide +kernel
theorem dL_fair_137 : decode cL_fair 137 = .ok (.iconst 4, 1) := by decide +kernel
theorem dL_fair_138 : decode cL_fair 138 = .ok (.iload_n 0, 1) := by decide +kernel
theorem dL_fair_139 : decode cL_fair 139 = .ok (.imul, 1) := by decide +kernel
theorem dL_fair_140 : decode cL_fair 140 = .ok (.iload 11, 2) := by decide +kernel
theorem dL_fair_142 : decode cL_fair 142 = .ok (.iadd, 1) := by decide +kernel
theorem dL_fair_143 : decode cL_fair 143 = .ok (.iaload, 1) := by decide +kernel
theorem dL_fair_144 : decode cL_fair 144 = .ok (.ifCond .le 35, 3) := by decide +kernel
theorem dL_fair_147 : decode cL_fair 147 = .ok (.iconst 1, 1) := by decide +kernel
theorem dL_fair_148 : decode cL_fair 148 = .ok (.iload 7, 2) := by decide +kernel
theorem dL_fair_150 : decode cL_fair 150 = .ok (.bipush 6, 2) := by decide +kernel
theorem dL_fair_152 : decode cL_fair 152 = .ok (.iconst 2, 1) := by decide +kernel
theorem dL_fair_153 : decode cL_fair 153 = .ok (.iload 11, 2) := by decide +kernel
theorem dL_fair_155 : decode cL_fair 155 = .ok (.imul, 1) := by decide +kernel
theorem dL_fair_156 : decode cL_fair 156 = .ok (.isub, 1) := by decide +kernel
theorem dL_fair_157 : decode cL_fair 157 = .ok (.ishr, 1) := by decide +kernel
theorem dL_fair_158 : decode cL_fair 158 = .ok (.iconst 3, 1) := by decide +kernel
theorem dL_fair_159 : decode cL_fair 159 = .ok (.iand, 1) := by decide +kernel
theorem dL_fair_160 : decode cL_fair 160 = .ok (.iadd, 1) := by decide +kernel
theorem dL_fair_161 : decode cL_fair 161 = .ok (.iload 6, 2) := by decide +kernel
theorem dL_fair_163 : decode cL_fair 163 = .ok (.imul, 1) := by decide +kernel
theorem dL_fair_164 : decode cL_fair 164 = .ok (.aload_n 2, 1) := by decide +kernel
theorem dL_fair_165 : decode cL_fair 165 = .ok (.iconst 4, 1) := by decide +kernel
theorem dL_fair_166 : decode cL_fair 166 = .ok (.iload_n 0, 1) := by decide +kernel
theorem dL_fair_167 : decode cL_fair 167 = .ok (.imul, 1) := by decide +kernel
theorem dL_fair_168 : decode cL_fair 168 = .ok (.iload 11, 2) := by decide +kernel
theorem dL_fair_170 : decode cL_fair 170 = .ok (.iadd, 1) := by decide +kernel
theorem dL_fair_171 : decode cL_fair 171 = .ok (.iaload, 1) := by decide +kernel
theorem dL_fair_172 : decode cL_fair 172 = .ok (.iload 8, 2) := by decide +kernel
theorem dL_fair_174 : decode cL_fair 174 = .ok (.imul, 1) := by decide +kernel
theorem dL_fair_175 : decode cL_fair 175 = .ok (.isub, 1) := by decide +kernel
theorem dL_fair_176 : decode cL_fair 176 = .ok (.goto 4, 3) := by decide +kernel
theorem dL_fair_179 : decode cL_fair 179 = .ok (.iconst 0, 1) := by decide +kernel
theorem dL_fair_180 : decode cL_fair 180 = .ok (.istore 12, 2) := by decide +kernel
theorem dL_fair_182 : decode cL_fair 182 = .ok (.iload 12, 2) := by decide +kernel
theorem dL_fair_184 : decode cL_fair 184 = .ok (.iload 10, 2) := by decide +kernel
theorem dL_fair_186 : decode cL_fair 186 = .ok (.if_icmp .le 8, 3) := by decide +kernel
theorem dL_fair_189 : decode cL_fair 189 = .ok (.iload 12, 2) := by decide +kernel
theorem dL_fair_191 : decode cL_fair 191 = .ok (.goto 19, 3) := by decide +kernel
theorem dL_fair_194 : decode cL_fair 194 = .ok (.iload 12, 2) := by decide +kernel
theorem dL_fair_196 : decode cL_fair 196 = .ok (.ineg, 1) := by decide +kernel
theorem dL_fair_197 : decode cL_fair 197 = .ok (.iload 10, 2) := by decide +kernel
theorem dL_fair_199 : decode cL_fair 199 = .ok (.if_icmp .le 9, 3) := by decide +kernel
theorem dL_fair_202 : decode cL_fair 202 = .ok (.iload 12, 2) := by decide +kernel
theorem dL_fair_204 : decode cL_fair 204 = .ok (.ineg, 1) := by decide +kernel
theorem dL_fair_205 : decode cL_fair 205 = .ok (.goto 5, 3) := by decide +kernel
theorem dL_fair_208 : decode cL_fair 208 = .ok (.iload 10, 2) := by decide +kernel
theorem dL_fair_210 : decode cL_fair 210 = .ok (.istore 10, 2) := by decide +kernel
theorem dL_fair_212 : decode cL_fair 212 = .ok (.iinc 11 1, 3) := by decide +kernel
theorem dL_fair_215 : decode cL_fair 215 = .ok (.goto (-85), 3) := by decide +kernel
theorem dL_fair_218 : decode cL_fair 218 = .ok (.iload 9, 2) := by decide +kernel
theorem dL_fair_220 : decode cL_fair 220 = .ok (.ifCond .eq 55, 3) := by decide +kernel
theorem dL_fair_223 : decode cL_fair 223 = .ok (.iload 5, 2) := by decide +kernel
theorem dL_fair_225 : decode cL_fair 225 = .ok (.ifCond .le 39, 3) := by decide +kernel
theorem dL_fair_228 : decode cL_fair 228 = .ok (.iload 10, 2) := by decide +kernel
theorem dL_fair_230 : decode cL_fair 230 = .ok (.iload 5, 2) := by decide +kernel
theorem dL_fair_232 : decode cL_fair 232 = .ok (.imul, 1) := by decide +kernel
theorem dL_fair_233 : decode cL_fair 233 = .ok (.iload 4, 2) := by decide +kernel
theorem dL_fair_235 : decode cL_fair 235 = .ok (.iload 8, 2) := by decide +kernel
theorem dL_fair_237 : decode cL_fair 237 = .ok (.imul, 1) := by decide +kernel
theorem dL_fair_238 : decode cL_fair 238 = .ok (.if_icmp .gt 37, 3) := by decide +kernel
theorem dL_fair_241 : decode cL_fair 241 = .ok (.iload 10, 2) := by decide +kernel
theorem dL_fair_243 : decode cL_fair 243 = .ok (.iload 5, 2) := by decide +kernel
theorem dL_fair_245 : decode cL_fair 245 = .ok (.imul, 1) := by decide +kernel
theorem dL_fair_246 : decode cL_fair 246 = .ok (.iload 4, 2) := by decide +kernel
theorem dL_fair_248 : decode cL_fair 248 = .ok (.iload 8, 2) := by decide +kernel
theorem dL_fair_250 : decode cL_fair 250 = .ok (.imul, 1) := by decide +kernel
theorem dL_fair_251 : decode cL_fair 251 = .ok (.if_icmp .ne 13, 3) := by decide +kernel
theorem dL_fair_254 : decode cL_fair 254 = .ok (.iload 8, 2) := by decide +kernel
theorem dL_fair_256 : decode cL_fair 256 = .ok (.iload 5, 2) := by decide +kernel
theorem dL_fair_258 : decode cL_fair 258 = .ok (.if_icmp .lt 6, 3) := by decide +kernel
theorem dL_fair_261 : decode cL_fair 261 = .ok (.goto 14, 3) := by decide +kernel
theorem dL_fair_264 : decode cL_fair 264 = .ok (.iload 7, 2) := by decide +kernel
theorem dL_fair_266 : decode cL_fair 266 = .ok (.istore_n 3, 1) := by decide +kernel
theorem dL_fair_267 : decode cL_fair 267 = .ok (.iload 10, 2) := by decide +kernel
theorem dL_fair_269 : decode cL_fair 269 = .ok (.istore 4, 2) := by decide +kernel
theorem dL_fair_271 : decode cL_fair 271 = .ok (.iload 8, 2) := by decide +kernel
theorem dL_fair_273 : decode cL_fair 273 = .ok (.istore 5, 2) := by decide +kernel
theorem dL_fair_275 : decode cL_fair 275 = .ok (.iinc 7 1, 3) := by decide +kernel
theorem dL_fair_278 : decode cL_fair 278 = .ok (.goto (-260), 3) := by decide +kernel
theorem dL_fair_281 : decode cL_fair 281 = .ok (.iload 6, 2) := by decide +kernel
theorem dL_fair_283 : decode cL_fair 283 = .ok (.ifCond .eq 13, 3) := by decide +kernel
theorem dL_fair_286 : decode cL_fair 286 = .ok (.aload_n 2, 1) := by decide +kernel
theorem dL_fair_287 : decode cL_fair 287 = .ok (.iconst 4, 1) := by decide +kernel
theorem dL_fair_288 : decode cL_fair 288 = .ok (.iload_n 0, 1) := by decide +kernel
theorem dL_fair_289 : decode cL_fair 289 = .ok (.imul, 1) := by decide +kernel
theorem dL_fair_290 : decode cL_fair 290 = .ok (.iload_n 1, 1) := by decide +kernel
theorem dL_fair_291 : decode cL_fair 291 = .ok (.iadd, 1) := by decide +kernel
theorem dL_fair_292 : decode cL_fair 292 = .ok (.iaload, 1) := by decide +kernel
theorem dL_fair_293 : decode cL_fair 293 = .ok (.ifCond .ne 7, 3) := by decide +kernel
theorem dL_fair_296 : decode cL_fair 296 = .ok (.iconst 0, 1) := by decide +kernel
theorem dL_fair_297 : decode cL_fair 297 = .ok (.goto 15, 3) := by decide +kernel
theorem dL_fair_300 : decode cL_fair 300 = .ok (.iconst 1, 1) := by decide +kernel
theorem dL_fair_301 : decode cL_fair 301 = .ok (.iload_n 3, 1) := by decide +kernel
theorem dL_fair_302 : decode cL_fair 302 = .ok (.bipush 6, 2) := by decide +kernel
theorem dL_fair_304 : decode cL_fair 304 = .ok (.iconst 2, 1) := by decide +kernel
theorem dL_fair_305 : decode cL_fair 305 = .ok (.iload_n 1, 1) := by decide +kernel
theorem dL_fair_306 : decode cL_fair 306 = .ok (.imul, 1) := by decide +kernel
theorem dL_fair_307 : decode cL_fair 307 = .ok (.isub, 1) := by decide +kernel
theorem dL_fair_308 : decode cL_fair 308 = .ok (.ishr, 1) := by decide +kernel
theorem dL_fair_309 : decode cL_fair 309 = .ok (.iconst 3, 1) := by decide +kernel
theorem dL_fair_310 : decode cL_fair 310 = .ok (.iand, 1) := by decide +kernel
theorem dL_fair_311 : decode cL_fair 311 = .ok (.iadd, 1) := by decide +kernel
theorem dL_fair_312 : decode cL_fair 312 = .ok (.ireturn, 1) := by decide +kernel
theorem dL_ahead_0 : decode cL_ahead 0 = .ok (.aload 8, 2) := by decide +kernel
theorem dL_ahead_2 : decode cL_ahead 2 = .ok (.iconst 0, 1) := by decide +kernel
theorem dL_ahead_3 : decode cL_ahead 3 = .ok (.iaload, 1) := by decide +kernel
theorem dL_ahead_4 : decode cL_ahead 4 = .ok (.ifCond .ne 5, 3) := by decide +kernel
theorem dL_ahead_7 : decode cL_ahead 7 = .ok (.iconst 1, 1) := by decide +kernel
theorem dL_ahead_8 : decode cL_ahead 8 = .ok (.ireturn, 1) := by decide +kernel
theorem dL_ahead_9 : decode cL_ahead 9 = .ok (.iload_n 1, 1) := by decide +kernel
theorem dL_ahead_10 : decode cL_ahead 10 = .ok (.aload 8, 2) := by decide +kernel
theorem dL_ahead_12 : decode cL_ahead 12 = .ok (.iconst 0, 1) := by decide +kernel
theorem dL_ahead_13 : decode cL_ahead 13 = .ok (.iaload, 1) := by decide +kernel
theorem dL_ahead_14 : decode cL_ahead 14 = .ok (.invokestatic 65, 3) := by decide +kernel
theorem dL_ahead_17 : decode cL_ahead 17 = .ok (.istore 9, 2) := by decide +kernel
theorem dL_ahead_19 : decode cL_ahead 19 = .ok (.iconst 1, 1) := by decide +kernel
theorem dL_ahead_20 : decode cL_ahead 20 = .ok (.iload_n 1, 1) := by decide +kernel
theorem dL_ahead_21 : decode cL_ahead 21 = .ok (.iconst 3, 1) := by decide +kernel
theorem dL_ahead_22 : decode cL_ahead 22 = .ok (.ishr, 1) := by decide +kernel
theorem dL_ahead_23 : decode cL_ahead 23 = .ok (.sipush 5000, 3) := by decide +kernel
theorem dL_ahead_26 : decode cL_ahead 26 = .ok (.invokestatic 65, 3) := by decide +kernel
theorem dL_ahead_29 : decode cL_ahead 29 = .ok (.iadd, 1) := by decide +kernel
theorem dL_ahead_30 : decode cL_ahead 30 = .ok (.istore 10, 2) := by decide +kernel
theorem dL_ahead_32 : decode cL_ahead 32 = .ok (.iconst (-1), 1) := by decide +kernel
theorem dL_ahead_33 : decode cL_ahead 33 = .ok (.istore 11, 2) := by decide +kernel
theorem dL_ahead_35 : decode cL_ahead 35 = .ok (.iconst (-1), 1) := by decide +kernel
theorem dL_ahead_36 : decode cL_ahead 36 = .ok (.istore 12, 2) := by decide +kernel
theorem dL_ahead_38 : decode cL_ahead 38 = .ok (.bipush 24, 2) := by decide +kernel
theorem dL_ahead_40 : decode cL_ahead 40 = .ok (.newarray .int, 2) := by decide +kernel
theorem dL_ahead_42 : decode cL_ahead 42 = .ok (.astore 13, 2) := by decide +kernel
theorem dL_ahead_44 : decode cL_ahead 44 = .ok (.bipush 20, 2) := by decide +kernel
theorem dL_ahead_46 : decode cL_ahead 46 = .ok (.newarray .int, 2) := by decide +kernel
theorem dL_ahead_48 : decode cL_ahead 48 = .ok (.astore 14, 2) := by decide +kernel
theorem dL_ahead_50 : decode cL_ahead 50 = .ok (.bipush 16, 2) := by decide +kernel
theorem dL_ahead_52 : decode cL_ahead 52 = .ok (.newarray .int, 2) := by decide +kernel
theorem dL_ahead_54 : decode cL_ahead 54 = .ok (.astore 15, 2) := by decide +kernel
theorem dL_ahead_56 : decode cL_ahead 56 = .ok (.bipush 8, 2) := by decide +kernel
theorem dL_ahead_58 : decode cL_ahead 58 = .ok (.newarray .int, 2) := by decide +kernel
theorem dL_ahead_60 : decode cL_ahead 60 = .ok (.astore 16, 2) := by decide +kernel
theorem dL_ahead_62 : decode cL_ahead 62 = .ok (.iconst 0, 1) := by decide +kernel
theorem dL_ahead_63 : decode cL_ahead 63 = .ok (.istore 17, 2) := by decide +kernel
theorem dL_ahead_65 : decode cL_ahead 65 = .ok (.iload 17, 2) := by decide +kernel
theorem dL_ahead_67 : decode cL_ahead 67 = .ok (.aload 8, 2) := by decide +kernel
theorem dL_ahead_69 : decode cL_ahead 69 = .ok (.iconst 1, 1) := by decide +kernel
theorem dL_ahead_70 : decode cL_ahead 70 = .ok (.iaload, 1) := by decide +kernel
theorem dL_ahead_71 : decode cL_ahead 71 = .ok (.if_icmp .ge 160, 3) := by decide +kernel
theorem dL_ahead_74 : decode cL_ahead 74 = .ok (.aload_n 0, 1) := by decide +kernel
theorem dL_ahead_75 : decode cL_ahead 75 = .ok (.iload 17, 2) := by decide +kernel
theorem dL_ahead_77 : decode cL_ahead 77 = .ok (.iload 9, 2) := by decide +kernel
theorem dL_ahead_79 : decode cL_ahead 79 = .ok (.invokevirtual 68, 3) := by decide +kernel
theorem dL_ahead_82 : decode cL_ahead 82 = .ok (.iload 17, 2) := by decide +kernel
theorem dL_ahead_84 : decode cL_ahead 84 = .ok (.iload 9, 2) := by decide +kernel
theorem dL_ahead_86 : decode cL_ahead 86 = .ok (.aload 4, 2) := by decide +kernel
theorem dL_ahead_88 : decode cL_ahead 88 = .ok (.invokestatic 71, 3) := by decide +kernel
theorem dL_ahead_91 : decode cL_ahead 91 = .ok (.if_icmp .eq 5, 3) := by decide +kernel
theorem dL_ahead_94 : decode cL_ahead 94 = .ok (.iconst 0, 1) := by decide +kernel
theorem dL_ahead_95 : decode cL_ahead 95 = .ok (.ireturn, 1) := by decide +kernel
theorem dL_ahead_96 : decode cL_ahead 96 = .ok (.aload_n 3, 1) := by decide +kernel
theorem dL_ahead_97 : decode cL_ahead 97 = .ok (.iconst 5, 1) := by decide +kernel
theorem dL_ahead_98 : decode cL_ahead 98 = .ok (.iload 17, 2) := by decide +kernel
theorem dL_ahead_100 : decode cL_ahead 100 = .ok (.imul, 1) := by decide +kernel
theorem dL_ahead_101 : decode cL_ahead 101 = .ok (.iconst 2, 1) := by decide +kernel
theorem dL_ahead_102 : decode cL_ahead 102 = .ok (.iadd, 1) := by decide +kernel
theorem dL_ahead_103 : decode cL_ahead 103 = .ok (.iaload, 1) := by decide +kernel
theorem dL_ahead_104 : decode cL_ahead 104 = .ok (.iconst 3, 1) := by decide +kernel
theorem dL_ahead_105 : decode cL_ahead 105 = .ok (.if_icmp .eq 6, 3) := by decide +kernel
theorem dL_ahead_108 : decode cL_ahead 108 = .ok (.goto 117, 3) := by decide +kernel
theorem dL_ahead_111 : decode cL_ahead 111 = .ok (.aload 13, 2) := by decide +kernel
theorem dL_ahead_113 : decode cL_ahead 113 = .ok (.aload_n 2, 1) := by decide +kernel
theorem dL_ahead_114 : decode cL_ahead 114 = .ok (.invokestatic 75, 3) := by decide +kernel
theorem dL_ahead_117 : decode cL_ahead 117 = .ok (.aload 14, 2) := by decide +kernel
theorem dL_ahead_119 : decode cL_ahead 119 = .ok (.aload_n 3, 1) := by decide +kernel
theorem dL_ahead_120 : decode cL_ahead 120 = .ok (.invokestatic 75, 3) := by decide +kernel
theorem dL_ahead_123 : decode cL_ahead 123 = .ok (.aload 15, 2) := by decide +kernel
theorem dL_ahead_125 : decode cL_ahead 125 = .ok (.aload 6, 2) := by decide +kernel
theorem dL_ahead_127 : decode cL_ahead 127 = .ok (.invokestatic 75, 3) := by decide +kernel
theorem dL_ahead_130 : decode cL_ahead 130 = .ok (.aload 16, 2) := by decide +kernel
theorem dL_ahead_132 : decode cL_ahead 132 = .ok (.aload 8, 2) := by decide +kernel
theorem dL_ahead_134 : decode cL_ahead 134 = .ok (.invokestatic 75, 3) := by decide +kernel
theorem dL_ahead_137 : decode cL_ahead 137 = .ok (.iload 17, 2) := by decide +kernel
theorem dL_ahead_139 : decode cL_ahead 139 = .ok (.iload 10, 2) := by decide +kernel
theorem dL_ahead_141 : decode cL_ahead 141 = .ok (.iconst 1, 1) := by decide +kernel
theorem dL_ahead_142 : decode cL_ahead 142 = .ok (.aload 13, 2) := by decide +kernel
theorem dL_ahead_144 : decode cL_ahead 144 = .ok (.aload 14, 2) := by decide +kernel
theorem dL_ahead_146 : decode cL_ahead 146 = .ok (.aload 5, 2) := by decide +kernel
theorem dL_ahead_148 : decode cL_ahead 148 = .ok (.aload 15, 2) := by decide +kernel
theorem dL_ahead_150 : decode cL_ahead 150 = .ok (.aload 7, 2) := by decide +kernel
theorem dL_ahead_152 : decode cL_ahead 152 = .ok (.aload 16, 2) := by decide +kernel
theorem dL_ahead_154 : decode cL_ahead 154 = .ok (.invokestatic 79, 3) := by decide +kernel
theorem dL_ahead_157 : decode cL_ahead 157 = .ok (.pop, 1) := by decide +kernel
theorem dL_ahead_158 : decode cL_ahead 158 = .ok (.aload 13, 2) := by decide +kernel
theorem dL_ahead_160 : decode cL_ahead 160 = .ok (.bipush 6, 2) := by decide +kernel
theorem dL_ahead_162 : decode cL_ahead 162 = .ok (.iload 9, 2) := by decide +kernel
theorem dL_ahead_164 : decode cL_ahead 164 = .ok (.imul, 1) := by decide +kernel
theorem dL_ahead_165 : decode cL_ahead 165 = .ok (.iaload, 1) := by decide +kernel
theorem dL_ahead_166 : decode cL_ahead 166 = .ok (.aload_n 2, 1) := by decide +kernel
theorem dL_ahead_167 : decode cL_ahead 167 = .ok (.bipush 6, 2) := by decide +kernel
theorem dL_ahead_169 : decode cL_ahead 169 = .ok (.iload 9, 2) := by decide +kernel
theorem dL_ahead_171 : decode cL_ahead 171 = .ok (.imul, 1) := by decide +kernel
theorem dL_ahead_172 : decode cL_ahead 172 = .ok (.iaload, 1) := by decide +kernel
theorem dL_ahead_173 : decode cL_ahead 173 = .ok (.isub, 1) := by decide +kernel
theorem dL_ahead_174 : decode cL_ahead 174 = .ok (.istore 18, 2) := by decide +kernel
theorem dL_ahead_176 : decode cL_ahead 176 = .ok (.aload_n 0, 1) := by decide +kernel
theorem dL_ahead_177 : decode cL_ahead 177 = .ok (.iload 17, 2) := by decide +kernel
theorem dL_ahead_179 : decode cL_ahead 179 = .ok (.iload 10, 2) := by decide +kernel
theorem dL_ahead_181 : decode cL_ahead 181 = .ok (.iload 9, 2) := by decide +kernel
theorem dL_ahead_183 : decode cL_ahead 183 = .ok (.invokevirtual 83, 3) := by decide +kernel
theorem dL_ahead_186 : decode cL_ahead 186 = .ok (.iload 18, 2) := by decide +kernel
theorem dL_ahead_188 : decode cL_ahead 188 = .ok (.if_icmp .eq 5, 3) := by decide +kernel
theorem dL_ahead_191 : decode cL_ahead 191 = .ok (.iconst 0, 1) := by decide +kernel
theorem dL_ahead_192 : decode cL_ahead 192 = .ok (.ireturn, 1) := by decide +kernel
theorem dL_ahead_193 : decode cL_ahead 193 = .ok (.iload 18, 2) := by decide +kernel
theorem dL_ahead_195 : decode cL_ahead 195 = .ok (.iload 12, 2) := by decide +kernel
theorem dL_ahead_197 : decode cL_ahead 197 = .ok (.if_icmp .le 8, 3) := by decide +kernel
theorem dL_ahead_200 : decode cL_ahead 200 = .ok (.iload 17, 2) := by decide +kernel
theorem dL_ahead_202 : decode cL_ahead 202 = .ok (.goto 5, 3) := by decide +kernel
theorem dL_ahead_205 : decode cL_ahead 205 = .ok (.iload 11, 2) := by decide +kernel
theorem dL_ahead_207 : decode cL_ahead 207 = .ok (.istore 11, 2) := by decide +kernel
theorem dL_ahead_209 : decode cL_ahead 209 = .ok (.iload 18, 2) := by decide +kernel
theorem dL_ahead_211 : decode cL_ahead 211 = .ok (.iload 12, 2) := by decide +kernel
theorem dL_ahead_213 : decode cL_ahead 213 = .ok (.if_icmp .le 8, 3) := by decide +kernel
theorem dL_ahead_216 : decode cL_ahead 216 = .ok (.iload 18, 2) := by decide +kernel
theorem dL_ahead_218 : decode cL_ahead 218 = .ok (.goto 5, 3) := by decide +kernel
theorem dL_ahead_221 : decode cL_ahead 221 = .ok (.iload 12, 2) := by decide +kernel
theorem dL_ahead_223 : decode cL_ahead 223 = .ok (.istore 12, 2) := by decide +kernel
theorem dL_ahead_225 : decode cL_ahead 225 = .ok (.iinc 17 1, 3) := by decide +kernel
theorem dL_ahead_228 : decode cL_ahead 228 = .ok (.goto (-163), 3) := by decide +kernel
theorem dL_ahead_231 : decode cL_ahead 231 = .ok (.aload_n 0, 1) := by decide +kernel
theorem dL_ahead_232 : decode cL_ahead 232 = .ok (.iload 9, 2) := by decide +kernel
theorem dL_ahead_234 : decode cL_ahead 234 = .ok (.iload 10, 2) := by decide +kernel
theorem dL_ahead_236 : decode cL_ahead 236 = .ok (.invokevirtual 86, 3) := by decide +kernel
theorem dL_ahead_239 : decode cL_ahead 239 = .ok (.iload 11, 2) := by decide +kernel
theorem dL_ahead_241 : decode cL_ahead 241 = .ok (.if_icmp .ne 7, 3) := by decide +kernel
theorem dL_ahead_244 : decode cL_ahead 244 = .ok (.iconst 1, 1) := by decide +kernel
theorem dL_ahead_245 : decode cL_ahead 245 = .ok (.goto 4, 3) := by decide +kernel
theorem dL_ahead_248 : decode cL_ahead 248 = .ok (.iconst 0, 1) := by decide +kernel
theorem dL_ahead_249 : decode cL_ahead 249 = .ok (.ireturn, 1) := by decide +kernel
theorem dL_money_0 : decode cL_money 0 = .ok (.iload_n 2, 1) := by decide +kernel
theorem dL_money_1 : decode cL_money 1 = .ok (.aload 5, 2) := by decide +kernel
theorem dL_money_3 : decode cL_money 3 = .ok (.iconst 0, 1) := by decide +kernel
theorem dL_money_4 : decode cL_money 4 = .ok (.iaload, 1) := by decide +kernel
theorem dL_money_5 : decode cL_money 5 = .ok (.invokestatic 65, 3) := by decide +kernel
theorem dL_money_8 : decode cL_money 8 = .ok (.istore 6, 2) := by decide +kernel
theorem dL_money_10 : decode cL_money 10 = .ok (.iload_n 2, 1) := by decide +kernel
theorem dL_money_11 : decode cL_money 11 = .ok (.iconst 3, 1) := by decide +kernel
theorem dL_money_12 : decode cL_money 12 = .ok (.ishr, 1) := by decide +kernel
theorem dL_money_13 : decode cL_money 13 = .ok (.aload 5, 2) := by decide +kernel
theorem dL_money_15 : decode cL_money 15 = .ok (.iconst 0, 1) := by decide +kernel
theorem dL_money_16 : decode cL_money 16 = .ok (.iaload, 1) := by decide +kernel
theorem dL_money_17 : decode cL_money 17 = .ok (.invokestatic 65, 3) := by decide +kernel
theorem dL_money_20 : decode cL_money 20 = .ok (.istore 7, 2) := by decide +kernel
theorem dL_money_22 : decode cL_money 22 = .ok (.iload_n 1, 1) := by decide +kernel
theorem dL_money_23 : decode cL_money 23 = .ok (.ifCond .ne 126, 3) := by decide +kernel
theorem dL_money_26 : decode cL_money 26 = .ok (.iload_n 3, 1) := by decide +kernel
theorem dL_money_27 : decode cL_money 27 = .ok (.aload 4, 2) := by decide +kernel
theorem dL_money_29 : decode cL_money 29 = .ok (.bipush 6, 2) := by decide +kernel
theorem dL_money_31 : decode cL_money 31 = .ok (.iload 7, 2) := by decide +kernel
theorem dL_money_33 : decode cL_money 33 = .ok (.imul, 1) := by decide +kernel
theorem dL_money_34 : decode cL_money 34 = .ok (.iaload, 1) := by decide +kernel
theorem dL_money_35 : decode cL_money 35 = .ok (.iconst 1, 1) := by decide +kernel
theorem dL_money_36 : decode cL_money 36 = .ok (.iadd, 1) := by decide +kernel
theorem dL_money_37 : decode cL_money 37 = .ok (.invokestatic 65, 3) := by decide +kernel
theorem dL_money_40 : decode cL_money 40 = .ok (.istore 8, 2) := by decide +kernel
theorem dL_money_42 : decode cL_money 42 = .ok (.aload 4, 2) := by decide +kernel
theorem dL_money_44 : decode cL_money 44 = .ok (.bipush 6, 2) := by decide +kernel
theorem dL_money_46 : decode cL_money 46 = .ok (.iload 6, 2) := by decide +kernel
theorem dL_money_48 : decode cL_money 48 = .ok (.imul, 1) := by decide +kernel
theorem dL_money_49 : decode cL_money 49 = .ok (.iconst 3, 1) := by decide +kernel
theorem dL_money_50 : decode cL_money 50 = .ok (.iadd, 1) := by decide +kernel
theorem dL_money_51 : decode cL_money 51 = .ok (.iaload, 1) := by decide +kernel
theorem dL_money_52 : decode cL_money 52 = .ok (.iload 7, 2) := by decide +kernel
theorem dL_money_54 : decode cL_money 54 = .ok (.if_icmp .eq 10, 3) := by decide +kernel
theorem dL_money_57 : decode cL_money 57 = .ok (.iload 8, 2) := by decide +kernel
theorem dL_money_59 : decode cL_money 59 = .ok (.ldc 89, 2) := by decide +kernel
theorem dL_money_61 : decode cL_money 61 = .ok (.if_icmp .le 5, 3) := by decide +kernel
theorem dL_money_64 : decode cL_money 64 = .ok (.iconst 1, 1) := by decide +kernel
theorem dL_money_65 : decode cL_money 65 = .ok (.ireturn, 1) := by decide +kernel
theorem dL_money_66 : decode cL_money 66 = .ok (.aload 4, 2) := by decide +kernel
theorem dL_money_68 : decode cL_money 68 = .ok (.bipush 6, 2) := by decide +kernel
theorem dL_money_70 : decode cL_money 70 = .ok (.iload 6, 2) := by decide +kernel
theorem dL_money_72 : decode cL_money 72 = .ok (.imul, 1) := by decide +kernel
theorem dL_money_73 : decode cL_money 73 = .ok (.iconst 3, 1) := by decide +kernel
theorem dL_money_74 : decode cL_money 74 = .ok (.iadd, 1) := by decide +kernel
theorem dL_money_75 : decode cL_money 75 = .ok (.iaload, 1) := by decide +kernel
theorem dL_money_76 : decode cL_money 76 = .ok (.istore 9, 2) := by decide +kernel
theorem dL_money_78 : decode cL_money 78 = .ok (.aload 4, 2) := by decide +kernel
theorem dL_money_80 : decode cL_money 80 = .ok (.bipush 6, 2) := by decide +kernel
theorem dL_money_82 : decode cL_money 82 = .ok (.iload 7, 2) := by decide +kernel
theorem dL_money_84 : decode cL_money 84 = .ok (.imul, 1) := by decide +kernel
theorem dL_money_85 : decode cL_money 85 = .ok (.dup2, 1) := by decide +kernel
theorem dL_money_86 : decode cL_money 86 = .ok (.iaload, 1) := by decide +kernel
theorem dL_money_87 : decode cL_money 87 = .ok (.iload 8, 2) := by decide +kernel
theorem dL_money_89 : decode cL_money 89 = .ok (.isub, 1) := by decide +kernel
theorem dL_money_90 : decode cL_money 90 = .ok (.iastore, 1) := by decide +kernel
theorem dL_money_91 : decode cL_money 91 = .ok (.aload 4, 2) := by decide +kernel
theorem dL_money_93 : decode cL_money 93 = .ok (.bipush 6, 2) := by decide +kernel
theorem dL_money_95 : decode cL_money 95 = .ok (.iload 9, 2) := by decide +kernel
theorem dL_money_97 : decode cL_money 97 = .ok (.imul, 1) := by decide +kernel
theorem dL_money_98 : decode cL_money 98 = .ok (.dup2, 1) := by decide +kernel
theorem dL_money_99 : decode cL_money 99 = .ok (.iaload, 1) := by decide +kernel
theorem dL_money_100 : decode cL_money 100 = .ok (.iload 8, 2) := by decide +kernel
theorem dL_money_102 : decode cL_money 102 = .ok (.iadd, 1) := by decide +kernel
theorem dL_money_103 : decode cL_money 103 = .ok (.iastore, 1) := by decide +kernel
theorem dL_money_104 : decode cL_money 104 = .ok (.aload 4, 2) := by decide +kernel
theorem dL_money_106 : decode cL_money 106 = .ok (.bipush 6, 2) := by decide +kernel
theorem dL_money_108 : decode cL_money 108 = .ok (.iload 6, 2) := by decide +kernel
theorem dL_money_110 : decode cL_money 110 = .ok (.imul, 1) := by decide +kernel
theorem dL_money_111 : decode cL_money 111 = .ok (.iconst 3, 1) := by decide +kernel
theorem dL_money_112 : decode cL_money 112 = .ok (.iadd, 1) := by decide +kernel
theorem dL_money_113 : decode cL_money 113 = .ok (.iload 7, 2) := by decide +kernel
theorem dL_money_115 : decode cL_money 115 = .ok (.iastore, 1) := by decide +kernel
theorem dL_money_116 : decode cL_money 116 = .ok (.aload 4, 2) := by decide +kernel
theorem dL_money_118 : decode cL_money 118 = .ok (.bipush 6, 2) := by decide +kernel
theorem dL_money_120 : decode cL_money 120 = .ok (.iload 6, 2) := by decide +kernel
theorem dL_money_122 : decode cL_money 122 = .ok (.imul, 1) := by decide +kernel
theorem dL_money_123 : decode cL_money 123 = .ok (.iconst 4, 1) := by decide +kernel
theorem dL_money_124 : decode cL_money 124 = .ok (.iadd, 1) := by decide +kernel
theorem dL_money_125 : decode cL_money 125 = .ok (.iload 8, 2) := by decide +kernel
theorem dL_money_127 : decode cL_money 127 = .ok (.iastore, 1) := by decide +kernel
theorem dL_money_128 : decode cL_money 128 = .ok (.aload_n 0, 1) := by decide +kernel
theorem dL_money_129 : decode cL_money 129 = .ok (.iload 6, 2) := by decide +kernel
theorem dL_money_131 : decode cL_money 131 = .ok (.iload 7, 2) := by decide +kernel
theorem dL_money_133 : decode cL_money 133 = .ok (.iload 8, 2) := by decide +kernel
theorem dL_money_135 : decode cL_money 135 = .ok (.invokevirtual 90, 3) := by decide +kernel
theorem dL_money_138 : decode cL_money 138 = .ok (.iload 9, 2) := by decide +kernel
theorem dL_money_140 : decode cL_money 140 = .ok (.if_icmp .ne 7, 3) := by decide +kernel
theorem dL_money_143 : decode cL_money 143 = .ok (.iconst 1, 1) := by decide +kernel
theorem dL_money_144 : decode cL_money 144 = .ok (.goto 4, 3) := by decide +kernel
theorem dL_money_147 : decode cL_money 147 = .ok (.iconst 0, 1) := by decide +kernel
theorem dL_money_148 : decode cL_money 148 = .ok (.ireturn, 1) := by decide +kernel
theorem dL_money_149 : decode cL_money 149 = .ok (.iload_n 1, 1) := by decide +kernel
theorem dL_money_150 : decode cL_money 150 = .ok (.iconst 1, 1) := by decide +kernel
theorem dL_money_151 : decode cL_money 151 = .ok (.if_icmp .ne 134, 3) := by decide +kernel
theorem dL_money_154 : decode cL_money 154 = .ok (.aload 4, 2) := by decide +kernel
theorem dL_money_156 : decode cL_money 156 = .ok (.bipush 6, 2) := by decide +kernel
theorem dL_money_158 : decode cL_money 158 = .ok (.iload 6, 2) := by decide +kernel
theorem dL_money_160 : decode cL_money 160 = .ok (.imul, 1) := by decide +kernel
theorem dL_money_161 : decode cL_money 161 = .ok (.iconst 4, 1) := by decide +kernel
theorem dL_money_162 : decode cL_money 162 = .ok (.iadd, 1) := by decide +kernel
theorem dL_money_163 : decode cL_money 163 = .ok (.iaload, 1) := by decide +kernel
theorem dL_money_164 : decode cL_money 164 = .ok (.aload 4, 2) := by decide +kernel
theorem dL_money_166 : decode cL_money 166 = .ok (.bipush 6, 2) := by decide +kernel
theorem dL_money_168 : decode cL_money 168 = .ok (.iload 6, 2) := by decide +kernel
theorem dL_money_170 : decode cL_money 170 = .ok (.imul, 1) := by decide +kernel
theorem dL_money_171 : decode cL_money 171 = .ok (.iconst 4, 1) := by decide +kernel
theorem dL_money_172 : decode cL_money 172 = .ok (.iadd, 1) := by decide +kernel
theorem dL_money_173 : decode cL_money 173 = .ok (.iaload, 1) := by decide +kernel
theorem dL_money_174 : decode cL_money 174 = .ok (.bipush 10, 2) := by decide +kernel
theorem dL_money_176 : decode cL_money 176 = .ok (.idiv, 1) := by decide +kernel
theorem dL_money_177 : decode cL_money 177 = .ok (.iadd, 1) := by decide +kernel
theorem dL_money_178 : decode cL_money 178 = .ok (.istore 8, 2) := by decide +kernel
theorem dL_money_180 : decode cL_money 180 = .ok (.aload 4, 2) := by decide +kernel
theorem dL_money_182 : decode cL_money 182 = .ok (.bipush 6, 2) := by decide +kernel
theorem dL_money_184 : decode cL_money 184 = .ok (.iload 6, 2) := by decide +kernel
theorem dL_money_186 : decode cL_money 186 = .ok (.imul, 1) := by decide +kernel
theorem dL_money_187 : decode cL_money 187 = .ok (.iconst 3, 1) := by decide +kernel
theorem dL_money_188 : decode cL_money 188 = .ok (.iadd, 1) := by decide +kernel
theorem dL_money_189 : decode cL_money 189 = .ok (.iaload, 1) := by decide +kernel
theorem dL_money_190 : decode cL_money 190 = .ok (.iload 6, 2) := by decide +kernel
theorem dL_money_192 : decode cL_money 192 = .ok (.if_icmp .eq 16, 3) := by decide +kernel
theorem dL_money_195 : decode cL_money 195 = .ok (.aload 4, 2) := by decide +kernel
theorem dL_money_197 : decode cL_money 197 = .ok (.bipush 6, 2) := by decide +kernel
theorem dL_money_199 : decode cL_money 199 = .ok (.iload 6, 2) := by decide +kernel
theorem dL_money_201 : decode cL_money 201 = .ok (.imul, 1) := by decide +kernel
theorem dL_money_202 : decode cL_money 202 = .ok (.iaload, 1) := by decide +kernel
theorem dL_money_203 : decode cL_money 203 = .ok (.iload 8, 2) := by decide +kernel
theorem dL_money_205 : decode cL_money 205 = .ok (.if_icmp .ge 5, 3) := by decide +kernel
theorem dL_money_208 : decode cL_money 208 = .ok (.iconst 1, 1) := by decide +kernel
theorem dL_money_209 : decode cL_money 209 = .ok (.ireturn, 1) := by decide +kernel
theorem dL_money_210 : decode cL_money 210 = .ok (.aload 4, 2) := by decide +kernel
theorem dL_money_212 : decode cL_money 212 = .ok (.bipush 6, 2) := by decide +kernel
theorem dL_money_214 : decode cL_money 214 = .ok (.iload 6, 2) := by decide +kernel
theorem dL_money_216 : decode cL_money 216 = .ok (.imul, 1) := by decide +kernel
theorem dL_money_217 : decode cL_money 217 = .ok (.dup2, 1) := by decide +kernel
theorem dL_money_218 : decode cL_money 218 = .ok (.iaload, 1) := by decide +kernel
theorem dL_money_219 : decode cL_money 219 = .ok (.iload 8, 2) := by decide +kernel
theorem dL_money_221 : decode cL_money 221 = .ok (.isub, 1) := by decide +kernel
theorem dL_money_222 : decode cL_money 222 = .ok (.iastore, 1) := by decide +kernel
theorem dL_money_223 : decode cL_money 223 = .ok (.aload 4, 2) := by decide +kernel
theorem dL_money_225 : decode cL_money 225 = .ok (.bipush 6, 2) := by decide +kernel
theorem dL_money_227 : decode cL_money 227 = .ok (.aload 4, 2) := by decide +kernel
theorem dL_money_229 : decode cL_money 229 = .ok (.bipush 6, 2) := by decide +kernel
theorem dL_money_231 : decode cL_money 231 = .ok (.iload 6, 2) := by decide +kernel
theorem dL_money_233 : decode cL_money 233 = .ok (.imul, 1) := by decide +kernel
theorem dL_money_234 : decode cL_money 234 = .ok (.iconst 3, 1) := by decide +kernel
theorem dL_money_235 : decode cL_money 235 = .ok (.iadd, 1) := by decide +kernel
theorem dL_money_236 : decode cL_money 236 = .ok (.iaload, 1) := by decide +kernel
theorem dL_money_237 : decode cL_money 237 = .ok (.imul, 1) := by decide +kernel
theorem dL_money_238 : decode cL_money 238 = .ok (.dup2, 1) := by decide +kernel
theorem dL_money_239 : decode cL_money 239 = .ok (.iaload, 1) := by decide +kernel
theorem dL_money_240 : decode cL_money 240 = .ok (.iload 8, 2) := by decide +kernel
theorem dL_money_242 : decode cL_money 242 = .ok (.iadd, 1) := by decide +kernel
theorem dL_money_243 : decode cL_money 243 = .ok (.iastore, 1) := by decide +kernel
theorem dL_money_244 : decode cL_money 244 = .ok (.aload 4, 2) := by decide +kernel
theorem dL_money_246 : decode cL_money 246 = .ok (.bipush 6, 2) := by decide +kernel
theorem dL_money_248 : decode cL_money 248 = .ok (.iload 6, 2) := by decide +kernel
theorem dL_money_250 : decode cL_money 250 = .ok (.imul, 1) := by decide +kernel
theorem dL_money_251 : decode cL_money 251 = .ok (.iconst 3, 1) := by decide +kernel
theorem dL_money_252 : decode cL_money 252 = .ok (.iadd, 1) := by decide +kernel
theorem dL_money_253 : decode cL_money 253 = .ok (.iload 6, 2) := by decide +kernel
theorem dL_money_255 : decode cL_money 255 = .ok (.iastore, 1) := by decide +kernel
theorem dL_money_256 : decode cL_money 256 = .ok (.aload 4, 2) := by decide +kernel
theorem dL_money_258 : decode cL_money 258 = .ok (.bipush 6, 2) := by decide +kernel
theorem dL_money_260 : decode cL_money 260 = .ok (.iload 6, 2) := by decide +kernel
theorem dL_money_262 : decode cL_money 262 = .ok (.imul, 1) := by decide +kernel
theorem dL_money_263 : decode cL_money 263 = .ok (.iconst 4, 1) := by decide +kernel
theorem dL_money_264 : decode cL_money 264 = .ok (.iadd, 1) := by decide +kernel
theorem dL_money_265 : decode cL_money 265 = .ok (.iload 8, 2) := by decide +kernel
theorem dL_money_267 : decode cL_money 267 = .ok (.iastore, 1) := by decide +kernel
theorem dL_money_268 : decode cL_money 268 = .ok (.aload_n 0, 1) := by decide +kernel
theorem dL_money_269 : decode cL_money 269 = .ok (.iload 6, 2) := by decide +kernel
theorem dL_money_271 : decode cL_money 271 = .ok (.invokevirtual 93, 3) := by decide +kernel
theorem dL_money_274 : decode cL_money 274 = .ok (.iload 8, 2) := by decide +kernel
theorem dL_money_276 : decode cL_money 276 = .ok (.if_icmp .ne 7, 3) := by decide +kernel
theorem dL_money_279 : decode cL_money 279 = .ok (.iconst 1, 1) := by decide +kernel
theorem dL_money_280 : decode cL_money 280 = .ok (.goto 4, 3) := by decide +kernel
theorem dL_money_283 : decode cL_money 283 = .ok (.iconst 0, 1) := by decide +kernel
theorem dL_money_284 : decode cL_money 284 = .ok (.ireturn, 1) := by decide +kernel
theorem dL_money_285 : decode cL_money 285 = .ok (.iload_n 1, 1) := by decide +kernel
theorem dL_money_286 : decode cL_money 286 = .ok (.iconst 2, 1) := by decide +kernel
theorem dL_money_287 : decode cL_money 287 = .ok (.if_icmp .ne 104, 3) := by decide +kernel
theorem dL_money_290 : decode cL_money 290 = .ok (.aload 5, 2) := by decide +kernel
theorem dL_money_292 : decode cL_money 292 = .ok (.iconst 3, 1) := by decide +kernel
theorem dL_money_293 : decode cL_money 293 = .ok (.iaload, 1) := by decide +kernel
theorem dL_money_294 : decode cL_money 294 = .ok (.ifCond .ne 5, 3) := by decide +kernel
theorem dL_money_297 : decode cL_money 297 = .ok (.iconst 1, 1) := by decide +kernel
theorem dL_money_298 : decode cL_money 298 = .ok (.ireturn, 1) := by decide +kernel
theorem dL_money_299 : decode cL_money 299 = .ok (.iconst 1, 1) := by decide +kernel
theorem dL_money_300 : decode cL_money 300 = .ok (.iload_n 3, 1) := by decide +kernel
theorem dL_money_301 : decode cL_money 301 = .ok (.aload 5, 2) := by decide +kernel
theorem dL_money_303 : decode cL_money 303 = .ok (.iconst 3, 1) := by decide +kernel
theorem dL_money_304 : decode cL_money 304 = .ok (.iaload, 1) := by decide +kernel
theorem dL_money_305 : decode cL_money 305 = .ok (.sipush 3000, 3) := by decide +kernel
theorem dL_money_308 : decode cL_money 308 = .ok (.if_icmp .ge 10, 3) := by decide +kernel
theorem dL_money_311 : decode cL_money 311 = .ok (.aload 5, 2) := by decide +kernel
theorem dL_money_313 : decode cL_money 313 = .ok (.iconst 3, 1) := by decide +kernel
theorem dL_money_314 : decode cL_money 314 = .ok (.iaload, 1) := by decide +kernel
theorem dL_money_315 : decode cL_money 315 = .ok (.goto 6, 3) := by decide +kernel
theorem dL_money_318 : decode cL_money 318 = .ok (.sipush 3000, 3) := by decide +kernel
theorem dL_money_321 : decode cL_money 321 = .ok (.invokestatic 65, 3) := by decide +kernel
theorem dL_money_324 : decode cL_money 324 = .ok (.iadd, 1) := by decide +kernel
theorem dL_money_325 : decode cL_money 325 = .ok (.istore 8, 2) := by decide +kernel
theorem dL_money_327 : decode cL_money 327 = .ok (.aload 5, 2) := by decide +kernel
theorem dL_money_329 : decode cL_money 329 = .ok (.iconst 3, 1) := by decide +kernel
theorem dL_money_330 : decode cL_money 330 = .ok (.dup2, 1) := by decide +kernel
theorem dL_money_331 : decode cL_money 331 = .ok (.iaload, 1) := by decide +kernel
theorem dL_money_332 : decode cL_money 332 = .ok (.iload 8, 2) := by decide +kernel
theorem dL_money_334 : decode cL_money 334 = .ok (.isub, 1) := by decide +kernel
theorem dL_money_335 : decode cL_money 335 = .ok (.iastore, 1) := by decide +kernel
theorem dL_money_336 : decode cL_money 336 = .ok (.aload 4, 2) := by decide +kernel
theorem dL_money_338 : decode cL_money 338 = .ok (.bipush 6, 2) := by decide +kernel
theorem dL_money_340 : decode cL_money 340 = .ok (.iload 6, 2) := by decide +kernel
theorem dL_money_342 : decode cL_money 342 = .ok (.imul, 1) := by decide +kernel
theorem dL_money_343 : decode cL_money 343 = .ok (.dup2, 1) := by decide +kernel
theorem dL_money_344 : decode cL_money 344 = .ok (.iaload, 1) := by decide +kernel
theorem dL_money_345 : decode cL_money 345 = .ok (.iload 8, 2) := by decide +kernel
theorem dL_money_347 : decode cL_money 347 = .ok (.iadd, 1) := by decide +kernel
theorem dL_money_348 : decode cL_money 348 = .ok (.iastore, 1) := by decide +kernel
theorem dL_money_349 : decode cL_money 349 = .ok (.aload 4, 2) := by decide +kernel
theorem dL_money_351 : decode cL_money 351 = .ok (.bipush 6, 2) := by decide +kernel
theorem dL_money_353 : decode cL_money 353 = .ok (.iload 6, 2) := by decide +kernel
theorem dL_money_355 : decode cL_money 355 = .ok (.imul, 1) := by decide +kernel
theorem dL_money_356 : decode cL_money 356 = .ok (.iconst 1, 1) := by decide +kernel
theorem dL_money_357 : decode cL_money 357 = .ok (.iadd, 1) := by decide +kernel
theorem dL_money_358 : decode cL_money 358 = .ok (.dup2, 1) := by decide +kernel
theorem dL_money_359 : decode cL_money 359 = .ok (.iaload, 1) := by decide +kernel
theorem dL_money_360 : decode cL_money 360 = .ok (.iload 8, 2) := by decide +kernel
theorem dL_money_362 : decode cL_money 362 = .ok (.iadd, 1) := by decide +kernel
theorem dL_money_363 : decode cL_money 363 = .ok (.iastore, 1) := by decide +kernel
theorem dL_money_364 : decode cL_money 364 = .ok (.aload_n 0, 1) := by decide +kernel
theorem dL_money_365 : decode cL_money 365 = .ok (.iload 6, 2) := by decide +kernel
theorem dL_money_367 : decode cL_money 367 = .ok (.iload 8, 2) := by decide +kernel
theorem dL_money_369 : decode cL_money 369 = .ok (.invokevirtual 96, 3) := by decide +kernel
theorem dL_money_372 : decode cL_money 372 = .ok (.aload 4, 2) := by decide +kernel
theorem dL_money_374 : decode cL_money 374 = .ok (.bipush 6, 2) := by decide +kernel
theorem dL_money_376 : decode cL_money 376 = .ok (.iload 6, 2) := by decide +kernel
theorem dL_money_378 : decode cL_money 378 = .ok (.imul, 1) := by decide +kernel
theorem dL_money_379 : decode cL_money 379 = .ok (.iconst 1, 1) := by decide +kernel
theorem dL_money_380 : decode cL_money 380 = .ok (.iadd, 1) := by decide +kernel
theorem dL_money_381 : decode cL_money 381 = .ok (.iaload, 1) := by decide +kernel
theorem dL_money_382 : decode cL_money 382 = .ok (.if_icmp .ne 7, 3) := by decide +kernel
theorem dL_money_385 : decode cL_money 385 = .ok (.iconst 1, 1) := by decide +kernel
theorem dL_money_386 : decode cL_money 386 = .ok (.goto 4, 3) := by decide +kernel
theorem dL_money_389 : decode cL_money 389 = .ok (.iconst 0, 1) := by decide +kernel
theorem dL_money_390 : decode cL_money 390 = .ok (.ireturn, 1) := by decide +kernel
theorem dL_money_391 : decode cL_money 391 = .ok (.aload 4, 2) := by decide +kernel
theorem dL_money_393 : decode cL_money 393 = .ok (.bipush 6, 2) := by decide +kernel
theorem dL_money_395 : decode cL_money 395 = .ok (.iload 6, 2) := by decide +kernel
theorem dL_money_397 : decode cL_money 397 = .ok (.imul, 1) := by decide +kernel
theorem dL_money_398 : decode cL_money 398 = .ok (.iaload, 1) := by decide +kernel
theorem dL_money_399 : decode cL_money 399 = .ok (.ifCond .ne 5, 3) := by decide +kernel
theorem dL_money_402 : decode cL_money 402 = .ok (.iconst 1, 1) := by decide +kernel
theorem dL_money_403 : decode cL_money 403 = .ok (.ireturn, 1) := by decide +kernel
theorem dL_money_404 : decode cL_money 404 = .ok (.iconst 1, 1) := by decide +kernel
theorem dL_money_405 : decode cL_money 405 = .ok (.iload_n 3, 1) := by decide +kernel
theorem dL_money_406 : decode cL_money 406 = .ok (.aload 4, 2) := by decide +kernel
theorem dL_money_408 : decode cL_money 408 = .ok (.bipush 6, 2) := by decide +kernel
theorem dL_money_410 : decode cL_money 410 = .ok (.iload 6, 2) := by decide +kernel
theorem dL_money_412 : decode cL_money 412 = .ok (.imul, 1) := by decide +kernel
theorem dL_money_413 : decode cL_money 413 = .ok (.iaload, 1) := by decide +kernel
theorem dL_money_414 : decode cL_money 414 = .ok (.sipush 3000, 3) := by decide +kernel
theorem dL_money_417 : decode cL_money 417 = .ok (.if_icmp .ge 14, 3) := by decide +kernel
theorem dL_money_420 : decode cL_money 420 = .ok (.aload 4, 2) := by decide +kernel
theorem dL_money_422 : decode cL_money 422 = .ok (.bipush 6, 2) := by decide +kernel
theorem dL_money_424 : decode cL_money 424 = .ok (.iload 6, 2) := by decide +kernel
theorem dL_money_426 : decode cL_money 426 = .ok (.imul, 1) := by decide +kernel
theorem dL_money_427 : decode cL_money 427 = .ok (.iaload, 1) := by decide +kernel
theorem dL_money_428 : decode cL_money 428 = .ok (.goto 6, 3) := by decide +kernel
theorem dL_money_431 : decode cL_money 431 = .ok (.sipush 3000, 3) := by decide +kernel
theorem dL_money_434 : decode cL_money 434 = .ok (.invokestatic 65, 3) := by decide +kernel
theorem dL_money_437 : decode cL_money 437 = .ok (.iadd, 1) := by decide +kernel
theorem dL_money_438 : decode cL_money 438 = .ok (.istore 8, 2) := by decide +kernel
theorem dL_money_440 : decode cL_money 440 = .ok (.aload 4, 2) := by decide +kernel
theorem dL_money_442 : decode cL_money 442 = .ok (.bipush 6, 2) := by decide +kernel
theorem dL_money_444 : decode cL_money 444 = .ok (.iload 6, 2) := by decide +kernel
theorem dL_money_446 : decode cL_money 446 = .ok (.imul, 1) := by decide +kernel
theorem dL_money_447 : decode cL_money 447 = .ok (.dup2, 1) := by decide +kernel
theorem dL_money_448 : decode cL_money 448 = .ok (.iaload, 1) := by decide +kernel
theorem dL_money_449 : decode cL_money 449 = .ok (.iload 8, 2) := by decide +kernel
theorem dL_money_451 : decode cL_money 451 = .ok (.isub, 1) := by decide +kernel
theorem dL_money_452 : decode cL_money 452 = .ok (.iastore, 1) := by decide +kernel
theorem dL_money_453 : decode cL_money 453 = .ok (.aload 4, 2) := by decide +kernel
theorem dL_money_455 : decode cL_money 455 = .ok (.bipush 6, 2) := by decide +kernel
theorem dL_money_457 : decode cL_money 457 = .ok (.iload 6, 2) := by decide +kernel
theorem dL_money_459 : decode cL_money 459 = .ok (.imul, 1) := by decide +kernel
theorem dL_money_460 : decode cL_money 460 = .ok (.iconst 5, 1) := by decide +kernel
theorem dL_money_461 : decode cL_money 461 = .ok (.iadd, 1) := by decide +kernel
theorem dL_money_462 : decode cL_money 462 = .ok (.dup2, 1) := by decide +kernel
theorem dL_money_463 : decode cL_money 463 = .ok (.iaload, 1) := by decide +kernel
theorem dL_money_464 : decode cL_money 464 = .ok (.iload 8, 2) := by decide +kernel
theorem dL_money_466 : decode cL_money 466 = .ok (.iadd, 1) := by decide +kernel
theorem dL_money_467 : decode cL_money 467 = .ok (.iastore, 1) := by decide +kernel
theorem dL_money_468 : decode cL_money 468 = .ok (.aload 5, 2) := by decide +kernel
theorem dL_money_470 : decode cL_money 470 = .ok (.iconst 5, 1) := by decide +kernel
theorem dL_money_471 : decode cL_money 471 = .ok (.dup2, 1) := by decide +kernel
theorem dL_money_472 : decode cL_money 472 = .ok (.iaload, 1) := by decide +kernel
theorem dL_money_473 : decode cL_money 473 = .ok (.iload 8, 2) := by decide +kernel
theorem dL_money_475 : decode cL_money 475 = .ok (.iadd, 1) := by decide +kernel
theorem dL_money_476 : decode cL_money 476 = .ok (.iastore, 1) := by decide +kernel
theorem dL_money_477 : decode cL_money 477 = .ok (.aload_n 0, 1) := by decide +kernel
theorem dL_money_478 : decode cL_money 478 = .ok (.iload 6, 2) := by decide +kernel
theorem dL_money_480 : decode cL_money 480 = .ok (.iload 8, 2) := by decide +kernel
theorem dL_money_482 : decode cL_money 482 = .ok (.invokevirtual 99, 3) := by decide +kernel
theorem dL_money_485 : decode cL_money 485 = .ok (.aload 4, 2) := by decide +kernel
theorem dL_money_487 : decode cL_money 487 = .ok (.bipush 6, 2) := by decide +kernel
theorem dL_money_489 : decode cL_money 489 = .ok (.iload 6, 2) := by decide +kernel
theorem dL_money_491 : decode cL_money 491 = .ok (.imul, 1) := by decide +kernel
theorem dL_money_492 : decode cL_money 492 = .ok (.iaload, 1) := by decide +kernel
theorem dL_money_493 : decode cL_money 493 = .ok (.if_icmp .ne 7, 3) := by decide +kernel
theorem dL_money_496 : decode cL_money 496 = .ok (.iconst 1, 1) := by decide +kernel
theorem dL_money_497 : decode cL_money 497 = .ok (.goto 4, 3) := by decide +kernel
theorem dL_money_500 : decode cL_money 500 = .ok (.iconst 0, 1) := by decide +kernel
theorem dL_money_501 : decode cL_money 501 = .ok (.ireturn, 1) := by decide +kernel
theorem dL_parts_0 : decode cL_parts 0 = .ok (.iconst 1, 1) := by decide +kernel
theorem dL_parts_1 : decode cL_parts 1 = .ok (.iload_n 2, 1) := by decide +kernel
theorem dL_parts_2 : decode cL_parts 2 = .ok (.iconst 1, 1) := by decide +kernel
theorem dL_parts_3 : decode cL_parts 3 = .ok (.aload 6, 2) := by decide +kernel
theorem dL_parts_5 : decode cL_parts 5 = .ok (.iconst 0, 1) := by decide +kernel
theorem dL_parts_6 : decode cL_parts 6 = .ok (.iaload, 1) := by decide +kernel
theorem dL_parts_7 : decode cL_parts 7 = .ok (.ishl, 1) := by decide +kernel
theorem dL_parts_8 : decode cL_parts 8 = .ok (.iconst 1, 1) := by decide +kernel
theorem dL_parts_9 : decode cL_parts 9 = .ok (.isub, 1) := by decide +kernel
theorem dL_parts_10 : decode cL_parts 10 = .ok (.invokestatic 65, 3) := by decide +kernel
theorem dL_parts_13 : decode cL_parts 13 = .ok (.iadd, 1) := by decide +kernel
theorem dL_parts_14 : decode cL_parts 14 = .ok (.istore 7, 2) := by decide +kernel
theorem dL_parts_16 : decode cL_parts 16 = .ok (.iconst 0, 1) := by decide +kernel
theorem dL_parts_17 : decode cL_parts 17 = .ok (.istore 8, 2) := by decide +kernel
theorem dL_parts_19 : decode cL_parts 19 = .ok (.iconst 1, 1) := by decide +kernel
theorem dL_parts_20 : decode cL_parts 20 = .ok (.istore 9, 2) := by decide +kernel
theorem dL_parts_22 : decode cL_parts 22 = .ok (.iconst 0, 1) := by decide +kernel
theorem dL_parts_23 : decode cL_parts 23 = .ok (.istore 10, 2) := by decide +kernel
theorem dL_parts_25 : decode cL_parts 25 = .ok (.aload_n 0, 1) := by decide +kernel
theorem dL_parts_26 : decode cL_parts 26 = .ok (.invokevirtual 102, 3) := by decide +kernel
theorem dL_parts_29 : decode cL_parts 29 = .ok (.pop, 1) := by decide +kernel
theorem dL_parts_30 : decode cL_parts 30 = .ok (.iconst 3, 1) := by decide +kernel
theorem dL_parts_31 : decode cL_parts 31 = .ok (.istore 11, 2) := by decide +kernel
theorem dL_parts_33 : decode cL_parts 33 = .ok (.iload 11, 2) := by decide +kernel
theorem dL_parts_35 : decode cL_parts 35 = .ok (.ifCond .lt 132, 3) := by decide +kernel
theorem dL_parts_38 : decode cL_parts 38 = .ok (.iload 7, 2) := by decide +kernel
theorem dL_parts_40 : decode cL_parts 40 = .ok (.iload 11, 2) := by decide +kernel
theorem dL_parts_42 : decode cL_parts 42 = .ok (.ishr, 1) := by decide +kernel
theorem dL_parts_43 : decode cL_parts 43 = .ok (.iconst 1, 1) := by decide +kernel
theorem dL_parts_44 : decode cL_parts 44 = .ok (.iand, 1) := by decide +kernel
theorem dL_parts_45 : decode cL_parts 45 = .ok (.ifCond .ne 7, 3) := by decide +kernel
theorem dL_parts_48 : decode cL_parts 48 = .ok (.iconst 0, 1) := by decide +kernel
theorem dL_parts_49 : decode cL_parts 49 = .ok (.goto 16, 3) := by decide +kernel
theorem dL_parts_52 : decode cL_parts 52 = .ok (.iconst 1, 1) := by decide +kernel
theorem dL_parts_53 : decode cL_parts 53 = .ok (.iload_n 3, 1) := by decide +kernel
theorem dL_parts_54 : decode cL_parts 54 = .ok (.iconst 4, 1) := by decide +kernel
theorem dL_parts_55 : decode cL_parts 55 = .ok (.iload 11, 2) := by decide +kernel
theorem dL_parts_57 : decode cL_parts 57 = .ok (.imul, 1) := by decide +kernel
theorem dL_parts_58 : decode cL_parts 58 = .ok (.ishr, 1) := by decide +kernel
theorem dL_parts_59 : decode cL_parts 59 = .ok (.bipush 9, 2) := by decide +kernel
theorem dL_parts_61 : decode cL_parts 61 = .ok (.invokestatic 65, 3) := by decide +kernel
theorem dL_parts_64 : decode cL_parts 64 = .ok (.iadd, 1) := by decide +kernel
theorem dL_parts_65 : decode cL_parts 65 = .ok (.istore 12, 2) := by decide +kernel
theorem dL_parts_67 : decode cL_parts 67 = .ok (.aload 5, 2) := by decide +kernel
theorem dL_parts_69 : decode cL_parts 69 = .ok (.iconst 4, 1) := by decide +kernel
theorem dL_parts_70 : decode cL_parts 70 = .ok (.iload_n 1, 1) := by decide +kernel
theorem dL_parts_71 : decode cL_parts 71 = .ok (.imul, 1) := by decide +kernel
theorem dL_parts_72 : decode cL_parts 72 = .ok (.iload 11, 2) := by decide +kernel
theorem dL_parts_74 : decode cL_parts 74 = .ok (.iadd, 1) := by decide +kernel
theorem dL_parts_75 : decode cL_parts 75 = .ok (.iload 12, 2) := by decide +kernel
theorem dL_parts_77 : decode cL_parts 77 = .ok (.iastore, 1) := by decide +kernel
theorem dL_parts_78 : decode cL_parts 78 = .ok (.iload 8, 2) := by decide +kernel
theorem dL_parts_80 : decode cL_parts 80 = .ok (.iload 12, 2) := by decide +kernel
theorem dL_parts_82 : decode cL_parts 82 = .ok (.iadd, 1) := by decide +kernel
theorem dL_parts_83 : decode cL_parts 83 = .ok (.istore 8, 2) := by decide +kernel
theorem dL_parts_85 : decode cL_parts 85 = .ok (.iload 12, 2) := by decide +kernel
theorem dL_parts_87 : decode cL_parts 87 = .ok (.ifCond .ne 6, 3) := by decide +kernel
theorem dL_parts_90 : decode cL_parts 90 = .ok (.goto 71, 3) := by decide +kernel
theorem dL_parts_93 : decode cL_parts 93 = .ok (.iload 9, 2) := by decide +kernel
theorem dL_parts_95 : decode cL_parts 95 = .ok (.ifCond .eq 60, 3) := by decide +kernel
theorem dL_parts_98 : decode cL_parts 98 = .ok (.iload 10, 2) := by decide +kernel
theorem dL_parts_100 : decode cL_parts 100 = .ok (.ifCond .eq 12, 3) := by decide +kernel
theorem dL_parts_103 : decode cL_parts 103 = .ok (.aload_n 0, 1) := by decide +kernel
theorem dL_parts_104 : decode cL_parts 104 = .ok (.bipush 44, 2) := by decide +kernel
theorem dL_parts_106 : decode cL_parts 106 = .ok (.invokevirtual 106, 3) := by decide +kernel
theorem dL_parts_109 : decode cL_parts 109 = .ok (.ifCond .le 46, 3) := by decide +kernel
theorem dL_parts_112 : decode cL_parts 112 = .ok (.aload_n 0, 1) := by decide +kernel
theorem dL_parts_113 : decode cL_parts 113 = .ok (.bipush 48, 2) := by decide +kernel
theorem dL_parts_115 : decode cL_parts 115 = .ok (.iload 11, 2) := by decide +kernel
theorem dL_parts_117 : decode cL_parts 117 = .ok (.iadd, 1) := by decide +kernel
theorem dL_parts_118 : decode cL_parts 118 = .ok (.invokevirtual 106, 3) := by decide +kernel
theorem dL_parts_121 : decode cL_parts 121 = .ok (.ifCond .le 34, 3) := by decide +kernel
theorem dL_parts_124 : decode cL_parts 124 = .ok (.iload 12, 2) := by decide +kernel
theorem dL_parts_126 : decode cL_parts 126 = .ok (.iconst 1, 1) := by decide +kernel
theorem dL_parts_127 : decode cL_parts 127 = .ok (.if_icmp .eq 24, 3) := by decide +kernel
theorem dL_parts_130 : decode cL_parts 130 = .ok (.aload_n 0, 1) := by decide +kernel
theorem dL_parts_131 : decode cL_parts 131 = .ok (.bipush 42, 2) := by decide +kernel
theorem dL_parts_133 : decode cL_parts 133 = .ok (.invokevirtual 106, 3) := by decide +kernel
theorem dL_parts_136 : decode cL_parts 136 = .ok (.ifCond .le 19, 3) := by decide +kernel
theorem dL_parts_139 : decode cL_parts 139 = .ok (.aload_n 0, 1) := by decide +kernel
theorem dL_parts_140 : decode cL_parts 140 = .ok (.bipush 48, 2) := by decide +kernel
theorem dL_parts_142 : decode cL_parts 142 = .ok (.iload 12, 2) := by decide +kernel
theorem dL_parts_144 : decode cL_parts 144 = .ok (.iadd, 1) := by decide +kernel
theorem dL_parts_145 : decode cL_parts 145 = .ok (.invokevirtual 106, 3) := by decide +kernel
theorem dL_parts_148 : decode cL_parts 148 = .ok (.ifCond .le 7, 3) := by decide +kernel
theorem dL_parts_151 : decode cL_parts 151 = .ok (.iconst 1, 1) := by decide +kernel
theorem dL_parts_152 : decode cL_parts 152 = .ok (.goto 4, 3) := by decide +kernel
theorem dL_parts_155 : decode cL_parts 155 = .ok (.iconst 0, 1) := by decide +kernel
theorem dL_parts_156 : decode cL_parts 156 = .ok (.istore 9, 2) := by decide +kernel
theorem dL_parts_158 : decode cL_parts 158 = .ok (.iconst 1, 1) := by decide +kernel
theorem dL_parts_159 : decode cL_parts 159 = .ok (.istore 10, 2) := by decide +kernel
theorem dL_parts_161 : decode cL_parts 161 = .ok (.iinc 11 (-1), 3) := by decide +kernel
theorem dL_parts_164 : decode cL_parts 164 = .ok (.goto (-131), 3) := by decide +kernel
theorem dL_parts_167 : decode cL_parts 167 = .ok (.aload 4, 2) := by decide +kernel
theorem dL_parts_169 : decode cL_parts 169 = .ok (.iconst 5, 1) := by decide +kernel
theorem dL_parts_170 : decode cL_parts 170 = .ok (.iload_n 1, 1) := by decide +kernel
theorem dL_parts_171 : decode cL_parts 171 = .ok (.imul, 1) := by decide +kernel
theorem dL_parts_172 : decode cL_parts 172 = .ok (.iconst 3, 1) := by decide +kernel
theorem dL_parts_173 : decode cL_parts 173 = .ok (.iadd, 1) := by decide +kernel
theorem dL_parts_174 : decode cL_parts 174 = .ok (.dup2, 1) := by decide +kernel
theorem dL_parts_175 : decode cL_parts 175 = .ok (.iaload, 1) := by decide +kernel
theorem dL_parts_176 : decode cL_parts 176 = .ok (.iconst 1, 1) := by decide +kernel
theorem dL_parts_177 : decode cL_parts 177 = .ok (.iadd, 1) := by decide +kernel
theorem dL_parts_178 : decode cL_parts 178 = .ok (.iastore, 1) := by decide +kernel
theorem dL_parts_179 : decode cL_parts 179 = .ok (.iload 9, 2) := by decide +kernel
theorem dL_parts_181 : decode cL_parts 181 = .ok (.ifCond .eq 17, 3) := by decide +kernel
theorem dL_parts_184 : decode cL_parts 184 = .ok (.aload_n 0, 1) := by decide +kernel
theorem dL_parts_185 : decode cL_parts 185 = .ok (.iload_n 1, 1) := by decide +kernel
theorem dL_parts_186 : decode cL_parts 186 = .ok (.invokevirtual 109, 3) := by decide +kernel
theorem dL_parts_189 : decode cL_parts 189 = .ok (.iload 8, 2) := by decide +kernel
theorem dL_parts_191 : decode cL_parts 191 = .ok (.if_icmp .ne 7, 3) := by decide +kernel
theorem dL_parts_194 : decode cL_parts 194 = .ok (.iconst 1, 1) := by decide +kernel
theorem dL_parts_195 : decode cL_parts 195 = .ok (.goto 4, 3) := by decide +kernel
theorem dL_parts_198 : decode cL_parts 198 = .ok (.iconst 0, 1) := by decide +kernel
theorem dL_parts_199 : decode cL_parts 199 = .ok (.ireturn, 1) := by decide +kernel
theorem dL_act_0 : decode cL_act 0 = .ok (.iload_n 1, 1) := by decide +kernel
theorem dL_act_1 : decode cL_act 1 = .ok (.ifCond .eq 10, 3) := by decide +kernel
theorem dL_act_4 : decode cL_act 4 = .ok (.aload 10, 2) := by decide +kernel
theorem dL_act_6 : decode cL_act 6 = .ok (.iconst 0, 1) := by decide +kernel
theorem dL_act_7 : decode cL_act 7 = .ok (.iaload, 1) := by decide +kernel
theorem dL_act_8 : decode cL_act 8 = .ok (.ifCond .ne 56, 3) := by decide +kernel
theorem dL_act_11 : decode cL_act 11 = .ok (.aload 10, 2) := by decide +kernel
theorem dL_act_13 : decode cL_act 13 = .ok (.iconst 0, 1) := by decide +kernel
theorem dL_act_14 : decode cL_act 14 = .ok (.iaload, 1) := by decide +kernel
theorem dL_act_15 : decode cL_act 15 = .ok (.iconst 4, 1) := by decide +kernel
theorem dL_act_16 : decode cL_act 16 = .ok (.if_icmp .ne 5, 3) := by decide +kernel
theorem dL_act_19 : decode cL_act 19 = .ok (.iconst 1, 1) := by decide +kernel
theorem dL_act_20 : decode cL_act 20 = .ok (.ireturn, 1) := by decide +kernel
theorem dL_act_21 : decode cL_act 21 = .ok (.aload 4, 2) := by decide +kernel
theorem dL_act_23 : decode cL_act 23 = .ok (.bipush 6, 2) := by decide +kernel
theorem dL_act_25 : decode cL_act 25 = .ok (.aload 10, 2) := by decide +kernel
theorem dL_act_27 : decode cL_act 27 = .ok (.iconst 0, 1) := by decide +kernel
theorem dL_act_28 : decode cL_act 28 = .ok (.iaload, 1) := by decide +kernel
theorem dL_act_29 : decode cL_act 29 = .ok (.imul, 1) := by decide +kernel
theorem dL_act_30 : decode cL_act 30 = .ok (.iconst 3, 1) := by decide +kernel
theorem dL_act_31 : decode cL_act 31 = .ok (.iadd, 1) := by decide +kernel
theorem dL_act_32 : decode cL_act 32 = .ok (.aload 10, 2) := by decide +kernel
theorem dL_act_34 : decode cL_act 34 = .ok (.iconst 0, 1) := by decide +kernel
theorem dL_act_35 : decode cL_act 35 = .ok (.iaload, 1) := by decide +kernel
theorem dL_act_36 : decode cL_act 36 = .ok (.iastore, 1) := by decide +kernel
theorem dL_act_37 : decode cL_act 37 = .ok (.aload 10, 2) := by decide +kernel
theorem dL_act_39 : decode cL_act 39 = .ok (.iconst 0, 1) := by decide +kernel
theorem dL_act_40 : decode cL_act 40 = .ok (.dup2, 1) := by decide +kernel
theorem dL_act_41 : decode cL_act 41 = .ok (.iaload, 1) := by decide +kernel
theorem dL_act_42 : decode cL_act 42 = .ok (.iconst 1, 1) := by decide +kernel
theorem dL_act_43 : decode cL_act 43 = .ok (.iadd, 1) := by decide +kernel
theorem dL_act_44 : decode cL_act 44 = .ok (.iastore, 1) := by decide +kernel
theorem dL_act_45 : decode cL_act 45 = .ok (.aload_n 0, 1) := by decide +kernel
theorem dL_act_46 : decode cL_act 46 = .ok (.invokevirtual 111, 3) := by decide +kernel
theorem dL_act_49 : decode cL_act 49 = .ok (.aload 10, 2) := by decide +kernel
theorem dL_act_51 : decode cL_act 51 = .ok (.iconst 0, 1) := by decide +kernel
theorem dL_act_52 : decode cL_act 52 = .ok (.iaload, 1) := by decide +kernel
theorem dL_act_53 : decode cL_act 53 = .ok (.iconst 1, 1) := by decide +kernel
theorem dL_act_54 : decode cL_act 54 = .ok (.isub, 1) := by decide +kernel
theorem dL_act_55 : decode cL_act 55 = .ok (.if_icmp .ne 7, 3) := by decide +kernel
theorem dL_act_58 : decode cL_act 58 = .ok (.iconst 1, 1) := by decide +kernel
theorem dL_act_59 : decode cL_act 59 = .ok (.goto 4, 3) := by decide +kernel
theorem dL_act_62 : decode cL_act 62 = .ok (.iconst 0, 1) := by decide +kernel
theorem dL_act_63 : decode cL_act 63 = .ok (.ireturn, 1) := by decide +kernel
theorem dL_act_64 : decode cL_act 64 = .ok (.iload_n 1, 1) := by decide +kernel
theorem dL_act_65 : decode cL_act 65 = .ok (.iconst 1, 1) := by decide +kernel
theorem dL_act_66 : decode cL_act 66 = .ok (.if_icmp .ne 84, 3) := by decide +kernel
theorem dL_act_69 : decode cL_act 69 = .ok (.iload_n 2, 1) := by decide +kernel
theorem dL_act_70 : decode cL_act 70 = .ok (.bipush 6, 2) := by decide +kernel
theorem dL_act_72 : decode cL_act 72 = .ok (.invokestatic 65, 3) := by decide +kernel
theorem dL_act_75 : decode cL_act 75 = .ok (.istore 11, 2) := by decide +kernel
theorem dL_act_77 : decode cL_act 77 = .ok (.aload 9, 2) := by decide +kernel
theorem dL_act_79 : decode cL_act 79 = .ok (.iload 11, 2) := by decide +kernel
theorem dL_act_81 : decode cL_act 81 = .ok (.iaload, 1) := by decide +kernel
theorem dL_act_82 : decode cL_act 82 = .ok (.istore 12, 2) := by decide +kernel
theorem dL_act_84 : decode cL_act 84 = .ok (.aload 9, 2) := by decide +kernel
theorem dL_act_86 : decode cL_act 86 = .ok (.iload 11, 2) := by decide +kernel
theorem dL_act_88 : decode cL_act 88 = .ok (.iload_n 3, 1) := by decide +kernel
theorem dL_act_89 : decode cL_act 89 = .ok (.iload 11, 2) := by decide +kernel
theorem dL_act_91 : decode cL_act 91 = .ok (.ifCond .ne 8, 3) := by decide +kernel
theorem dL_act_94 : decode cL_act 94 = .ok (.bipush 31, 2) := by decide +kernel
theorem dL_act_96 : decode cL_act 96 = .ok (.goto 28, 3) := by decide +kernel
theorem dL_act_99 : decode cL_act 99 = .ok (.iload 11, 2) := by decide +kernel
theorem dL_act_101 : decode cL_act 101 = .ok (.iconst 1, 1) := by decide +kernel
theorem dL_act_102 : decode cL_act 102 = .ok (.if_icmp .ne 8, 3) := by decide +kernel
theorem dL_act_105 : decode cL_act 105 = .ok (.bipush 21, 2) := by decide +kernel
theorem dL_act_107 : decode cL_act 107 = .ok (.goto 17, 3) := by decide +kernel
theorem dL_act_110 : decode cL_act 110 = .ok (.iload 11, 2) := by decide +kernel
theorem dL_act_112 : decode cL_act 112 = .ok (.iconst 2, 1) := by decide +kernel
theorem dL_act_113 : decode cL_act 113 = .ok (.if_icmp .ne 9, 3) := by decide +kernel
theorem dL_act_116 : decode cL_act 116 = .ok (.sipush 2000, 3) := by decide +kernel
theorem dL_act_119 : decode cL_act 119 = .ok (.goto 5, 3) := by decide +kernel
theorem dL_act_122 : decode cL_act 122 = .ok (.bipush 101, 2) := by decide +kernel
theorem dL_act_124 : decode cL_act 124 = .ok (.invokestatic 65, 3) := by decide +kernel
theorem dL_act_127 : decode cL_act 127 = .ok (.iastore, 1) := by decide +kernel
theorem dL_act_128 : decode cL_act 128 = .ok (.aload_n 0, 1) := by decide +kernel
theorem dL_act_129 : decode cL_act 129 = .ok (.iload 11, 2) := by decide +kernel
theorem dL_act_131 : decode cL_act 131 = .ok (.aload 9, 2) := by decide +kernel
theorem dL_act_133 : decode cL_act 133 = .ok (.iload 11, 2) := by decide +kernel
theorem dL_act_135 : decode cL_act 135 = .ok (.iaload, 1) := by decide +kernel
theorem dL_act_136 : decode cL_act 136 = .ok (.invokevirtual 114, 3) := by decide +kernel
theorem dL_act_139 : decode cL_act 139 = .ok (.iload 12, 2) := by decide +kernel
theorem dL_act_141 : decode cL_act 141 = .ok (.if_icmp .ne 7, 3) := by decide +kernel
theorem dL_act_144 : decode cL_act 144 = .ok (.iconst 1, 1) := by decide +kernel
theorem dL_act_145 : decode cL_act 145 = .ok (.goto 4, 3) := by decide +kernel
theorem dL_act_148 : decode cL_act 148 = .ok (.iconst 0, 1) := by decide +kernel
theorem dL_act_149 : decode cL_act 149 = .ok (.ireturn, 1) := by decide +kernel
theorem dL_act_150 : decode cL_act 150 = .ok (.iload_n 1, 1) := by decide +kernel
theorem dL_act_151 : decode cL_act 151 = .ok (.iconst 2, 1) := by decide +kernel
theorem dL_act_152 : decode cL_act 152 = .ok (.if_icmp .ne 50, 3) := by decide +kernel
theorem dL_act_155 : decode cL_act 155 = .ok (.aload 10, 2) := by decide +kernel
theorem dL_act_157 : decode cL_act 157 = .ok (.iconst 2, 1) := by decide +kernel
theorem dL_act_158 : decode cL_act 158 = .ok (.dup2, 1) := by decide +kernel
theorem dL_act_159 : decode cL_act 159 = .ok (.iaload, 1) := by decide +kernel
theorem dL_act_160 : decode cL_act 160 = .ok (.iconst 1, 1) := by decide +kernel
theorem dL_act_161 : decode cL_act 161 = .ok (.iadd, 1) := by decide +kernel
theorem dL_act_162 : decode cL_act 162 = .ok (.iastore, 1) := by decide +kernel
theorem dL_act_163 : decode cL_act 163 = .ok (.iconst 0, 1) := by decide +kernel
theorem dL_act_164 : decode cL_act 164 = .ok (.istore 11, 2) := by decide +kernel
theorem dL_act_166 : decode cL_act 166 = .ok (.iload 11, 2) := by decide +kernel
theorem dL_act_168 : decode cL_act 168 = .ok (.bipush 16, 2) := by decide +kernel
theorem dL_act_170 : decode cL_act 170 = .ok (.if_icmp .ge 15, 3) := by decide +kernel
theorem dL_act_173 : decode cL_act 173 = .ok (.aload 8, 2) := by decide +kernel
theorem dL_act_175 : decode cL_act 175 = .ok (.iload 11, 2) := by decide +kernel
theorem dL_act_177 : decode cL_act 177 = .ok (.iconst 0, 1) := by decide +kernel
theorem dL_act_178 : decode cL_act 178 = .ok (.iastore, 1) := by decide +kernel
theorem dL_act_179 : decode cL_act 179 = .ok (.iinc 11 1, 3) := by decide +kernel
theorem dL_act_182 : decode cL_act 182 = .ok (.goto (-16), 3) := by decide +kernel
theorem dL_act_185 : decode cL_act 185 = .ok (.aload_n 0, 1) := by decide +kernel
theorem dL_act_186 : decode cL_act 186 = .ok (.invokevirtual 117, 3) := by decide +kernel
theorem dL_act_189 : decode cL_act 189 = .ok (.aload 10, 2) := by decide +kernel
theorem dL_act_191 : decode cL_act 191 = .ok (.iconst 2, 1) := by decide +kernel
theorem dL_act_192 : decode cL_act 192 = .ok (.iaload, 1) := by decide +kernel
theorem dL_act_193 : decode cL_act 193 = .ok (.if_icmp .ne 7, 3) := by decide +kernel
theorem dL_act_196 : decode cL_act 196 = .ok (.iconst 1, 1) := by decide +kernel
theorem dL_act_197 : decode cL_act 197 = .ok (.goto 4, 3) := by decide +kernel
theorem dL_act_200 : decode cL_act 200 = .ok (.iconst 0, 1) := by decide +kernel
theorem dL_act_201 : decode cL_act 201 = .ok (.ireturn, 1) := by decide +kernel
theorem dL_act_202 : decode cL_act 202 = .ok (.iload_n 1, 1) := by decide +kernel
theorem dL_act_203 : decode cL_act 203 = .ok (.bipush 7, 2) := by decide +kernel
theorem dL_act_205 : decode cL_act 205 = .ok (.if_icmp .ge 17, 3) := by decide +kernel
theorem dL_act_208 : decode cL_act 208 = .ok (.aload_n 0, 1) := by decide +kernel
theorem dL_act_209 : decode cL_act 209 = .ok (.iload_n 1, 1) := by decide +kernel
theorem dL_act_210 : decode cL_act 210 = .ok (.iconst 3, 1) := by decide +kernel
theorem dL_act_211 : decode cL_act 211 = .ok (.isub, 1) := by decide +kernel
theorem dL_act_212 : decode cL_act 212 = .ok (.iload_n 2, 1) := by decide +kernel
theorem dL_act_213 : decode cL_act 213 = .ok (.iload_n 3, 1) := by decide +kernel
theorem dL_act_214 : decode cL_act 214 = .ok (.aload 4, 2) := by decide +kernel
theorem dL_act_216 : decode cL_act 216 = .ok (.aload 10, 2) := by decide +kernel
theorem dL_act_218 : decode cL_act 218 = .ok (.invokestatic 120, 3) := by decide +kernel
theorem dL_act_221 : decode cL_act 221 = .ok (.ireturn, 1) := by decide +kernel
theorem dL_act_222 : decode cL_act 222 = .ok (.iload_n 1, 1) := by decide +kernel
theorem dL_act_223 : decode cL_act 223 = .ok (.bipush 9, 2) := by decide +kernel
theorem dL_act_225 : decode cL_act 225 = .ok (.if_icmp .lt 10, 3) := by decide +kernel
theorem dL_act_228 : decode cL_act 228 = .ok (.aload 10, 2) := by decide +kernel
theorem dL_act_230 : decode cL_act 230 = .ok (.iconst 1, 1) := by decide +kernel
theorem dL_act_231 : decode cL_act 231 = .ok (.iaload, 1) := by decide +kernel
theorem dL_act_232 : decode cL_act 232 = .ok (.ifCond .ne 112, 3) := by decide +kernel
theorem dL_act_235 : decode cL_act 235 = .ok (.aload 10, 2) := by decide +kernel
theorem dL_act_237 : decode cL_act 237 = .ok (.iconst 1, 1) := by decide +kernel
theorem dL_act_238 : decode cL_act 238 = .ok (.iaload, 1) := by decide +kernel
theorem dL_act_239 : decode cL_act 239 = .ok (.iconst 4, 1) := by decide +kernel
theorem dL_act_240 : decode cL_act 240 = .ok (.if_icmp .ne 5, 3) := by decide +kernel
theorem dL_act_243 : decode cL_act 243 = .ok (.iconst 1, 1) := by decide +kernel
theorem dL_act_244 : decode cL_act 244 = .ok (.ireturn, 1) := by decide +kernel
theorem dL_act_245 : decode cL_act 245 = .ok (.iload_n 2, 1) := by decide +kernel
theorem dL_act_246 : decode cL_act 246 = .ok (.aload 10, 2) := by decide +kernel
theorem dL_act_248 : decode cL_act 248 = .ok (.iconst 0, 1) := by decide +kernel
theorem dL_act_249 : decode cL_act 249 = .ok (.iaload, 1) := by decide +kernel
theorem dL_act_250 : decode cL_act 250 = .ok (.invokestatic 65, 3) := by decide +kernel
theorem dL_act_253 : decode cL_act 253 = .ok (.istore 11, 2) := by decide +kernel
theorem dL_act_255 : decode cL_act 255 = .ok (.iconst 5, 1) := by decide +kernel
theorem dL_act_256 : decode cL_act 256 = .ok (.aload 10, 2) := by decide +kernel
theorem dL_act_258 : decode cL_act 258 = .ok (.iconst 1, 1) := by decide +kernel
theorem dL_act_259 : decode cL_act 259 = .ok (.iaload, 1) := by decide +kernel
theorem dL_act_260 : decode cL_act 260 = .ok (.imul, 1) := by decide +kernel
theorem dL_act_261 : decode cL_act 261 = .ok (.istore 12, 2) := by decide +kernel
theorem dL_act_263 : decode cL_act 263 = .ok (.aload 5, 2) := by decide +kernel
theorem dL_act_265 : decode cL_act 265 = .ok (.iload 12, 2) := by decide +kernel
theorem dL_act_267 : decode cL_act 267 = .ok (.iload 11, 2) := by decide +kernel
theorem dL_act_269 : decode cL_act 269 = .ok (.iastore, 1) := by decide +kernel
theorem dL_act_270 : decode cL_act 270 = .ok (.aload 5, 2) := by decide +kernel
theorem dL_act_272 : decode cL_act 272 = .ok (.iload 12, 2) := by decide +kernel
theorem dL_act_274 : decode cL_act 274 = .ok (.iconst 1, 1) := by decide +kernel
theorem dL_act_275 : decode cL_act 275 = .ok (.iadd, 1) := by decide +kernel
theorem dL_act_276 : decode cL_act 276 = .ok (.bipush 10, 2) := by decide +kernel
theorem dL_act_278 : decode cL_act 278 = .ok (.iload_n 3, 1) := by decide +kernel
theorem dL_act_279 : decode cL_act 279 = .ok (.sipush 9000, 3) := by decide +kernel
theorem dL_act_282 : decode cL_act 282 = .ok (.invokestatic 65, 3) := by decide +kernel
theorem dL_act_285 : decode cL_act 285 = .ok (.iadd, 1) := by decide +kernel
theorem dL_act_286 : decode cL_act 286 = .ok (.iastore, 1) := by decide +kernel
theorem dL_act_287 : decode cL_act 287 = .ok (.aload 5, 2) := by decide +kernel
theorem dL_act_289 : decode cL_act 289 = .ok (.iload 12, 2) := by decide +kernel
theorem dL_act_291 : decode cL_act 291 = .ok (.iconst 3, 1) := by decide +kernel
theorem dL_act_292 : decode cL_act 292 = .ok (.iadd, 1) := by decide +kernel
theorem dL_act_293 : decode cL_act 293 = .ok (.iconst 1, 1) := by decide +kernel
theorem dL_act_294 : decode cL_act 294 = .ok (.iastore, 1) := by decide +kernel
theorem dL_act_295 : decode cL_act 295 = .ok (.aload 7, 2) := by decide +kernel
theorem dL_act_297 : decode cL_act 297 = .ok (.iconst 4, 1) := by decide +kernel
theorem dL_act_298 : decode cL_act 298 = .ok (.aload 10, 2) := by decide +kernel
theorem dL_act_300 : decode cL_act 300 = .ok (.iconst 1, 1) := by decide +kernel
theorem dL_act_301 : decode cL_act 301 = .ok (.iaload, 1) := by decide +kernel
theorem dL_act_302 : decode cL_act 302 = .ok (.imul, 1) := by decide +kernel
theorem dL_act_303 : decode cL_act 303 = .ok (.iload 11, 2) := by decide +kernel
theorem dL_act_305 : decode cL_act 305 = .ok (.iadd, 1) := by decide +kernel
theorem dL_act_306 : decode cL_act 306 = .ok (.iconst 1, 1) := by decide +kernel
theorem dL_act_307 : decode cL_act 307 = .ok (.iastore, 1) := by decide +kernel
theorem dL_act_308 : decode cL_act 308 = .ok (.aload 10, 2) := by decide +kernel
theorem dL_act_310 : decode cL_act 310 = .ok (.iconst 1, 1) := by decide +kernel
theorem dL_act_311 : decode cL_act 311 = .ok (.dup2, 1) := by decide +kernel
theorem dL_act_312 : decode cL_act 312 = .ok (.iaload, 1) := by decide +kernel
theorem dL_act_313 : decode cL_act 313 = .ok (.iconst 1, 1) := by decide +kernel
theorem dL_act_314 : decode cL_act 314 = .ok (.iadd, 1) := by decide +kernel
theorem dL_act_315 : decode cL_act 315 = .ok (.iastore, 1) := by decide +kernel
theorem dL_act_316 : decode cL_act 316 = .ok (.aload_n 0, 1) := by decide +kernel
theorem dL_act_317 : decode cL_act 317 = .ok (.iload 11, 2) := by decide +kernel
theorem dL_act_319 : decode cL_act 319 = .ok (.aload 5, 2) := by decide +kernel
theorem dL_act_321 : decode cL_act 321 = .ok (.iload 12, 2) := by decide +kernel
theorem dL_act_323 : decode cL_act 323 = .ok (.iconst 1, 1) := by decide +kernel
theorem dL_act_324 : decode cL_act 324 = .ok (.iadd, 1) := by decide +kernel
theorem dL_act_325 : decode cL_act 325 = .ok (.iaload, 1) := by decide +kernel
theorem dL_act_326 : decode cL_act 326 = .ok (.invokevirtual 124, 3) := by decide +kernel
theorem dL_act_329 : decode cL_act 329 = .ok (.aload 10, 2) := by decide +kernel
theorem dL_act_331 : decode cL_act 331 = .ok (.iconst 1, 1) := by decide +kernel
theorem dL_act_332 : decode cL_act 332 = .ok (.iaload, 1) := by decide +kernel
theorem dL_act_333 : decode cL_act 333 = .ok (.iconst 1, 1) := by decide +kernel
theorem dL_act_334 : decode cL_act 334 = .ok (.isub, 1) := by decide +kernel
theorem dL_act_335 : decode cL_act 335 = .ok (.if_icmp .ne 7, 3) := by decide +kernel
theorem dL_act_338 : decode cL_act 338 = .ok (.iconst 1, 1) := by decide +kernel
theorem dL_act_339 : decode cL_act 339 = .ok (.goto 4, 3) := by decide +kernel
theorem dL_act_342 : decode cL_act 342 = .ok (.iconst 0, 1) := by decide +kernel
theorem dL_act_343 : decode cL_act 343 = .ok (.ireturn, 1) := by decide +kernel
theorem dL_act_344 : decode cL_act 344 = .ok (.iload_n 2, 1) := by decide +kernel
theorem dL_act_345 : decode cL_act 345 = .ok (.iconst 2, 1) := by decide +kernel
theorem dL_act_346 : decode cL_act 346 = .ok (.ishr, 1) := by decide +kernel
theorem dL_act_347 : decode cL_act 347 = .ok (.aload 10, 2) := by decide +kernel
theorem dL_act_349 : decode cL_act 349 = .ok (.iconst 1, 1) := by decide +kernel
theorem dL_act_350 : decode cL_act 350 = .ok (.iaload, 1) := by decide +kernel
theorem dL_act_351 : decode cL_act 351 = .ok (.invokestatic 65, 3) := by decide +kernel
theorem dL_act_354 : decode cL_act 354 = .ok (.istore 11, 2) := by decide +kernel
theorem dL_act_356 : decode cL_act 356 = .ok (.iload_n 3, 1) := by decide +kernel
theorem dL_act_357 : decode cL_act 357 = .ok (.iconst 5, 1) := by decide +kernel
theorem dL_act_358 : decode cL_act 358 = .ok (.ishr, 1) := by decide +kernel
theorem dL_act_359 : decode cL_act 359 = .ok (.aload 10, 2) := by decide +kernel
theorem dL_act_361 : decode cL_act 361 = .ok (.iconst 0, 1) := by decide +kernel
theorem dL_act_362 : decode cL_act 362 = .ok (.iaload, 1) := by decide +kernel
theorem dL_act_363 : decode cL_act 363 = .ok (.invokestatic 65, 3) := by decide +kernel
theorem dL_act_366 : decode cL_act 366 = .ok (.istore 12, 2) := by decide +kernel
theorem dL_act_368 : decode cL_act 368 = .ok (.aload 5, 2) := by decide +kernel
theorem dL_act_370 : decode cL_act 370 = .ok (.iconst 5, 1) := by decide +kernel
theorem dL_act_371 : decode cL_act 371 = .ok (.iload 11, 2) := by decide +kernel
theorem dL_act_373 : decode cL_act 373 = .ok (.imul, 1) := by decide +kernel
theorem dL_act_374 : decode cL_act 374 = .ok (.iconst 2, 1) := by decide +kernel
theorem dL_act_375 : decode cL_act 375 = .ok (.iadd, 1) := by decide +kernel
theorem dL_act_376 : decode cL_act 376 = .ok (.iaload, 1) := by decide +kernel
theorem dL_act_377 : decode cL_act 377 = .ok (.istore 13, 2) := by decide +kernel
theorem dL_act_379 : decode cL_act 379 = .ok (.iload_n 1, 1) := by decide +kernel
theorem dL_act_380 : decode cL_act 380 = .ok (.bipush 14, 2) := by decide +kernel
theorem dL_act_382 : decode cL_act 382 = .ok (.if_icmp .ge 87, 3) := by decide +kernel
theorem dL_act_385 : decode cL_act 385 = .ok (.iload 13, 2) := by decide +kernel
theorem dL_act_387 : decode cL_act 387 = .ok (.iconst 2, 1) := by decide +kernel
theorem dL_act_388 : decode cL_act 388 = .ok (.if_icmp .gt 15, 3) := by decide +kernel
theorem dL_act_391 : decode cL_act 391 = .ok (.aload 6, 2) := by decide +kernel
theorem dL_act_393 : decode cL_act 393 = .ok (.iload 11, 2) := by decide +kernel
theorem dL_act_395 : decode cL_act 395 = .ok (.invokestatic 8, 3) := by decide +kernel
theorem dL_act_398 : decode cL_act 398 = .ok (.bipush 9, 2) := by decide +kernel
theorem dL_act_400 : decode cL_act 400 = .ok (.if_icmp .ne 5, 3) := by decide +kernel
theorem dL_act_403 : decode cL_act 403 = .ok (.iconst 1, 1) := by decide +kernel
theorem dL_act_404 : decode cL_act 404 = .ok (.ireturn, 1) := by decide +kernel
theorem dL_act_405 : decode cL_act 405 = .ok (.aload 5, 2) := by decide +kernel
theorem dL_act_407 : decode cL_act 407 = .ok (.iconst 5, 1) := by decide +kernel
theorem dL_act_408 : decode cL_act 408 = .ok (.iload 11, 2) := by decide +kernel
theorem dL_act_410 : decode cL_act 410 = .ok (.imul, 1) := by decide +kernel
theorem dL_act_411 : decode cL_act 411 = .ok (.iconst 2, 1) := by decide +kernel
theorem dL_act_412 : decode cL_act 412 = .ok (.iadd, 1) := by decide +kernel
theorem dL_act_413 : decode cL_act 413 = .ok (.aload 6, 2) := by decide +kernel
theorem dL_act_415 : decode cL_act 415 = .ok (.iload 11, 2) := by decide +kernel
theorem dL_act_417 : decode cL_act 417 = .ok (.invokestatic 8, 3) := by decide +kernel
theorem dL_act_420 : decode cL_act 420 = .ok (.ifCond .ne 7, 3) := by decide +kernel
theorem dL_act_423 : decode cL_act 423 = .ok (.iconst 1, 1) := by decide +kernel
theorem dL_act_424 : decode cL_act 424 = .ok (.goto 4, 3) := by decide +kernel
theorem dL_act_427 : decode cL_act 427 = .ok (.iconst 2, 1) := by decide +kernel
theorem dL_act_428 : decode cL_act 428 = .ok (.iastore, 1) := by decide +kernel
theorem dL_act_429 : decode cL_act 429 = .ok (.aload 6, 2) := by decide +kernel
theorem dL_act_431 : decode cL_act 431 = .ok (.iconst 4, 1) := by decide +kernel
theorem dL_act_432 : decode cL_act 432 = .ok (.iload 11, 2) := by decide +kernel
theorem dL_act_434 : decode cL_act 434 = .ok (.imul, 1) := by decide +kernel
theorem dL_act_435 : decode cL_act 435 = .ok (.iload 12, 2) := by decide +kernel
theorem dL_act_437 : decode cL_act 437 = .ok (.iadd, 1) := by decide +kernel
theorem dL_act_438 : decode cL_act 438 = .ok (.dup2, 1) := by decide +kernel
theorem dL_act_439 : decode cL_act 439 = .ok (.iaload, 1) := by decide +kernel
theorem dL_act_440 : decode cL_act 440 = .ok (.iconst 1, 1) := by decide +kernel
theorem dL_act_441 : decode cL_act 441 = .ok (.iadd, 1) := by decide +kernel
theorem dL_act_442 : decode cL_act 442 = .ok (.iastore, 1) := by decide +kernel
theorem dL_act_443 : decode cL_act 443 = .ok (.aload_n 0, 1) := by decide +kernel
theorem dL_act_444 : decode cL_act 444 = .ok (.iload 11, 2) := by decide +kernel
theorem dL_act_446 : decode cL_act 446 = .ok (.iload 12, 2) := by decide +kernel
theorem dL_act_448 : decode cL_act 448 = .ok (.invokevirtual 127, 3) := by decide +kernel
theorem dL_act_451 : decode cL_act 451 = .ok (.aload 5, 2) := by decide +kernel
theorem dL_act_453 : decode cL_act 453 = .ok (.iconst 5, 1) := by decide +kernel
theorem dL_act_454 : decode cL_act 454 = .ok (.iload 11, 2) := by decide +kernel
theorem dL_act_456 : decode cL_act 456 = .ok (.imul, 1) := by decide +kernel
theorem dL_act_457 : decode cL_act 457 = .ok (.iconst 2, 1) := by decide +kernel
theorem dL_act_458 : decode cL_act 458 = .ok (.iadd, 1) := by decide +kernel
theorem dL_act_459 : decode cL_act 459 = .ok (.iaload, 1) := by decide +kernel
theorem dL_act_460 : decode cL_act 460 = .ok (.if_icmp .ne 7, 3) := by decide +kernel
theorem dL_act_463 : decode cL_act 463 = .ok (.iconst 1, 1) := by decide +kernel
theorem dL_act_464 : decode cL_act 464 = .ok (.goto 4, 3) := by decide +kernel
theorem dL_act_467 : decode cL_act 467 = .ok (.iconst 0, 1) := by decide +kernel
theorem dL_act_468 : decode cL_act 468 = .ok (.ireturn, 1) := by decide +kernel
theorem dL_act_469 : decode cL_act 469 = .ok (.iload_n 1, 1) := by decide +kernel
theorem dL_act_470 : decode cL_act 470 = .ok (.bipush 14, 2) := by decide +kernel
theorem dL_act_472 : decode cL_act 472 = .ok (.if_icmp .ne 80, 3) := by decide +kernel
theorem dL_act_475 : decode cL_act 475 = .ok (.iload 13, 2) := by decide +kernel
theorem dL_act_477 : decode cL_act 477 = .ok (.iconst 2, 1) := by decide +kernel
theorem dL_act_478 : decode cL_act 478 = .ok (.if_icmp .le 5, 3) := by decide +kernel
theorem dL_act_481 : decode cL_act 481 = .ok (.iconst 1, 1) := by decide +kernel
theorem dL_act_482 : decode cL_act 482 = .ok (.ireturn, 1) := by decide +kernel
theorem dL_act_483 : decode cL_act 483 = .ok (.aload 5, 2) := by decide +kernel
theorem dL_act_485 : decode cL_act 485 = .ok (.iconst 5, 1) := by decide +kernel
theorem dL_act_486 : decode cL_act 486 = .ok (.iload 11, 2) := by decide +kernel
theorem dL_act_488 : decode cL_act 488 = .ok (.imul, 1) := by decide +kernel
theorem dL_act_489 : decode cL_act 489 = .ok (.iconst 1, 1) := by decide +kernel
theorem dL_act_490 : decode cL_act 490 = .ok (.iadd, 1) := by decide +kernel
theorem dL_act_491 : decode cL_act 491 = .ok (.iaload, 1) := by decide +kernel
theorem dL_act_492 : decode cL_act 492 = .ok (.istore 14, 2) := by decide +kernel
theorem dL_act_494 : decode cL_act 494 = .ok (.aload 5, 2) := by decide +kernel
theorem dL_act_496 : decode cL_act 496 = .ok (.iconst 5, 1) := by decide +kernel
theorem dL_act_497 : decode cL_act 497 = .ok (.iload 11, 2) := by decide +kernel
theorem dL_act_499 : decode cL_act 499 = .ok (.imul, 1) := by decide +kernel
theorem dL_act_500 : decode cL_act 500 = .ok (.iconst 1, 1) := by decide +kernel
theorem dL_act_501 : decode cL_act 501 = .ok (.iadd, 1) := by decide +kernel
theorem dL_act_502 : decode cL_act 502 = .ok (.bipush 10, 2) := by decide +kernel
theorem dL_act_504 : decode cL_act 504 = .ok (.iload_n 3, 1) := by decide +kernel
theorem dL_act_505 : decode cL_act 505 = .ok (.sipush 9000, 3) := by decide +kernel
theorem dL_act_508 : decode cL_act 508 = .ok (.invokestatic 65, 3) := by decide +kernel
theorem dL_act_511 : decode cL_act 511 = .ok (.iadd, 1) := by decide +kernel
theorem dL_act_512 : decode cL_act 512 = .ok (.iastore, 1) := by decide +kernel
theorem dL_act_513 : decode cL_act 513 = .ok (.aload 5, 2) := by decide +kernel
theorem dL_act_515 : decode cL_act 515 = .ok (.iconst 5, 1) := by decide +kernel
theorem dL_act_516 : decode cL_act 516 = .ok (.iload 11, 2) := by decide +kernel
theorem dL_act_518 : decode cL_act 518 = .ok (.imul, 1) := by decide +kernel
theorem dL_act_519 : decode cL_act 519 = .ok (.iconst 3, 1) := by decide +kernel
theorem dL_act_520 : decode cL_act 520 = .ok (.iadd, 1) := by decide +kernel
theorem dL_act_521 : decode cL_act 521 = .ok (.dup2, 1) := by decide +kernel
theorem dL_act_522 : decode cL_act 522 = .ok (.iaload, 1) := by decide +kernel
theorem dL_act_523 : decode cL_act 523 = .ok (.iconst 1, 1) := by decide +kernel
theorem dL_act_524 : decode cL_act 524 = .ok (.iadd, 1) := by decide +kernel
theorem dL_act_525 : decode cL_act 525 = .ok (.iastore, 1) := by decide +kernel
theorem dL_act_526 : decode cL_act 526 = .ok (.aload_n 0, 1) := by decide +kernel
theorem dL_act_527 : decode cL_act 527 = .ok (.iload 11, 2) := by decide +kernel
theorem dL_act_529 : decode cL_act 529 = .ok (.aload 5, 2) := by decide +kernel
theorem dL_act_531 : decode cL_act 531 = .ok (.iconst 5, 1) := by decide +kernel
theorem dL_act_532 : decode cL_act 532 = .ok (.iload 11, 2) := by decide +kernel
theorem dL_act_534 : decode cL_act 534 = .ok (.imul, 1) := by decide +kernel
theorem dL_act_535 : decode cL_act 535 = .ok (.iconst 1, 1) := by decide +kernel
theorem dL_act_536 : decode cL_act 536 = .ok (.iadd, 1) := by decide +kernel
theorem dL_act_537 : decode cL_act 537 = .ok (.iaload, 1) := by decide +kernel
theorem dL_act_538 : decode cL_act 538 = .ok (.invokevirtual 130, 3) := by decide +kernel
theorem dL_act_541 : decode cL_act 541 = .ok (.iload 14, 2) := by decide +kernel
theorem dL_act_543 : decode cL_act 543 = .ok (.if_icmp .ne 7, 3) := by decide +kernel
theorem dL_act_546 : decode cL_act 546 = .ok (.iconst 1, 1) := by decide +kernel
theorem dL_act_547 : decode cL_act 547 = .ok (.goto 4, 3) := by decide +kernel
theorem dL_act_550 : decode cL_act 550 = .ok (.iconst 0, 1) := by decide +kernel
theorem dL_act_551 : decode cL_act 551 = .ok (.ireturn, 1) := by decide +kernel
theorem dL_act_552 : decode cL_act 552 = .ok (.iload_n 1, 1) := by decide +kernel
theorem dL_act_553 : decode cL_act 553 = .ok (.bipush 17, 2) := by decide +kernel
theorem dL_act_555 : decode cL_act 555 = .ok (.if_icmp .ge 34, 3) := by decide +kernel
theorem dL_act_558 : decode cL_act 558 = .ok (.iload 13, 2) := by decide +kernel
theorem dL_act_560 : decode cL_act 560 = .ok (.iconst 4, 1) := by decide +kernel
theorem dL_act_561 : decode cL_act 561 = .ok (.if_icmp .eq 22, 3) := by decide +kernel
theorem dL_act_564 : decode cL_act 564 = .ok (.aload_n 0, 1) := by decide +kernel
theorem dL_act_565 : decode cL_act 565 = .ok (.iload 11, 2) := by decide +kernel
theorem dL_act_567 : decode cL_act 567 = .ok (.iload_n 2, 1) := by decide +kernel
theorem dL_act_568 : decode cL_act 568 = .ok (.iconst 3, 1) := by decide +kernel
theorem dL_act_569 : decode cL_act 569 = .ok (.ishr, 1) := by decide +kernel
theorem dL_act_570 : decode cL_act 570 = .ok (.iload_n 3, 1) := by decide +kernel
theorem dL_act_571 : decode cL_act 571 = .ok (.aload 5, 2) := by decide +kernel
theorem dL_act_573 : decode cL_act 573 = .ok (.aload 7, 2) := by decide +kernel
theorem dL_act_575 : decode cL_act 575 = .ok (.aload 10, 2) := by decide +kernel
theorem dL_act_577 : decode cL_act 577 = .ok (.invokestatic 133, 3) := by decide +kernel
theorem dL_act_580 : decode cL_act 580 = .ok (.ifCond .eq 7, 3) := by decide +kernel
theorem dL_act_583 : decode cL_act 583 = .ok (.iconst 1, 1) := by decide +kernel
theorem dL_act_584 : decode cL_act 584 = .ok (.goto 4, 3) := by decide +kernel
theorem dL_act_587 : decode cL_act 587 = .ok (.iconst 0, 1) := by decide +kernel
theorem dL_act_588 : decode cL_act 588 = .ok (.ireturn, 1) := by decide +kernel
theorem dL_act_589 : decode cL_act 589 = .ok (.iload_n 1, 1) := by decide +kernel
theorem dL_act_590 : decode cL_act 590 = .ok (.bipush 20, 2) := by decide +kernel
theorem dL_act_592 : decode cL_act 592 = .ok (.if_icmp .ge 69, 3) := by decide +kernel
theorem dL_act_595 : decode cL_act 595 = .ok (.iload 13, 2) := by decide +kernel
theorem dL_act_597 : decode cL_act 597 = .ok (.iconst 1, 1) := by decide +kernel
theorem dL_act_598 : decode cL_act 598 = .ok (.if_icmp .lt 9, 3) := by decide +kernel
theorem dL_act_601 : decode cL_act 601 = .ok (.iload 13, 2) := by decide +kernel
theorem dL_act_603 : decode cL_act 603 = .ok (.iconst 2, 1) := by decide +kernel
theorem dL_act_604 : decode cL_act 604 = .ok (.if_icmp .le 5, 3) := by decide +kernel
theorem dL_act_607 : decode cL_act 607 = .ok (.iconst 1, 1) := by decide +kernel
theorem dL_act_608 : decode cL_act 608 = .ok (.ireturn, 1) := by decide +kernel
theorem dL_act_609 : decode cL_act 609 = .ok (.aload 5, 2) := by decide +kernel
theorem dL_act_611 : decode cL_act 611 = .ok (.iconst 5, 1) := by decide +kernel
theorem dL_act_612 : decode cL_act 612 = .ok (.iload 11, 2) := by decide +kernel
theorem dL_act_614 : decode cL_act 614 = .ok (.imul, 1) := by decide +kernel
theorem dL_act_615 : decode cL_act 615 = .ok (.iconst 2, 1) := by decide +kernel
theorem dL_act_616 : decode cL_act 616 = .ok (.iadd, 1) := by decide +kernel
theorem dL_act_617 : decode cL_act 617 = .ok (.iconst 3, 1) := by decide +kernel
theorem dL_act_618 : decode cL_act 618 = .ok (.iastore, 1) := by decide +kernel
theorem dL_act_619 : decode cL_act 619 = .ok (.aload_n 0, 1) := by decide +kernel
theorem dL_act_620 : decode cL_act 620 = .ok (.iload 11, 2) := by decide +kernel
theorem dL_act_622 : decode cL_act 622 = .ok (.invokevirtual 137, 3) := by decide +kernel
theorem dL_act_625 : decode cL_act 625 = .ok (.iload 11, 2) := by decide +kernel
theorem dL_act_627 : decode cL_act 627 = .ok (.aload 5, 2) := by decide +kernel
theorem dL_act_629 : decode cL_act 629 = .ok (.iconst 5, 1) := by decide +kernel
theorem dL_act_630 : decode cL_act 630 = .ok (.iload 11, 2) := by decide +kernel
theorem dL_act_632 : decode cL_act 632 = .ok (.imul, 1) := by decide +kernel
theorem dL_act_633 : decode cL_act 633 = .ok (.iconst 1, 1) := by decide +kernel
theorem dL_act_634 : decode cL_act 634 = .ok (.iadd, 1) := by decide +kernel
theorem dL_act_635 : decode cL_act 635 = .ok (.iaload, 1) := by decide +kernel
theorem dL_act_636 : decode cL_act 636 = .ok (.iconst 0, 1) := by decide +kernel
theorem dL_act_637 : decode cL_act 637 = .ok (.aload 4, 2) := by decide +kernel
theorem dL_act_639 : decode cL_act 639 = .ok (.aload 5, 2) := by decide +kernel
theorem dL_act_641 : decode cL_act 641 = .ok (.aload 7, 2) := by decide +kernel
theorem dL_act_643 : decode cL_act 643 = .ok (.aload 8, 2) := by decide +kernel
theorem dL_act_645 : decode cL_act 645 = .ok (.aload 9, 2) := by decide +kernel
theorem dL_act_647 : decode cL_act 647 = .ok (.aload 10, 2) := by decide +kernel
theorem dL_act_649 : decode cL_act 649 = .ok (.invokestatic 79, 3) := by decide +kernel
theorem dL_act_652 : decode cL_act 652 = .ok (.if_icmp .ne 7, 3) := by decide +kernel
theorem dL_act_655 : decode cL_act 655 = .ok (.iconst 1, 1) := by decide +kernel
theorem dL_act_656 : decode cL_act 656 = .ok (.goto 4, 3) := by decide +kernel
theorem dL_act_659 : decode cL_act 659 = .ok (.iconst 0, 1) := by decide +kernel
theorem dL_act_660 : decode cL_act 660 = .ok (.ireturn, 1) := by decide +kernel
theorem dL_act_661 : decode cL_act 661 = .ok (.iload_n 1, 1) := by decide +kernel
theorem dL_act_662 : decode cL_act 662 = .ok (.bipush 20, 2) := by decide +kernel
theorem dL_act_664 : decode cL_act 664 = .ok (.if_icmp .ne 70, 3) := by decide +kernel
theorem dL_act_667 : decode cL_act 667 = .ok (.iload 13, 2) := by decide +kernel
theorem dL_act_669 : decode cL_act 669 = .ok (.iconst 2, 1) := by decide +kernel
theorem dL_act_670 : decode cL_act 670 = .ok (.if_icmp .le 5, 3) := by decide +kernel
theorem dL_act_673 : decode cL_act 673 = .ok (.iconst 1, 1) := by decide +kernel
theorem dL_act_674 : decode cL_act 674 = .ok (.ireturn, 1) := by decide +kernel
theorem dL_act_675 : decode cL_act 675 = .ok (.iload 11, 2) := by decide +kernel
theorem dL_act_677 : decode cL_act 677 = .ok (.aload 5, 2) := by decide +kernel
theorem dL_act_679 : decode cL_act 679 = .ok (.aload 9, 2) := by decide +kernel
theorem dL_act_681 : decode cL_act 681 = .ok (.invokestatic 39, 3) := by decide +kernel
theorem dL_act_684 : decode cL_act 684 = .ok (.istore 14, 2) := by decide +kernel
theorem dL_act_686 : decode cL_act 686 = .ok (.aload 5, 2) := by decide +kernel
theorem dL_act_688 : decode cL_act 688 = .ok (.iconst 5, 1) := by decide +kernel
theorem dL_act_689 : decode cL_act 689 = .ok (.iload 11, 2) := by decide +kernel
theorem dL_act_691 : decode cL_act 691 = .ok (.imul, 1) := by decide +kernel
theorem dL_act_692 : decode cL_act 692 = .ok (.iconst 2, 1) := by decide +kernel
theorem dL_act_693 : decode cL_act 693 = .ok (.iadd, 1) := by decide +kernel
theorem dL_act_694 : decode cL_act 694 = .ok (.iconst 4, 1) := by decide +kernel
theorem dL_act_695 : decode cL_act 695 = .ok (.iastore, 1) := by decide +kernel
theorem dL_act_696 : decode cL_act 696 = .ok (.iload 11, 2) := by decide +kernel
theorem dL_act_698 : decode cL_act 698 = .ok (.iload 14, 2) := by decide +kernel
theorem dL_act_700 : decode cL_act 700 = .ok (.iconst 0, 1) := by decide +kernel
theorem dL_act_701 : decode cL_act 701 = .ok (.aload 4, 2) := by decide +kernel
theorem dL_act_703 : decode cL_act 703 = .ok (.aload 5, 2) := by decide +kernel
theorem dL_act_705 : decode cL_act 705 = .ok (.aload 7, 2) := by decide +kernel
theorem dL_act_707 : decode cL_act 707 = .ok (.aload 8, 2) := by decide +kernel
theorem dL_act_709 : decode cL_act 709 = .ok (.aload 9, 2) := by decide +kernel
theorem dL_act_711 : decode cL_act 711 = .ok (.aload 10, 2) := by decide +kernel
theorem dL_act_713 : decode cL_act 713 = .ok (.invokestatic 79, 3) := by decide +kernel
theorem dL_act_716 : decode cL_act 716 = .ok (.pop, 1) := by decide +kernel
theorem dL_act_717 : decode cL_act 717 = .ok (.aload_n 0, 1) := by decide +kernel
theorem dL_act_718 : decode cL_act 718 = .ok (.iload 11, 2) := by decide +kernel
theorem dL_act_720 : decode cL_act 720 = .ok (.invokevirtual 140, 3) := by decide +kernel
theorem dL_act_723 : decode cL_act 723 = .ok (.iload 14, 2) := by decide +kernel
theorem dL_act_725 : decode cL_act 725 = .ok (.if_icmp .ne 7, 3) := by decide +kernel
theorem dL_act_728 : decode cL_act 728 = .ok (.iconst 1, 1) := by decide +kernel
theorem dL_act_729 : decode cL_act 729 = .ok (.goto 4, 3) := by decide +kernel
theorem dL_act_732 : decode cL_act 732 = .ok (.iconst 0, 1) := by decide +kernel
theorem dL_act_733 : decode cL_act 733 = .ok (.ireturn, 1) := by decide +kernel
theorem dL_act_734 : decode cL_act 734 = .ok (.iload_n 1, 1) := by decide +kernel
theorem dL_act_735 : decode cL_act 735 = .ok (.bipush 24, 2) := by decide +kernel
theorem dL_act_737 : decode cL_act 737 = .ok (.if_icmp .ge 60, 3) := by decide +kernel
theorem dL_act_740 : decode cL_act 740 = .ok (.iload 13, 2) := by decide +kernel
theorem dL_act_742 : decode cL_act 742 = .ok (.iconst 3, 1) := by decide +kernel
theorem dL_act_743 : decode cL_act 743 = .ok (.if_icmp .ne 48, 3) := by decide +kernel
theorem dL_act_746 : decode cL_act 746 = .ok (.aload_n 0, 1) := by decide +kernel
theorem dL_act_747 : decode cL_act 747 = .ok (.iload 11, 2) := by decide +kernel
theorem dL_act_749 : decode cL_act 749 = .ok (.iconst 1, 1) := by decide +kernel
theorem dL_act_750 : decode cL_act 750 = .ok (.iload_n 3, 1) := by decide +kernel
theorem dL_act_751 : decode cL_act 751 = .ok (.sipush 4000, 3) := by decide +kernel
theorem dL_act_754 : decode cL_act 754 = .ok (.invokestatic 65, 3) := by decide +kernel
theorem dL_act_757 : decode cL_act 757 = .ok (.iadd, 1) := by decide +kernel
theorem dL_act_758 : decode cL_act 758 = .ok (.invokevirtual 142, 3) := by decide +kernel
theorem dL_act_761 : decode cL_act 761 = .ok (.iload 11, 2) := by decide +kernel
theorem dL_act_763 : decode cL_act 763 = .ok (.iconst 1, 1) := by decide +kernel
theorem dL_act_764 : decode cL_act 764 = .ok (.iload_n 3, 1) := by decide +kernel
theorem dL_act_765 : decode cL_act 765 = .ok (.sipush 4000, 3) := by decide +kernel
theorem dL_act_768 : decode cL_act 768 = .ok (.invokestatic 65, 3) := by decide +kernel
theorem dL_act_771 : decode cL_act 771 = .ok (.iadd, 1) := by decide +kernel
theorem dL_act_772 : decode cL_act 772 = .ok (.iconst 1, 1) := by decide +kernel
theorem dL_act_773 : decode cL_act 773 = .ok (.aload 4, 2) := by decide +kernel
theorem dL_act_775 : decode cL_act 775 = .ok (.aload 5, 2) := by decide +kernel
theorem dL_act_777 : decode cL_act 777 = .ok (.aload 7, 2) := by decide +kernel
theorem dL_act_779 : decode cL_act 779 = .ok (.aload 8, 2) := by decide +kernel
theorem dL_act_781 : decode cL_act 781 = .ok (.aload 9, 2) := by decide +kernel
theorem dL_act_783 : decode cL_act 783 = .ok (.aload 10, 2) := by decide +kernel
theorem dL_act_785 : decode cL_act 785 = .ok (.invokestatic 79, 3) := by decide +kernel
theorem dL_act_788 : decode cL_act 788 = .ok (.if_icmp .ne 7, 3) := by decide +kernel
theorem dL_act_791 : decode cL_act 791 = .ok (.iconst 1, 1) := by decide +kernel
theorem dL_act_792 : decode cL_act 792 = .ok (.goto 4, 3) := by decide +kernel
theorem dL_act_795 : decode cL_act 795 = .ok (.iconst 0, 1) := by decide +kernel
theorem dL_act_796 : decode cL_act 796 = .ok (.ireturn, 1) := by decide +kernel
theorem dL_act_797 : decode cL_act 797 = .ok (.iload 11, 2) := by decide +kernel
theorem dL_act_799 : decode cL_act 799 = .ok (.iload 12, 2) := by decide +kernel
theorem dL_act_801 : decode cL_act 801 = .ok (.aload 5, 2) := by decide +kernel
theorem dL_act_803 : decode cL_act 803 = .ok (.aload 6, 2) := by decide +kernel
theorem dL_act_805 : decode cL_act 805 = .ok (.aload 7, 2) := by decide +kernel
theorem dL_act_807 : decode cL_act 807 = .ok (.invokestatic 28, 3) := by decide +kernel
theorem dL_act_810 : decode cL_act 810 = .ok (.ifCond .ne 5, 3) := by decide +kernel
theorem dL_act_813 : decode cL_act 813 = .ok (.iconst 1, 1) := by decide +kernel
theorem dL_act_814 : decode cL_act 814 = .ok (.ireturn, 1) := by decide +kernel
theorem dL_act_815 : decode cL_act 815 = .ok (.iconst 0, 1) := by decide +kernel
theorem dL_act_816 : decode cL_act 816 = .ok (.istore 14, 2) := by decide +kernel
theorem dL_act_818 : decode cL_act 818 = .ok (.iload 14, 2) := by decide +kernel
theorem dL_act_820 : decode cL_act 820 = .ok (.iconst 4, 1) := by decide +kernel
theorem dL_act_821 : decode cL_act 821 = .ok (.if_icmp .ge 29, 3) := by decide +kernel
theorem dL_act_824 : decode cL_act 824 = .ok (.aload 7, 2) := by decide +kernel
theorem dL_act_826 : decode cL_act 826 = .ok (.iconst 4, 1) := by decide +kernel
theorem dL_act_827 : decode cL_act 827 = .ok (.iload 11, 2) := by decide +kernel
theorem dL_act_829 : decode cL_act 829 = .ok (.imul, 1) := by decide +kernel
theorem dL_act_830 : decode cL_act 830 = .ok (.iload 14, 2) := by decide +kernel
theorem dL_act_832 : decode cL_act 832 = .ok (.iadd, 1) := by decide +kernel
theorem dL_act_833 : decode cL_act 833 = .ok (.aload 6, 2) := by decide +kernel
theorem dL_act_835 : decode cL_act 835 = .ok (.iconst 4, 1) := by decide +kernel
theorem dL_act_836 : decode cL_act 836 = .ok (.iload 11, 2) := by decide +kernel
theorem dL_act_838 : decode cL_act 838 = .ok (.imul, 1) := by decide +kernel
theorem dL_act_839 : decode cL_act 839 = .ok (.iload 14, 2) := by decide +kernel
theorem dL_act_841 : decode cL_act 841 = .ok (.iadd, 1) := by decide +kernel
theorem dL_act_842 : decode cL_act 842 = .ok (.iaload, 1) := by decide +kernel
theorem dL_act_843 : decode cL_act 843 = .ok (.iastore, 1) := by decide +kernel
theorem dL_act_844 : decode cL_act 844 = .ok (.iinc 14 1, 3) := by decide +kernel
theorem dL_act_847 : decode cL_act 847 = .ok (.goto (-29), 3) := by decide +kernel
theorem dL_act_850 : decode cL_act 850 = .ok (.aload 5, 2) := by decide +kernel
theorem dL_act_852 : decode cL_act 852 = .ok (.iconst 5, 1) := by decide +kernel
theorem dL_act_853 : decode cL_act 853 = .ok (.iload 11, 2) := by decide +kernel
theorem dL_act_855 : decode cL_act 855 = .ok (.imul, 1) := by decide +kernel
theorem dL_act_856 : decode cL_act 856 = .ok (.iconst 3, 1) := by decide +kernel
theorem dL_act_857 : decode cL_act 857 = .ok (.iadd, 1) := by decide +kernel
theorem dL_act_858 : decode cL_act 858 = .ok (.dup2, 1) := by decide +kernel
theorem dL_act_859 : decode cL_act 859 = .ok (.iaload, 1) := by decide +kernel
theorem dL_act_860 : decode cL_act 860 = .ok (.iconst 1, 1) := by decide +kernel
theorem dL_act_861 : decode cL_act 861 = .ok (.iadd, 1) := by decide +kernel
theorem dL_act_862 : decode cL_act 862 = .ok (.iastore, 1) := by decide +kernel
theorem dL_act_863 : decode cL_act 863 = .ok (.aload 10, 2) := by decide +kernel
theorem dL_act_865 : decode cL_act 865 = .ok (.bipush 6, 2) := by decide +kernel
theorem dL_act_867 : decode cL_act 867 = .ok (.dup2, 1) := by decide +kernel
theorem dL_act_868 : decode cL_act 868 = .ok (.iaload, 1) := by decide +kernel
theorem dL_act_869 : decode cL_act 869 = .ok (.iconst 1, 1) := by decide +kernel
theorem dL_act_870 : decode cL_act 870 = .ok (.iadd, 1) := by decide +kernel
theorem dL_act_871 : decode cL_act 871 = .ok (.iastore, 1) := by decide +kernel
theorem dL_act_872 : decode cL_act 872 = .ok (.aload_n 0, 1) := by decide +kernel
theorem dL_act_873 : decode cL_act 873 = .ok (.iload 11, 2) := by decide +kernel
theorem dL_act_875 : decode cL_act 875 = .ok (.iload 12, 2) := by decide +kernel
theorem dL_act_877 : decode cL_act 877 = .ok (.invokevirtual 145, 3) := by decide +kernel
theorem dL_act_880 : decode cL_act 880 = .ok (.aload 6, 2) := by decide +kernel
theorem dL_act_882 : decode cL_act 882 = .ok (.iconst 4, 1) := by decide +kernel
theorem dL_act_883 : decode cL_act 883 = .ok (.iload 11, 2) := by decide +kernel
theorem dL_act_885 : decode cL_act 885 = .ok (.imul, 1) := by decide +kernel
theorem dL_act_886 : decode cL_act 886 = .ok (.iload 12, 2) := by decide +kernel
theorem dL_act_888 : decode cL_act 888 = .ok (.iadd, 1) := by decide +kernel
theorem dL_act_889 : decode cL_act 889 = .ok (.iaload, 1) := by decide +kernel
theorem dL_act_890 : decode cL_act 890 = .ok (.if_icmp .ne 7, 3) := by decide +kernel
theorem dL_act_893 : decode cL_act 893 = .ok (.iconst 1, 1) := by decide +kernel
theorem dL_act_894 : decode cL_act 894 = .ok (.goto 4, 3) := by decide +kernel
theorem dL_act_897 : decode cL_act 897 = .ok (.iconst 0, 1) := by decide +kernel
theorem dL_act_898 : decode cL_act 898 = .ok (.ireturn, 1) := by decide +kernel
theorem dL_law_0 : decode cL_law 0 = .ok (.new 23, 3) := by decide +kernel
theorem dL_law_3 : decode cL_law 3 = .ok (.dup, 1) := by decide +kernel
theorem dL_law_4 : decode cL_law 4 = .ok (.invokespecial 148, 3) := by decide +kernel
theorem dL_law_7 : decode cL_law 7 = .ok (.astore_n 1, 1) := by decide +kernel
theorem dL_law_8 : decode cL_law 8 = .ok (.bipush 24, 2) := by decide +kernel
theorem dL_law_10 : decode cL_law 10 = .ok (.newarray .int, 2) := by decide +kernel
theorem dL_law_12 : decode cL_law 12 = .ok (.astore_n 2, 1) := by decide +kernel
theorem dL_law_13 : decode cL_law 13 = .ok (.bipush 20, 2) := by decide +kernel
theorem dL_law_15 : decode cL_law 15 = .ok (.newarray .int, 2) := by decide +kernel
theorem dL_law_17 : decode cL_law 17 = .ok (.astore_n 3, 1) := by decide +kernel
theorem dL_law_18 : decode cL_law 18 = .ok (.bipush 16, 2) := by decide +kernel
theorem dL_law_20 : decode cL_law 20 = .ok (.newarray .int, 2) := by decide +kernel
theorem dL_law_22 : decode cL_law 22 = .ok (.astore 4, 2) := by decide +kernel
theorem dL_law_24 : decode cL_law 24 = .ok (.bipush 16, 2) := by decide +kernel
theorem dL_law_26 : decode cL_law 26 = .ok (.newarray .int, 2) := by decide +kernel
theorem dL_law_28 : decode cL_law 28 = .ok (.astore 5, 2) := by decide +kernel
theorem dL_law_30 : decode cL_law 30 = .ok (.bipush 16, 2) := by decide +kernel
theorem dL_law_32 : decode cL_law 32 = .ok (.newarray .int, 2) := by decide +kernel
theorem dL_law_34 : decode cL_law 34 = .ok (.astore 6, 2) := by decide +kernel
theorem dL_law_36 : decode cL_law 36 = .ok (.bipush 6, 2) := by decide +kernel
theorem dL_law_38 : decode cL_law 38 = .ok (.newarray .int, 2) := by decide +kernel
theorem dL_law_40 : decode cL_law 40 = .ok (.astore 7, 2) := by decide +kernel
theorem dL_law_42 : decode cL_law 42 = .ok (.bipush 8, 2) := by decide +kernel
theorem dL_law_44 : decode cL_law 44 = .ok (.newarray .int, 2) := by decide +kernel
theorem dL_law_46 : decode cL_law 46 = .ok (.astore 8, 2) := by decide +kernel
theorem dL_law_48 : decode cL_law 48 = .ok (.aload 7, 2) := by decide +kernel
theorem dL_law_50 : decode cL_law 50 = .ok (.iconst 0, 1) := by decide +kernel
theorem dL_law_51 : decode cL_law 51 = .ok (.bipush 10, 2) := by decide +kernel
theorem dL_law_53 : decode cL_law 53 = .ok (.iastore, 1) := by decide +kernel
theorem dL_law_54 : decode cL_law 54 = .ok (.aload 7, 2) := by decide +kernel
theorem dL_law_56 : decode cL_law 56 = .ok (.iconst 1, 1) := by decide +kernel
theorem dL_law_57 : decode cL_law 57 = .ok (.iconst 5, 1) := by decide +kernel
theorem dL_law_58 : decode cL_law 58 = .ok (.iastore, 1) := by decide +kernel
theorem dL_law_59 : decode cL_law 59 = .ok (.aload 7, 2) := by decide +kernel
theorem dL_law_61 : decode cL_law 61 = .ok (.iconst 3, 1) := by decide +kernel
theorem dL_law_62 : decode cL_law 62 = .ok (.bipush 10, 2) := by decide +kernel
theorem dL_law_64 : decode cL_law 64 = .ok (.iastore, 1) := by decide +kernel
theorem dL_law_65 : decode cL_law 65 = .ok (.aload 7, 2) := by decide +kernel
theorem dL_law_67 : decode cL_law 67 = .ok (.iconst 4, 1) := by decide +kernel
theorem dL_law_68 : decode cL_law 68 = .ok (.bipush 25, 2) := by decide +kernel
theorem dL_law_70 : decode cL_law 70 = .ok (.iastore, 1) := by decide +kernel
theorem dL_law_71 : decode cL_law 71 = .ok (.aload 7, 2) := by decide +kernel
theorem dL_law_73 : decode cL_law 73 = .ok (.iconst 5, 1) := by decide +kernel
theorem dL_law_74 : decode cL_law 74 = .ok (.bipush 50, 2) := by decide +kernel
theorem dL_law_76 : decode cL_law 76 = .ok (.iastore, 1) := by decide +kernel
theorem dL_law_77 : decode cL_law 77 = .ok (.aload_n 1, 1) := by decide +kernel
theorem dL_law_78 : decode cL_law 78 = .ok (.aload_n 2, 1) := by decide +kernel
theorem dL_law_79 : decode cL_law 79 = .ok (.aload_n 3, 1) := by decide +kernel
theorem dL_law_80 : decode cL_law 80 = .ok (.aload 4, 2) := by decide +kernel
theorem dL_law_82 : decode cL_law 82 = .ok (.aload 5, 2) := by decide +kernel
theorem dL_law_84 : decode cL_law 84 = .ok (.aload 6, 2) := by decide +kernel
theorem dL_law_86 : decode cL_law 86 = .ok (.aload 7, 2) := by decide +kernel
theorem dL_law_88 : decode cL_law 88 = .ok (.aload 8, 2) := by decide +kernel
theorem dL_law_90 : decode cL_law 90 = .ok (.invokestatic 149, 3) := by decide +kernel
theorem dL_law_93 : decode cL_law 93 = .ok (.ifCond .ne 5, 3) := by decide +kernel
theorem dL_law_96 : decode cL_law 96 = .ok (.iconst 0, 1) := by decide +kernel
theorem dL_law_97 : decode cL_law 97 = .ok (.ireturn, 1) := by decide +kernel
theorem dL_law_98 : decode cL_law 98 = .ok (.iconst 0, 1) := by decide +kernel
theorem dL_law_99 : decode cL_law 99 = .ok (.istore 9, 2) := by decide +kernel
theorem dL_law_101 : decode cL_law 101 = .ok (.iload 9, 2) := by decide +kernel
theorem dL_law_103 : decode cL_law 103 = .ok (.bipush 32, 2) := by decide +kernel
theorem dL_law_105 : decode cL_law 105 = .ok (.if_icmp .ge 185, 3) := by decide +kernel
theorem dL_law_108 : decode cL_law 108 = .ok (.aload_n 0, 1) := by decide +kernel
theorem dL_law_109 : decode cL_law 109 = .ok (.iconst 2, 1) := by decide +kernel
theorem dL_law_110 : decode cL_law 110 = .ok (.iload 9, 2) := by decide +kernel
theorem dL_law_112 : decode cL_law 112 = .ok (.imul, 1) := by decide +kernel
theorem dL_law_113 : decode cL_law 113 = .ok (.invokestatic 153, 3) := by decide +kernel
theorem dL_law_116 : decode cL_law 116 = .ok (.ldc 156, 2) := by decide +kernel
theorem dL_law_118 : decode cL_law 118 = .ok (.iand, 1) := by decide +kernel
theorem dL_law_119 : decode cL_law 119 = .ok (.istore 10, 2) := by decide +kernel
theorem dL_law_121 : decode cL_law 121 = .ok (.aload_n 0, 1) := by decide +kernel
theorem dL_law_122 : decode cL_law 122 = .ok (.iconst 2, 1) := by decide +kernel
theorem dL_law_123 : decode cL_law 123 = .ok (.iload 9, 2) := by decide +kernel
theorem dL_law_125 : decode cL_law 125 = .ok (.imul, 1) := by decide +kernel
theorem dL_law_126 : decode cL_law 126 = .ok (.iconst 1, 1) := by decide +kernel
theorem dL_law_127 : decode cL_law 127 = .ok (.iadd, 1) := by decide +kernel
theorem dL_law_128 : decode cL_law 128 = .ok (.invokestatic 153, 3) := by decide +kernel
theorem dL_law_131 : decode cL_law 131 = .ok (.ldc 156, 2) := by decide +kernel
theorem dL_law_133 : decode cL_law 133 = .ok (.iand, 1) := by decide +kernel
theorem dL_law_134 : decode cL_law 134 = .ok (.istore 11, 2) := by decide +kernel
theorem dL_law_136 : decode cL_law 136 = .ok (.iload 9, 2) := by decide +kernel
theorem dL_law_138 : decode cL_law 138 = .ok (.iconst 3, 1) := by decide +kernel
theorem dL_law_139 : decode cL_law 139 = .ok (.if_icmp .ge 7, 3) := by decide +kernel
theorem dL_law_142 : decode cL_law 142 = .ok (.iconst 0, 1) := by decide +kernel
theorem dL_law_143 : decode cL_law 143 = .ok (.goto 60, 3) := by decide +kernel
theorem dL_law_146 : decode cL_law 146 = .ok (.iload 9, 2) := by decide +kernel
theorem dL_law_148 : decode cL_law 148 = .ok (.iconst 3, 1) := by decide +kernel
theorem dL_law_149 : decode cL_law 149 = .ok (.if_icmp .ne 8, 3) := by decide +kernel
theorem dL_law_152 : decode cL_law 152 = .ok (.bipush 8, 2) := by decide +kernel
theorem dL_law_154 : decode cL_law 154 = .ok (.goto 49, 3) := by decide +kernel
theorem dL_law_157 : decode cL_law 157 = .ok (.iload 9, 2) := by decide +kernel
theorem dL_law_159 : decode cL_law 159 = .ok (.bipush 6, 2) := by decide +kernel
theorem dL_law_161 : decode cL_law 161 = .ok (.if_icmp .ge 8, 3) := by decide +kernel
theorem dL_law_164 : decode cL_law 164 = .ok (.bipush 10, 2) := by decide +kernel
theorem dL_law_166 : decode cL_law 166 = .ok (.goto 37, 3) := by decide +kernel
theorem dL_law_169 : decode cL_law 169 = .ok (.iload 9, 2) := by decide +kernel
theorem dL_law_171 : decode cL_law 171 = .ok (.bipush 6, 2) := by decide +kernel
theorem dL_law_173 : decode cL_law 173 = .ok (.if_icmp .ne 8, 3) := by decide +kernel
theorem dL_law_176 : decode cL_law 176 = .ok (.bipush 15, 2) := by decide +kernel
theorem dL_law_178 : decode cL_law 178 = .ok (.goto 25, 3) := by decide +kernel
theorem dL_law_181 : decode cL_law 181 = .ok (.iload 9, 2) := by decide +kernel
theorem dL_law_183 : decode cL_law 183 = .ok (.bipush 7, 2) := by decide +kernel
theorem dL_law_185 : decode cL_law 185 = .ok (.if_icmp .ne 8, 3) := by decide +kernel
theorem dL_law_188 : decode cL_law 188 = .ok (.bipush 18, 2) := by decide +kernel
theorem dL_law_190 : decode cL_law 190 = .ok (.goto 13, 3) := by decide +kernel
theorem dL_law_193 : decode cL_law 193 = .ok (.iload 10, 2) := by decide +kernel
theorem dL_law_195 : decode cL_law 195 = .ok (.bipush 13, 2) := by decide +kernel
theorem dL_law_197 : decode cL_law 197 = .ok (.ishr, 1) := by decide +kernel
theorem dL_law_198 : decode cL_law 198 = .ok (.bipush 25, 2) := by decide +kernel
theorem dL_law_200 : decode cL_law 200 = .ok (.invokestatic 65, 3) := by decide +kernel
theorem dL_law_203 : decode cL_law 203 = .ok (.istore 12, 2) := by decide +kernel
theorem dL_law_205 : decode cL_law 205 = .ok (.aload_n 1, 1) := by decide +kernel
theorem dL_law_206 : decode cL_law 206 = .ok (.iload 12, 2) := by decide +kernel
theorem dL_law_208 : decode cL_law 208 = .ok (.iload 10, 2) := by decide +kernel
theorem dL_law_210 : decode cL_law 210 = .ok (.iload 11, 2) := by decide +kernel
theorem dL_law_212 : decode cL_law 212 = .ok (.aload_n 2, 1) := by decide +kernel
theorem dL_law_213 : decode cL_law 213 = .ok (.aload_n 3, 1) := by decide +kernel
theorem dL_law_214 : decode cL_law 214 = .ok (.aload 4, 2) := by decide +kernel
theorem dL_law_216 : decode cL_law 216 = .ok (.aload 5, 2) := by decide +kernel
theorem dL_law_218 : decode cL_law 218 = .ok (.aload 6, 2) := by decide +kernel
theorem dL_law_220 : decode cL_law 220 = .ok (.aload 7, 2) := by decide +kernel
theorem dL_law_222 : decode cL_law 222 = .ok (.aload 8, 2) := by decide +kernel
theorem dL_law_224 : decode cL_law 224 = .ok (.invokestatic 157, 3) := by decide +kernel
theorem dL_law_227 : decode cL_law 227 = .ok (.ifCond .eq 22, 3) := by decide +kernel
theorem dL_law_230 : decode cL_law 230 = .ok (.aload_n 1, 1) := by decide +kernel
theorem dL_law_231 : decode cL_law 231 = .ok (.aload_n 2, 1) := by decide +kernel
theorem dL_law_232 : decode cL_law 232 = .ok (.aload_n 3, 1) := by decide +kernel
theorem dL_law_233 : decode cL_law 233 = .ok (.aload 4, 2) := by decide +kernel
theorem dL_law_235 : decode cL_law 235 = .ok (.aload 5, 2) := by decide +kernel
theorem dL_law_237 : decode cL_law 237 = .ok (.aload 6, 2) := by decide +kernel
theorem dL_law_239 : decode cL_law 239 = .ok (.aload 7, 2) := by decide +kernel
theorem dL_law_241 : decode cL_law 241 = .ok (.aload 8, 2) := by decide +kernel
theorem dL_law_243 : decode cL_law 243 = .ok (.invokestatic 149, 3) := by decide +kernel
theorem dL_law_246 : decode cL_law 246 = .ok (.ifCond .ne 5, 3) := by decide +kernel
theorem dL_law_249 : decode cL_law 249 = .ok (.iconst 0, 1) := by decide +kernel
theorem dL_law_250 : decode cL_law 250 = .ok (.ireturn, 1) := by decide +kernel
theorem dL_law_251 : decode cL_law 251 = .ok (.iload 9, 2) := by decide +kernel
theorem dL_law_253 : decode cL_law 253 = .ok (.iconst 4, 1) := by decide +kernel
theorem dL_law_254 : decode cL_law 254 = .ok (.irem, 1) := by decide +kernel
theorem dL_law_255 : decode cL_law 255 = .ok (.iconst 3, 1) := by decide +kernel
theorem dL_law_256 : decode cL_law 256 = .ok (.if_icmp .ne 28, 3) := by decide +kernel
theorem dL_law_259 : decode cL_law 259 = .ok (.aload_n 1, 1) := by decide +kernel
theorem dL_law_260 : decode cL_law 260 = .ok (.iload 11, 2) := by decide +kernel
theorem dL_law_262 : decode cL_law 262 = .ok (.iconst 3, 1) := by decide +kernel
theorem dL_law_263 : decode cL_law 263 = .ok (.ishr, 1) := by decide +kernel
theorem dL_law_264 : decode cL_law 264 = .ok (.aload_n 2, 1) := by decide +kernel
theorem dL_law_265 : decode cL_law 265 = .ok (.aload_n 3, 1) := by decide +kernel
theorem dL_law_266 : decode cL_law 266 = .ok (.aload 4, 2) := by decide +kernel
theorem dL_law_268 : decode cL_law 268 = .ok (.aload 5, 2) := by decide +kernel
theorem dL_law_270 : decode cL_law 270 = .ok (.aload 6, 2) := by decide +kernel
theorem dL_law_272 : decode cL_law 272 = .ok (.aload 7, 2) := by decide +kernel
theorem dL_law_274 : decode cL_law 274 = .ok (.aload 8, 2) := by decide +kernel
theorem dL_law_276 : decode cL_law 276 = .ok (.invokestatic 161, 3) := by decide +kernel
theorem dL_law_279 : decode cL_law 279 = .ok (.ifCond .ne 5, 3) := by decide +kernel
theorem dL_law_282 : decode cL_law 282 = .ok (.iconst 0, 1) := by decide +kernel
theorem dL_law_283 : decode cL_law 283 = .ok (.ireturn, 1) := by decide +kernel
theorem dL_law_284 : decode cL_law 284 = .ok (.iinc 9 1, 3) := by decide +kernel
theorem dL_law_287 : decode cL_law 287 = .ok (.goto (-186), 3) := by decide +kernel
theorem dL_law_290 : decode cL_law 290 = .ok (.aload_n 1, 1) := by decide +kernel
theorem dL_law_291 : decode cL_law 291 = .ok (.bipush 13, 2) := by decide +kernel
theorem dL_law_293 : decode cL_law 293 = .ok (.invokevirtual 55, 3) := by decide +kernel
theorem dL_law_296 : decode cL_law 296 = .ok (.ifCond .le 7, 3) := by decide +kernel
theorem dL_law_299 : decode cL_law 299 = .ok (.iconst 1, 1) := by decide +kernel
theorem dL_law_300 : decode cL_law 300 = .ok (.goto 4, 3) := by decide +kernel
theorem dL_law_303 : decode cL_law 303 = .ok (.iconst 0, 1) := by decide +kernel
theorem dL_law_304 : decode cL_law 304 = .ok (.ireturn, 1) := by decide +kernel

theorem dX2_init_0 : decode cX2_init 0 = .ok (.aload_n 0, 1) := by decide +kernel
theorem dX2_init_1 : decode cX2_init 1 = .ok (.invokespecial 3, 3) := by decide +kernel
theorem dX2_init_4 : decode cX2_init 4 = .ok (.aload_n 0, 1) := by decide +kernel
theorem dX2_init_5 : decode cX2_init 5 = .ok (.bipush 60, 2) := by decide +kernel
theorem dX2_init_7 : decode cX2_init 7 = .ok (.newarray .int, 2) := by decide +kernel
theorem dX2_init_9 : decode cX2_init 9 = .ok (.putfield 11, 3) := by decide +kernel
theorem dX2_init_12 : decode cX2_init 12 = .ok (.aload_n 0, 1) := by decide +kernel
theorem dX2_init_13 : decode cX2_init 13 = .ok (.bipush 12, 2) := by decide +kernel
theorem dX2_init_15 : decode cX2_init 15 = .ok (.newarray .int, 2) := by decide +kernel
theorem dX2_init_17 : decode cX2_init 17 = .ok (.putfield 15, 3) := by decide +kernel
theorem dX2_init_20 : decode cX2_init 20 = .ok (.return_, 1) := by decide +kernel
theorem dX2_isList_0 : decode cX2_isList 0 = .ok (.aload_n 0, 1) := by decide +kernel
theorem dX2_isList_1 : decode cX2_isList 1 = .ok (.invokevirtual 18, 3) := by decide +kernel
theorem dX2_isList_4 : decode cX2_isList 4 = .ok (.aload_n 0, 1) := by decide +kernel
theorem dX2_isList_5 : decode cX2_isList 5 = .ok (.getfield 22, 3) := by decide +kernel
theorem dX2_isList_8 : decode cX2_isList 8 = .ok (.if_icmp .lt 18, 3) := by decide +kernel
theorem dX2_isList_11 : decode cX2_isList 11 = .ok (.aload_n 0, 1) := by decide +kernel
theorem dX2_isList_12 : decode cX2_isList 12 = .ok (.getfield 26, 3) := by decide +kernel
theorem dX2_isList_15 : decode cX2_isList 15 = .ok (.ifCond .eq 11, 3) := by decide +kernel
theorem dX2_isList_18 : decode cX2_isList 18 = .ok (.aload_n 0, 1) := by decide +kernel
theorem dX2_isList_19 : decode cX2_isList 19 = .ok (.getfield 26, 3) := by decide +kernel
theorem dX2_isList_22 : decode cX2_isList 22 = .ok (.iconst 3, 1) := by decide +kernel
theorem dX2_isList_23 : decode cX2_isList 23 = .ok (.if_icmp .ne 5, 3) := by decide +kernel
theorem dX2_isList_26 : decode cX2_isList 26 = .ok (.iconst 0, 1) := by decide +kernel
theorem dX2_isList_27 : decode cX2_isList 27 = .ok (.ireturn, 1) := by decide +kernel
theorem dX2_isList_28 : decode cX2_isList 28 = .ok (.aload_n 0, 1) := by decide +kernel
theorem dX2_isList_29 : decode cX2_isList 29 = .ok (.getfield 15, 3) := by decide +kernel
theorem dX2_isList_32 : decode cX2_isList 32 = .ok (.aload_n 0, 1) := by decide +kernel
theorem dX2_isList_33 : decode cX2_isList 33 = .ok (.getfield 29, 3) := by decide +kernel
theorem dX2_isList_36 : decode cX2_isList 36 = .ok (.iaload, 1) := by decide +kernel
theorem dX2_isList_37 : decode cX2_isList 37 = .ok (.ifCond .eq 5, 3) := by decide +kernel
theorem dX2_isList_40 : decode cX2_isList 40 = .ok (.iconst 0, 1) := by decide +kernel
theorem dX2_isList_41 : decode cX2_isList 41 = .ok (.ireturn, 1) := by decide +kernel
theorem dX2_isList_42 : decode cX2_isList 42 = .ok (.aload_n 0, 1) := by decide +kernel
theorem dX2_isList_43 : decode cX2_isList 43 = .ok (.invokevirtual 32, 3) := by decide +kernel
theorem dX2_isList_46 : decode cX2_isList 46 = .ok (.iconst 1, 1) := by decide +kernel
theorem dX2_isList_47 : decode cX2_isList 47 = .ok (.ireturn, 1) := by decide +kernel
theorem dX2_greatestPen_0 : decode cX2_greatestPen 0 = .ok (.iconst (-1), 1) := by decide +kernel
theorem dX2_greatestPen_1 : decode cX2_greatestPen 1 = .ok (.istore_n 1, 1) := by decide +kernel
theorem dX2_greatestPen_2 : decode cX2_greatestPen 2 = .ok (.iconst 0, 1) := by decide +kernel
theorem dX2_greatestPen_3 : decode cX2_greatestPen 3 = .ok (.istore_n 2, 1) := by decide +kernel
theorem dX2_greatestPen_4 : decode cX2_greatestPen 4 = .ok (.iload_n 2, 1) := by decide +kernel
theorem dX2_greatestPen_5 : decode cX2_greatestPen 5 = .ok (.bipush 12, 2) := by decide +kernel
theorem dX2_greatestPen_7 : decode cX2_greatestPen 7 = .ok (.if_icmp .ge 24, 3) := by decide +kernel
theorem dX2_greatestPen_10 : decode cX2_greatestPen 10 = .ok (.aload_n 0, 1) := by decide +kernel
theorem dX2_greatestPen_11 : decode cX2_greatestPen 11 = .ok (.getfield 15, 3) := by decide +kernel
theorem dX2_greatestPen_14 : decode cX2_greatestPen 14 = .ok (.iload_n 2, 1) := by decide +kernel
theorem dX2_greatestPen_15 : decode cX2_greatestPen 15 = .ok (.iaload, 1) := by decide +kernel
theorem dX2_greatestPen_16 : decode cX2_greatestPen 16 = .ok (.ifCond .le 7, 3) := by decide +kernel
theorem dX2_greatestPen_19 : decode cX2_greatestPen 19 = .ok (.iload_n 2, 1) := by decide +kernel
theorem dX2_greatestPen_20 : decode cX2_greatestPen 20 = .ok (.goto 4, 3) := by decide +kernel
theorem dX2_greatestPen_23 : decode cX2_greatestPen 23 = .ok (.iload_n 1, 1) := by decide +kernel
theorem dX2_greatestPen_24 : decode cX2_greatestPen 24 = .ok (.istore_n 1, 1) := by decide +kernel
theorem dX2_greatestPen_25 : decode cX2_greatestPen 25 = .ok (.iinc 2 1, 3) := by decide +kernel
theorem dX2_greatestPen_28 : decode cX2_greatestPen 28 = .ok (.goto (-24), 3) := by decide +kernel
theorem dX2_greatestPen_31 : decode cX2_greatestPen 31 = .ok (.iload_n 1, 1) := by decide +kernel
theorem dX2_greatestPen_32 : decode cX2_greatestPen 32 = .ok (.ireturn, 1) := by decide +kernel
theorem dX2_readToError_0 : decode cX2_readToError 0 = .ok (.aload_n 0, 1) := by decide +kernel
theorem dX2_readToError_1 : decode cX2_readToError 1 = .ok (.getfield 15, 3) := by decide +kernel
theorem dX2_readToError_4 : decode cX2_readToError 4 = .ok (.iconst 0, 1) := by decide +kernel
theorem dX2_readToError_5 : decode cX2_readToError 5 = .ok (.invokestatic 35, 3) := by decide +kernel
theorem dX2_readToError_8 : decode cX2_readToError 8 = .ok (.aload_n 0, 1) := by decide +kernel
theorem dX2_readToError_9 : decode cX2_readToError 9 = .ok (.iconst 0, 1) := by decide +kernel
theorem dX2_readToError_10 : decode cX2_readToError 10 = .ok (.putfield 26, 3) := by decide +kernel
theorem dX2_readToError_13 : decode cX2_readToError 13 = .ok (.aload_n 0, 1) := by decide +kernel
theorem dX2_readToError_14 : decode cX2_readToError 14 = .ok (.iconst 0, 1) := by decide +kernel
theorem dX2_readToError_15 : decode cX2_readToError 15 = .ok (.putfield 29, 3) := by decide +kernel
theorem dX2_readToError_18 : decode cX2_readToError 18 = .ok (.aload_n 0, 1) := by decide +kernel
theorem dX2_readToError_19 : decode cX2_readToError 19 = .ok (.iconst 1, 1) := by decide +kernel
theorem dX2_readToError_20 : decode cX2_readToError 20 = .ok (.putfield 41, 3) := by decide +kernel
theorem dX2_readToError_23 : decode cX2_readToError 23 = .ok (.aload_n 0, 1) := by decide +kernel
theorem dX2_readToError_24 : decode cX2_readToError 24 = .ok (.iconst 0, 1) := by decide +kernel
theorem dX2_readToError_25 : decode cX2_readToError 25 = .ok (.putfield 44, 3) := by decide +kernel
theorem dX2_readToError_28 : decode cX2_readToError 28 = .ok (.iconst 0, 1) := by decide +kernel
theorem dX2_readToError_29 : decode cX2_readToError 29 = .ok (.istore_n 1, 1) := by decide +kernel
theorem dX2_readToError_30 : decode cX2_readToError 30 = .ok (.iload_n 1, 1) := by decide +kernel
theorem dX2_readToError_31 : decode cX2_readToError 31 = .ok (.aload_n 0, 1) := by decide +kernel
theorem dX2_readToError_32 : decode cX2_readToError 32 = .ok (.getfield 22, 3) := by decide +kernel
theorem dX2_readToError_35 : decode cX2_readToError 35 = .ok (.if_icmp .ge 24, 3) := by decide +kernel
theorem dX2_readToError_38 : decode cX2_readToError 38 = .ok (.aload_n 0, 1) := by decide +kernel
theorem dX2_readToError_39 : decode cX2_readToError 39 = .ok (.aload_n 0, 1) := by decide +kernel
theorem dX2_readToError_40 : decode cX2_readToError 40 = .ok (.getfield 11, 3) := by decide +kernel
theorem dX2_readToError_43 : decode cX2_readToError 43 = .ok (.iload_n 1, 1) := by decide +kernel
theorem dX2_readToError_44 : decode cX2_readToError 44 = .ok (.iaload, 1) := by decide +kernel
theorem dX2_readToError_45 : decode cX2_readToError 45 = .ok (.invokevirtual 47, 3) := by decide +kernel
theorem dX2_readToError_48 : decode cX2_readToError 48 = .ok (.ifCond .ne 5, 3) := by decide +kernel
theorem dX2_readToError_51 : decode cX2_readToError 51 = .ok (.iload_n 1, 1) := by decide +kernel
theorem dX2_readToError_52 : decode cX2_readToError 52 = .ok (.ireturn, 1) := by decide +kernel
theorem dX2_readToError_53 : decode cX2_readToError 53 = .ok (.iinc 1 1, 3) := by decide +kernel
theorem dX2_readToError_56 : decode cX2_readToError 56 = .ok (.goto (-26), 3) := by decide +kernel
theorem dX2_readToError_59 : decode cX2_readToError 59 = .ok (.aload_n 0, 1) := by decide +kernel
theorem dX2_readToError_60 : decode cX2_readToError 60 = .ok (.getfield 22, 3) := by decide +kernel
theorem dX2_readToError_63 : decode cX2_readToError 63 = .ok (.ireturn, 1) := by decide +kernel
theorem dX2_takes_0 : decode cX2_takes 0 = .ok (.aload_n 0, 1) := by decide +kernel
theorem dX2_takes_1 : decode cX2_takes 1 = .ok (.getfield 26, 3) := by decide +kernel
theorem dX2_takes_4 : decode cX2_takes 4 = .ok (.tableswitch 72 0 3 #[32, 38, 44, 66], 32) := by decide +kernel
theorem dX2_takes_36 : decode cX2_takes 36 = .ok (.aload_n 0, 1) := by decide +kernel
theorem dX2_takes_37 : decode cX2_takes 37 = .ok (.iload_n 1, 1) := by decide +kernel
theorem dX2_takes_38 : decode cX2_takes 38 = .ok (.invokevirtual 51, 3) := by decide +kernel
theorem dX2_takes_41 : decode cX2_takes 41 = .ok (.ireturn, 1) := by decide +kernel
theorem dX2_takes_42 : decode cX2_takes 42 = .ok (.aload_n 0, 1) := by decide +kernel
theorem dX2_takes_43 : decode cX2_takes 43 = .ok (.iload_n 1, 1) := by decide +kernel
theorem dX2_takes_44 : decode cX2_takes 44 = .ok (.invokevirtual 54, 3) := by decide +kernel
theorem dX2_takes_47 : decode cX2_takes 47 = .ok (.ireturn, 1) := by decide +kernel
theorem dX2_takes_48 : decode cX2_takes 48 = .ok (.aload_n 0, 1) := by decide +kernel
theorem dX2_takes_49 : decode cX2_takes 49 = .ok (.iload_n 1, 1) := by decide +kernel
theorem dX2_takes_50 : decode cX2_takes 50 = .ok (.invokevirtual 57, 3) := by decide +kernel
theorem dX2_takes_53 : decode cX2_takes 53 = .ok (.ifCond .ne 11, 3) := by decide +kernel
theorem dX2_takes_56 : decode cX2_takes 56 = .ok (.aload_n 0, 1) := by decide +kernel
theorem dX2_takes_57 : decode cX2_takes 57 = .ok (.iload_n 1, 1) := by decide +kernel
theorem dX2_takes_58 : decode cX2_takes 58 = .ok (.invokevirtual 60, 3) := by decide +kernel
theorem dX2_takes_61 : decode cX2_takes 61 = .ok (.ifCond .eq 7, 3) := by decide +kernel
theorem dX2_takes_64 : decode cX2_takes 64 = .ok (.iconst 1, 1) := by decide +kernel
theorem dX2_takes_65 : decode cX2_takes 65 = .ok (.goto 4, 3) := by decide +kernel
theorem dX2_takes_68 : decode cX2_takes 68 = .ok (.iconst 0, 1) := by decide +kernel
theorem dX2_takes_69 : decode cX2_takes 69 = .ok (.ireturn, 1) := by decide +kernel
theorem dX2_takes_70 : decode cX2_takes 70 = .ok (.aload_n 0, 1) := by decide +kernel
theorem dX2_takes_71 : decode cX2_takes 71 = .ok (.iload_n 1, 1) := by decide +kernel
theorem dX2_takes_72 : decode cX2_takes 72 = .ok (.invokevirtual 63, 3) := by decide +kernel
theorem dX2_takes_75 : decode cX2_takes 75 = .ok (.ireturn, 1) := by decide +kernel
theorem dX2_takes_76 : decode cX2_takes 76 = .ok (.aload_n 0, 1) := by decide +kernel
theorem dX2_takes_77 : decode cX2_takes 77 = .ok (.iload_n 1, 1) := by decide +kernel
theorem dX2_takes_78 : decode cX2_takes 78 = .ok (.invokevirtual 60, 3) := by decide +kernel
theorem dX2_takes_81 : decode cX2_takes 81 = .ok (.ireturn, 1) := by decide +kernel
theorem dX2_takesDigit_0 : decode cX2_takesDigit 0 = .ok (.iload_n 1, 1) := by decide +kernel
theorem dX2_takesDigit_1 : decode cX2_takesDigit 1 = .ok (.bipush 49, 2) := by decide +kernel
theorem dX2_takesDigit_3 : decode cX2_takesDigit 3 = .ok (.if_icmp .ne 8, 3) := by decide +kernel
theorem dX2_takesDigit_6 : decode cX2_takesDigit 6 = .ok (.aload_n 0, 1) := by decide +kernel
theorem dX2_takesDigit_7 : decode cX2_takesDigit 7 = .ok (.invokevirtual 66, 3) := by decide +kernel
theorem dX2_takesDigit_10 : decode cX2_takesDigit 10 = .ok (.ireturn, 1) := by decide +kernel
theorem dX2_takesDigit_11 : decode cX2_takesDigit 11 = .ok (.iload_n 1, 1) := by decide +kernel
theorem dX2_takesDigit_12 : decode cX2_takesDigit 12 = .ok (.bipush 48, 2) := by decide +kernel
theorem dX2_takesDigit_14 : decode cX2_takesDigit 14 = .ok (.if_icmp .lt 24, 3) := by decide +kernel
theorem dX2_takesDigit_17 : decode cX2_takesDigit 17 = .ok (.iload_n 1, 1) := by decide +kernel
theorem dX2_takesDigit_18 : decode cX2_takesDigit 18 = .ok (.bipush 57, 2) := by decide +kernel
theorem dX2_takesDigit_20 : decode cX2_takesDigit 20 = .ok (.if_icmp .gt 18, 3) := by decide +kernel
theorem dX2_takesDigit_23 : decode cX2_takesDigit 23 = .ok (.aload_n 0, 1) := by decide +kernel
theorem dX2_takesDigit_24 : decode cX2_takesDigit 24 = .ok (.iload_n 1, 1) := by decide +kernel
theorem dX2_takesDigit_25 : decode cX2_takesDigit 25 = .ok (.bipush 48, 2) := by decide +kernel
theorem dX2_takesDigit_27 : decode cX2_takesDigit 27 = .ok (.isub, 1) := by decide +kernel
theorem dX2_takesDigit_28 : decode cX2_takesDigit 28 = .ok (.invokevirtual 70, 3) := by decide +kernel
theorem dX2_takesDigit_31 : decode cX2_takesDigit 31 = .ok (.ifCond .eq 7, 3) := by decide +kernel
theorem dX2_takesDigit_34 : decode cX2_takesDigit 34 = .ok (.iconst 1, 1) := by decide +kernel
theorem dX2_takesDigit_35 : decode cX2_takesDigit 35 = .ok (.goto 4, 3) := by decide +kernel
theorem dX2_takesDigit_38 : decode cX2_takesDigit 38 = .ok (.iconst 0, 1) := by decide +kernel
theorem dX2_takesDigit_39 : decode cX2_takesDigit 39 = .ok (.ireturn, 1) := by decide +kernel
theorem dX2_takesOne_0 : decode cX2_takesOne 0 = .ok (.aload_n 0, 1) := by decide +kernel
theorem dX2_takesOne_1 : decode cX2_takesOne 1 = .ok (.getfield 15, 3) := by decide +kernel
theorem dX2_takesOne_4 : decode cX2_takesOne 4 = .ok (.iconst 1, 1) := by decide +kernel
theorem dX2_takesOne_5 : decode cX2_takesOne 5 = .ok (.iaload, 1) := by decide +kernel
theorem dX2_takesOne_6 : decode cX2_takesOne 6 = .ok (.ifCond .eq 25, 3) := by decide +kernel
theorem dX2_takesOne_9 : decode cX2_takesOne 9 = .ok (.aload_n 0, 1) := by decide +kernel
theorem dX2_takesOne_10 : decode cX2_takesOne 10 = .ok (.getfield 15, 3) := by decide +kernel
theorem dX2_takesOne_13 : decode cX2_takesOne 13 = .ok (.bipush 10, 2) := by decide +kernel
theorem dX2_takesOne_15 : decode cX2_takesOne 15 = .ok (.iaload, 1) := by decide +kernel
theorem dX2_takesOne_16 : decode cX2_takesOne 16 = .ok (.ifCond .eq 15, 3) := by decide +kernel
theorem dX2_takesOne_19 : decode cX2_takesOne 19 = .ok (.aload_n 0, 1) := by decide +kernel
theorem dX2_takesOne_20 : decode cX2_takesOne 20 = .ok (.getfield 15, 3) := by decide +kernel
theorem dX2_takesOne_23 : decode cX2_takesOne 23 = .ok (.bipush 11, 2) := by decide +kernel
theorem dX2_takesOne_25 : decode cX2_takesOne 25 = .ok (.iaload, 1) := by decide +kernel
theorem dX2_takesOne_26 : decode cX2_takesOne 26 = .ok (.ifCond .eq 5, 3) := by decide +kernel
theorem dX2_takesOne_29 : decode cX2_takesOne 29 = .ok (.iconst 0, 1) := by decide +kernel
theorem dX2_takesOne_30 : decode cX2_takesOne 30 = .ok (.ireturn, 1) := by decide +kernel
theorem dX2_takesOne_31 : decode cX2_takesOne 31 = .ok (.aload_n 0, 1) := by decide +kernel
theorem dX2_takesOne_32 : decode cX2_takesOne 32 = .ok (.iconst 1, 1) := by decide +kernel
theorem dX2_takesOne_33 : decode cX2_takesOne 33 = .ok (.putfield 29, 3) := by decide +kernel
theorem dX2_takesOne_36 : decode cX2_takesOne 36 = .ok (.aload_n 0, 1) := by decide +kernel
theorem dX2_takesOne_37 : decode cX2_takesOne 37 = .ok (.iconst 1, 1) := by decide +kernel
theorem dX2_takesOne_38 : decode cX2_takesOne 38 = .ok (.putfield 26, 3) := by decide +kernel
theorem dX2_takesOne_41 : decode cX2_takesOne 41 = .ok (.iconst 1, 1) := by decide +kernel
theorem dX2_takesOne_42 : decode cX2_takesOne 42 = .ok (.ireturn, 1) := by decide +kernel
theorem dX2_takesAfterOne_0 : decode cX2_takesAfterOne 0 = .ok (.iload_n 1, 1) := by decide +kernel
theorem dX2_takesAfterOne_1 : decode cX2_takesAfterOne 1 = .ok (.bipush 48, 2) := by decide +kernel
theorem dX2_takesAfterOne_3 : decode cX2_takesAfterOne 3 = .ok (.if_icmp .eq 9, 3) := by decide +kernel
theorem dX2_takesAfterOne_6 : decode cX2_takesAfterOne 6 = .ok (.iload_n 1, 1) := by decide +kernel
theorem dX2_takesAfterOne_7 : decode cX2_takesAfterOne 7 = .ok (.bipush 49, 2) := by decide +kernel
theorem dX2_takesAfterOne_9 : decode cX2_takesAfterOne 9 = .ok (.if_icmp .ne 15, 3) := by decide +kernel
theorem dX2_takesAfterOne_12 : decode cX2_takesAfterOne 12 = .ok (.aload_n 0, 1) := by decide +kernel
theorem dX2_takesAfterOne_13 : decode cX2_takesAfterOne 13 = .ok (.bipush 10, 2) := by decide +kernel
theorem dX2_takesAfterOne_15 : decode cX2_takesAfterOne 15 = .ok (.iload_n 1, 1) := by decide +kernel
theorem dX2_takesAfterOne_16 : decode cX2_takesAfterOne 16 = .ok (.iadd, 1) := by decide +kernel
theorem dX2_takesAfterOne_17 : decode cX2_takesAfterOne 17 = .ok (.bipush 48, 2) := by decide +kernel
theorem dX2_takesAfterOne_19 : decode cX2_takesAfterOne 19 = .ok (.isub, 1) := by decide +kernel
theorem dX2_takesAfterOne_20 : decode cX2_takesAfterOne 20 = .ok (.invokevirtual 70, 3) := by decide +kernel
theorem dX2_takesAfterOne_23 : decode cX2_takesAfterOne 23 = .ok (.ireturn, 1) := by decide +kernel
theorem dX2_takesAfterOne_24 : decode cX2_takesAfterOne 24 = .ok (.aload_n 0, 1) := by decide +kernel
theorem dX2_takesAfterOne_25 : decode cX2_takesAfterOne 25 = .ok (.getfield 15, 3) := by decide +kernel
theorem dX2_takesAfterOne_28 : decode cX2_takesAfterOne 28 = .ok (.iconst 1, 1) := by decide +kernel
theorem dX2_takesAfterOne_29 : decode cX2_takesAfterOne 29 = .ok (.iaload, 1) := by decide +kernel
theorem dX2_takesAfterOne_30 : decode cX2_takesAfterOne 30 = .ok (.ifCond .ne 23, 3) := by decide +kernel
theorem dX2_takesAfterOne_33 : decode cX2_takesAfterOne 33 = .ok (.aload_n 0, 1) := by decide +kernel
theorem dX2_takesAfterOne_34 : decode cX2_takesAfterOne 34 = .ok (.iload_n 1, 1) := by decide +kernel
theorem dX2_takesAfterOne_35 : decode cX2_takesAfterOne 35 = .ok (.invokevirtual 57, 3) := by decide +kernel
theorem dX2_takesAfterOne_38 : decode cX2_takesAfterOne 38 = .ok (.ifCond .ne 11, 3) := by decide +kernel
theorem dX2_takesAfterOne_41 : decode cX2_takesAfterOne 41 = .ok (.aload_n 0, 1) := by decide +kernel
theorem dX2_takesAfterOne_42 : decode cX2_takesAfterOne 42 = .ok (.iload_n 1, 1) := by decide +kernel
theorem dX2_takesAfterOne_43 : decode cX2_takesAfterOne 43 = .ok (.invokevirtual 60, 3) := by decide +kernel
theorem dX2_takesAfterOne_46 : decode cX2_takesAfterOne 46 = .ok (.ifCond .eq 7, 3) := by decide +kernel
theorem dX2_takesAfterOne_49 : decode cX2_takesAfterOne 49 = .ok (.iconst 1, 1) := by decide +kernel
theorem dX2_takesAfterOne_50 : decode cX2_takesAfterOne 50 = .ok (.goto 4, 3) := by decide +kernel
theorem dX2_takesAfterOne_53 : decode cX2_takesAfterOne 53 = .ok (.iconst 0, 1) := by decide +kernel
theorem dX2_takesAfterOne_54 : decode cX2_takesAfterOne 54 = .ok (.ireturn, 1) := by decide +kernel
theorem dX2_takesPen_0 : decode cX2_takesPen 0 = .ok (.iload_n 1, 1) := by decide +kernel
theorem dX2_takesPen_1 : decode cX2_takesPen 1 = .ok (.ifCond .lt 18, 3) := by decide +kernel
theorem dX2_takesPen_4 : decode cX2_takesPen 4 = .ok (.iload_n 1, 1) := by decide +kernel
theorem dX2_takesPen_5 : decode cX2_takesPen 5 = .ok (.bipush 12, 2) := by decide +kernel
theorem dX2_takesPen_7 : decode cX2_takesPen 7 = .ok (.if_icmp .ge 12, 3) := by decide +kernel
theorem dX2_takesPen_10 : decode cX2_takesPen 10 = .ok (.aload_n 0, 1) := by decide +kernel
theorem dX2_takesPen_11 : decode cX2_takesPen 11 = .ok (.getfield 15, 3) := by decide +kernel
theorem dX2_takesPen_14 : decode cX2_takesPen 14 = .ok (.iload_n 1, 1) := by decide +kernel
theorem dX2_takesPen_15 : decode cX2_takesPen 15 = .ok (.iaload, 1) := by decide +kernel
theorem dX2_takesPen_16 : decode cX2_takesPen 16 = .ok (.ifCond .eq 5, 3) := by decide +kernel
theorem dX2_takesPen_19 : decode cX2_takesPen 19 = .ok (.iconst 0, 1) := by decide +kernel
theorem dX2_takesPen_20 : decode cX2_takesPen 20 = .ok (.ireturn, 1) := by decide +kernel
theorem dX2_takesPen_21 : decode cX2_takesPen 21 = .ok (.aload_n 0, 1) := by decide +kernel
theorem dX2_takesPen_22 : decode cX2_takesPen 22 = .ok (.iload_n 1, 1) := by decide +kernel
theorem dX2_takesPen_23 : decode cX2_takesPen 23 = .ok (.putfield 29, 3) := by decide +kernel
theorem dX2_takesPen_26 : decode cX2_takesPen 26 = .ok (.aload_n 0, 1) := by decide +kernel
theorem dX2_takesPen_27 : decode cX2_takesPen 27 = .ok (.iconst 2, 1) := by decide +kernel
theorem dX2_takesPen_28 : decode cX2_takesPen 28 = .ok (.putfield 26, 3) := by decide +kernel
theorem dX2_takesPen_31 : decode cX2_takesPen 31 = .ok (.iconst 1, 1) := by decide +kernel
theorem dX2_takesPen_32 : decode cX2_takesPen 32 = .ok (.ireturn, 1) := by decide +kernel
theorem dX2_takesStar_0 : decode cX2_takesStar 0 = .ok (.iload_n 1, 1) := by decide +kernel
theorem dX2_takesStar_1 : decode cX2_takesStar 1 = .ok (.bipush 42, 2) := by decide +kernel
theorem dX2_takesStar_3 : decode cX2_takesStar 3 = .ok (.if_icmp .eq 5, 3) := by decide +kernel
theorem dX2_takesStar_6 : decode cX2_takesStar 6 = .ok (.iconst 0, 1) := by decide +kernel
theorem dX2_takesStar_7 : decode cX2_takesStar 7 = .ok (.ireturn, 1) := by decide +kernel
theorem dX2_takesStar_8 : decode cX2_takesStar 8 = .ok (.aload_n 0, 1) := by decide +kernel
theorem dX2_takesStar_9 : decode cX2_takesStar 9 = .ok (.iconst 3, 1) := by decide +kernel
theorem dX2_takesStar_10 : decode cX2_takesStar 10 = .ok (.putfield 26, 3) := by decide +kernel
theorem dX2_takesStar_13 : decode cX2_takesStar 13 = .ok (.iconst 1, 1) := by decide +kernel
theorem dX2_takesStar_14 : decode cX2_takesStar 14 = .ok (.ireturn, 1) := by decide +kernel
theorem dX2_takesFactor_0 : decode cX2_takesFactor 0 = .ok (.iload_n 1, 1) := by decide +kernel
theorem dX2_takesFactor_1 : decode cX2_takesFactor 1 = .ok (.bipush 50, 2) := by decide +kernel
theorem dX2_takesFactor_3 : decode cX2_takesFactor 3 = .ok (.if_icmp .lt 9, 3) := by decide +kernel
theorem dX2_takesFactor_6 : decode cX2_takesFactor 6 = .ok (.iload_n 1, 1) := by decide +kernel
theorem dX2_takesFactor_7 : decode cX2_takesFactor 7 = .ok (.bipush 57, 2) := by decide +kernel
theorem dX2_takesFactor_9 : decode cX2_takesFactor 9 = .ok (.if_icmp .le 5, 3) := by decide +kernel
theorem dX2_takesFactor_12 : decode cX2_takesFactor 12 = .ok (.iconst 0, 1) := by decide +kernel
theorem dX2_takesFactor_13 : decode cX2_takesFactor 13 = .ok (.ireturn, 1) := by decide +kernel
theorem dX2_takesFactor_14 : decode cX2_takesFactor 14 = .ok (.aload_n 0, 1) := by decide +kernel
theorem dX2_takesFactor_15 : decode cX2_takesFactor 15 = .ok (.iload_n 1, 1) := by decide +kernel
theorem dX2_takesFactor_16 : decode cX2_takesFactor 16 = .ok (.bipush 48, 2) := by decide +kernel
theorem dX2_takesFactor_18 : decode cX2_takesFactor 18 = .ok (.isub, 1) := by decide +kernel
theorem dX2_takesFactor_19 : decode cX2_takesFactor 19 = .ok (.putfield 41, 3) := by decide +kernel
theorem dX2_takesFactor_22 : decode cX2_takesFactor 22 = .ok (.aload_n 0, 1) := by decide +kernel
theorem dX2_takesFactor_23 : decode cX2_takesFactor 23 = .ok (.iconst 4, 1) := by decide +kernel
theorem dX2_takesFactor_24 : decode cX2_takesFactor 24 = .ok (.putfield 26, 3) := by decide +kernel
theorem dX2_takesFactor_27 : decode cX2_takesFactor 27 = .ok (.iconst 1, 1) := by decide +kernel
theorem dX2_takesFactor_28 : decode cX2_takesFactor 28 = .ok (.ireturn, 1) := by decide +kernel
theorem dX2_takesComma_0 : decode cX2_takesComma 0 = .ok (.iload_n 1, 1) := by decide +kernel
theorem dX2_takesComma_1 : decode cX2_takesComma 1 = .ok (.bipush 44, 2) := by decide +kernel
theorem dX2_takesComma_3 : decode cX2_takesComma 3 = .ok (.if_icmp .ne 11, 3) := by decide +kernel
theorem dX2_takesComma_6 : decode cX2_takesComma 6 = .ok (.aload_n 0, 1) := by decide +kernel
theorem dX2_takesComma_7 : decode cX2_takesComma 7 = .ok (.getfield 44, 3) := by decide +kernel
theorem dX2_takesComma_10 : decode cX2_takesComma 10 = .ok (.iconst 3, 1) := by decide +kernel
theorem dX2_takesComma_11 : decode cX2_takesComma 11 = .ok (.if_icmp .lt 5, 3) := by decide +kernel
theorem dX2_takesComma_14 : decode cX2_takesComma 14 = .ok (.iconst 0, 1) := by decide +kernel
theorem dX2_takesComma_15 : decode cX2_takesComma 15 = .ok (.ireturn, 1) := by decide +kernel
theorem dX2_takesComma_16 : decode cX2_takesComma 16 = .ok (.aload_n 0, 1) := by decide +kernel
theorem dX2_takesComma_17 : decode cX2_takesComma 17 = .ok (.invokevirtual 32, 3) := by decide +kernel
theorem dX2_takesComma_20 : decode cX2_takesComma 20 = .ok (.aload_n 0, 1) := by decide +kernel
theorem dX2_takesComma_21 : decode cX2_takesComma 21 = .ok (.iconst 0, 1) := by decide +kernel
theorem dX2_takesComma_22 : decode cX2_takesComma 22 = .ok (.putfield 26, 3) := by decide +kernel
theorem dX2_takesComma_25 : decode cX2_takesComma 25 = .ok (.iconst 1, 1) := by decide +kernel
theorem dX2_takesComma_26 : decode cX2_takesComma 26 = .ok (.ireturn, 1) := by decide +kernel
theorem dX2_endItem_0 : decode cX2_endItem 0 = .ok (.aload_n 0, 1) := by decide +kernel
theorem dX2_endItem_1 : decode cX2_endItem 1 = .ok (.getfield 15, 3) := by decide +kernel
theorem dX2_endItem_4 : decode cX2_endItem 4 = .ok (.aload_n 0, 1) := by decide +kernel
theorem dX2_endItem_5 : decode cX2_endItem 5 = .ok (.getfield 29, 3) := by decide +kernel
theorem dX2_endItem_8 : decode cX2_endItem 8 = .ok (.aload_n 0, 1) := by decide +kernel
theorem dX2_endItem_9 : decode cX2_endItem 9 = .ok (.getfield 41, 3) := by decide +kernel
theorem dX2_endItem_12 : decode cX2_endItem 12 = .ok (.iastore, 1) := by decide +kernel
theorem dX2_endItem_13 : decode cX2_endItem 13 = .ok (.aload_n 0, 1) := by decide +kernel
theorem dX2_endItem_14 : decode cX2_endItem 14 = .ok (.iconst 1, 1) := by decide +kernel
theorem dX2_endItem_15 : decode cX2_endItem 15 = .ok (.putfield 41, 3) := by decide +kernel
theorem dX2_endItem_18 : decode cX2_endItem 18 = .ok (.aload_n 0, 1) := by decide +kernel
theorem dX2_endItem_19 : decode cX2_endItem 19 = .ok (.dup, 1) := by decide +kernel
theorem dX2_endItem_20 : decode cX2_endItem 20 = .ok (.getfield 44, 3) := by decide +kernel
theorem dX2_endItem_23 : decode cX2_endItem 23 = .ok (.iconst 1, 1) := by decide +kernel
theorem dX2_endItem_24 : decode cX2_endItem 24 = .ok (.iadd, 1) := by decide +kernel
theorem dX2_endItem_25 : decode cX2_endItem 25 = .ok (.putfield 44, 3) := by decide +kernel
theorem dX2_endItem_28 : decode cX2_endItem 28 = .ok (.return_, 1) := by decide +kernel

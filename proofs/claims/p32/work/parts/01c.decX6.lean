theorem dX6_init_0 : decode cX6_init 0 = .ok (.aload_n 0, 1) := by decide +kernel
theorem dX6_init_1 : decode cX6_init 1 = .ok (.invokespecial 1, 3) := by decide +kernel
theorem dX6_init_4 : decode cX6_init 4 = .ok (.aload_n 0, 1) := by decide +kernel
theorem dX6_init_5 : decode cX6_init 5 = .ok (.bipush 7, 2) := by decide +kernel
theorem dX6_init_7 : decode cX6_init 7 = .ok (.anewarray 9, 3) := by decide +kernel
theorem dX6_init_10 : decode cX6_init 10 = .ok (.putfield 11, 3) := by decide +kernel
theorem dX6_init_13 : decode cX6_init 13 = .ok (.aload_n 0, 1) := by decide +kernel
theorem dX6_init_14 : decode cX6_init 14 = .ok (.new 15, 3) := by decide +kernel
theorem dX6_init_17 : decode cX6_init 17 = .ok (.dup, 1) := by decide +kernel
theorem dX6_init_18 : decode cX6_init 18 = .ok (.invokespecial 17, 3) := by decide +kernel
theorem dX6_init_21 : decode cX6_init 21 = .ok (.putfield 18, 3) := by decide +kernel
theorem dX6_init_24 : decode cX6_init 24 = .ok (.aload_n 0, 1) := by decide +kernel
theorem dX6_init_25 : decode cX6_init 25 = .ok (.new 22, 3) := by decide +kernel
theorem dX6_init_28 : decode cX6_init 28 = .ok (.dup, 1) := by decide +kernel
theorem dX6_init_29 : decode cX6_init 29 = .ok (.invokespecial 24, 3) := by decide +kernel
theorem dX6_init_32 : decode cX6_init 32 = .ok (.putfield 25, 3) := by decide +kernel
theorem dX6_init_35 : decode cX6_init 35 = .ok (.aload_n 0, 1) := by decide +kernel
theorem dX6_init_36 : decode cX6_init 36 = .ok (.new 29, 3) := by decide +kernel
theorem dX6_init_39 : decode cX6_init 39 = .ok (.dup, 1) := by decide +kernel
theorem dX6_init_40 : decode cX6_init 40 = .ok (.invokespecial 31, 3) := by decide +kernel
theorem dX6_init_43 : decode cX6_init 43 = .ok (.putfield 32, 3) := by decide +kernel
theorem dX6_init_46 : decode cX6_init 46 = .ok (.aload_n 0, 1) := by decide +kernel
theorem dX6_init_47 : decode cX6_init 47 = .ok (.bipush 12, 2) := by decide +kernel
theorem dX6_init_49 : decode cX6_init 49 = .ok (.newarray .int, 2) := by decide +kernel
theorem dX6_init_51 : decode cX6_init 51 = .ok (.putfield 36, 3) := by decide +kernel
theorem dX6_init_54 : decode cX6_init 54 = .ok (.aload_n 0, 1) := by decide +kernel
theorem dX6_init_55 : decode cX6_init 55 = .ok (.bipush 12, 2) := by decide +kernel
theorem dX6_init_57 : decode cX6_init 57 = .ok (.newarray .int, 2) := by decide +kernel
theorem dX6_init_59 : decode cX6_init 59 = .ok (.putfield 40, 3) := by decide +kernel
theorem dX6_init_62 : decode cX6_init 62 = .ok (.iconst 0, 1) := by decide +kernel
theorem dX6_init_63 : decode cX6_init 63 = .ok (.istore_n 1, 1) := by decide +kernel
theorem dX6_init_64 : decode cX6_init 64 = .ok (.iload_n 1, 1) := by decide +kernel
theorem dX6_init_65 : decode cX6_init 65 = .ok (.aload_n 0, 1) := by decide +kernel
theorem dX6_init_66 : decode cX6_init 66 = .ok (.getfield 11, 3) := by decide +kernel
theorem dX6_init_69 : decode cX6_init 69 = .ok (.arraylength, 1) := by decide +kernel
theorem dX6_init_70 : decode cX6_init 70 = .ok (.if_icmp .ge 22, 3) := by decide +kernel
theorem dX6_init_73 : decode cX6_init 73 = .ok (.aload_n 0, 1) := by decide +kernel
theorem dX6_init_74 : decode cX6_init 74 = .ok (.getfield 11, 3) := by decide +kernel
theorem dX6_init_77 : decode cX6_init 77 = .ok (.iload_n 1, 1) := by decide +kernel
theorem dX6_init_78 : decode cX6_init 78 = .ok (.new 9, 3) := by decide +kernel
theorem dX6_init_81 : decode cX6_init 81 = .ok (.dup, 1) := by decide +kernel
theorem dX6_init_82 : decode cX6_init 82 = .ok (.invokespecial 43, 3) := by decide +kernel
theorem dX6_init_85 : decode cX6_init 85 = .ok (.aastore, 1) := by decide +kernel
theorem dX6_init_86 : decode cX6_init 86 = .ok (.iinc 1 1, 3) := by decide +kernel
theorem dX6_init_89 : decode cX6_init 89 = .ok (.goto (-25), 3) := by decide +kernel
theorem dX6_init_92 : decode cX6_init 92 = .ok (.aload_n 0, 1) := by decide +kernel
theorem dX6_init_93 : decode cX6_init 93 = .ok (.aload_n 0, 1) := by decide +kernel
theorem dX6_init_94 : decode cX6_init 94 = .ok (.getfield 11, 3) := by decide +kernel
theorem dX6_init_97 : decode cX6_init 97 = .ok (.iconst 0, 1) := by decide +kernel
theorem dX6_init_98 : decode cX6_init 98 = .ok (.aaload, 1) := by decide +kernel
theorem dX6_init_99 : decode cX6_init 99 = .ok (.putfield 44, 3) := by decide +kernel
theorem dX6_init_102 : decode cX6_init 102 = .ok (.return_, 1) := by decide +kernel
theorem dX6_addPen_0 : decode cX6_addPen 0 = .ok (.aload_n 0, 1) := by decide +kernel
theorem dX6_addPen_1 : decode cX6_addPen 1 = .ok (.getfield 44, 3) := by decide +kernel
theorem dX6_addPen_4 : decode cX6_addPen 4 = .ok (.getfield 48, 3) := by decide +kernel
theorem dX6_addPen_7 : decode cX6_addPen 7 = .ok (.getfield 52, 3) := by decide +kernel
theorem dX6_addPen_10 : decode cX6_addPen 10 = .ok (.bipush 12, 2) := by decide +kernel
theorem dX6_addPen_12 : decode cX6_addPen 12 = .ok (.if_icmp .lt 13, 3) := by decide +kernel
theorem dX6_addPen_15 : decode cX6_addPen 15 = .ok (.new 58, 3) := by decide +kernel
theorem dX6_addPen_18 : decode cX6_addPen 18 = .ok (.dup, 1) := by decide +kernel
theorem dX6_addPen_19 : decode cX6_addPen 19 = .ok (.ldc 60, 2) := by decide +kernel
theorem dX6_addPen_21 : decode cX6_addPen 21 = .ok (.invokespecial 62, 3) := by decide +kernel
theorem dX6_addPen_24 : decode cX6_addPen 24 = .ok (.athrow, 1) := by decide +kernel
theorem dX6_addPen_25 : decode cX6_addPen 25 = .ok (.aload_n 0, 1) := by decide +kernel
theorem dX6_addPen_26 : decode cX6_addPen 26 = .ok (.invokevirtual 65, 3) := by decide +kernel
theorem dX6_addPen_29 : decode cX6_addPen 29 = .ok (.aload_n 0, 1) := by decide +kernel
theorem dX6_addPen_30 : decode cX6_addPen 30 = .ok (.getfield 44, 3) := by decide +kernel
theorem dX6_addPen_33 : decode cX6_addPen 33 = .ok (.getfield 48, 3) := by decide +kernel
theorem dX6_addPen_36 : decode cX6_addPen 36 = .ok (.getfield 52, 3) := by decide +kernel
theorem dX6_addPen_39 : decode cX6_addPen 39 = .ok (.istore_n 1, 1) := by decide +kernel
theorem dX6_addPen_40 : decode cX6_addPen 40 = .ok (.aload_n 0, 1) := by decide +kernel
theorem dX6_addPen_41 : decode cX6_addPen 41 = .ok (.getfield 44, 3) := by decide +kernel
theorem dX6_addPen_44 : decode cX6_addPen 44 = .ok (.getfield 48, 3) := by decide +kernel
theorem dX6_addPen_47 : decode cX6_addPen 47 = .ok (.getfield 68, 3) := by decide +kernel
theorem dX6_addPen_50 : decode cX6_addPen 50 = .ok (.iload_n 1, 1) := by decide +kernel
theorem dX6_addPen_51 : decode cX6_addPen 51 = .ok (.iload_n 1, 1) := by decide +kernel
theorem dX6_addPen_52 : decode cX6_addPen 52 = .ok (.iastore, 1) := by decide +kernel
theorem dX6_addPen_53 : decode cX6_addPen 53 = .ok (.aload_n 0, 1) := by decide +kernel
theorem dX6_addPen_54 : decode cX6_addPen 54 = .ok (.getfield 44, 3) := by decide +kernel
theorem dX6_addPen_57 : decode cX6_addPen 57 = .ok (.getfield 48, 3) := by decide +kernel
theorem dX6_addPen_60 : decode cX6_addPen 60 = .ok (.iload_n 1, 1) := by decide +kernel
theorem dX6_addPen_61 : decode cX6_addPen 61 = .ok (.iconst 1, 1) := by decide +kernel
theorem dX6_addPen_62 : decode cX6_addPen 62 = .ok (.iadd, 1) := by decide +kernel
theorem dX6_addPen_63 : decode cX6_addPen 63 = .ok (.putfield 52, 3) := by decide +kernel
theorem dX6_addPen_66 : decode cX6_addPen 66 = .ok (.iload_n 1, 1) := by decide +kernel
theorem dX6_addPen_67 : decode cX6_addPen 67 = .ok (.ireturn, 1) := by decide +kernel
theorem dX6_sell_0 : decode cX6_sell 0 = .ok (.aload_n 0, 1) := by decide +kernel
theorem dX6_sell_1 : decode cX6_sell 1 = .ok (.iload_n 1, 1) := by decide +kernel
theorem dX6_sell_2 : decode cX6_sell 2 = .ok (.invokevirtual 71, 3) := by decide +kernel
theorem dX6_sell_5 : decode cX6_sell 5 = .ok (.aload_n 0, 1) := by decide +kernel
theorem dX6_sell_6 : decode cX6_sell 6 = .ok (.iload_n 2, 1) := by decide +kernel
theorem dX6_sell_7 : decode cX6_sell 7 = .ok (.invokevirtual 71, 3) := by decide +kernel
theorem dX6_sell_10 : decode cX6_sell 10 = .ok (.iload_n 3, 1) := by decide +kernel
theorem dX6_sell_11 : decode cX6_sell 11 = .ok (.iconst 0, 1) := by decide +kernel
theorem dX6_sell_12 : decode cX6_sell 12 = .ok (.ldc 75, 2) := by decide +kernel
theorem dX6_sell_14 : decode cX6_sell 14 = .ok (.invokestatic 76, 3) := by decide +kernel
theorem dX6_sell_17 : decode cX6_sell 17 = .ok (.aload_n 0, 1) := by decide +kernel
theorem dX6_sell_18 : decode cX6_sell 18 = .ok (.getfield 44, 3) := by decide +kernel
theorem dX6_sell_21 : decode cX6_sell 21 = .ok (.getfield 48, 3) := by decide +kernel
theorem dX6_sell_24 : decode cX6_sell 24 = .ok (.getfield 68, 3) := by decide +kernel
theorem dX6_sell_27 : decode cX6_sell 27 = .ok (.iload_n 1, 1) := by decide +kernel
theorem dX6_sell_28 : decode cX6_sell 28 = .ok (.iaload, 1) := by decide +kernel
theorem dX6_sell_29 : decode cX6_sell 29 = .ok (.istore 4, 2) := by decide +kernel
theorem dX6_sell_31 : decode cX6_sell 31 = .ok (.iload 4, 2) := by decide +kernel
theorem dX6_sell_33 : decode cX6_sell 33 = .ok (.iload_n 2, 1) := by decide +kernel
theorem dX6_sell_34 : decode cX6_sell 34 = .ok (.if_icmp .ne 13, 3) := by decide +kernel
theorem dX6_sell_37 : decode cX6_sell 37 = .ok (.new 80, 3) := by decide +kernel
theorem dX6_sell_40 : decode cX6_sell 40 = .ok (.dup, 1) := by decide +kernel
theorem dX6_sell_41 : decode cX6_sell 41 = .ok (.ldc 82, 2) := by decide +kernel
theorem dX6_sell_43 : decode cX6_sell 43 = .ok (.invokespecial 84, 3) := by decide +kernel
theorem dX6_sell_46 : decode cX6_sell 46 = .ok (.athrow, 1) := by decide +kernel
theorem dX6_sell_47 : decode cX6_sell 47 = .ok (.aload_n 0, 1) := by decide +kernel
theorem dX6_sell_48 : decode cX6_sell 48 = .ok (.getfield 44, 3) := by decide +kernel
theorem dX6_sell_51 : decode cX6_sell 51 = .ok (.getfield 48, 3) := by decide +kernel
theorem dX6_sell_54 : decode cX6_sell 54 = .ok (.getfield 85, 3) := by decide +kernel
theorem dX6_sell_57 : decode cX6_sell 57 = .ok (.iload_n 2, 1) := by decide +kernel
theorem dX6_sell_58 : decode cX6_sell 58 = .ok (.iaload, 1) := by decide +kernel
theorem dX6_sell_59 : decode cX6_sell 59 = .ok (.iload_n 3, 1) := by decide +kernel
theorem dX6_sell_60 : decode cX6_sell 60 = .ok (.invokestatic 88, 3) := by decide +kernel
theorem dX6_sell_63 : decode cX6_sell 63 = .ok (.aload_n 0, 1) := by decide +kernel
theorem dX6_sell_64 : decode cX6_sell 64 = .ok (.invokevirtual 65, 3) := by decide +kernel
theorem dX6_sell_67 : decode cX6_sell 67 = .ok (.aload_n 0, 1) := by decide +kernel
theorem dX6_sell_68 : decode cX6_sell 68 = .ok (.getfield 44, 3) := by decide +kernel
theorem dX6_sell_71 : decode cX6_sell 71 = .ok (.getfield 48, 3) := by decide +kernel
theorem dX6_sell_74 : decode cX6_sell 74 = .ok (.iload_n 1, 1) := by decide +kernel
theorem dX6_sell_75 : decode cX6_sell 75 = .ok (.iload_n 2, 1) := by decide +kernel
theorem dX6_sell_76 : decode cX6_sell 76 = .ok (.iload_n 3, 1) := by decide +kernel
theorem dX6_sell_77 : decode cX6_sell 77 = .ok (.invokevirtual 92, 3) := by decide +kernel
theorem dX6_sell_80 : decode cX6_sell 80 = .ok (.iload 4, 2) := by decide +kernel
theorem dX6_sell_82 : decode cX6_sell 82 = .ok (.ireturn, 1) := by decide +kernel
theorem dX6_buyBack_0 : decode cX6_buyBack 0 = .ok (.aload_n 0, 1) := by decide +kernel
theorem dX6_buyBack_1 : decode cX6_buyBack 1 = .ok (.iload_n 1, 1) := by decide +kernel
theorem dX6_buyBack_2 : decode cX6_buyBack 2 = .ok (.invokevirtual 71, 3) := by decide +kernel
theorem dX6_buyBack_5 : decode cX6_buyBack 5 = .ok (.aload_n 0, 1) := by decide +kernel
theorem dX6_buyBack_6 : decode cX6_buyBack 6 = .ok (.getfield 44, 3) := by decide +kernel
theorem dX6_buyBack_9 : decode cX6_buyBack 9 = .ok (.getfield 48, 3) := by decide +kernel
theorem dX6_buyBack_12 : decode cX6_buyBack 12 = .ok (.getfield 68, 3) := by decide +kernel
theorem dX6_buyBack_15 : decode cX6_buyBack 15 = .ok (.iload_n 1, 1) := by decide +kernel
theorem dX6_buyBack_16 : decode cX6_buyBack 16 = .ok (.iaload, 1) := by decide +kernel
theorem dX6_buyBack_17 : decode cX6_buyBack 17 = .ok (.iload_n 1, 1) := by decide +kernel
theorem dX6_buyBack_18 : decode cX6_buyBack 18 = .ok (.if_icmp .ne 13, 3) := by decide +kernel
theorem dX6_buyBack_21 : decode cX6_buyBack 21 = .ok (.new 58, 3) := by decide +kernel
theorem dX6_buyBack_24 : decode cX6_buyBack 24 = .ok (.dup, 1) := by decide +kernel
theorem dX6_buyBack_25 : decode cX6_buyBack 25 = .ok (.ldc 95, 2) := by decide +kernel
theorem dX6_buyBack_27 : decode cX6_buyBack 27 = .ok (.invokespecial 62, 3) := by decide +kernel
theorem dX6_buyBack_30 : decode cX6_buyBack 30 = .ok (.athrow, 1) := by decide +kernel
theorem dX6_buyBack_31 : decode cX6_buyBack 31 = .ok (.aload_n 0, 1) := by decide +kernel
theorem dX6_buyBack_32 : decode cX6_buyBack 32 = .ok (.getfield 44, 3) := by decide +kernel
theorem dX6_buyBack_35 : decode cX6_buyBack 35 = .ok (.getfield 48, 3) := by decide +kernel
theorem dX6_buyBack_38 : decode cX6_buyBack 38 = .ok (.getfield 97, 3) := by decide +kernel
theorem dX6_buyBack_41 : decode cX6_buyBack 41 = .ok (.iload_n 1, 1) := by decide +kernel
theorem dX6_buyBack_42 : decode cX6_buyBack 42 = .ok (.iaload, 1) := by decide +kernel
theorem dX6_buyBack_43 : decode cX6_buyBack 43 = .ok (.aload_n 0, 1) := by decide +kernel
theorem dX6_buyBack_44 : decode cX6_buyBack 44 = .ok (.getfield 44, 3) := by decide +kernel
theorem dX6_buyBack_47 : decode cX6_buyBack 47 = .ok (.getfield 48, 3) := by decide +kernel
theorem dX6_buyBack_50 : decode cX6_buyBack 50 = .ok (.getfield 97, 3) := by decide +kernel
theorem dX6_buyBack_53 : decode cX6_buyBack 53 = .ok (.iload_n 1, 1) := by decide +kernel
theorem dX6_buyBack_54 : decode cX6_buyBack 54 = .ok (.iaload, 1) := by decide +kernel
theorem dX6_buyBack_55 : decode cX6_buyBack 55 = .ok (.bipush 10, 2) := by decide +kernel
theorem dX6_buyBack_57 : decode cX6_buyBack 57 = .ok (.idiv, 1) := by decide +kernel
theorem dX6_buyBack_58 : decode cX6_buyBack 58 = .ok (.iadd, 1) := by decide +kernel
theorem dX6_buyBack_59 : decode cX6_buyBack 59 = .ok (.istore_n 2, 1) := by decide +kernel
theorem dX6_buyBack_60 : decode cX6_buyBack 60 = .ok (.aload_n 0, 1) := by decide +kernel
theorem dX6_buyBack_61 : decode cX6_buyBack 61 = .ok (.getfield 44, 3) := by decide +kernel
theorem dX6_buyBack_64 : decode cX6_buyBack 64 = .ok (.getfield 48, 3) := by decide +kernel
theorem dX6_buyBack_67 : decode cX6_buyBack 67 = .ok (.getfield 85, 3) := by decide +kernel
theorem dX6_buyBack_70 : decode cX6_buyBack 70 = .ok (.iload_n 1, 1) := by decide +kernel
theorem dX6_buyBack_71 : decode cX6_buyBack 71 = .ok (.iaload, 1) := by decide +kernel
theorem dX6_buyBack_72 : decode cX6_buyBack 72 = .ok (.iload_n 2, 1) := by decide +kernel
theorem dX6_buyBack_73 : decode cX6_buyBack 73 = .ok (.invokestatic 88, 3) := by decide +kernel
theorem dX6_buyBack_76 : decode cX6_buyBack 76 = .ok (.aload_n 0, 1) := by decide +kernel
theorem dX6_buyBack_77 : decode cX6_buyBack 77 = .ok (.invokevirtual 65, 3) := by decide +kernel
theorem dX6_buyBack_80 : decode cX6_buyBack 80 = .ok (.aload_n 0, 1) := by decide +kernel
theorem dX6_buyBack_81 : decode cX6_buyBack 81 = .ok (.getfield 44, 3) := by decide +kernel
theorem dX6_buyBack_84 : decode cX6_buyBack 84 = .ok (.getfield 48, 3) := by decide +kernel
theorem dX6_buyBack_87 : decode cX6_buyBack 87 = .ok (.iload_n 1, 1) := by decide +kernel
theorem dX6_buyBack_88 : decode cX6_buyBack 88 = .ok (.iload_n 1, 1) := by decide +kernel
theorem dX6_buyBack_89 : decode cX6_buyBack 89 = .ok (.iload_n 2, 1) := by decide +kernel
theorem dX6_buyBack_90 : decode cX6_buyBack 90 = .ok (.invokevirtual 92, 3) := by decide +kernel
theorem dX6_buyBack_93 : decode cX6_buyBack 93 = .ok (.iload_n 2, 1) := by decide +kernel
theorem dX6_buyBack_94 : decode cX6_buyBack 94 = .ok (.ireturn, 1) := by decide +kernel
theorem dX6_advance_0 : decode cX6_advance 0 = .ok (.aload_n 0, 1) := by decide +kernel
theorem dX6_advance_1 : decode cX6_advance 1 = .ok (.iload_n 1, 1) := by decide +kernel
theorem dX6_advance_2 : decode cX6_advance 2 = .ok (.invokevirtual 71, 3) := by decide +kernel
theorem dX6_advance_5 : decode cX6_advance 5 = .ok (.iload_n 2, 1) := by decide +kernel
theorem dX6_advance_6 : decode cX6_advance 6 = .ok (.iconst 1, 1) := by decide +kernel
theorem dX6_advance_7 : decode cX6_advance 7 = .ok (.ldc 75, 2) := by decide +kernel
theorem dX6_advance_9 : decode cX6_advance 9 = .ok (.invokestatic 76, 3) := by decide +kernel
theorem dX6_advance_12 : decode cX6_advance 12 = .ok (.aload_n 0, 1) := by decide +kernel
theorem dX6_advance_13 : decode cX6_advance 13 = .ok (.getfield 44, 3) := by decide +kernel
theorem dX6_advance_16 : decode cX6_advance 16 = .ok (.getfield 100, 3) := by decide +kernel
theorem dX6_advance_19 : decode cX6_advance 19 = .ok (.iload_n 2, 1) := by decide +kernel
theorem dX6_advance_20 : decode cX6_advance 20 = .ok (.invokestatic 88, 3) := by decide +kernel
theorem dX6_advance_23 : decode cX6_advance 23 = .ok (.aload_n 0, 1) := by decide +kernel
theorem dX6_advance_24 : decode cX6_advance 24 = .ok (.invokevirtual 65, 3) := by decide +kernel
theorem dX6_advance_27 : decode cX6_advance 27 = .ok (.aload_n 0, 1) := by decide +kernel
theorem dX6_advance_28 : decode cX6_advance 28 = .ok (.getfield 44, 3) := by decide +kernel
theorem dX6_advance_31 : decode cX6_advance 31 = .ok (.dup, 1) := by decide +kernel
theorem dX6_advance_32 : decode cX6_advance 32 = .ok (.getfield 100, 3) := by decide +kernel
theorem dX6_advance_35 : decode cX6_advance 35 = .ok (.iload_n 2, 1) := by decide +kernel
theorem dX6_advance_36 : decode cX6_advance 36 = .ok (.isub, 1) := by decide +kernel
theorem dX6_advance_37 : decode cX6_advance 37 = .ok (.putfield 100, 3) := by decide +kernel
theorem dX6_advance_40 : decode cX6_advance 40 = .ok (.aload_n 0, 1) := by decide +kernel
theorem dX6_advance_41 : decode cX6_advance 41 = .ok (.getfield 44, 3) := by decide +kernel
theorem dX6_advance_44 : decode cX6_advance 44 = .ok (.getfield 48, 3) := by decide +kernel
theorem dX6_advance_47 : decode cX6_advance 47 = .ok (.getfield 85, 3) := by decide +kernel
theorem dX6_advance_50 : decode cX6_advance 50 = .ok (.iload_n 1, 1) := by decide +kernel
theorem dX6_advance_51 : decode cX6_advance 51 = .ok (.dup2, 1) := by decide +kernel
theorem dX6_advance_52 : decode cX6_advance 52 = .ok (.iaload, 1) := by decide +kernel
theorem dX6_advance_53 : decode cX6_advance 53 = .ok (.iload_n 2, 1) := by decide +kernel
theorem dX6_advance_54 : decode cX6_advance 54 = .ok (.iadd, 1) := by decide +kernel
theorem dX6_advance_55 : decode cX6_advance 55 = .ok (.iastore, 1) := by decide +kernel
theorem dX6_advance_56 : decode cX6_advance 56 = .ok (.aload_n 0, 1) := by decide +kernel
theorem dX6_advance_57 : decode cX6_advance 57 = .ok (.getfield 44, 3) := by decide +kernel
theorem dX6_advance_60 : decode cX6_advance 60 = .ok (.getfield 48, 3) := by decide +kernel
theorem dX6_advance_63 : decode cX6_advance 63 = .ok (.getfield 103, 3) := by decide +kernel
theorem dX6_advance_66 : decode cX6_advance 66 = .ok (.iload_n 1, 1) := by decide +kernel
theorem dX6_advance_67 : decode cX6_advance 67 = .ok (.dup2, 1) := by decide +kernel
theorem dX6_advance_68 : decode cX6_advance 68 = .ok (.iaload, 1) := by decide +kernel
theorem dX6_advance_69 : decode cX6_advance 69 = .ok (.iload_n 2, 1) := by decide +kernel
theorem dX6_advance_70 : decode cX6_advance 70 = .ok (.iadd, 1) := by decide +kernel
theorem dX6_advance_71 : decode cX6_advance 71 = .ok (.iastore, 1) := by decide +kernel
theorem dX6_advance_72 : decode cX6_advance 72 = .ok (.aload_n 0, 1) := by decide +kernel
theorem dX6_advance_73 : decode cX6_advance 73 = .ok (.getfield 44, 3) := by decide +kernel
theorem dX6_advance_76 : decode cX6_advance 76 = .ok (.getfield 48, 3) := by decide +kernel
theorem dX6_advance_79 : decode cX6_advance 79 = .ok (.getfield 103, 3) := by decide +kernel
theorem dX6_advance_82 : decode cX6_advance 82 = .ok (.iload_n 1, 1) := by decide +kernel
theorem dX6_advance_83 : decode cX6_advance 83 = .ok (.iaload, 1) := by decide +kernel
theorem dX6_advance_84 : decode cX6_advance 84 = .ok (.ireturn, 1) := by decide +kernel
theorem dX6_withdraw_0 : decode cX6_withdraw 0 = .ok (.aload_n 0, 1) := by decide +kernel
theorem dX6_withdraw_1 : decode cX6_withdraw 1 = .ok (.iload_n 1, 1) := by decide +kernel
theorem dX6_withdraw_2 : decode cX6_withdraw 2 = .ok (.invokevirtual 71, 3) := by decide +kernel
theorem dX6_withdraw_5 : decode cX6_withdraw 5 = .ok (.iload_n 2, 1) := by decide +kernel
theorem dX6_withdraw_6 : decode cX6_withdraw 6 = .ok (.iconst 1, 1) := by decide +kernel
theorem dX6_withdraw_7 : decode cX6_withdraw 7 = .ok (.ldc 75, 2) := by decide +kernel
theorem dX6_withdraw_9 : decode cX6_withdraw 9 = .ok (.invokestatic 76, 3) := by decide +kernel
theorem dX6_withdraw_12 : decode cX6_withdraw 12 = .ok (.aload_n 0, 1) := by decide +kernel
theorem dX6_withdraw_13 : decode cX6_withdraw 13 = .ok (.getfield 44, 3) := by decide +kernel
theorem dX6_withdraw_16 : decode cX6_withdraw 16 = .ok (.getfield 48, 3) := by decide +kernel
theorem dX6_withdraw_19 : decode cX6_withdraw 19 = .ok (.getfield 85, 3) := by decide +kernel
theorem dX6_withdraw_22 : decode cX6_withdraw 22 = .ok (.iload_n 1, 1) := by decide +kernel
theorem dX6_withdraw_23 : decode cX6_withdraw 23 = .ok (.iaload, 1) := by decide +kernel
theorem dX6_withdraw_24 : decode cX6_withdraw 24 = .ok (.iload_n 2, 1) := by decide +kernel
theorem dX6_withdraw_25 : decode cX6_withdraw 25 = .ok (.invokestatic 88, 3) := by decide +kernel
theorem dX6_withdraw_28 : decode cX6_withdraw 28 = .ok (.aload_n 0, 1) := by decide +kernel
theorem dX6_withdraw_29 : decode cX6_withdraw 29 = .ok (.invokevirtual 65, 3) := by decide +kernel
theorem dX6_withdraw_32 : decode cX6_withdraw 32 = .ok (.aload_n 0, 1) := by decide +kernel
theorem dX6_withdraw_33 : decode cX6_withdraw 33 = .ok (.getfield 44, 3) := by decide +kernel
theorem dX6_withdraw_36 : decode cX6_withdraw 36 = .ok (.getfield 48, 3) := by decide +kernel
theorem dX6_withdraw_39 : decode cX6_withdraw 39 = .ok (.getfield 85, 3) := by decide +kernel
theorem dX6_withdraw_42 : decode cX6_withdraw 42 = .ok (.iload_n 1, 1) := by decide +kernel
theorem dX6_withdraw_43 : decode cX6_withdraw 43 = .ok (.dup2, 1) := by decide +kernel
theorem dX6_withdraw_44 : decode cX6_withdraw 44 = .ok (.iaload, 1) := by decide +kernel
theorem dX6_withdraw_45 : decode cX6_withdraw 45 = .ok (.iload_n 2, 1) := by decide +kernel
theorem dX6_withdraw_46 : decode cX6_withdraw 46 = .ok (.isub, 1) := by decide +kernel
theorem dX6_withdraw_47 : decode cX6_withdraw 47 = .ok (.iastore, 1) := by decide +kernel
theorem dX6_withdraw_48 : decode cX6_withdraw 48 = .ok (.aload_n 0, 1) := by decide +kernel
theorem dX6_withdraw_49 : decode cX6_withdraw 49 = .ok (.getfield 44, 3) := by decide +kernel
theorem dX6_withdraw_52 : decode cX6_withdraw 52 = .ok (.getfield 48, 3) := by decide +kernel
theorem dX6_withdraw_55 : decode cX6_withdraw 55 = .ok (.getfield 106, 3) := by decide +kernel
theorem dX6_withdraw_58 : decode cX6_withdraw 58 = .ok (.iload_n 1, 1) := by decide +kernel
theorem dX6_withdraw_59 : decode cX6_withdraw 59 = .ok (.dup2, 1) := by decide +kernel
theorem dX6_withdraw_60 : decode cX6_withdraw 60 = .ok (.iaload, 1) := by decide +kernel
theorem dX6_withdraw_61 : decode cX6_withdraw 61 = .ok (.iload_n 2, 1) := by decide +kernel
theorem dX6_withdraw_62 : decode cX6_withdraw 62 = .ok (.iadd, 1) := by decide +kernel
theorem dX6_withdraw_63 : decode cX6_withdraw 63 = .ok (.iastore, 1) := by decide +kernel
theorem dX6_withdraw_64 : decode cX6_withdraw 64 = .ok (.aload_n 0, 1) := by decide +kernel
theorem dX6_withdraw_65 : decode cX6_withdraw 65 = .ok (.getfield 44, 3) := by decide +kernel
theorem dX6_withdraw_68 : decode cX6_withdraw 68 = .ok (.getfield 48, 3) := by decide +kernel
theorem dX6_withdraw_71 : decode cX6_withdraw 71 = .ok (.getfield 85, 3) := by decide +kernel
theorem dX6_withdraw_74 : decode cX6_withdraw 74 = .ok (.iload_n 1, 1) := by decide +kernel
theorem dX6_withdraw_75 : decode cX6_withdraw 75 = .ok (.iaload, 1) := by decide +kernel
theorem dX6_withdraw_76 : decode cX6_withdraw 76 = .ok (.ireturn, 1) := by decide +kernel
theorem dX6_set_0 : decode cX6_set 0 = .ok (.iload_n 1, 1) := by decide +kernel
theorem dX6_set_1 : decode cX6_set 1 = .ok (.invokestatic 109, 3) := by decide +kernel
theorem dX6_set_4 : decode cX6_set 4 = .ok (.iload_n 2, 1) := by decide +kernel
theorem dX6_set_5 : decode cX6_set 5 = .ok (.iconst 0, 1) := by decide +kernel
theorem dX6_set_6 : decode cX6_set 6 = .ok (.getstatic 112, 3) := by decide +kernel
theorem dX6_set_9 : decode cX6_set 9 = .ok (.iload_n 1, 1) := by decide +kernel
theorem dX6_set_10 : decode cX6_set 10 = .ok (.iaload, 1) := by decide +kernel
theorem dX6_set_11 : decode cX6_set 11 = .ok (.invokestatic 76, 3) := by decide +kernel
theorem dX6_set_14 : decode cX6_set 14 = .ok (.aload_n 0, 1) := by decide +kernel
theorem dX6_set_15 : decode cX6_set 15 = .ok (.invokevirtual 65, 3) := by decide +kernel
theorem dX6_set_18 : decode cX6_set 18 = .ok (.aload_n 0, 1) := by decide +kernel
theorem dX6_set_19 : decode cX6_set 19 = .ok (.getfield 44, 3) := by decide +kernel
theorem dX6_set_22 : decode cX6_set 22 = .ok (.getfield 115, 3) := by decide +kernel
theorem dX6_set_25 : decode cX6_set 25 = .ok (.iload_n 1, 1) := by decide +kernel
theorem dX6_set_26 : decode cX6_set 26 = .ok (.iaload, 1) := by decide +kernel
theorem dX6_set_27 : decode cX6_set 27 = .ok (.istore_n 3, 1) := by decide +kernel
theorem dX6_set_28 : decode cX6_set 28 = .ok (.aload_n 0, 1) := by decide +kernel
theorem dX6_set_29 : decode cX6_set 29 = .ok (.getfield 44, 3) := by decide +kernel
theorem dX6_set_32 : decode cX6_set 32 = .ok (.getfield 115, 3) := by decide +kernel
theorem dX6_set_35 : decode cX6_set 35 = .ok (.iload_n 1, 1) := by decide +kernel
theorem dX6_set_36 : decode cX6_set 36 = .ok (.iload_n 2, 1) := by decide +kernel
theorem dX6_set_37 : decode cX6_set 37 = .ok (.iastore, 1) := by decide +kernel
theorem dX6_set_38 : decode cX6_set 38 = .ok (.iload_n 3, 1) := by decide +kernel
theorem dX6_set_39 : decode cX6_set 39 = .ok (.ireturn, 1) := by decide +kernel
theorem dX6_nextYear_0 : decode cX6_nextYear 0 = .ok (.aload_n 0, 1) := by decide +kernel
theorem dX6_nextYear_1 : decode cX6_nextYear 1 = .ok (.invokevirtual 65, 3) := by decide +kernel
theorem dX6_nextYear_4 : decode cX6_nextYear 4 = .ok (.aload_n 0, 1) := by decide +kernel
theorem dX6_nextYear_5 : decode cX6_nextYear 5 = .ok (.getfield 44, 3) := by decide +kernel
theorem dX6_nextYear_8 : decode cX6_nextYear 8 = .ok (.dup, 1) := by decide +kernel
theorem dX6_nextYear_9 : decode cX6_nextYear 9 = .ok (.getfield 118, 3) := by decide +kernel
theorem dX6_nextYear_12 : decode cX6_nextYear 12 = .ok (.iconst 1, 1) := by decide +kernel
theorem dX6_nextYear_13 : decode cX6_nextYear 13 = .ok (.iadd, 1) := by decide +kernel
theorem dX6_nextYear_14 : decode cX6_nextYear 14 = .ok (.putfield 118, 3) := by decide +kernel
theorem dX6_nextYear_17 : decode cX6_nextYear 17 = .ok (.aload_n 0, 1) := by decide +kernel
theorem dX6_nextYear_18 : decode cX6_nextYear 18 = .ok (.getfield 44, 3) := by decide +kernel
theorem dX6_nextYear_21 : decode cX6_nextYear 21 = .ok (.getfield 121, 3) := by decide +kernel
theorem dX6_nextYear_24 : decode cX6_nextYear 24 = .ok (.getfield 125, 3) := by decide +kernel
theorem dX6_nextYear_27 : decode cX6_nextYear 27 = .ok (.iconst 0, 1) := by decide +kernel
theorem dX6_nextYear_28 : decode cX6_nextYear 28 = .ok (.invokestatic 130, 3) := by decide +kernel
theorem dX6_nextYear_31 : decode cX6_nextYear 31 = .ok (.aload_n 0, 1) := by decide +kernel
theorem dX6_nextYear_32 : decode cX6_nextYear 32 = .ok (.getfield 44, 3) := by decide +kernel
theorem dX6_nextYear_35 : decode cX6_nextYear 35 = .ok (.getfield 118, 3) := by decide +kernel
theorem dX6_nextYear_38 : decode cX6_nextYear 38 = .ok (.ireturn, 1) := by decide +kernel
theorem dX6_order_0 : decode cX6_order 0 = .ok (.aload_n 0, 1) := by decide +kernel
theorem dX6_order_1 : decode cX6_order 1 = .ok (.iload_n 1, 1) := by decide +kernel
theorem dX6_order_2 : decode cX6_order 2 = .ok (.invokevirtual 71, 3) := by decide +kernel
theorem dX6_order_5 : decode cX6_order 5 = .ok (.iload_n 2, 1) := by decide +kernel
theorem dX6_order_6 : decode cX6_order 6 = .ok (.bipush 10, 2) := by decide +kernel
theorem dX6_order_8 : decode cX6_order 8 = .ok (.ldc 75, 2) := by decide +kernel
theorem dX6_order_10 : decode cX6_order 10 = .ok (.invokestatic 76, 3) := by decide +kernel
theorem dX6_order_13 : decode cX6_order 13 = .ok (.aload_n 0, 1) := by decide +kernel
theorem dX6_order_14 : decode cX6_order 14 = .ok (.getfield 44, 3) := by decide +kernel
theorem dX6_order_17 : decode cX6_order 17 = .ok (.getfield 121, 3) := by decide +kernel
theorem dX6_order_20 : decode cX6_order 20 = .ok (.getfield 136, 3) := by decide +kernel
theorem dX6_order_23 : decode cX6_order 23 = .ok (.bipush 20, 2) := by decide +kernel
theorem dX6_order_25 : decode cX6_order 25 = .ok (.if_icmp .lt 13, 3) := by decide +kernel
theorem dX6_order_28 : decode cX6_order 28 = .ok (.new 58, 3) := by decide +kernel
theorem dX6_order_31 : decode cX6_order 31 = .ok (.dup, 1) := by decide +kernel
theorem dX6_order_32 : decode cX6_order 32 = .ok (.ldc 137, 2) := by decide +kernel
theorem dX6_order_34 : decode cX6_order 34 = .ok (.invokespecial 62, 3) := by decide +kernel
theorem dX6_order_37 : decode cX6_order 37 = .ok (.athrow, 1) := by decide +kernel
theorem dX6_order_38 : decode cX6_order 38 = .ok (.aload_n 0, 1) := by decide +kernel
theorem dX6_order_39 : decode cX6_order 39 = .ok (.invokevirtual 65, 3) := by decide +kernel
theorem dX6_order_42 : decode cX6_order 42 = .ok (.aload_n 0, 1) := by decide +kernel
theorem dX6_order_43 : decode cX6_order 43 = .ok (.getfield 44, 3) := by decide +kernel
theorem dX6_order_46 : decode cX6_order 46 = .ok (.getfield 121, 3) := by decide +kernel
theorem dX6_order_49 : decode cX6_order 49 = .ok (.iload_n 1, 1) := by decide +kernel
theorem dX6_order_50 : decode cX6_order 50 = .ok (.iload_n 2, 1) := by decide +kernel
theorem dX6_order_51 : decode cX6_order 51 = .ok (.invokevirtual 139, 3) := by decide +kernel
theorem dX6_order_54 : decode cX6_order 54 = .ok (.ireturn, 1) := by decide +kernel
theorem dX6_draft_0 : decode cX6_draft 0 = .ok (.aload_n 0, 1) := by decide +kernel
theorem dX6_draft_1 : decode cX6_draft 1 = .ok (.iload_n 1, 1) := by decide +kernel
theorem dX6_draft_2 : decode cX6_draft 2 = .ok (.invokevirtual 143, 3) := by decide +kernel
theorem dX6_draft_5 : decode cX6_draft 5 = .ok (.aload_n 0, 1) := by decide +kernel
theorem dX6_draft_6 : decode cX6_draft 6 = .ok (.iload_n 2, 1) := by decide +kernel
theorem dX6_draft_7 : decode cX6_draft 7 = .ok (.invokevirtual 71, 3) := by decide +kernel
theorem dX6_draft_10 : decode cX6_draft 10 = .ok (.aload_n 0, 1) := by decide +kernel
theorem dX6_draft_11 : decode cX6_draft 11 = .ok (.iload_n 1, 1) := by decide +kernel
theorem dX6_draft_12 : decode cX6_draft 12 = .ok (.invokevirtual 146, 3) := by decide +kernel
theorem dX6_draft_15 : decode cX6_draft 15 = .ok (.aload_n 0, 1) := by decide +kernel
theorem dX6_draft_16 : decode cX6_draft 16 = .ok (.getfield 44, 3) := by decide +kernel
theorem dX6_draft_19 : decode cX6_draft 19 = .ok (.getfield 121, 3) := by decide +kernel
theorem dX6_draft_22 : decode cX6_draft 22 = .ok (.iload_n 1, 1) := by decide +kernel
theorem dX6_draft_23 : decode cX6_draft 23 = .ok (.invokevirtual 149, 3) := by decide +kernel
theorem dX6_draft_26 : decode cX6_draft 26 = .ok (.istore_n 3, 1) := by decide +kernel
theorem dX6_draft_27 : decode cX6_draft 27 = .ok (.iload_n 3, 1) := by decide +kernel
theorem dX6_draft_28 : decode cX6_draft 28 = .ok (.bipush 9, 2) := by decide +kernel
theorem dX6_draft_30 : decode cX6_draft 30 = .ok (.if_icmp .lt 13, 3) := by decide +kernel
theorem dX6_draft_33 : decode cX6_draft 33 = .ok (.new 58, 3) := by decide +kernel
theorem dX6_draft_36 : decode cX6_draft 36 = .ok (.dup, 1) := by decide +kernel
theorem dX6_draft_37 : decode cX6_draft 37 = .ok (.ldc 153, 2) := by decide +kernel
theorem dX6_draft_39 : decode cX6_draft 39 = .ok (.invokespecial 62, 3) := by decide +kernel
theorem dX6_draft_42 : decode cX6_draft 42 = .ok (.athrow, 1) := by decide +kernel
theorem dX6_draft_43 : decode cX6_draft 43 = .ok (.aload_n 0, 1) := by decide +kernel
theorem dX6_draft_44 : decode cX6_draft 44 = .ok (.invokevirtual 65, 3) := by decide +kernel
theorem dX6_draft_47 : decode cX6_draft 47 = .ok (.aload_n 0, 1) := by decide +kernel
theorem dX6_draft_48 : decode cX6_draft 48 = .ok (.getfield 44, 3) := by decide +kernel
theorem dX6_draft_51 : decode cX6_draft 51 = .ok (.getfield 121, 3) := by decide +kernel
theorem dX6_draft_54 : decode cX6_draft 54 = .ok (.getfield 155, 3) := by decide +kernel
theorem dX6_draft_57 : decode cX6_draft 57 = .ok (.iload_n 1, 1) := by decide +kernel
theorem dX6_draft_58 : decode cX6_draft 58 = .ok (.iload_n 2, 1) := by decide +kernel
theorem dX6_draft_59 : decode cX6_draft 59 = .ok (.invokestatic 158, 3) := by decide +kernel
theorem dX6_draft_62 : decode cX6_draft 62 = .ok (.dup2, 1) := by decide +kernel
theorem dX6_draft_63 : decode cX6_draft 63 = .ok (.iaload, 1) := by decide +kernel
theorem dX6_draft_64 : decode cX6_draft 64 = .ok (.iconst 1, 1) := by decide +kernel
theorem dX6_draft_65 : decode cX6_draft 65 = .ok (.iadd, 1) := by decide +kernel
theorem dX6_draft_66 : decode cX6_draft 66 = .ok (.iastore, 1) := by decide +kernel
theorem dX6_draft_67 : decode cX6_draft 67 = .ok (.aload_n 0, 1) := by decide +kernel
theorem dX6_draft_68 : decode cX6_draft 68 = .ok (.getfield 44, 3) := by decide +kernel
theorem dX6_draft_71 : decode cX6_draft 71 = .ok (.getfield 121, 3) := by decide +kernel
theorem dX6_draft_74 : decode cX6_draft 74 = .ok (.getfield 161, 3) := by decide +kernel
theorem dX6_draft_77 : decode cX6_draft 77 = .ok (.iload_n 1, 1) := by decide +kernel
theorem dX6_draft_78 : decode cX6_draft 78 = .ok (.iload_n 3, 1) := by decide +kernel
theorem dX6_draft_79 : decode cX6_draft 79 = .ok (.ifCond .ne 7, 3) := by decide +kernel
theorem dX6_draft_82 : decode cX6_draft 82 = .ok (.iconst 1, 1) := by decide +kernel
theorem dX6_draft_83 : decode cX6_draft 83 = .ok (.goto 4, 3) := by decide +kernel
theorem dX6_draft_86 : decode cX6_draft 86 = .ok (.iconst 2, 1) := by decide +kernel
theorem dX6_draft_87 : decode cX6_draft 87 = .ok (.iastore, 1) := by decide +kernel
theorem dX6_draft_88 : decode cX6_draft 88 = .ok (.aload_n 0, 1) := by decide +kernel
theorem dX6_draft_89 : decode cX6_draft 89 = .ok (.getfield 44, 3) := by decide +kernel
theorem dX6_draft_92 : decode cX6_draft 92 = .ok (.getfield 121, 3) := by decide +kernel
theorem dX6_draft_95 : decode cX6_draft 95 = .ok (.getfield 161, 3) := by decide +kernel
theorem dX6_draft_98 : decode cX6_draft 98 = .ok (.iload_n 1, 1) := by decide +kernel
theorem dX6_draft_99 : decode cX6_draft 99 = .ok (.iaload, 1) := by decide +kernel
theorem dX6_draft_100 : decode cX6_draft 100 = .ok (.ireturn, 1) := by decide +kernel
theorem dX6_revise_0 : decode cX6_revise 0 = .ok (.aload_n 0, 1) := by decide +kernel
theorem dX6_revise_1 : decode cX6_revise 1 = .ok (.iload_n 1, 1) := by decide +kernel
theorem dX6_revise_2 : decode cX6_revise 2 = .ok (.invokevirtual 143, 3) := by decide +kernel
theorem dX6_revise_5 : decode cX6_revise 5 = .ok (.iload_n 2, 1) := by decide +kernel
theorem dX6_revise_6 : decode cX6_revise 6 = .ok (.bipush 10, 2) := by decide +kernel
theorem dX6_revise_8 : decode cX6_revise 8 = .ok (.ldc 75, 2) := by decide +kernel
theorem dX6_revise_10 : decode cX6_revise 10 = .ok (.invokestatic 76, 3) := by decide +kernel
theorem dX6_revise_13 : decode cX6_revise 13 = .ok (.aload_n 0, 1) := by decide +kernel
theorem dX6_revise_14 : decode cX6_revise 14 = .ok (.iload_n 1, 1) := by decide +kernel
theorem dX6_revise_15 : decode cX6_revise 15 = .ok (.invokevirtual 146, 3) := by decide +kernel
theorem dX6_revise_18 : decode cX6_revise 18 = .ok (.aload_n 0, 1) := by decide +kernel
theorem dX6_revise_19 : decode cX6_revise 19 = .ok (.invokevirtual 65, 3) := by decide +kernel
theorem dX6_revise_22 : decode cX6_revise 22 = .ok (.aload_n 0, 1) := by decide +kernel
theorem dX6_revise_23 : decode cX6_revise 23 = .ok (.getfield 44, 3) := by decide +kernel
theorem dX6_revise_26 : decode cX6_revise 26 = .ok (.getfield 121, 3) := by decide +kernel
theorem dX6_revise_29 : decode cX6_revise 29 = .ok (.getfield 164, 3) := by decide +kernel
theorem dX6_revise_32 : decode cX6_revise 32 = .ok (.iload_n 1, 1) := by decide +kernel
theorem dX6_revise_33 : decode cX6_revise 33 = .ok (.iaload, 1) := by decide +kernel
theorem dX6_revise_34 : decode cX6_revise 34 = .ok (.istore_n 3, 1) := by decide +kernel
theorem dX6_revise_35 : decode cX6_revise 35 = .ok (.aload_n 0, 1) := by decide +kernel
theorem dX6_revise_36 : decode cX6_revise 36 = .ok (.getfield 44, 3) := by decide +kernel
theorem dX6_revise_39 : decode cX6_revise 39 = .ok (.getfield 121, 3) := by decide +kernel
theorem dX6_revise_42 : decode cX6_revise 42 = .ok (.getfield 164, 3) := by decide +kernel
theorem dX6_revise_45 : decode cX6_revise 45 = .ok (.iload_n 1, 1) := by decide +kernel
theorem dX6_revise_46 : decode cX6_revise 46 = .ok (.iload_n 2, 1) := by decide +kernel
theorem dX6_revise_47 : decode cX6_revise 47 = .ok (.iastore, 1) := by decide +kernel
theorem dX6_revise_48 : decode cX6_revise 48 = .ok (.aload_n 0, 1) := by decide +kernel
theorem dX6_revise_49 : decode cX6_revise 49 = .ok (.getfield 44, 3) := by decide +kernel
theorem dX6_revise_52 : decode cX6_revise 52 = .ok (.getfield 121, 3) := by decide +kernel
theorem dX6_revise_55 : decode cX6_revise 55 = .ok (.getfield 167, 3) := by decide +kernel
theorem dX6_revise_58 : decode cX6_revise 58 = .ok (.iload_n 1, 1) := by decide +kernel
theorem dX6_revise_59 : decode cX6_revise 59 = .ok (.dup2, 1) := by decide +kernel
theorem dX6_revise_60 : decode cX6_revise 60 = .ok (.iaload, 1) := by decide +kernel
theorem dX6_revise_61 : decode cX6_revise 61 = .ok (.iconst 1, 1) := by decide +kernel
theorem dX6_revise_62 : decode cX6_revise 62 = .ok (.iadd, 1) := by decide +kernel
theorem dX6_revise_63 : decode cX6_revise 63 = .ok (.iastore, 1) := by decide +kernel
theorem dX6_revise_64 : decode cX6_revise 64 = .ok (.iload_n 3, 1) := by decide +kernel
theorem dX6_revise_65 : decode cX6_revise 65 = .ok (.ireturn, 1) := by decide +kernel
theorem dX6_share_0 : decode cX6_share 0 = .ok (.aload_n 0, 1) := by decide +kernel
theorem dX6_share_1 : decode cX6_share 1 = .ok (.iload_n 1, 1) := by decide +kernel
theorem dX6_share_2 : decode cX6_share 2 = .ok (.invokevirtual 143, 3) := by decide +kernel
theorem dX6_share_5 : decode cX6_share 5 = .ok (.aload_n 0, 1) := by decide +kernel
theorem dX6_share_6 : decode cX6_share 6 = .ok (.getfield 18, 3) := by decide +kernel
theorem dX6_share_9 : decode cX6_share 9 = .ok (.invokevirtual 170, 3) := by decide +kernel
theorem dX6_share_12 : decode cX6_share 12 = .ok (.ifCond .eq 23, 3) := by decide +kernel
theorem dX6_share_15 : decode cX6_share 15 = .ok (.aload_n 0, 1) := by decide +kernel
theorem dX6_share_16 : decode cX6_share 16 = .ok (.getfield 18, 3) := by decide +kernel
theorem dX6_share_19 : decode cX6_share 19 = .ok (.invokevirtual 174, 3) := by decide +kernel
theorem dX6_share_22 : decode cX6_share 22 = .ok (.aload_n 0, 1) := by decide +kernel
theorem dX6_share_23 : decode cX6_share 23 = .ok (.getfield 44, 3) := by decide +kernel
theorem dX6_share_26 : decode cX6_share 26 = .ok (.getfield 48, 3) := by decide +kernel
theorem dX6_share_29 : decode cX6_share 29 = .ok (.getfield 52, 3) := by decide +kernel
theorem dX6_share_32 : decode cX6_share 32 = .ok (.if_icmp .lt 13, 3) := by decide +kernel
theorem dX6_share_35 : decode cX6_share 35 = .ok (.new 80, 3) := by decide +kernel
theorem dX6_share_38 : decode cX6_share 38 = .ok (.dup, 1) := by decide +kernel
theorem dX6_share_39 : decode cX6_share 39 = .ok (.ldc 178, 2) := by decide +kernel
theorem dX6_share_41 : decode cX6_share 41 = .ok (.invokespecial 84, 3) := by decide +kernel
theorem dX6_share_44 : decode cX6_share 44 = .ok (.athrow, 1) := by decide +kernel
theorem dX6_share_45 : decode cX6_share 45 = .ok (.aload_n 0, 1) := by decide +kernel
theorem dX6_share_46 : decode cX6_share 46 = .ok (.getfield 44, 3) := by decide +kernel
theorem dX6_share_49 : decode cX6_share 49 = .ok (.getfield 121, 3) := by decide +kernel
theorem dX6_share_52 : decode cX6_share 52 = .ok (.getfield 161, 3) := by decide +kernel
theorem dX6_share_55 : decode cX6_share 55 = .ok (.iload_n 1, 1) := by decide +kernel
theorem dX6_share_56 : decode cX6_share 56 = .ok (.iaload, 1) := by decide +kernel
theorem dX6_share_57 : decode cX6_share 57 = .ok (.iconst 4, 1) := by decide +kernel
theorem dX6_share_58 : decode cX6_share 58 = .ok (.if_icmp .ne 13, 3) := by decide +kernel
theorem dX6_share_61 : decode cX6_share 61 = .ok (.new 58, 3) := by decide +kernel
theorem dX6_share_64 : decode cX6_share 64 = .ok (.dup, 1) := by decide +kernel
theorem dX6_share_65 : decode cX6_share 65 = .ok (.ldc 180, 2) := by decide +kernel
theorem dX6_share_67 : decode cX6_share 67 = .ok (.invokespecial 62, 3) := by decide +kernel
theorem dX6_share_70 : decode cX6_share 70 = .ok (.athrow, 1) := by decide +kernel
theorem dX6_share_71 : decode cX6_share 71 = .ok (.aload_n 0, 1) := by decide +kernel
theorem dX6_share_72 : decode cX6_share 72 = .ok (.invokevirtual 65, 3) := by decide +kernel
theorem dX6_share_75 : decode cX6_share 75 = .ok (.aload_n 0, 1) := by decide +kernel
theorem dX6_share_76 : decode cX6_share 76 = .ok (.getfield 44, 3) := by decide +kernel
theorem dX6_share_79 : decode cX6_share 79 = .ok (.getfield 121, 3) := by decide +kernel
theorem dX6_share_82 : decode cX6_share 82 = .ok (.iload_n 1, 1) := by decide +kernel
theorem dX6_share_83 : decode cX6_share 83 = .ok (.aload_n 0, 1) := by decide +kernel
theorem dX6_share_84 : decode cX6_share 84 = .ok (.getfield 18, 3) := by decide +kernel
theorem dX6_share_87 : decode cX6_share 87 = .ok (.getfield 182, 3) := by decide +kernel
theorem dX6_share_90 : decode cX6_share 90 = .ok (.invokevirtual 185, 3) := by decide +kernel
theorem dX6_share_93 : decode cX6_share 93 = .ok (.aload_n 0, 1) := by decide +kernel
theorem dX6_share_94 : decode cX6_share 94 = .ok (.getfield 44, 3) := by decide +kernel
theorem dX6_share_97 : decode cX6_share 97 = .ok (.getfield 121, 3) := by decide +kernel
theorem dX6_share_100 : decode cX6_share 100 = .ok (.getfield 167, 3) := by decide +kernel
theorem dX6_share_103 : decode cX6_share 103 = .ok (.iload_n 1, 1) := by decide +kernel
theorem dX6_share_104 : decode cX6_share 104 = .ok (.dup2, 1) := by decide +kernel
theorem dX6_share_105 : decode cX6_share 105 = .ok (.iaload, 1) := by decide +kernel
theorem dX6_share_106 : decode cX6_share 106 = .ok (.iconst 1, 1) := by decide +kernel
theorem dX6_share_107 : decode cX6_share 107 = .ok (.iadd, 1) := by decide +kernel
theorem dX6_share_108 : decode cX6_share 108 = .ok (.iastore, 1) := by decide +kernel
theorem dX6_share_109 : decode cX6_share 109 = .ok (.aload_n 0, 1) := by decide +kernel
theorem dX6_share_110 : decode cX6_share 110 = .ok (.getfield 18, 3) := by decide +kernel
theorem dX6_share_113 : decode cX6_share 113 = .ok (.iconst 0, 1) := by decide +kernel
theorem dX6_share_114 : decode cX6_share 114 = .ok (.putfield 189, 3) := by decide +kernel
theorem dX6_share_117 : decode cX6_share 117 = .ok (.aload_n 0, 1) := by decide +kernel
theorem dX6_share_118 : decode cX6_share 118 = .ok (.getfield 44, 3) := by decide +kernel
theorem dX6_share_121 : decode cX6_share 121 = .ok (.getfield 121, 3) := by decide +kernel
theorem dX6_share_124 : decode cX6_share 124 = .ok (.iload_n 1, 1) := by decide +kernel
theorem dX6_share_125 : decode cX6_share 125 = .ok (.invokevirtual 192, 3) := by decide +kernel
theorem dX6_share_128 : decode cX6_share 128 = .ok (.ireturn, 1) := by decide +kernel
theorem dX6_accept_0 : decode cX6_accept 0 = .ok (.aload_n 0, 1) := by decide +kernel
theorem dX6_accept_1 : decode cX6_accept 1 = .ok (.iload_n 1, 1) := by decide +kernel
theorem dX6_accept_2 : decode cX6_accept 2 = .ok (.invokevirtual 143, 3) := by decide +kernel
theorem dX6_accept_5 : decode cX6_accept 5 = .ok (.aload_n 0, 1) := by decide +kernel
theorem dX6_accept_6 : decode cX6_accept 6 = .ok (.getfield 44, 3) := by decide +kernel
theorem dX6_accept_9 : decode cX6_accept 9 = .ok (.getfield 121, 3) := by decide +kernel
theorem dX6_accept_12 : decode cX6_accept 12 = .ok (.getfield 161, 3) := by decide +kernel
theorem dX6_accept_15 : decode cX6_accept 15 = .ok (.iload_n 1, 1) := by decide +kernel
theorem dX6_accept_16 : decode cX6_accept 16 = .ok (.iaload, 1) := by decide +kernel
theorem dX6_accept_17 : decode cX6_accept 17 = .ok (.istore_n 2, 1) := by decide +kernel
theorem dX6_accept_18 : decode cX6_accept 18 = .ok (.iload_n 2, 1) := by decide +kernel
theorem dX6_accept_19 : decode cX6_accept 19 = .ok (.iconst 1, 1) := by decide +kernel
theorem dX6_accept_20 : decode cX6_accept 20 = .ok (.if_icmp .eq 18, 3) := by decide +kernel
theorem dX6_accept_23 : decode cX6_accept 23 = .ok (.iload_n 2, 1) := by decide +kernel
theorem dX6_accept_24 : decode cX6_accept 24 = .ok (.iconst 2, 1) := by decide +kernel
theorem dX6_accept_25 : decode cX6_accept 25 = .ok (.if_icmp .eq 13, 3) := by decide +kernel
theorem dX6_accept_28 : decode cX6_accept 28 = .ok (.new 58, 3) := by decide +kernel
theorem dX6_accept_31 : decode cX6_accept 31 = .ok (.dup, 1) := by decide +kernel
theorem dX6_accept_32 : decode cX6_accept 32 = .ok (.ldc 195, 2) := by decide +kernel
theorem dX6_accept_34 : decode cX6_accept 34 = .ok (.invokespecial 62, 3) := by decide +kernel
theorem dX6_accept_37 : decode cX6_accept 37 = .ok (.athrow, 1) := by decide +kernel
theorem dX6_accept_38 : decode cX6_accept 38 = .ok (.aload_n 0, 1) := by decide +kernel
theorem dX6_accept_39 : decode cX6_accept 39 = .ok (.invokevirtual 65, 3) := by decide +kernel
theorem dX6_accept_42 : decode cX6_accept 42 = .ok (.aload_n 0, 1) := by decide +kernel
theorem dX6_accept_43 : decode cX6_accept 43 = .ok (.getfield 44, 3) := by decide +kernel
theorem dX6_accept_46 : decode cX6_accept 46 = .ok (.getfield 121, 3) := by decide +kernel
theorem dX6_accept_49 : decode cX6_accept 49 = .ok (.getfield 161, 3) := by decide +kernel
theorem dX6_accept_52 : decode cX6_accept 52 = .ok (.iload_n 1, 1) := by decide +kernel
theorem dX6_accept_53 : decode cX6_accept 53 = .ok (.iconst 3, 1) := by decide +kernel
theorem dX6_accept_54 : decode cX6_accept 54 = .ok (.iastore, 1) := by decide +kernel
theorem dX6_accept_55 : decode cX6_accept 55 = .ok (.aload_n 0, 1) := by decide +kernel
theorem dX6_accept_56 : decode cX6_accept 56 = .ok (.getfield 44, 3) := by decide +kernel
theorem dX6_accept_59 : decode cX6_accept 59 = .ok (.getfield 121, 3) := by decide +kernel
theorem dX6_accept_62 : decode cX6_accept 62 = .ok (.getfield 164, 3) := by decide +kernel
theorem dX6_accept_65 : decode cX6_accept 65 = .ok (.iload_n 1, 1) := by decide +kernel
theorem dX6_accept_66 : decode cX6_accept 66 = .ok (.iaload, 1) := by decide +kernel
theorem dX6_accept_67 : decode cX6_accept 67 = .ok (.istore_n 3, 1) := by decide +kernel
theorem dX6_accept_68 : decode cX6_accept 68 = .ok (.aload_n 0, 1) := by decide +kernel
theorem dX6_accept_69 : decode cX6_accept 69 = .ok (.getfield 25, 3) := by decide +kernel
theorem dX6_accept_72 : decode cX6_accept 72 = .ok (.aload_n 0, 1) := by decide +kernel
theorem dX6_accept_73 : decode cX6_accept 73 = .ok (.getfield 44, 3) := by decide +kernel
theorem dX6_accept_76 : decode cX6_accept 76 = .ok (.iload_n 1, 1) := by decide +kernel
theorem dX6_accept_77 : decode cX6_accept 77 = .ok (.iload_n 3, 1) := by decide +kernel
theorem dX6_accept_78 : decode cX6_accept 78 = .ok (.invokevirtual 197, 3) := by decide +kernel
theorem dX6_accept_81 : decode cX6_accept 81 = .ok (.aload_n 0, 1) := by decide +kernel
theorem dX6_accept_82 : decode cX6_accept 82 = .ok (.iload_n 3, 1) := by decide +kernel
theorem dX6_accept_83 : decode cX6_accept 83 = .ok (.invokevirtual 201, 3) := by decide +kernel
theorem dX6_accept_86 : decode cX6_accept 86 = .ok (.ireturn, 1) := by decide +kernel
theorem dX6_kill_0 : decode cX6_kill 0 = .ok (.aload_n 0, 1) := by decide +kernel
theorem dX6_kill_1 : decode cX6_kill 1 = .ok (.iload_n 1, 1) := by decide +kernel
theorem dX6_kill_2 : decode cX6_kill 2 = .ok (.invokevirtual 143, 3) := by decide +kernel
theorem dX6_kill_5 : decode cX6_kill 5 = .ok (.aload_n 0, 1) := by decide +kernel
theorem dX6_kill_6 : decode cX6_kill 6 = .ok (.iload_n 1, 1) := by decide +kernel
theorem dX6_kill_7 : decode cX6_kill 7 = .ok (.invokevirtual 146, 3) := by decide +kernel
theorem dX6_kill_10 : decode cX6_kill 10 = .ok (.aload_n 0, 1) := by decide +kernel
theorem dX6_kill_11 : decode cX6_kill 11 = .ok (.invokevirtual 65, 3) := by decide +kernel
theorem dX6_kill_14 : decode cX6_kill 14 = .ok (.aload_n 0, 1) := by decide +kernel
theorem dX6_kill_15 : decode cX6_kill 15 = .ok (.getfield 44, 3) := by decide +kernel
theorem dX6_kill_18 : decode cX6_kill 18 = .ok (.iload_n 1, 1) := by decide +kernel
theorem dX6_kill_19 : decode cX6_kill 19 = .ok (.invokevirtual 204, 3) := by decide +kernel
theorem dX6_kill_22 : decode cX6_kill 22 = .ok (.istore_n 2, 1) := by decide +kernel
theorem dX6_kill_23 : decode cX6_kill 23 = .ok (.aload_n 0, 1) := by decide +kernel
theorem dX6_kill_24 : decode cX6_kill 24 = .ok (.getfield 44, 3) := by decide +kernel
theorem dX6_kill_27 : decode cX6_kill 27 = .ok (.getfield 121, 3) := by decide +kernel
theorem dX6_kill_30 : decode cX6_kill 30 = .ok (.getfield 161, 3) := by decide +kernel
theorem dX6_kill_33 : decode cX6_kill 33 = .ok (.iload_n 1, 1) := by decide +kernel
theorem dX6_kill_34 : decode cX6_kill 34 = .ok (.iconst 4, 1) := by decide +kernel
theorem dX6_kill_35 : decode cX6_kill 35 = .ok (.iastore, 1) := by decide +kernel
theorem dX6_kill_36 : decode cX6_kill 36 = .ok (.aload_n 0, 1) := by decide +kernel
theorem dX6_kill_37 : decode cX6_kill 37 = .ok (.getfield 25, 3) := by decide +kernel
theorem dX6_kill_40 : decode cX6_kill 40 = .ok (.aload_n 0, 1) := by decide +kernel
theorem dX6_kill_41 : decode cX6_kill 41 = .ok (.getfield 44, 3) := by decide +kernel
theorem dX6_kill_44 : decode cX6_kill 44 = .ok (.iload_n 1, 1) := by decide +kernel
theorem dX6_kill_45 : decode cX6_kill 45 = .ok (.iload_n 2, 1) := by decide +kernel
theorem dX6_kill_46 : decode cX6_kill 46 = .ok (.invokevirtual 197, 3) := by decide +kernel
theorem dX6_kill_49 : decode cX6_kill 49 = .ok (.aload_n 0, 1) := by decide +kernel
theorem dX6_kill_50 : decode cX6_kill 50 = .ok (.iload_n 2, 1) := by decide +kernel
theorem dX6_kill_51 : decode cX6_kill 51 = .ok (.invokevirtual 201, 3) := by decide +kernel
theorem dX6_kill_54 : decode cX6_kill 54 = .ok (.pop, 1) := by decide +kernel
theorem dX6_kill_55 : decode cX6_kill 55 = .ok (.iload_n 2, 1) := by decide +kernel
theorem dX6_kill_56 : decode cX6_kill 56 = .ok (.ireturn, 1) := by decide +kernel
theorem dX6_royalty_0 : decode cX6_royalty 0 = .ok (.aload_n 0, 1) := by decide +kernel
theorem dX6_royalty_1 : decode cX6_royalty 1 = .ok (.iload_n 1, 1) := by decide +kernel
theorem dX6_royalty_2 : decode cX6_royalty 2 = .ok (.invokevirtual 143, 3) := by decide +kernel
theorem dX6_royalty_5 : decode cX6_royalty 5 = .ok (.iload_n 2, 1) := by decide +kernel
theorem dX6_royalty_6 : decode cX6_royalty 6 = .ok (.iconst 1, 1) := by decide +kernel
theorem dX6_royalty_7 : decode cX6_royalty 7 = .ok (.ldc 75, 2) := by decide +kernel
theorem dX6_royalty_9 : decode cX6_royalty 9 = .ok (.invokestatic 76, 3) := by decide +kernel
theorem dX6_royalty_12 : decode cX6_royalty 12 = .ok (.aload_n 0, 1) := by decide +kernel
theorem dX6_royalty_13 : decode cX6_royalty 13 = .ok (.iload_n 1, 1) := by decide +kernel
theorem dX6_royalty_14 : decode cX6_royalty 14 = .ok (.invokevirtual 207, 3) := by decide +kernel
theorem dX6_royalty_17 : decode cX6_royalty 17 = .ok (.aload_n 0, 1) := by decide +kernel
theorem dX6_royalty_18 : decode cX6_royalty 18 = .ok (.invokevirtual 65, 3) := by decide +kernel
theorem dX6_royalty_21 : decode cX6_royalty 21 = .ok (.aload_n 0, 1) := by decide +kernel
theorem dX6_royalty_22 : decode cX6_royalty 22 = .ok (.getfield 25, 3) := by decide +kernel
theorem dX6_royalty_25 : decode cX6_royalty 25 = .ok (.aload_n 0, 1) := by decide +kernel
theorem dX6_royalty_26 : decode cX6_royalty 26 = .ok (.getfield 44, 3) := by decide +kernel
theorem dX6_royalty_29 : decode cX6_royalty 29 = .ok (.iload_n 1, 1) := by decide +kernel
theorem dX6_royalty_30 : decode cX6_royalty 30 = .ok (.iload_n 2, 1) := by decide +kernel
theorem dX6_royalty_31 : decode cX6_royalty 31 = .ok (.invokevirtual 210, 3) := by decide +kernel
theorem dX6_royalty_34 : decode cX6_royalty 34 = .ok (.aload_n 0, 1) := by decide +kernel
theorem dX6_royalty_35 : decode cX6_royalty 35 = .ok (.getfield 44, 3) := by decide +kernel
theorem dX6_royalty_38 : decode cX6_royalty 38 = .ok (.getfield 121, 3) := by decide +kernel
theorem dX6_royalty_41 : decode cX6_royalty 41 = .ok (.getfield 213, 3) := by decide +kernel
theorem dX6_royalty_44 : decode cX6_royalty 44 = .ok (.iload_n 1, 1) := by decide +kernel
theorem dX6_royalty_45 : decode cX6_royalty 45 = .ok (.dup2, 1) := by decide +kernel
theorem dX6_royalty_46 : decode cX6_royalty 46 = .ok (.iaload, 1) := by decide +kernel
theorem dX6_royalty_47 : decode cX6_royalty 47 = .ok (.iload_n 2, 1) := by decide +kernel
theorem dX6_royalty_48 : decode cX6_royalty 48 = .ok (.iadd, 1) := by decide +kernel
theorem dX6_royalty_49 : decode cX6_royalty 49 = .ok (.iastore, 1) := by decide +kernel
theorem dX6_royalty_50 : decode cX6_royalty 50 = .ok (.aload_n 0, 1) := by decide +kernel
theorem dX6_royalty_51 : decode cX6_royalty 51 = .ok (.getfield 44, 3) := by decide +kernel
theorem dX6_royalty_54 : decode cX6_royalty 54 = .ok (.getfield 121, 3) := by decide +kernel
theorem dX6_royalty_57 : decode cX6_royalty 57 = .ok (.iload_n 1, 1) := by decide +kernel
theorem dX6_royalty_58 : decode cX6_royalty 58 = .ok (.aload_n 0, 1) := by decide +kernel
theorem dX6_royalty_59 : decode cX6_royalty 59 = .ok (.getfield 25, 3) := by decide +kernel
theorem dX6_royalty_62 : decode cX6_royalty 62 = .ok (.getfield 216, 3) := by decide +kernel
theorem dX6_royalty_65 : decode cX6_royalty 65 = .ok (.invokevirtual 219, 3) := by decide +kernel
theorem dX6_royalty_68 : decode cX6_royalty 68 = .ok (.aload_n 0, 1) := by decide +kernel
theorem dX6_royalty_69 : decode cX6_royalty 69 = .ok (.getfield 44, 3) := by decide +kernel
theorem dX6_royalty_72 : decode cX6_royalty 72 = .ok (.dup, 1) := by decide +kernel
theorem dX6_royalty_73 : decode cX6_royalty 73 = .ok (.getfield 222, 3) := by decide +kernel
theorem dX6_royalty_76 : decode cX6_royalty 76 = .ok (.aload_n 0, 1) := by decide +kernel
theorem dX6_royalty_77 : decode cX6_royalty 77 = .ok (.getfield 25, 3) := by decide +kernel
theorem dX6_royalty_80 : decode cX6_royalty 80 = .ok (.getfield 225, 3) := by decide +kernel
theorem dX6_royalty_83 : decode cX6_royalty 83 = .ok (.iadd, 1) := by decide +kernel
theorem dX6_royalty_84 : decode cX6_royalty 84 = .ok (.putfield 222, 3) := by decide +kernel
theorem dX6_royalty_87 : decode cX6_royalty 87 = .ok (.aload_n 0, 1) := by decide +kernel
theorem dX6_royalty_88 : decode cX6_royalty 88 = .ok (.iload_n 2, 1) := by decide +kernel
theorem dX6_royalty_89 : decode cX6_royalty 89 = .ok (.invokevirtual 201, 3) := by decide +kernel
theorem dX6_royalty_92 : decode cX6_royalty 92 = .ok (.ireturn, 1) := by decide +kernel
theorem dX6_dispute_0 : decode cX6_dispute 0 = .ok (.aload_n 0, 1) := by decide +kernel
theorem dX6_dispute_1 : decode cX6_dispute 1 = .ok (.iload_n 1, 1) := by decide +kernel
theorem dX6_dispute_2 : decode cX6_dispute 2 = .ok (.invokevirtual 143, 3) := by decide +kernel
theorem dX6_dispute_5 : decode cX6_dispute 5 = .ok (.aload_n 0, 1) := by decide +kernel
theorem dX6_dispute_6 : decode cX6_dispute 6 = .ok (.iload_n 2, 1) := by decide +kernel
theorem dX6_dispute_7 : decode cX6_dispute 7 = .ok (.invokevirtual 71, 3) := by decide +kernel
theorem dX6_dispute_10 : decode cX6_dispute 10 = .ok (.aload_n 0, 1) := by decide +kernel
theorem dX6_dispute_11 : decode cX6_dispute 11 = .ok (.getfield 44, 3) := by decide +kernel
theorem dX6_dispute_14 : decode cX6_dispute 14 = .ok (.getfield 121, 3) := by decide +kernel
theorem dX6_dispute_17 : decode cX6_dispute 17 = .ok (.iload_n 1, 1) := by decide +kernel
theorem dX6_dispute_18 : decode cX6_dispute 18 = .ok (.invokevirtual 226, 3) := by decide +kernel
theorem dX6_dispute_21 : decode cX6_dispute 21 = .ok (.iload_n 2, 1) := by decide +kernel
theorem dX6_dispute_22 : decode cX6_dispute 22 = .ok (.invokestatic 229, 3) := by decide +kernel
theorem dX6_dispute_25 : decode cX6_dispute 25 = .ok (.ifCond .ne 13, 3) := by decide +kernel
theorem dX6_dispute_28 : decode cX6_dispute 28 = .ok (.new 58, 3) := by decide +kernel
theorem dX6_dispute_31 : decode cX6_dispute 31 = .ok (.dup, 1) := by decide +kernel
theorem dX6_dispute_32 : decode cX6_dispute 32 = .ok (.ldc 233, 2) := by decide +kernel
theorem dX6_dispute_34 : decode cX6_dispute 34 = .ok (.invokespecial 62, 3) := by decide +kernel
theorem dX6_dispute_37 : decode cX6_dispute 37 = .ok (.athrow, 1) := by decide +kernel
theorem dX6_dispute_38 : decode cX6_dispute 38 = .ok (.aload_n 0, 1) := by decide +kernel
theorem dX6_dispute_39 : decode cX6_dispute 39 = .ok (.invokevirtual 65, 3) := by decide +kernel
theorem dX6_dispute_42 : decode cX6_dispute 42 = .ok (.aload_n 0, 1) := by decide +kernel
theorem dX6_dispute_43 : decode cX6_dispute 43 = .ok (.getfield 44, 3) := by decide +kernel
theorem dX6_dispute_46 : decode cX6_dispute 46 = .ok (.getfield 121, 3) := by decide +kernel
theorem dX6_dispute_49 : decode cX6_dispute 49 = .ok (.iload_n 1, 1) := by decide +kernel
theorem dX6_dispute_50 : decode cX6_dispute 50 = .ok (.invokevirtual 235, 3) := by decide +kernel
theorem dX6_dispute_53 : decode cX6_dispute 53 = .ok (.aload_n 0, 1) := by decide +kernel
theorem dX6_dispute_54 : decode cX6_dispute 54 = .ok (.getfield 44, 3) := by decide +kernel
theorem dX6_dispute_57 : decode cX6_dispute 57 = .ok (.getfield 121, 3) := by decide +kernel
theorem dX6_dispute_60 : decode cX6_dispute 60 = .ok (.getfield 167, 3) := by decide +kernel
theorem dX6_dispute_63 : decode cX6_dispute 63 = .ok (.iload_n 1, 1) := by decide +kernel
theorem dX6_dispute_64 : decode cX6_dispute 64 = .ok (.dup2, 1) := by decide +kernel
theorem dX6_dispute_65 : decode cX6_dispute 65 = .ok (.iaload, 1) := by decide +kernel
theorem dX6_dispute_66 : decode cX6_dispute 66 = .ok (.iconst 1, 1) := by decide +kernel
theorem dX6_dispute_67 : decode cX6_dispute 67 = .ok (.iadd, 1) := by decide +kernel
theorem dX6_dispute_68 : decode cX6_dispute 68 = .ok (.iastore, 1) := by decide +kernel
theorem dX6_dispute_69 : decode cX6_dispute 69 = .ok (.aload_n 0, 1) := by decide +kernel
theorem dX6_dispute_70 : decode cX6_dispute 70 = .ok (.getfield 44, 3) := by decide +kernel
theorem dX6_dispute_73 : decode cX6_dispute 73 = .ok (.dup, 1) := by decide +kernel
theorem dX6_dispute_74 : decode cX6_dispute 74 = .ok (.getfield 238, 3) := by decide +kernel
theorem dX6_dispute_77 : decode cX6_dispute 77 = .ok (.iconst 1, 1) := by decide +kernel
theorem dX6_dispute_78 : decode cX6_dispute 78 = .ok (.iadd, 1) := by decide +kernel
theorem dX6_dispute_79 : decode cX6_dispute 79 = .ok (.putfield 238, 3) := by decide +kernel
theorem dX6_dispute_82 : decode cX6_dispute 82 = .ok (.aload_n 0, 1) := by decide +kernel
theorem dX6_dispute_83 : decode cX6_dispute 83 = .ok (.getfield 44, 3) := by decide +kernel
theorem dX6_dispute_86 : decode cX6_dispute 86 = .ok (.getfield 121, 3) := by decide +kernel
theorem dX6_dispute_89 : decode cX6_dispute 89 = .ok (.getfield 241, 3) := by decide +kernel
theorem dX6_dispute_92 : decode cX6_dispute 92 = .ok (.iload_n 1, 1) := by decide +kernel
theorem dX6_dispute_93 : decode cX6_dispute 93 = .ok (.iload_n 2, 1) := by decide +kernel
theorem dX6_dispute_94 : decode cX6_dispute 94 = .ok (.invokestatic 158, 3) := by decide +kernel
theorem dX6_dispute_97 : decode cX6_dispute 97 = .ok (.iaload, 1) := by decide +kernel
theorem dX6_dispute_98 : decode cX6_dispute 98 = .ok (.ireturn, 1) := by decide +kernel
theorem dX6_append_0 : decode cX6_append 0 = .ok (.iload_n 1, 1) := by decide +kernel
theorem dX6_append_1 : decode cX6_append 1 = .ok (.bipush 33, 2) := by decide +kernel
theorem dX6_append_3 : decode cX6_append 3 = .ok (.bipush 126, 2) := by decide +kernel
theorem dX6_append_5 : decode cX6_append 5 = .ok (.invokestatic 76, 3) := by decide +kernel
theorem dX6_append_8 : decode cX6_append 8 = .ok (.aload_n 0, 1) := by decide +kernel
theorem dX6_append_9 : decode cX6_append 9 = .ok (.getfield 18, 3) := by decide +kernel
theorem dX6_append_12 : decode cX6_append 12 = .ok (.getfield 189, 3) := by decide +kernel
theorem dX6_append_15 : decode cX6_append 15 = .ok (.bipush 60, 2) := by decide +kernel
theorem dX6_append_17 : decode cX6_append 17 = .ok (.if_icmp .lt 13, 3) := by decide +kernel
theorem dX6_append_20 : decode cX6_append 20 = .ok (.new 58, 3) := by decide +kernel
theorem dX6_append_23 : decode cX6_append 23 = .ok (.dup, 1) := by decide +kernel
theorem dX6_append_24 : decode cX6_append 24 = .ok (.ldc 242, 2) := by decide +kernel
theorem dX6_append_26 : decode cX6_append 26 = .ok (.invokespecial 62, 3) := by decide +kernel
theorem dX6_append_29 : decode cX6_append 29 = .ok (.athrow, 1) := by decide +kernel
theorem dX6_append_30 : decode cX6_append 30 = .ok (.aload_n 0, 1) := by decide +kernel
theorem dX6_append_31 : decode cX6_append 31 = .ok (.getfield 18, 3) := by decide +kernel
theorem dX6_append_34 : decode cX6_append 34 = .ok (.getfield 244, 3) := by decide +kernel
theorem dX6_append_37 : decode cX6_append 37 = .ok (.aload_n 0, 1) := by decide +kernel
theorem dX6_append_38 : decode cX6_append 38 = .ok (.getfield 18, 3) := by decide +kernel
theorem dX6_append_41 : decode cX6_append 41 = .ok (.getfield 189, 3) := by decide +kernel
theorem dX6_append_44 : decode cX6_append 44 = .ok (.iload_n 1, 1) := by decide +kernel
theorem dX6_append_45 : decode cX6_append 45 = .ok (.iastore, 1) := by decide +kernel
theorem dX6_append_46 : decode cX6_append 46 = .ok (.aload_n 0, 1) := by decide +kernel
theorem dX6_append_47 : decode cX6_append 47 = .ok (.getfield 18, 3) := by decide +kernel
theorem dX6_append_50 : decode cX6_append 50 = .ok (.dup, 1) := by decide +kernel
theorem dX6_append_51 : decode cX6_append 51 = .ok (.getfield 189, 3) := by decide +kernel
theorem dX6_append_54 : decode cX6_append 54 = .ok (.iconst 1, 1) := by decide +kernel
theorem dX6_append_55 : decode cX6_append 55 = .ok (.iadd, 1) := by decide +kernel
theorem dX6_append_56 : decode cX6_append 56 = .ok (.putfield 189, 3) := by decide +kernel
theorem dX6_append_59 : decode cX6_append 59 = .ok (.aload_n 0, 1) := by decide +kernel
theorem dX6_append_60 : decode cX6_append 60 = .ok (.getfield 18, 3) := by decide +kernel
theorem dX6_append_63 : decode cX6_append 63 = .ok (.getfield 189, 3) := by decide +kernel
theorem dX6_append_66 : decode cX6_append 66 = .ok (.ireturn, 1) := by decide +kernel
theorem dX6_clearBuffer_0 : decode cX6_clearBuffer 0 = .ok (.aload_n 0, 1) := by decide +kernel
theorem dX6_clearBuffer_1 : decode cX6_clearBuffer 1 = .ok (.getfield 18, 3) := by decide +kernel
theorem dX6_clearBuffer_4 : decode cX6_clearBuffer 4 = .ok (.getfield 189, 3) := by decide +kernel
theorem dX6_clearBuffer_7 : decode cX6_clearBuffer 7 = .ok (.istore_n 1, 1) := by decide +kernel
theorem dX6_clearBuffer_8 : decode cX6_clearBuffer 8 = .ok (.aload_n 0, 1) := by decide +kernel
theorem dX6_clearBuffer_9 : decode cX6_clearBuffer 9 = .ok (.getfield 18, 3) := by decide +kernel
theorem dX6_clearBuffer_12 : decode cX6_clearBuffer 12 = .ok (.iconst 0, 1) := by decide +kernel
theorem dX6_clearBuffer_13 : decode cX6_clearBuffer 13 = .ok (.putfield 189, 3) := by decide +kernel
theorem dX6_clearBuffer_16 : decode cX6_clearBuffer 16 = .ok (.iload_n 1, 1) := by decide +kernel
theorem dX6_clearBuffer_17 : decode cX6_clearBuffer 17 = .ok (.ireturn, 1) := by decide +kernel
theorem dX6_pen_0 : decode cX6_pen 0 = .ok (.aload_n 0, 1) := by decide +kernel
theorem dX6_pen_1 : decode cX6_pen 1 = .ok (.iload_n 1, 1) := by decide +kernel
theorem dX6_pen_2 : decode cX6_pen 2 = .ok (.invokevirtual 71, 3) := by decide +kernel
theorem dX6_pen_5 : decode cX6_pen 5 = .ok (.iload_n 2, 1) := by decide +kernel
theorem dX6_pen_6 : decode cX6_pen 6 = .ok (.iconst 0, 1) := by decide +kernel
theorem dX6_pen_7 : decode cX6_pen 7 = .ok (.bipush 8, 2) := by decide +kernel
theorem dX6_pen_9 : decode cX6_pen 9 = .ok (.invokestatic 76, 3) := by decide +kernel
theorem dX6_pen_12 : decode cX6_pen 12 = .ok (.aload_n 0, 1) := by decide +kernel
theorem dX6_pen_13 : decode cX6_pen 13 = .ok (.getfield 44, 3) := by decide +kernel
theorem dX6_pen_16 : decode cX6_pen 16 = .ok (.getfield 48, 3) := by decide +kernel
theorem dX6_pen_19 : decode cX6_pen 19 = .ok (.astore_n 3, 1) := by decide +kernel
theorem dX6_pen_20 : decode cX6_pen 20 = .ok (.iload_n 2, 1) := by decide +kernel
theorem dX6_pen_21 : decode cX6_pen 21 = .ok (.tableswitch 107 0 7 #[47, 54, 61, 68, 75, 82, 88, 95], 47) := by decide +kernel
theorem dX6_pen_68 : decode cX6_pen 68 = .ok (.aload_n 3, 1) := by decide +kernel
theorem dX6_pen_69 : decode cX6_pen 69 = .ok (.getfield 85, 3) := by decide +kernel
theorem dX6_pen_72 : decode cX6_pen 72 = .ok (.iload_n 1, 1) := by decide +kernel
theorem dX6_pen_73 : decode cX6_pen 73 = .ok (.iaload, 1) := by decide +kernel
theorem dX6_pen_74 : decode cX6_pen 74 = .ok (.ireturn, 1) := by decide +kernel
theorem dX6_pen_75 : decode cX6_pen 75 = .ok (.aload_n 3, 1) := by decide +kernel
theorem dX6_pen_76 : decode cX6_pen 76 = .ok (.getfield 103, 3) := by decide +kernel
theorem dX6_pen_79 : decode cX6_pen 79 = .ok (.iload_n 1, 1) := by decide +kernel
theorem dX6_pen_80 : decode cX6_pen 80 = .ok (.iaload, 1) := by decide +kernel
theorem dX6_pen_81 : decode cX6_pen 81 = .ok (.ireturn, 1) := by decide +kernel
theorem dX6_pen_82 : decode cX6_pen 82 = .ok (.aload_n 3, 1) := by decide +kernel
theorem dX6_pen_83 : decode cX6_pen 83 = .ok (.getfield 258, 3) := by decide +kernel
theorem dX6_pen_86 : decode cX6_pen 86 = .ok (.iload_n 1, 1) := by decide +kernel
theorem dX6_pen_87 : decode cX6_pen 87 = .ok (.iaload, 1) := by decide +kernel
theorem dX6_pen_88 : decode cX6_pen 88 = .ok (.ireturn, 1) := by decide +kernel
theorem dX6_pen_89 : decode cX6_pen 89 = .ok (.aload_n 3, 1) := by decide +kernel
theorem dX6_pen_90 : decode cX6_pen 90 = .ok (.getfield 68, 3) := by decide +kernel
theorem dX6_pen_93 : decode cX6_pen 93 = .ok (.iload_n 1, 1) := by decide +kernel
theorem dX6_pen_94 : decode cX6_pen 94 = .ok (.iaload, 1) := by decide +kernel
theorem dX6_pen_95 : decode cX6_pen 95 = .ok (.ireturn, 1) := by decide +kernel
theorem dX6_pen_96 : decode cX6_pen 96 = .ok (.aload_n 3, 1) := by decide +kernel
theorem dX6_pen_97 : decode cX6_pen 97 = .ok (.getfield 97, 3) := by decide +kernel
theorem dX6_pen_100 : decode cX6_pen 100 = .ok (.iload_n 1, 1) := by decide +kernel
theorem dX6_pen_101 : decode cX6_pen 101 = .ok (.iaload, 1) := by decide +kernel
theorem dX6_pen_102 : decode cX6_pen 102 = .ok (.ireturn, 1) := by decide +kernel
theorem dX6_pen_103 : decode cX6_pen 103 = .ok (.aload_n 3, 1) := by decide +kernel
theorem dX6_pen_104 : decode cX6_pen 104 = .ok (.iload_n 1, 1) := by decide +kernel
theorem dX6_pen_105 : decode cX6_pen 105 = .ok (.invokevirtual 261, 3) := by decide +kernel
theorem dX6_pen_108 : decode cX6_pen 108 = .ok (.ireturn, 1) := by decide +kernel
theorem dX6_pen_109 : decode cX6_pen 109 = .ok (.aload_n 3, 1) := by decide +kernel
theorem dX6_pen_110 : decode cX6_pen 110 = .ok (.getfield 106, 3) := by decide +kernel
theorem dX6_pen_113 : decode cX6_pen 113 = .ok (.iload_n 1, 1) := by decide +kernel
theorem dX6_pen_114 : decode cX6_pen 114 = .ok (.iaload, 1) := by decide +kernel
theorem dX6_pen_115 : decode cX6_pen 115 = .ok (.ireturn, 1) := by decide +kernel
theorem dX6_pen_116 : decode cX6_pen 116 = .ok (.aload_n 0, 1) := by decide +kernel
theorem dX6_pen_117 : decode cX6_pen 117 = .ok (.getfield 44, 3) := by decide +kernel
theorem dX6_pen_120 : decode cX6_pen 120 = .ok (.getfield 121, 3) := by decide +kernel
theorem dX6_pen_123 : decode cX6_pen 123 = .ok (.iload_n 1, 1) := by decide +kernel
theorem dX6_pen_124 : decode cX6_pen 124 = .ok (.invokevirtual 264, 3) := by decide +kernel
theorem dX6_pen_127 : decode cX6_pen 127 = .ok (.ireturn, 1) := by decide +kernel
theorem dX6_pen_128 : decode cX6_pen 128 = .ok (.aload_n 3, 1) := by decide +kernel
theorem dX6_pen_129 : decode cX6_pen 129 = .ok (.iload_n 1, 1) := by decide +kernel
theorem dX6_pen_130 : decode cX6_pen 130 = .ok (.invokevirtual 267, 3) := by decide +kernel
theorem dX6_pen_133 : decode cX6_pen 133 = .ok (.ireturn, 1) := by decide +kernel
theorem dX6_piece_0 : decode cX6_piece 0 = .ok (.aload_n 0, 1) := by decide +kernel
theorem dX6_piece_1 : decode cX6_piece 1 = .ok (.iload_n 1, 1) := by decide +kernel
theorem dX6_piece_2 : decode cX6_piece 2 = .ok (.invokevirtual 143, 3) := by decide +kernel
theorem dX6_piece_5 : decode cX6_piece 5 = .ok (.iload_n 2, 1) := by decide +kernel
theorem dX6_piece_6 : decode cX6_piece 6 = .ok (.iconst 0, 1) := by decide +kernel
theorem dX6_piece_7 : decode cX6_piece 7 = .ok (.bipush 9, 2) := by decide +kernel
theorem dX6_piece_9 : decode cX6_piece 9 = .ok (.invokestatic 76, 3) := by decide +kernel
theorem dX6_piece_12 : decode cX6_piece 12 = .ok (.aload_n 0, 1) := by decide +kernel
theorem dX6_piece_13 : decode cX6_piece 13 = .ok (.getfield 44, 3) := by decide +kernel
theorem dX6_piece_16 : decode cX6_piece 16 = .ok (.getfield 121, 3) := by decide +kernel
theorem dX6_piece_19 : decode cX6_piece 19 = .ok (.astore_n 3, 1) := by decide +kernel
theorem dX6_piece_20 : decode cX6_piece 20 = .ok (.iload_n 2, 1) := by decide +kernel
theorem dX6_piece_21 : decode cX6_piece 21 = .ok (.tableswitch 113 0 8 #[51, 58, 65, 72, 79, 85, 91, 97, 104], 51) := by decide +kernel
theorem dX6_piece_72 : decode cX6_piece 72 = .ok (.aload_n 3, 1) := by decide +kernel
theorem dX6_piece_73 : decode cX6_piece 73 = .ok (.getfield 270, 3) := by decide +kernel
theorem dX6_piece_76 : decode cX6_piece 76 = .ok (.iload_n 1, 1) := by decide +kernel
theorem dX6_piece_77 : decode cX6_piece 77 = .ok (.iaload, 1) := by decide +kernel
theorem dX6_piece_78 : decode cX6_piece 78 = .ok (.ireturn, 1) := by decide +kernel
theorem dX6_piece_79 : decode cX6_piece 79 = .ok (.aload_n 3, 1) := by decide +kernel
theorem dX6_piece_80 : decode cX6_piece 80 = .ok (.getfield 164, 3) := by decide +kernel
theorem dX6_piece_83 : decode cX6_piece 83 = .ok (.iload_n 1, 1) := by decide +kernel
theorem dX6_piece_84 : decode cX6_piece 84 = .ok (.iaload, 1) := by decide +kernel
theorem dX6_piece_85 : decode cX6_piece 85 = .ok (.ireturn, 1) := by decide +kernel
theorem dX6_piece_86 : decode cX6_piece 86 = .ok (.aload_n 3, 1) := by decide +kernel
theorem dX6_piece_87 : decode cX6_piece 87 = .ok (.getfield 161, 3) := by decide +kernel
theorem dX6_piece_90 : decode cX6_piece 90 = .ok (.iload_n 1, 1) := by decide +kernel
theorem dX6_piece_91 : decode cX6_piece 91 = .ok (.iaload, 1) := by decide +kernel
theorem dX6_piece_92 : decode cX6_piece 92 = .ok (.ireturn, 1) := by decide +kernel
theorem dX6_piece_93 : decode cX6_piece 93 = .ok (.aload_n 3, 1) := by decide +kernel
theorem dX6_piece_94 : decode cX6_piece 94 = .ok (.getfield 167, 3) := by decide +kernel
theorem dX6_piece_97 : decode cX6_piece 97 = .ok (.iload_n 1, 1) := by decide +kernel
theorem dX6_piece_98 : decode cX6_piece 98 = .ok (.iaload, 1) := by decide +kernel
theorem dX6_piece_99 : decode cX6_piece 99 = .ok (.ireturn, 1) := by decide +kernel
theorem dX6_piece_100 : decode cX6_piece 100 = .ok (.aload_n 3, 1) := by decide +kernel
theorem dX6_piece_101 : decode cX6_piece 101 = .ok (.iload_n 1, 1) := by decide +kernel
theorem dX6_piece_102 : decode cX6_piece 102 = .ok (.invokevirtual 149, 3) := by decide +kernel
theorem dX6_piece_105 : decode cX6_piece 105 = .ok (.ireturn, 1) := by decide +kernel
theorem dX6_piece_106 : decode cX6_piece 106 = .ok (.aload_n 3, 1) := by decide +kernel
theorem dX6_piece_107 : decode cX6_piece 107 = .ok (.iload_n 1, 1) := by decide +kernel
theorem dX6_piece_108 : decode cX6_piece 108 = .ok (.invokevirtual 273, 3) := by decide +kernel
theorem dX6_piece_111 : decode cX6_piece 111 = .ok (.ireturn, 1) := by decide +kernel
theorem dX6_piece_112 : decode cX6_piece 112 = .ok (.aload_n 3, 1) := by decide +kernel
theorem dX6_piece_113 : decode cX6_piece 113 = .ok (.iload_n 1, 1) := by decide +kernel
theorem dX6_piece_114 : decode cX6_piece 114 = .ok (.invokevirtual 192, 3) := by decide +kernel
theorem dX6_piece_117 : decode cX6_piece 117 = .ok (.ireturn, 1) := by decide +kernel
theorem dX6_piece_118 : decode cX6_piece 118 = .ok (.aload_n 3, 1) := by decide +kernel
theorem dX6_piece_119 : decode cX6_piece 119 = .ok (.getfield 213, 3) := by decide +kernel
theorem dX6_piece_122 : decode cX6_piece 122 = .ok (.iload_n 1, 1) := by decide +kernel
theorem dX6_piece_123 : decode cX6_piece 123 = .ok (.iaload, 1) := by decide +kernel
theorem dX6_piece_124 : decode cX6_piece 124 = .ok (.ireturn, 1) := by decide +kernel
theorem dX6_piece_125 : decode cX6_piece 125 = .ok (.aload_n 0, 1) := by decide +kernel
theorem dX6_piece_126 : decode cX6_piece 126 = .ok (.getfield 44, 3) := by decide +kernel
theorem dX6_piece_129 : decode cX6_piece 129 = .ok (.iload_n 1, 1) := by decide +kernel
theorem dX6_piece_130 : decode cX6_piece 130 = .ok (.invokevirtual 204, 3) := by decide +kernel
theorem dX6_piece_133 : decode cX6_piece 133 = .ok (.ireturn, 1) := by decide +kernel
theorem dX6_piece_134 : decode cX6_piece 134 = .ok (.aload_n 3, 1) := by decide +kernel
theorem dX6_piece_135 : decode cX6_piece 135 = .ok (.iload_n 1, 1) := by decide +kernel
theorem dX6_piece_136 : decode cX6_piece 136 = .ok (.invokevirtual 226, 3) := by decide +kernel
theorem dX6_piece_139 : decode cX6_piece 139 = .ok (.ireturn, 1) := by decide +kernel
theorem dX6_between_0 : decode cX6_between 0 = .ok (.aload_n 0, 1) := by decide +kernel
theorem dX6_between_1 : decode cX6_between 1 = .ok (.iload_n 1, 1) := by decide +kernel
theorem dX6_between_2 : decode cX6_between 2 = .ok (.invokevirtual 143, 3) := by decide +kernel
theorem dX6_between_5 : decode cX6_between 5 = .ok (.aload_n 0, 1) := by decide +kernel
theorem dX6_between_6 : decode cX6_between 6 = .ok (.iload_n 2, 1) := by decide +kernel
theorem dX6_between_7 : decode cX6_between 7 = .ok (.invokevirtual 71, 3) := by decide +kernel
theorem dX6_between_10 : decode cX6_between 10 = .ok (.iload_n 3, 1) := by decide +kernel
theorem dX6_between_11 : decode cX6_between 11 = .ok (.iconst 0, 1) := by decide +kernel
theorem dX6_between_12 : decode cX6_between 12 = .ok (.iconst 2, 1) := by decide +kernel
theorem dX6_between_13 : decode cX6_between 13 = .ok (.invokestatic 76, 3) := by decide +kernel
theorem dX6_between_16 : decode cX6_between 16 = .ok (.iload_n 3, 1) := by decide +kernel
theorem dX6_between_17 : decode cX6_between 17 = .ok (.lookupswitch 61 #[(0, 27), (1, 44)], 27) := by decide +kernel
theorem dX6_between_44 : decode cX6_between 44 = .ok (.aload_n 0, 1) := by decide +kernel
theorem dX6_between_45 : decode cX6_between 45 = .ok (.getfield 44, 3) := by decide +kernel
theorem dX6_between_48 : decode cX6_between 48 = .ok (.getfield 121, 3) := by decide +kernel
theorem dX6_between_51 : decode cX6_between 51 = .ok (.getfield 241, 3) := by decide +kernel
theorem dX6_between_54 : decode cX6_between 54 = .ok (.iload_n 1, 1) := by decide +kernel
theorem dX6_between_55 : decode cX6_between 55 = .ok (.iload_n 2, 1) := by decide +kernel
theorem dX6_between_56 : decode cX6_between 56 = .ok (.invokestatic 158, 3) := by decide +kernel
theorem dX6_between_59 : decode cX6_between 59 = .ok (.iaload, 1) := by decide +kernel
theorem dX6_between_60 : decode cX6_between 60 = .ok (.ireturn, 1) := by decide +kernel
theorem dX6_between_61 : decode cX6_between 61 = .ok (.aload_n 0, 1) := by decide +kernel
theorem dX6_between_62 : decode cX6_between 62 = .ok (.getfield 44, 3) := by decide +kernel
theorem dX6_between_65 : decode cX6_between 65 = .ok (.getfield 121, 3) := by decide +kernel
theorem dX6_between_68 : decode cX6_between 68 = .ok (.getfield 155, 3) := by decide +kernel
theorem dX6_between_71 : decode cX6_between 71 = .ok (.iload_n 1, 1) := by decide +kernel
theorem dX6_between_72 : decode cX6_between 72 = .ok (.iload_n 2, 1) := by decide +kernel
theorem dX6_between_73 : decode cX6_between 73 = .ok (.invokestatic 158, 3) := by decide +kernel
theorem dX6_between_76 : decode cX6_between 76 = .ok (.iaload, 1) := by decide +kernel
theorem dX6_between_77 : decode cX6_between 77 = .ok (.ireturn, 1) := by decide +kernel
theorem dX6_between_78 : decode cX6_between 78 = .ok (.aload_n 0, 1) := by decide +kernel
theorem dX6_between_79 : decode cX6_between 79 = .ok (.getfield 44, 3) := by decide +kernel
theorem dX6_between_82 : decode cX6_between 82 = .ok (.getfield 121, 3) := by decide +kernel
theorem dX6_between_85 : decode cX6_between 85 = .ok (.getfield 125, 3) := by decide +kernel
theorem dX6_between_88 : decode cX6_between 88 = .ok (.iload_n 1, 1) := by decide +kernel
theorem dX6_between_89 : decode cX6_between 89 = .ok (.iload_n 2, 1) := by decide +kernel
theorem dX6_between_90 : decode cX6_between 90 = .ok (.invokestatic 158, 3) := by decide +kernel
theorem dX6_between_93 : decode cX6_between 93 = .ok (.iaload, 1) := by decide +kernel
theorem dX6_between_94 : decode cX6_between 94 = .ok (.ireturn, 1) := by decide +kernel
theorem dX6_count_0 : decode cX6_count 0 = .ok (.iload_n 1, 1) := by decide +kernel
theorem dX6_count_1 : decode cX6_count 1 = .ok (.iconst 0, 1) := by decide +kernel
theorem dX6_count_2 : decode cX6_count 2 = .ok (.bipush 13, 2) := by decide +kernel
theorem dX6_count_4 : decode cX6_count 4 = .ok (.invokestatic 76, 3) := by decide +kernel
theorem dX6_count_7 : decode cX6_count 7 = .ok (.iload_n 1, 1) := by decide +kernel
theorem dX6_count_8 : decode cX6_count 8 = .ok (.tableswitch 207 0 12 #[68, 79, 90, 98, 106, 114, 128, 142, 156, 168, 180, 188, 199], 68) := by decide +kernel
theorem dX6_count_76 : decode cX6_count 76 = .ok (.aload_n 0, 1) := by decide +kernel
theorem dX6_count_77 : decode cX6_count 77 = .ok (.getfield 44, 3) := by decide +kernel
theorem dX6_count_80 : decode cX6_count 80 = .ok (.getfield 48, 3) := by decide +kernel
theorem dX6_count_83 : decode cX6_count 83 = .ok (.getfield 52, 3) := by decide +kernel
theorem dX6_count_86 : decode cX6_count 86 = .ok (.ireturn, 1) := by decide +kernel
theorem dX6_count_87 : decode cX6_count 87 = .ok (.aload_n 0, 1) := by decide +kernel
theorem dX6_count_88 : decode cX6_count 88 = .ok (.getfield 44, 3) := by decide +kernel
theorem dX6_count_91 : decode cX6_count 91 = .ok (.getfield 121, 3) := by decide +kernel
theorem dX6_count_94 : decode cX6_count 94 = .ok (.getfield 136, 3) := by decide +kernel
theorem dX6_count_97 : decode cX6_count 97 = .ok (.ireturn, 1) := by decide +kernel
theorem dX6_count_98 : decode cX6_count 98 = .ok (.aload_n 0, 1) := by decide +kernel
theorem dX6_count_99 : decode cX6_count 99 = .ok (.getfield 44, 3) := by decide +kernel
theorem dX6_count_102 : decode cX6_count 102 = .ok (.getfield 118, 3) := by decide +kernel
theorem dX6_count_105 : decode cX6_count 105 = .ok (.ireturn, 1) := by decide +kernel
theorem dX6_count_106 : decode cX6_count 106 = .ok (.aload_n 0, 1) := by decide +kernel
theorem dX6_count_107 : decode cX6_count 107 = .ok (.getfield 44, 3) := by decide +kernel
theorem dX6_count_110 : decode cX6_count 110 = .ok (.getfield 100, 3) := by decide +kernel
theorem dX6_count_113 : decode cX6_count 113 = .ok (.ireturn, 1) := by decide +kernel
theorem dX6_count_114 : decode cX6_count 114 = .ok (.aload_n 0, 1) := by decide +kernel
theorem dX6_count_115 : decode cX6_count 115 = .ok (.getfield 44, 3) := by decide +kernel
theorem dX6_count_118 : decode cX6_count 118 = .ok (.getfield 276, 3) := by decide +kernel
theorem dX6_count_121 : decode cX6_count 121 = .ok (.ireturn, 1) := by decide +kernel
theorem dX6_count_122 : decode cX6_count 122 = .ok (.aload_n 0, 1) := by decide +kernel
theorem dX6_count_123 : decode cX6_count 123 = .ok (.getfield 44, 3) := by decide +kernel
theorem dX6_count_126 : decode cX6_count 126 = .ok (.getfield 48, 3) := by decide +kernel
theorem dX6_count_129 : decode cX6_count 129 = .ok (.getfield 85, 3) := by decide +kernel
theorem dX6_count_132 : decode cX6_count 132 = .ok (.invokestatic 279, 3) := by decide +kernel
theorem dX6_count_135 : decode cX6_count 135 = .ok (.ireturn, 1) := by decide +kernel
theorem dX6_count_136 : decode cX6_count 136 = .ok (.aload_n 0, 1) := by decide +kernel
theorem dX6_count_137 : decode cX6_count 137 = .ok (.getfield 44, 3) := by decide +kernel
theorem dX6_count_140 : decode cX6_count 140 = .ok (.getfield 48, 3) := by decide +kernel
theorem dX6_count_143 : decode cX6_count 143 = .ok (.getfield 103, 3) := by decide +kernel
theorem dX6_count_146 : decode cX6_count 146 = .ok (.invokestatic 279, 3) := by decide +kernel
theorem dX6_count_149 : decode cX6_count 149 = .ok (.ireturn, 1) := by decide +kernel
theorem dX6_count_150 : decode cX6_count 150 = .ok (.aload_n 0, 1) := by decide +kernel
theorem dX6_count_151 : decode cX6_count 151 = .ok (.getfield 44, 3) := by decide +kernel
theorem dX6_count_154 : decode cX6_count 154 = .ok (.getfield 48, 3) := by decide +kernel
theorem dX6_count_157 : decode cX6_count 157 = .ok (.getfield 106, 3) := by decide +kernel
theorem dX6_count_160 : decode cX6_count 160 = .ok (.invokestatic 279, 3) := by decide +kernel
theorem dX6_count_163 : decode cX6_count 163 = .ok (.ireturn, 1) := by decide +kernel
theorem dX6_count_164 : decode cX6_count 164 = .ok (.aload_n 0, 1) := by decide +kernel
theorem dX6_count_165 : decode cX6_count 165 = .ok (.getfield 44, 3) := by decide +kernel
theorem dX6_count_168 : decode cX6_count 168 = .ok (.getfield 121, 3) := by decide +kernel
theorem dX6_count_171 : decode cX6_count 171 = .ok (.iconst 3, 1) := by decide +kernel
theorem dX6_count_172 : decode cX6_count 172 = .ok (.invokevirtual 283, 3) := by decide +kernel
theorem dX6_count_175 : decode cX6_count 175 = .ok (.ireturn, 1) := by decide +kernel
theorem dX6_count_176 : decode cX6_count 176 = .ok (.aload_n 0, 1) := by decide +kernel
theorem dX6_count_177 : decode cX6_count 177 = .ok (.getfield 44, 3) := by decide +kernel
theorem dX6_count_180 : decode cX6_count 180 = .ok (.getfield 121, 3) := by decide +kernel
theorem dX6_count_183 : decode cX6_count 183 = .ok (.iconst 4, 1) := by decide +kernel
theorem dX6_count_184 : decode cX6_count 184 = .ok (.invokevirtual 283, 3) := by decide +kernel
theorem dX6_count_187 : decode cX6_count 187 = .ok (.ireturn, 1) := by decide +kernel
theorem dX6_count_188 : decode cX6_count 188 = .ok (.aload_n 0, 1) := by decide +kernel
theorem dX6_count_189 : decode cX6_count 189 = .ok (.getfield 44, 3) := by decide +kernel
theorem dX6_count_192 : decode cX6_count 192 = .ok (.getfield 238, 3) := by decide +kernel
theorem dX6_count_195 : decode cX6_count 195 = .ok (.ireturn, 1) := by decide +kernel
theorem dX6_count_196 : decode cX6_count 196 = .ok (.aload_n 0, 1) := by decide +kernel
theorem dX6_count_197 : decode cX6_count 197 = .ok (.getfield 44, 3) := by decide +kernel
theorem dX6_count_200 : decode cX6_count 200 = .ok (.getfield 48, 3) := by decide +kernel
theorem dX6_count_203 : decode cX6_count 203 = .ok (.invokevirtual 286, 3) := by decide +kernel
theorem dX6_count_206 : decode cX6_count 206 = .ok (.ireturn, 1) := by decide +kernel
theorem dX6_count_207 : decode cX6_count 207 = .ok (.aload_n 0, 1) := by decide +kernel
theorem dX6_count_208 : decode cX6_count 208 = .ok (.getfield 44, 3) := by decide +kernel
theorem dX6_count_211 : decode cX6_count 211 = .ok (.getfield 222, 3) := by decide +kernel
theorem dX6_count_214 : decode cX6_count 214 = .ok (.ireturn, 1) := by decide +kernel
theorem dX6_count_215 : decode cX6_count 215 = .ok (.aload_n 0, 1) := by decide +kernel
theorem dX6_count_216 : decode cX6_count 216 = .ok (.getfield 250, 3) := by decide +kernel
theorem dX6_count_219 : decode cX6_count 219 = .ok (.ireturn, 1) := by decide +kernel
theorem dX6_setting_0 : decode cX6_setting 0 = .ok (.iload_n 1, 1) := by decide +kernel
theorem dX6_setting_1 : decode cX6_setting 1 = .ok (.invokestatic 109, 3) := by decide +kernel
theorem dX6_setting_4 : decode cX6_setting 4 = .ok (.aload_n 0, 1) := by decide +kernel
theorem dX6_setting_5 : decode cX6_setting 5 = .ok (.getfield 44, 3) := by decide +kernel
theorem dX6_setting_8 : decode cX6_setting 8 = .ok (.getfield 115, 3) := by decide +kernel
theorem dX6_setting_11 : decode cX6_setting 11 = .ok (.iload_n 1, 1) := by decide +kernel
theorem dX6_setting_12 : decode cX6_setting 12 = .ok (.iaload, 1) := by decide +kernel
theorem dX6_setting_13 : decode cX6_setting 13 = .ok (.ireturn, 1) := by decide +kernel
theorem dX6_ifPaid_0 : decode cX6_ifPaid 0 = .ok (.aload_n 0, 1) := by decide +kernel
theorem dX6_ifPaid_1 : decode cX6_ifPaid 1 = .ok (.iload_n 1, 1) := by decide +kernel
theorem dX6_ifPaid_2 : decode cX6_ifPaid 2 = .ok (.invokevirtual 143, 3) := by decide +kernel
theorem dX6_ifPaid_5 : decode cX6_ifPaid 5 = .ok (.aload_n 0, 1) := by decide +kernel
theorem dX6_ifPaid_6 : decode cX6_ifPaid 6 = .ok (.iload_n 3, 1) := by decide +kernel
theorem dX6_ifPaid_7 : decode cX6_ifPaid 7 = .ok (.invokevirtual 71, 3) := by decide +kernel
theorem dX6_ifPaid_10 : decode cX6_ifPaid 10 = .ok (.iload_n 2, 1) := by decide +kernel
theorem dX6_ifPaid_11 : decode cX6_ifPaid 11 = .ok (.iconst 1, 1) := by decide +kernel
theorem dX6_ifPaid_12 : decode cX6_ifPaid 12 = .ok (.ldc 75, 2) := by decide +kernel
theorem dX6_ifPaid_14 : decode cX6_ifPaid 14 = .ok (.invokestatic 76, 3) := by decide +kernel
theorem dX6_ifPaid_17 : decode cX6_ifPaid 17 = .ok (.aload_n 0, 1) := by decide +kernel
theorem dX6_ifPaid_18 : decode cX6_ifPaid 18 = .ok (.iload_n 1, 1) := by decide +kernel
theorem dX6_ifPaid_19 : decode cX6_ifPaid 19 = .ok (.invokevirtual 207, 3) := by decide +kernel
theorem dX6_ifPaid_22 : decode cX6_ifPaid 22 = .ok (.aload_n 0, 1) := by decide +kernel
theorem dX6_ifPaid_23 : decode cX6_ifPaid 23 = .ok (.getfield 25, 3) := by decide +kernel
theorem dX6_ifPaid_26 : decode cX6_ifPaid 26 = .ok (.aload_n 0, 1) := by decide +kernel
theorem dX6_ifPaid_27 : decode cX6_ifPaid 27 = .ok (.getfield 44, 3) := by decide +kernel
theorem dX6_ifPaid_30 : decode cX6_ifPaid 30 = .ok (.iload_n 1, 1) := by decide +kernel
theorem dX6_ifPaid_31 : decode cX6_ifPaid 31 = .ok (.iload_n 2, 1) := by decide +kernel
theorem dX6_ifPaid_32 : decode cX6_ifPaid 32 = .ok (.invokevirtual 210, 3) := by decide +kernel
theorem dX6_ifPaid_35 : decode cX6_ifPaid 35 = .ok (.aload_n 0, 1) := by decide +kernel
theorem dX6_ifPaid_36 : decode cX6_ifPaid 36 = .ok (.iload_n 3, 1) := by decide +kernel
theorem dX6_ifPaid_37 : decode cX6_ifPaid 37 = .ok (.invokevirtual 289, 3) := by decide +kernel
theorem dX6_ifPaid_40 : decode cX6_ifPaid 40 = .ok (.ireturn, 1) := by decide +kernel
theorem dX6_fairest_0 : decode cX6_fairest 0 = .ok (.aload_n 0, 1) := by decide +kernel
theorem dX6_fairest_1 : decode cX6_fairest 1 = .ok (.iload_n 1, 1) := by decide +kernel
theorem dX6_fairest_2 : decode cX6_fairest 2 = .ok (.invokevirtual 143, 3) := by decide +kernel
theorem dX6_fairest_5 : decode cX6_fairest 5 = .ok (.aload_n 0, 1) := by decide +kernel
theorem dX6_fairest_6 : decode cX6_fairest 6 = .ok (.iload_n 2, 1) := by decide +kernel
theorem dX6_fairest_7 : decode cX6_fairest 7 = .ok (.invokevirtual 71, 3) := by decide +kernel
theorem dX6_fairest_10 : decode cX6_fairest 10 = .ok (.aload_n 0, 1) := by decide +kernel
theorem dX6_fairest_11 : decode cX6_fairest 11 = .ok (.getfield 32, 3) := by decide +kernel
theorem dX6_fairest_14 : decode cX6_fairest 14 = .ok (.aload_n 0, 1) := by decide +kernel
theorem dX6_fairest_15 : decode cX6_fairest 15 = .ok (.getfield 44, 3) := by decide +kernel
theorem dX6_fairest_18 : decode cX6_fairest 18 = .ok (.getfield 121, 3) := by decide +kernel
theorem dX6_fairest_21 : decode cX6_fairest 21 = .ok (.iload_n 1, 1) := by decide +kernel
theorem dX6_fairest_22 : decode cX6_fairest 22 = .ok (.invokevirtual 292, 3) := by decide +kernel
theorem dX6_fairest_25 : decode cX6_fairest 25 = .ok (.aload_n 0, 1) := by decide +kernel
theorem dX6_fairest_26 : decode cX6_fairest 26 = .ok (.getfield 32, 3) := by decide +kernel
theorem dX6_fairest_29 : decode cX6_fairest 29 = .ok (.getfield 296, 3) := by decide +kernel
theorem dX6_fairest_32 : decode cX6_fairest 32 = .ok (.iload_n 2, 1) := by decide +kernel
theorem dX6_fairest_33 : decode cX6_fairest 33 = .ok (.iaload, 1) := by decide +kernel
theorem dX6_fairest_34 : decode cX6_fairest 34 = .ok (.ireturn, 1) := by decide +kernel
theorem dX6_bestPiece_0 : decode cX6_bestPiece 0 = .ok (.aload_n 0, 1) := by decide +kernel
theorem dX6_bestPiece_1 : decode cX6_bestPiece 1 = .ok (.iload_n 1, 1) := by decide +kernel
theorem dX6_bestPiece_2 : decode cX6_bestPiece 2 = .ok (.invokevirtual 71, 3) := by decide +kernel
theorem dX6_bestPiece_5 : decode cX6_bestPiece 5 = .ok (.iload_n 2, 1) := by decide +kernel
theorem dX6_bestPiece_6 : decode cX6_bestPiece 6 = .ok (.iconst 1, 1) := by decide +kernel
theorem dX6_bestPiece_7 : decode cX6_bestPiece 7 = .ok (.ldc 75, 2) := by decide +kernel
theorem dX6_bestPiece_9 : decode cX6_bestPiece 9 = .ok (.invokestatic 76, 3) := by decide +kernel
theorem dX6_bestPiece_12 : decode cX6_bestPiece 12 = .ok (.aload_n 0, 1) := by decide +kernel
theorem dX6_bestPiece_13 : decode cX6_bestPiece 13 = .ok (.iload_n 2, 1) := by decide +kernel
theorem dX6_bestPiece_14 : decode cX6_bestPiece 14 = .ok (.invokevirtual 297, 3) := by decide +kernel
theorem dX6_bestPiece_17 : decode cX6_bestPiece 17 = .ok (.aload_n 0, 1) := by decide +kernel
theorem dX6_bestPiece_18 : decode cX6_bestPiece 18 = .ok (.getfield 36, 3) := by decide +kernel
theorem dX6_bestPiece_21 : decode cX6_bestPiece 21 = .ok (.iload_n 1, 1) := by decide +kernel
theorem dX6_bestPiece_22 : decode cX6_bestPiece 22 = .ok (.iaload, 1) := by decide +kernel
theorem dX6_bestPiece_23 : decode cX6_bestPiece 23 = .ok (.ireturn, 1) := by decide +kernel
theorem dX6_spread_0 : decode cX6_spread 0 = .ok (.aload_n 0, 1) := by decide +kernel
theorem dX6_spread_1 : decode cX6_spread 1 = .ok (.getfield 44, 3) := by decide +kernel
theorem dX6_spread_4 : decode cX6_spread 4 = .ok (.getfield 48, 3) := by decide +kernel
theorem dX6_spread_7 : decode cX6_spread 7 = .ok (.getfield 85, 3) := by decide +kernel
theorem dX6_spread_10 : decode cX6_spread 10 = .ok (.invokestatic 279, 3) := by decide +kernel
theorem dX6_spread_13 : decode cX6_spread 13 = .ok (.istore_n 1, 1) := by decide +kernel
theorem dX6_spread_14 : decode cX6_spread 14 = .ok (.iload_n 1, 1) := by decide +kernel
theorem dX6_spread_15 : decode cX6_spread 15 = .ok (.ifCond .ne 5, 3) := by decide +kernel
theorem dX6_spread_18 : decode cX6_spread 18 = .ok (.dconst 0, 1) := by decide +kernel
theorem dX6_spread_19 : decode cX6_spread 19 = .ok (.dreturn, 1) := by decide +kernel
theorem dX6_spread_20 : decode cX6_spread 20 = .ok (.aload_n 0, 1) := by decide +kernel
theorem dX6_spread_21 : decode cX6_spread 21 = .ok (.getfield 44, 3) := by decide +kernel
theorem dX6_spread_24 : decode cX6_spread 24 = .ok (.getfield 48, 3) := by decide +kernel
theorem dX6_spread_27 : decode cX6_spread 27 = .ok (.invokevirtual 300, 3) := by decide +kernel
theorem dX6_spread_30 : decode cX6_spread 30 = .ok (.i2d, 1) := by decide +kernel
theorem dX6_spread_31 : decode cX6_spread 31 = .ok (.aload_n 0, 1) := by decide +kernel
theorem dX6_spread_32 : decode cX6_spread 32 = .ok (.getfield 44, 3) := by decide +kernel
theorem dX6_spread_35 : decode cX6_spread 35 = .ok (.getfield 48, 3) := by decide +kernel
theorem dX6_spread_38 : decode cX6_spread 38 = .ok (.getfield 52, 3) := by decide +kernel
theorem dX6_spread_41 : decode cX6_spread 41 = .ok (.i2d, 1) := by decide +kernel
theorem dX6_spread_42 : decode cX6_spread 42 = .ok (.iload_n 1, 1) := by decide +kernel
theorem dX6_spread_43 : decode cX6_spread 43 = .ok (.i2d, 1) := by decide +kernel
theorem dX6_spread_44 : decode cX6_spread 44 = .ok (.dmul, 1) := by decide +kernel
theorem dX6_spread_45 : decode cX6_spread 45 = .ok (.ddiv, 1) := by decide +kernel
theorem dX6_spread_46 : decode cX6_spread 46 = .ok (.dreturn, 1) := by decide +kernel
theorem dX6_needPen_0 : decode cX6_needPen 0 = .ok (.iload_n 1, 1) := by decide +kernel
theorem dX6_needPen_1 : decode cX6_needPen 1 = .ok (.ifCond .lt 17, 3) := by decide +kernel
theorem dX6_needPen_4 : decode cX6_needPen 4 = .ok (.iload_n 1, 1) := by decide +kernel
theorem dX6_needPen_5 : decode cX6_needPen 5 = .ok (.aload_n 0, 1) := by decide +kernel
theorem dX6_needPen_6 : decode cX6_needPen 6 = .ok (.getfield 44, 3) := by decide +kernel
theorem dX6_needPen_9 : decode cX6_needPen 9 = .ok (.getfield 48, 3) := by decide +kernel
theorem dX6_needPen_12 : decode cX6_needPen 12 = .ok (.getfield 52, 3) := by decide +kernel
theorem dX6_needPen_15 : decode cX6_needPen 15 = .ok (.if_icmp .lt 14, 3) := by decide +kernel
theorem dX6_needPen_18 : decode cX6_needPen 18 = .ok (.new 327, 3) := by decide +kernel
theorem dX6_needPen_21 : decode cX6_needPen 21 = .ok (.dup, 1) := by decide +kernel
theorem dX6_needPen_22 : decode cX6_needPen 22 = .ok (.ldc_w 329, 3) := by decide +kernel
theorem dX6_needPen_25 : decode cX6_needPen 25 = .ok (.invokespecial 331, 3) := by decide +kernel
theorem dX6_needPen_28 : decode cX6_needPen 28 = .ok (.athrow, 1) := by decide +kernel
theorem dX6_needPen_29 : decode cX6_needPen 29 = .ok (.return_, 1) := by decide +kernel
theorem dX6_needPiece_0 : decode cX6_needPiece 0 = .ok (.iload_n 1, 1) := by decide +kernel
theorem dX6_needPiece_1 : decode cX6_needPiece 1 = .ok (.ifCond .lt 17, 3) := by decide +kernel
theorem dX6_needPiece_4 : decode cX6_needPiece 4 = .ok (.iload_n 1, 1) := by decide +kernel
theorem dX6_needPiece_5 : decode cX6_needPiece 5 = .ok (.aload_n 0, 1) := by decide +kernel
theorem dX6_needPiece_6 : decode cX6_needPiece 6 = .ok (.getfield 44, 3) := by decide +kernel
theorem dX6_needPiece_9 : decode cX6_needPiece 9 = .ok (.getfield 121, 3) := by decide +kernel
theorem dX6_needPiece_12 : decode cX6_needPiece 12 = .ok (.getfield 136, 3) := by decide +kernel
theorem dX6_needPiece_15 : decode cX6_needPiece 15 = .ok (.if_icmp .lt 14, 3) := by decide +kernel
theorem dX6_needPiece_18 : decode cX6_needPiece 18 = .ok (.new 327, 3) := by decide +kernel
theorem dX6_needPiece_21 : decode cX6_needPiece 21 = .ok (.dup, 1) := by decide +kernel
theorem dX6_needPiece_22 : decode cX6_needPiece 22 = .ok (.ldc_w 332, 3) := by decide +kernel
theorem dX6_needPiece_25 : decode cX6_needPiece 25 = .ok (.invokespecial 331, 3) := by decide +kernel
theorem dX6_needPiece_28 : decode cX6_needPiece 28 = .ok (.athrow, 1) := by decide +kernel
theorem dX6_needPiece_29 : decode cX6_needPiece 29 = .ok (.return_, 1) := by decide +kernel
theorem dX6_needSetting_0 : decode cX6_needSetting 0 = .ok (.iload_n 0, 1) := by decide +kernel
theorem dX6_needSetting_1 : decode cX6_needSetting 1 = .ok (.ifCond .lt 9, 3) := by decide +kernel
theorem dX6_needSetting_4 : decode cX6_needSetting 4 = .ok (.iload_n 0, 1) := by decide +kernel
theorem dX6_needSetting_5 : decode cX6_needSetting 5 = .ok (.bipush 6, 2) := by decide +kernel
theorem dX6_needSetting_7 : decode cX6_needSetting 7 = .ok (.if_icmp .lt 14, 3) := by decide +kernel
theorem dX6_needSetting_10 : decode cX6_needSetting 10 = .ok (.new 327, 3) := by decide +kernel
theorem dX6_needSetting_13 : decode cX6_needSetting 13 = .ok (.dup, 1) := by decide +kernel
theorem dX6_needSetting_14 : decode cX6_needSetting 14 = .ok (.ldc_w 334, 3) := by decide +kernel
theorem dX6_needSetting_17 : decode cX6_needSetting 17 = .ok (.invokespecial 331, 3) := by decide +kernel
theorem dX6_needSetting_20 : decode cX6_needSetting 20 = .ok (.athrow, 1) := by decide +kernel
theorem dX6_needSetting_21 : decode cX6_needSetting 21 = .ok (.return_, 1) := by decide +kernel
theorem dX6_needRange_0 : decode cX6_needRange 0 = .ok (.iload_n 0, 1) := by decide +kernel
theorem dX6_needRange_1 : decode cX6_needRange 1 = .ok (.iload_n 1, 1) := by decide +kernel
theorem dX6_needRange_2 : decode cX6_needRange 2 = .ok (.if_icmp .lt 8, 3) := by decide +kernel
theorem dX6_needRange_5 : decode cX6_needRange 5 = .ok (.iload_n 0, 1) := by decide +kernel
theorem dX6_needRange_6 : decode cX6_needRange 6 = .ok (.iload_n 2, 1) := by decide +kernel
theorem dX6_needRange_7 : decode cX6_needRange 7 = .ok (.if_icmp .le 14, 3) := by decide +kernel
theorem dX6_needRange_10 : decode cX6_needRange 10 = .ok (.new 80, 3) := by decide +kernel
theorem dX6_needRange_13 : decode cX6_needRange 13 = .ok (.dup, 1) := by decide +kernel
theorem dX6_needRange_14 : decode cX6_needRange 14 = .ok (.ldc_w 336, 3) := by decide +kernel
theorem dX6_needRange_17 : decode cX6_needRange 17 = .ok (.invokespecial 84, 3) := by decide +kernel
theorem dX6_needRange_20 : decode cX6_needRange 20 = .ok (.athrow, 1) := by decide +kernel
theorem dX6_needRange_21 : decode cX6_needRange 21 = .ok (.return_, 1) := by decide +kernel
theorem dX6_needAtLeast_0 : decode cX6_needAtLeast 0 = .ok (.iload_n 0, 1) := by decide +kernel
theorem dX6_needAtLeast_1 : decode cX6_needAtLeast 1 = .ok (.iload_n 1, 1) := by decide +kernel
theorem dX6_needAtLeast_2 : decode cX6_needAtLeast 2 = .ok (.if_icmp .ge 14, 3) := by decide +kernel
theorem dX6_needAtLeast_5 : decode cX6_needAtLeast 5 = .ok (.new 58, 3) := by decide +kernel
theorem dX6_needAtLeast_8 : decode cX6_needAtLeast 8 = .ok (.dup, 1) := by decide +kernel
theorem dX6_needAtLeast_9 : decode cX6_needAtLeast 9 = .ok (.ldc_w 338, 3) := by decide +kernel
theorem dX6_needAtLeast_12 : decode cX6_needAtLeast 12 = .ok (.invokespecial 62, 3) := by decide +kernel
theorem dX6_needAtLeast_15 : decode cX6_needAtLeast 15 = .ok (.athrow, 1) := by decide +kernel
theorem dX6_needAtLeast_16 : decode cX6_needAtLeast 16 = .ok (.return_, 1) := by decide +kernel
theorem dX6_needUnended_0 : decode cX6_needUnended 0 = .ok (.aload_n 0, 1) := by decide +kernel
theorem dX6_needUnended_1 : decode cX6_needUnended 1 = .ok (.getfield 44, 3) := by decide +kernel
theorem dX6_needUnended_4 : decode cX6_needUnended 4 = .ok (.getfield 121, 3) := by decide +kernel
theorem dX6_needUnended_7 : decode cX6_needUnended 7 = .ok (.getfield 161, 3) := by decide +kernel
theorem dX6_needUnended_10 : decode cX6_needUnended 10 = .ok (.iload_n 1, 1) := by decide +kernel
theorem dX6_needUnended_11 : decode cX6_needUnended 11 = .ok (.iaload, 1) := by decide +kernel
theorem dX6_needUnended_12 : decode cX6_needUnended 12 = .ok (.iconst 3, 1) := by decide +kernel
theorem dX6_needUnended_13 : decode cX6_needUnended 13 = .ok (.if_icmp .lt 14, 3) := by decide +kernel
theorem dX6_needUnended_16 : decode cX6_needUnended 16 = .ok (.new 58, 3) := by decide +kernel
theorem dX6_needUnended_19 : decode cX6_needUnended 19 = .ok (.dup, 1) := by decide +kernel
theorem dX6_needUnended_20 : decode cX6_needUnended 20 = .ok (.ldc_w 340, 3) := by decide +kernel
theorem dX6_needUnended_23 : decode cX6_needUnended 23 = .ok (.invokespecial 62, 3) := by decide +kernel
theorem dX6_needUnended_26 : decode cX6_needUnended 26 = .ok (.athrow, 1) := by decide +kernel
theorem dX6_needUnended_27 : decode cX6_needUnended 27 = .ok (.return_, 1) := by decide +kernel
theorem dX6_needAccepted_0 : decode cX6_needAccepted 0 = .ok (.aload_n 0, 1) := by decide +kernel
theorem dX6_needAccepted_1 : decode cX6_needAccepted 1 = .ok (.getfield 44, 3) := by decide +kernel
theorem dX6_needAccepted_4 : decode cX6_needAccepted 4 = .ok (.getfield 121, 3) := by decide +kernel
theorem dX6_needAccepted_7 : decode cX6_needAccepted 7 = .ok (.getfield 161, 3) := by decide +kernel
theorem dX6_needAccepted_10 : decode cX6_needAccepted 10 = .ok (.iload_n 1, 1) := by decide +kernel
theorem dX6_needAccepted_11 : decode cX6_needAccepted 11 = .ok (.iaload, 1) := by decide +kernel
theorem dX6_needAccepted_12 : decode cX6_needAccepted 12 = .ok (.iconst 3, 1) := by decide +kernel
theorem dX6_needAccepted_13 : decode cX6_needAccepted 13 = .ok (.if_icmp .eq 14, 3) := by decide +kernel
theorem dX6_needAccepted_16 : decode cX6_needAccepted 16 = .ok (.new 58, 3) := by decide +kernel
theorem dX6_needAccepted_19 : decode cX6_needAccepted 19 = .ok (.dup, 1) := by decide +kernel
theorem dX6_needAccepted_20 : decode cX6_needAccepted 20 = .ok (.ldc_w 342, 3) := by decide +kernel
theorem dX6_needAccepted_23 : decode cX6_needAccepted 23 = .ok (.invokespecial 62, 3) := by decide +kernel
theorem dX6_needAccepted_26 : decode cX6_needAccepted 26 = .ok (.athrow, 1) := by decide +kernel
theorem dX6_needAccepted_27 : decode cX6_needAccepted 27 = .ok (.return_, 1) := by decide +kernel
theorem dX6_save_0 : decode cX6_save 0 = .ok (.aload_n 0, 1) := by decide +kernel
theorem dX6_save_1 : decode cX6_save 1 = .ok (.getfield 255, 3) := by decide +kernel
theorem dX6_save_4 : decode cX6_save 4 = .ok (.iconst 1, 1) := by decide +kernel
theorem dX6_save_5 : decode cX6_save 5 = .ok (.iadd, 1) := by decide +kernel
theorem dX6_save_6 : decode cX6_save 6 = .ok (.bipush 7, 2) := by decide +kernel
theorem dX6_save_8 : decode cX6_save 8 = .ok (.irem, 1) := by decide +kernel
theorem dX6_save_9 : decode cX6_save 9 = .ok (.istore_n 1, 1) := by decide +kernel
theorem dX6_save_10 : decode cX6_save 10 = .ok (.aload_n 0, 1) := by decide +kernel
theorem dX6_save_11 : decode cX6_save 11 = .ok (.getfield 11, 3) := by decide +kernel
theorem dX6_save_14 : decode cX6_save 14 = .ok (.iload_n 1, 1) := by decide +kernel
theorem dX6_save_15 : decode cX6_save 15 = .ok (.aaload, 1) := by decide +kernel
theorem dX6_save_16 : decode cX6_save 16 = .ok (.aload_n 0, 1) := by decide +kernel
theorem dX6_save_17 : decode cX6_save 17 = .ok (.getfield 44, 3) := by decide +kernel
theorem dX6_save_20 : decode cX6_save 20 = .ok (.invokevirtual 344, 3) := by decide +kernel
theorem dX6_save_23 : decode cX6_save 23 = .ok (.aload_n 0, 1) := by decide +kernel
theorem dX6_save_24 : decode cX6_save 24 = .ok (.aload_n 0, 1) := by decide +kernel
theorem dX6_save_25 : decode cX6_save 25 = .ok (.getfield 11, 3) := by decide +kernel
theorem dX6_save_28 : decode cX6_save 28 = .ok (.iload_n 1, 1) := by decide +kernel
theorem dX6_save_29 : decode cX6_save 29 = .ok (.aaload, 1) := by decide +kernel
theorem dX6_save_30 : decode cX6_save 30 = .ok (.putfield 44, 3) := by decide +kernel
theorem dX6_save_33 : decode cX6_save 33 = .ok (.aload_n 0, 1) := by decide +kernel
theorem dX6_save_34 : decode cX6_save 34 = .ok (.iload_n 1, 1) := by decide +kernel
theorem dX6_save_35 : decode cX6_save 35 = .ok (.putfield 255, 3) := by decide +kernel
theorem dX6_save_38 : decode cX6_save 38 = .ok (.aload_n 0, 1) := by decide +kernel
theorem dX6_save_39 : decode cX6_save 39 = .ok (.aload_n 0, 1) := by decide +kernel
theorem dX6_save_40 : decode cX6_save 40 = .ok (.getfield 250, 3) := by decide +kernel
theorem dX6_save_43 : decode cX6_save 43 = .ok (.iconst 1, 1) := by decide +kernel
theorem dX6_save_44 : decode cX6_save 44 = .ok (.iadd, 1) := by decide +kernel
theorem dX6_save_45 : decode cX6_save 45 = .ok (.bipush 6, 2) := by decide +kernel
theorem dX6_save_47 : decode cX6_save 47 = .ok (.invokestatic 348, 3) := by decide +kernel
theorem dX6_save_50 : decode cX6_save 50 = .ok (.putfield 250, 3) := by decide +kernel
theorem dX6_save_53 : decode cX6_save 53 = .ok (.return_, 1) := by decide +kernel
theorem dX6_bringIn_0 : decode cX6_bringIn 0 = .ok (.aload_n 0, 1) := by decide +kernel
theorem dX6_bringIn_1 : decode cX6_bringIn 1 = .ok (.getfield 25, 3) := by decide +kernel
theorem dX6_bringIn_4 : decode cX6_bringIn 4 = .ok (.getfield 353, 3) := by decide +kernel
theorem dX6_bringIn_7 : decode cX6_bringIn 7 = .ok (.aload_n 0, 1) := by decide +kernel
theorem dX6_bringIn_8 : decode cX6_bringIn 8 = .ok (.getfield 25, 3) := by decide +kernel
theorem dX6_bringIn_11 : decode cX6_bringIn 11 = .ok (.getfield 225, 3) := by decide +kernel
theorem dX6_bringIn_14 : decode cX6_bringIn 14 = .ok (.iadd, 1) := by decide +kernel
theorem dX6_bringIn_15 : decode cX6_bringIn 15 = .ok (.istore_n 2, 1) := by decide +kernel
theorem dX6_bringIn_16 : decode cX6_bringIn 16 = .ok (.iload_n 2, 1) := by decide +kernel
theorem dX6_bringIn_17 : decode cX6_bringIn 17 = .ok (.aload_n 0, 1) := by decide +kernel
theorem dX6_bringIn_18 : decode cX6_bringIn 18 = .ok (.getfield 44, 3) := by decide +kernel
theorem dX6_bringIn_21 : decode cX6_bringIn 21 = .ok (.getfield 48, 3) := by decide +kernel
theorem dX6_bringIn_24 : decode cX6_bringIn 24 = .ok (.aload_n 0, 1) := by decide +kernel
theorem dX6_bringIn_25 : decode cX6_bringIn 25 = .ok (.getfield 25, 3) := by decide +kernel
theorem dX6_bringIn_28 : decode cX6_bringIn 28 = .ok (.getfield 356, 3) := by decide +kernel
theorem dX6_bringIn_31 : decode cX6_bringIn 31 = .ok (.aload_n 0, 1) := by decide +kernel
theorem dX6_bringIn_32 : decode cX6_bringIn 32 = .ok (.getfield 25, 3) := by decide +kernel
theorem dX6_bringIn_35 : decode cX6_bringIn 35 = .ok (.getfield 359, 3) := by decide +kernel
theorem dX6_bringIn_38 : decode cX6_bringIn 38 = .ok (.invokevirtual 362, 3) := by decide +kernel
theorem dX6_bringIn_41 : decode cX6_bringIn 41 = .ok (.iadd, 1) := by decide +kernel
theorem dX6_bringIn_42 : decode cX6_bringIn 42 = .ok (.istore_n 2, 1) := by decide +kernel
theorem dX6_bringIn_43 : decode cX6_bringIn 43 = .ok (.iconst 0, 1) := by decide +kernel
theorem dX6_bringIn_44 : decode cX6_bringIn 44 = .ok (.istore_n 3, 1) := by decide +kernel
theorem dX6_bringIn_45 : decode cX6_bringIn 45 = .ok (.iload_n 3, 1) := by decide +kernel
theorem dX6_bringIn_46 : decode cX6_bringIn 46 = .ok (.aload_n 0, 1) := by decide +kernel
theorem dX6_bringIn_47 : decode cX6_bringIn 47 = .ok (.getfield 44, 3) := by decide +kernel
theorem dX6_bringIn_50 : decode cX6_bringIn 50 = .ok (.getfield 48, 3) := by decide +kernel
theorem dX6_bringIn_53 : decode cX6_bringIn 53 = .ok (.getfield 52, 3) := by decide +kernel
theorem dX6_bringIn_56 : decode cX6_bringIn 56 = .ok (.if_icmp .ge 32, 3) := by decide +kernel
theorem dX6_bringIn_59 : decode cX6_bringIn 59 = .ok (.iload_n 2, 1) := by decide +kernel
theorem dX6_bringIn_60 : decode cX6_bringIn 60 = .ok (.aload_n 0, 1) := by decide +kernel
theorem dX6_bringIn_61 : decode cX6_bringIn 61 = .ok (.getfield 44, 3) := by decide +kernel
theorem dX6_bringIn_64 : decode cX6_bringIn 64 = .ok (.getfield 48, 3) := by decide +kernel
theorem dX6_bringIn_67 : decode cX6_bringIn 67 = .ok (.iload_n 3, 1) := by decide +kernel
theorem dX6_bringIn_68 : decode cX6_bringIn 68 = .ok (.aload_n 0, 1) := by decide +kernel
theorem dX6_bringIn_69 : decode cX6_bringIn 69 = .ok (.getfield 25, 3) := by decide +kernel
theorem dX6_bringIn_72 : decode cX6_bringIn 72 = .ok (.getfield 216, 3) := by decide +kernel
theorem dX6_bringIn_75 : decode cX6_bringIn 75 = .ok (.iload_n 3, 1) := by decide +kernel
theorem dX6_bringIn_76 : decode cX6_bringIn 76 = .ok (.iaload, 1) := by decide +kernel
theorem dX6_bringIn_77 : decode cX6_bringIn 77 = .ok (.invokevirtual 362, 3) := by decide +kernel
theorem dX6_bringIn_80 : decode cX6_bringIn 80 = .ok (.iadd, 1) := by decide +kernel
theorem dX6_bringIn_81 : decode cX6_bringIn 81 = .ok (.istore_n 2, 1) := by decide +kernel
theorem dX6_bringIn_82 : decode cX6_bringIn 82 = .ok (.iinc 3 1, 3) := by decide +kernel
theorem dX6_bringIn_85 : decode cX6_bringIn 85 = .ok (.goto (-40), 3) := by decide +kernel
theorem dX6_bringIn_88 : decode cX6_bringIn 88 = .ok (.aload_n 0, 1) := by decide +kernel
theorem dX6_bringIn_89 : decode cX6_bringIn 89 = .ok (.getfield 44, 3) := by decide +kernel
theorem dX6_bringIn_92 : decode cX6_bringIn 92 = .ok (.dup, 1) := by decide +kernel
theorem dX6_bringIn_93 : decode cX6_bringIn 93 = .ok (.getfield 100, 3) := by decide +kernel
theorem dX6_bringIn_96 : decode cX6_bringIn 96 = .ok (.iload_n 2, 1) := by decide +kernel
theorem dX6_bringIn_97 : decode cX6_bringIn 97 = .ok (.iadd, 1) := by decide +kernel
theorem dX6_bringIn_98 : decode cX6_bringIn 98 = .ok (.putfield 100, 3) := by decide +kernel
theorem dX6_bringIn_101 : decode cX6_bringIn 101 = .ok (.aload_n 0, 1) := by decide +kernel
theorem dX6_bringIn_102 : decode cX6_bringIn 102 = .ok (.getfield 44, 3) := by decide +kernel
theorem dX6_bringIn_105 : decode cX6_bringIn 105 = .ok (.dup, 1) := by decide +kernel
theorem dX6_bringIn_106 : decode cX6_bringIn 106 = .ok (.getfield 276, 3) := by decide +kernel
theorem dX6_bringIn_109 : decode cX6_bringIn 109 = .ok (.iload_n 1, 1) := by decide +kernel
theorem dX6_bringIn_110 : decode cX6_bringIn 110 = .ok (.iadd, 1) := by decide +kernel
theorem dX6_bringIn_111 : decode cX6_bringIn 111 = .ok (.putfield 276, 3) := by decide +kernel
theorem dX6_bringIn_114 : decode cX6_bringIn 114 = .ok (.iload_n 2, 1) := by decide +kernel
theorem dX6_bringIn_115 : decode cX6_bringIn 115 = .ok (.ireturn, 1) := by decide +kernel
theorem dX6_gainOf_0 : decode cX6_gainOf 0 = .ok (.aload_n 0, 1) := by decide +kernel
theorem dX6_gainOf_1 : decode cX6_gainOf 1 = .ok (.getfield 44, 3) := by decide +kernel
theorem dX6_gainOf_4 : decode cX6_gainOf 4 = .ok (.getfield 48, 3) := by decide +kernel
theorem dX6_gainOf_7 : decode cX6_gainOf 7 = .ok (.getfield 103, 3) := by decide +kernel
theorem dX6_gainOf_10 : decode cX6_gainOf 10 = .ok (.iload_n 1, 1) := by decide +kernel
theorem dX6_gainOf_11 : decode cX6_gainOf 11 = .ok (.iaload, 1) := by decide +kernel
theorem dX6_gainOf_12 : decode cX6_gainOf 12 = .ok (.istore_n 2, 1) := by decide +kernel
theorem dX6_gainOf_13 : decode cX6_gainOf 13 = .ok (.iload_n 1, 1) := by decide +kernel
theorem dX6_gainOf_14 : decode cX6_gainOf 14 = .ok (.aload_n 0, 1) := by decide +kernel
theorem dX6_gainOf_15 : decode cX6_gainOf 15 = .ok (.getfield 25, 3) := by decide +kernel
theorem dX6_gainOf_18 : decode cX6_gainOf 18 = .ok (.getfield 356, 3) := by decide +kernel
theorem dX6_gainOf_21 : decode cX6_gainOf 21 = .ok (.if_icmp .ne 13, 3) := by decide +kernel
theorem dX6_gainOf_24 : decode cX6_gainOf 24 = .ok (.aload_n 0, 1) := by decide +kernel
theorem dX6_gainOf_25 : decode cX6_gainOf 25 = .ok (.getfield 25, 3) := by decide +kernel
theorem dX6_gainOf_28 : decode cX6_gainOf 28 = .ok (.getfield 359, 3) := by decide +kernel
theorem dX6_gainOf_31 : decode cX6_gainOf 31 = .ok (.goto 4, 3) := by decide +kernel
theorem dX6_gainOf_34 : decode cX6_gainOf 34 = .ok (.iconst 0, 1) := by decide +kernel
theorem dX6_gainOf_35 : decode cX6_gainOf 35 = .ok (.istore_n 3, 1) := by decide +kernel
theorem dX6_gainOf_36 : decode cX6_gainOf 36 = .ok (.iload_n 3, 1) := by decide +kernel
theorem dX6_gainOf_37 : decode cX6_gainOf 37 = .ok (.iload_n 2, 1) := by decide +kernel
theorem dX6_gainOf_38 : decode cX6_gainOf 38 = .ok (.invokestatic 365, 3) := by decide +kernel
theorem dX6_gainOf_41 : decode cX6_gainOf 41 = .ok (.istore 4, 2) := by decide +kernel
theorem dX6_gainOf_43 : decode cX6_gainOf 43 = .ok (.aload_n 0, 1) := by decide +kernel
theorem dX6_gainOf_44 : decode cX6_gainOf 44 = .ok (.getfield 25, 3) := by decide +kernel
theorem dX6_gainOf_47 : decode cX6_gainOf 47 = .ok (.getfield 216, 3) := by decide +kernel
theorem dX6_gainOf_50 : decode cX6_gainOf 50 = .ok (.iload_n 1, 1) := by decide +kernel
theorem dX6_gainOf_51 : decode cX6_gainOf 51 = .ok (.iaload, 1) := by decide +kernel
theorem dX6_gainOf_52 : decode cX6_gainOf 52 = .ok (.istore 5, 2) := by decide +kernel
theorem dX6_gainOf_54 : decode cX6_gainOf 54 = .ok (.iload 5, 2) := by decide +kernel
theorem dX6_gainOf_56 : decode cX6_gainOf 56 = .ok (.iload_n 2, 1) := by decide +kernel
theorem dX6_gainOf_57 : decode cX6_gainOf 57 = .ok (.iload 4, 2) := by decide +kernel
theorem dX6_gainOf_59 : decode cX6_gainOf 59 = .ok (.isub, 1) := by decide +kernel
theorem dX6_gainOf_60 : decode cX6_gainOf 60 = .ok (.invokestatic 365, 3) := by decide +kernel
theorem dX6_gainOf_63 : decode cX6_gainOf 63 = .ok (.istore 6, 2) := by decide +kernel
theorem dX6_gainOf_65 : decode cX6_gainOf 65 = .ok (.iload_n 3, 1) := by decide +kernel
theorem dX6_gainOf_66 : decode cX6_gainOf 66 = .ok (.iload 4, 2) := by decide +kernel
theorem dX6_gainOf_68 : decode cX6_gainOf 68 = .ok (.isub, 1) := by decide +kernel
theorem dX6_gainOf_69 : decode cX6_gainOf 69 = .ok (.iload 5, 2) := by decide +kernel
theorem dX6_gainOf_71 : decode cX6_gainOf 71 = .ok (.iadd, 1) := by decide +kernel
theorem dX6_gainOf_72 : decode cX6_gainOf 72 = .ok (.iload 6, 2) := by decide +kernel
theorem dX6_gainOf_74 : decode cX6_gainOf 74 = .ok (.isub, 1) := by decide +kernel
theorem dX6_gainOf_75 : decode cX6_gainOf 75 = .ok (.ireturn, 1) := by decide +kernel
theorem dX6_findBest_0 : decode cX6_findBest 0 = .ok (.aload_n 0, 1) := by decide +kernel
theorem dX6_findBest_1 : decode cX6_findBest 1 = .ok (.getfield 36, 3) := by decide +kernel
theorem dX6_findBest_4 : decode cX6_findBest 4 = .ok (.iconst (-1), 1) := by decide +kernel
theorem dX6_findBest_5 : decode cX6_findBest 5 = .ok (.invokestatic 130, 3) := by decide +kernel
theorem dX6_findBest_8 : decode cX6_findBest 8 = .ok (.iconst 0, 1) := by decide +kernel
theorem dX6_findBest_9 : decode cX6_findBest 9 = .ok (.istore_n 2, 1) := by decide +kernel
theorem dX6_findBest_10 : decode cX6_findBest 10 = .ok (.iload_n 2, 1) := by decide +kernel
theorem dX6_findBest_11 : decode cX6_findBest 11 = .ok (.aload_n 0, 1) := by decide +kernel
theorem dX6_findBest_12 : decode cX6_findBest 12 = .ok (.getfield 44, 3) := by decide +kernel
theorem dX6_findBest_15 : decode cX6_findBest 15 = .ok (.getfield 121, 3) := by decide +kernel
theorem dX6_findBest_18 : decode cX6_findBest 18 = .ok (.getfield 136, 3) := by decide +kernel
theorem dX6_findBest_21 : decode cX6_findBest 21 = .ok (.if_icmp .ge 43, 3) := by decide +kernel
theorem dX6_findBest_24 : decode cX6_findBest 24 = .ok (.aload_n 0, 1) := by decide +kernel
theorem dX6_findBest_25 : decode cX6_findBest 25 = .ok (.getfield 44, 3) := by decide +kernel
theorem dX6_findBest_28 : decode cX6_findBest 28 = .ok (.getfield 121, 3) := by decide +kernel
theorem dX6_findBest_31 : decode cX6_findBest 31 = .ok (.getfield 161, 3) := by decide +kernel
theorem dX6_findBest_34 : decode cX6_findBest 34 = .ok (.iload_n 2, 1) := by decide +kernel
theorem dX6_findBest_35 : decode cX6_findBest 35 = .ok (.iaload, 1) := by decide +kernel
theorem dX6_findBest_36 : decode cX6_findBest 36 = .ok (.iconst 3, 1) := by decide +kernel
theorem dX6_findBest_37 : decode cX6_findBest 37 = .ok (.if_icmp .ne 21, 3) := by decide +kernel
theorem dX6_findBest_40 : decode cX6_findBest 40 = .ok (.aload_n 0, 1) := by decide +kernel
theorem dX6_findBest_41 : decode cX6_findBest 41 = .ok (.getfield 25, 3) := by decide +kernel
theorem dX6_findBest_44 : decode cX6_findBest 44 = .ok (.aload_n 0, 1) := by decide +kernel
theorem dX6_findBest_45 : decode cX6_findBest 45 = .ok (.getfield 44, 3) := by decide +kernel
theorem dX6_findBest_48 : decode cX6_findBest 48 = .ok (.iload_n 2, 1) := by decide +kernel
theorem dX6_findBest_49 : decode cX6_findBest 49 = .ok (.iload_n 1, 1) := by decide +kernel
theorem dX6_findBest_50 : decode cX6_findBest 50 = .ok (.invokevirtual 210, 3) := by decide +kernel
theorem dX6_findBest_53 : decode cX6_findBest 53 = .ok (.aload_n 0, 1) := by decide +kernel
theorem dX6_findBest_54 : decode cX6_findBest 54 = .ok (.iload_n 2, 1) := by decide +kernel
theorem dX6_findBest_55 : decode cX6_findBest 55 = .ok (.invokevirtual 368, 3) := by decide +kernel
theorem dX6_findBest_58 : decode cX6_findBest 58 = .ok (.iinc 2 1, 3) := by decide +kernel
theorem dX6_findBest_61 : decode cX6_findBest 61 = .ok (.goto (-51), 3) := by decide +kernel
theorem dX6_findBest_64 : decode cX6_findBest 64 = .ok (.return_, 1) := by decide +kernel
theorem dX6_preferIfBetter_0 : decode cX6_preferIfBetter 0 = .ok (.iconst 0, 1) := by decide +kernel
theorem dX6_preferIfBetter_1 : decode cX6_preferIfBetter 1 = .ok (.istore_n 2, 1) := by decide +kernel
theorem dX6_preferIfBetter_2 : decode cX6_preferIfBetter 2 = .ok (.iload_n 2, 1) := by decide +kernel
theorem dX6_preferIfBetter_3 : decode cX6_preferIfBetter 3 = .ok (.aload_n 0, 1) := by decide +kernel
theorem dX6_preferIfBetter_4 : decode cX6_preferIfBetter 4 = .ok (.getfield 44, 3) := by decide +kernel
theorem dX6_preferIfBetter_7 : decode cX6_preferIfBetter 7 = .ok (.getfield 48, 3) := by decide +kernel
theorem dX6_preferIfBetter_10 : decode cX6_preferIfBetter 10 = .ok (.getfield 52, 3) := by decide +kernel
theorem dX6_preferIfBetter_13 : decode cX6_preferIfBetter 13 = .ok (.if_icmp .ge 49, 3) := by decide +kernel
theorem dX6_preferIfBetter_16 : decode cX6_preferIfBetter 16 = .ok (.aload_n 0, 1) := by decide +kernel
theorem dX6_preferIfBetter_17 : decode cX6_preferIfBetter 17 = .ok (.iload_n 2, 1) := by decide +kernel
theorem dX6_preferIfBetter_18 : decode cX6_preferIfBetter 18 = .ok (.invokevirtual 289, 3) := by decide +kernel
theorem dX6_preferIfBetter_21 : decode cX6_preferIfBetter 21 = .ok (.istore_n 3, 1) := by decide +kernel
theorem dX6_preferIfBetter_22 : decode cX6_preferIfBetter 22 = .ok (.aload_n 0, 1) := by decide +kernel
theorem dX6_preferIfBetter_23 : decode cX6_preferIfBetter 23 = .ok (.getfield 36, 3) := by decide +kernel
theorem dX6_preferIfBetter_26 : decode cX6_preferIfBetter 26 = .ok (.iload_n 2, 1) := by decide +kernel
theorem dX6_preferIfBetter_27 : decode cX6_preferIfBetter 27 = .ok (.iaload, 1) := by decide +kernel
theorem dX6_preferIfBetter_28 : decode cX6_preferIfBetter 28 = .ok (.iconst (-1), 1) := by decide +kernel
theorem dX6_preferIfBetter_29 : decode cX6_preferIfBetter 29 = .ok (.if_icmp .eq 13, 3) := by decide +kernel
theorem dX6_preferIfBetter_32 : decode cX6_preferIfBetter 32 = .ok (.iload_n 3, 1) := by decide +kernel
theorem dX6_preferIfBetter_33 : decode cX6_preferIfBetter 33 = .ok (.aload_n 0, 1) := by decide +kernel
theorem dX6_preferIfBetter_34 : decode cX6_preferIfBetter 34 = .ok (.getfield 40, 3) := by decide +kernel
theorem dX6_preferIfBetter_37 : decode cX6_preferIfBetter 37 = .ok (.iload_n 2, 1) := by decide +kernel
theorem dX6_preferIfBetter_38 : decode cX6_preferIfBetter 38 = .ok (.iaload, 1) := by decide +kernel
theorem dX6_preferIfBetter_39 : decode cX6_preferIfBetter 39 = .ok (.if_icmp .le 17, 3) := by decide +kernel
theorem dX6_preferIfBetter_42 : decode cX6_preferIfBetter 42 = .ok (.aload_n 0, 1) := by decide +kernel
theorem dX6_preferIfBetter_43 : decode cX6_preferIfBetter 43 = .ok (.getfield 36, 3) := by decide +kernel
theorem dX6_preferIfBetter_46 : decode cX6_preferIfBetter 46 = .ok (.iload_n 2, 1) := by decide +kernel
theorem dX6_preferIfBetter_47 : decode cX6_preferIfBetter 47 = .ok (.iload_n 1, 1) := by decide +kernel
theorem dX6_preferIfBetter_48 : decode cX6_preferIfBetter 48 = .ok (.iastore, 1) := by decide +kernel
theorem dX6_preferIfBetter_49 : decode cX6_preferIfBetter 49 = .ok (.aload_n 0, 1) := by decide +kernel
theorem dX6_preferIfBetter_50 : decode cX6_preferIfBetter 50 = .ok (.getfield 40, 3) := by decide +kernel
theorem dX6_preferIfBetter_53 : decode cX6_preferIfBetter 53 = .ok (.iload_n 2, 1) := by decide +kernel
theorem dX6_preferIfBetter_54 : decode cX6_preferIfBetter 54 = .ok (.iload_n 3, 1) := by decide +kernel
theorem dX6_preferIfBetter_55 : decode cX6_preferIfBetter 55 = .ok (.iastore, 1) := by decide +kernel
theorem dX6_preferIfBetter_56 : decode cX6_preferIfBetter 56 = .ok (.iinc 2 1, 3) := by decide +kernel
theorem dX6_preferIfBetter_59 : decode cX6_preferIfBetter 59 = .ok (.goto (-57), 3) := by decide +kernel
theorem dX6_preferIfBetter_62 : decode cX6_preferIfBetter 62 = .ok (.return_, 1) := by decide +kernel
theorem dX6_withheld_0 : decode cX6_withheld 0 = .ok (.iload_n 0, 1) := by decide +kernel
theorem dX6_withheld_1 : decode cX6_withheld 1 = .ok (.iload_n 0, 1) := by decide +kernel
theorem dX6_withheld_2 : decode cX6_withheld 2 = .ok (.iconst 2, 1) := by decide +kernel
theorem dX6_withheld_3 : decode cX6_withheld 3 = .ok (.idiv, 1) := by decide +kernel
theorem dX6_withheld_4 : decode cX6_withheld 4 = .ok (.isub, 1) := by decide +kernel
theorem dX6_withheld_5 : decode cX6_withheld 5 = .ok (.iload_n 1, 1) := by decide +kernel
theorem dX6_withheld_6 : decode cX6_withheld 6 = .ok (.invokestatic 348, 3) := by decide +kernel
theorem dX6_withheld_9 : decode cX6_withheld 9 = .ok (.ireturn, 1) := by decide +kernel
theorem dX6_at_0 : decode cX6_at 0 = .ok (.iload_n 0, 1) := by decide +kernel
theorem dX6_at_1 : decode cX6_at 1 = .ok (.bipush 12, 2) := by decide +kernel
theorem dX6_at_3 : decode cX6_at 3 = .ok (.imul, 1) := by decide +kernel
theorem dX6_at_4 : decode cX6_at 4 = .ok (.iload_n 1, 1) := by decide +kernel
theorem dX6_at_5 : decode cX6_at 5 = .ok (.iadd, 1) := by decide +kernel
theorem dX6_at_6 : decode cX6_at 6 = .ok (.ireturn, 1) := by decide +kernel
theorem dX6_isIn_0 : decode cX6_isIn 0 = .ok (.iload_n 0, 1) := by decide +kernel
theorem dX6_isIn_1 : decode cX6_isIn 1 = .ok (.iload_n 1, 1) := by decide +kernel
theorem dX6_isIn_2 : decode cX6_isIn 2 = .ok (.ishr, 1) := by decide +kernel
theorem dX6_isIn_3 : decode cX6_isIn 3 = .ok (.iconst 1, 1) := by decide +kernel
theorem dX6_isIn_4 : decode cX6_isIn 4 = .ok (.iand, 1) := by decide +kernel
theorem dX6_isIn_5 : decode cX6_isIn 5 = .ok (.ifCond .eq 7, 3) := by decide +kernel
theorem dX6_isIn_8 : decode cX6_isIn 8 = .ok (.iconst 1, 1) := by decide +kernel
theorem dX6_isIn_9 : decode cX6_isIn 9 = .ok (.goto 4, 3) := by decide +kernel
theorem dX6_isIn_12 : decode cX6_isIn 12 = .ok (.iconst 0, 1) := by decide +kernel
theorem dX6_isIn_13 : decode cX6_isIn 13 = .ok (.ireturn, 1) := by decide +kernel
theorem dX6_sum_0 : decode cX6_sum 0 = .ok (.iconst 0, 1) := by decide +kernel
theorem dX6_sum_1 : decode cX6_sum 1 = .ok (.istore_n 1, 1) := by decide +kernel
theorem dX6_sum_2 : decode cX6_sum 2 = .ok (.aload_n 0, 1) := by decide +kernel
theorem dX6_sum_3 : decode cX6_sum 3 = .ok (.astore_n 2, 1) := by decide +kernel
theorem dX6_sum_4 : decode cX6_sum 4 = .ok (.aload_n 2, 1) := by decide +kernel
theorem dX6_sum_5 : decode cX6_sum 5 = .ok (.arraylength, 1) := by decide +kernel
theorem dX6_sum_6 : decode cX6_sum 6 = .ok (.istore_n 3, 1) := by decide +kernel
theorem dX6_sum_7 : decode cX6_sum 7 = .ok (.iconst 0, 1) := by decide +kernel
theorem dX6_sum_8 : decode cX6_sum 8 = .ok (.istore 4, 2) := by decide +kernel
theorem dX6_sum_10 : decode cX6_sum 10 = .ok (.iload 4, 2) := by decide +kernel
theorem dX6_sum_12 : decode cX6_sum 12 = .ok (.iload_n 3, 1) := by decide +kernel
theorem dX6_sum_13 : decode cX6_sum 13 = .ok (.if_icmp .ge 20, 3) := by decide +kernel
theorem dX6_sum_16 : decode cX6_sum 16 = .ok (.aload_n 2, 1) := by decide +kernel
theorem dX6_sum_17 : decode cX6_sum 17 = .ok (.iload 4, 2) := by decide +kernel
theorem dX6_sum_19 : decode cX6_sum 19 = .ok (.iaload, 1) := by decide +kernel
theorem dX6_sum_20 : decode cX6_sum 20 = .ok (.istore 5, 2) := by decide +kernel
theorem dX6_sum_22 : decode cX6_sum 22 = .ok (.iload_n 1, 1) := by decide +kernel
theorem dX6_sum_23 : decode cX6_sum 23 = .ok (.iload 5, 2) := by decide +kernel
theorem dX6_sum_25 : decode cX6_sum 25 = .ok (.iadd, 1) := by decide +kernel
theorem dX6_sum_26 : decode cX6_sum 26 = .ok (.istore_n 1, 1) := by decide +kernel
theorem dX6_sum_27 : decode cX6_sum 27 = .ok (.iinc 4 1, 3) := by decide +kernel
theorem dX6_sum_30 : decode cX6_sum 30 = .ok (.goto (-20), 3) := by decide +kernel
theorem dX6_sum_33 : decode cX6_sum 33 = .ok (.iload_n 1, 1) := by decide +kernel
theorem dX6_sum_34 : decode cX6_sum 34 = .ok (.ireturn, 1) := by decide +kernel
theorem dX6_sumOf_0 : decode cX6_sumOf 0 = .ok (.iconst 0, 1) := by decide +kernel
theorem dX6_sumOf_1 : decode cX6_sumOf 1 = .ok (.istore_n 2, 1) := by decide +kernel
theorem dX6_sumOf_2 : decode cX6_sumOf 2 = .ok (.iconst 0, 1) := by decide +kernel
theorem dX6_sumOf_3 : decode cX6_sumOf 3 = .ok (.istore_n 3, 1) := by decide +kernel
theorem dX6_sumOf_4 : decode cX6_sumOf 4 = .ok (.iload_n 3, 1) := by decide +kernel
theorem dX6_sumOf_5 : decode cX6_sumOf 5 = .ok (.bipush 12, 2) := by decide +kernel
theorem dX6_sumOf_7 : decode cX6_sumOf 7 = .ok (.if_icmp .ge 19, 3) := by decide +kernel
theorem dX6_sumOf_10 : decode cX6_sumOf 10 = .ok (.iload_n 2, 1) := by decide +kernel
theorem dX6_sumOf_11 : decode cX6_sumOf 11 = .ok (.aload_n 0, 1) := by decide +kernel
theorem dX6_sumOf_12 : decode cX6_sumOf 12 = .ok (.iload_n 1, 1) := by decide +kernel
theorem dX6_sumOf_13 : decode cX6_sumOf 13 = .ok (.iload_n 3, 1) := by decide +kernel
theorem dX6_sumOf_14 : decode cX6_sumOf 14 = .ok (.invokestatic 158, 3) := by decide +kernel
theorem dX6_sumOf_17 : decode cX6_sumOf 17 = .ok (.iaload, 1) := by decide +kernel
theorem dX6_sumOf_18 : decode cX6_sumOf 18 = .ok (.iadd, 1) := by decide +kernel
theorem dX6_sumOf_19 : decode cX6_sumOf 19 = .ok (.istore_n 2, 1) := by decide +kernel
theorem dX6_sumOf_20 : decode cX6_sumOf 20 = .ok (.iinc 3 1, 3) := by decide +kernel
theorem dX6_sumOf_23 : decode cX6_sumOf 23 = .ok (.goto (-19), 3) := by decide +kernel
theorem dX6_sumOf_26 : decode cX6_sumOf 26 = .ok (.iload_n 2, 1) := by decide +kernel
theorem dX6_sumOf_27 : decode cX6_sumOf 27 = .ok (.ireturn, 1) := by decide +kernel
theorem dX6_copyRow_0 : decode cX6_copyRow 0 = .ok (.aload_n 0, 1) := by decide +kernel
theorem dX6_copyRow_1 : decode cX6_copyRow 1 = .ok (.iconst 0, 1) := by decide +kernel
theorem dX6_copyRow_2 : decode cX6_copyRow 2 = .ok (.aload_n 1, 1) := by decide +kernel
theorem dX6_copyRow_3 : decode cX6_copyRow 3 = .ok (.iconst 0, 1) := by decide +kernel
theorem dX6_copyRow_4 : decode cX6_copyRow 4 = .ok (.aload_n 0, 1) := by decide +kernel
theorem dX6_copyRow_5 : decode cX6_copyRow 5 = .ok (.arraylength, 1) := by decide +kernel
theorem dX6_copyRow_6 : decode cX6_copyRow 6 = .ok (.aload_n 1, 1) := by decide +kernel
theorem dX6_copyRow_7 : decode cX6_copyRow 7 = .ok (.arraylength, 1) := by decide +kernel
theorem dX6_copyRow_8 : decode cX6_copyRow 8 = .ok (.invokestatic 348, 3) := by decide +kernel
theorem dX6_copyRow_11 : decode cX6_copyRow 11 = .ok (.invokestatic 389, 3) := by decide +kernel
theorem dX6_copyRow_14 : decode cX6_copyRow 14 = .ok (.return_, 1) := by decide +kernel

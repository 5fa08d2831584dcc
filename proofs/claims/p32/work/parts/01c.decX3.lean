theorem dX3_init_0 : decode cX3_init 0 = .ok (.aload_n 0, 1) := by decide +kernel
theorem dX3_init_1 : decode cX3_init 1 = .ok (.invokespecial 3, 3) := by decide +kernel
theorem dX3_init_4 : decode cX3_init 4 = .ok (.aload_n 0, 1) := by decide +kernel
theorem dX3_init_5 : decode cX3_init 5 = .ok (.bipush 12, 2) := by decide +kernel
theorem dX3_init_7 : decode cX3_init 7 = .ok (.newarray .int, 2) := by decide +kernel
theorem dX3_init_9 : decode cX3_init 9 = .ok (.putfield 9, 3) := by decide +kernel
theorem dX3_init_12 : decode cX3_init 12 = .ok (.aload_n 0, 1) := by decide +kernel
theorem dX3_init_13 : decode cX3_init 13 = .ok (.bipush 12, 2) := by decide +kernel
theorem dX3_init_15 : decode cX3_init 15 = .ok (.newarray .int, 2) := by decide +kernel
theorem dX3_init_17 : decode cX3_init 17 = .ok (.putfield 15, 3) := by decide +kernel
theorem dX3_init_20 : decode cX3_init 20 = .ok (.aload_n 0, 1) := by decide +kernel
theorem dX3_init_21 : decode cX3_init 21 = .ok (.bipush 12, 2) := by decide +kernel
theorem dX3_init_23 : decode cX3_init 23 = .ok (.newarray .int, 2) := by decide +kernel
theorem dX3_init_25 : decode cX3_init 25 = .ok (.putfield 18, 3) := by decide +kernel
theorem dX3_init_28 : decode cX3_init 28 = .ok (.aload_n 0, 1) := by decide +kernel
theorem dX3_init_29 : decode cX3_init 29 = .ok (.bipush 12, 2) := by decide +kernel
theorem dX3_init_31 : decode cX3_init 31 = .ok (.newarray .int, 2) := by decide +kernel
theorem dX3_init_33 : decode cX3_init 33 = .ok (.putfield 21, 3) := by decide +kernel
theorem dX3_init_36 : decode cX3_init 36 = .ok (.aload_n 0, 1) := by decide +kernel
theorem dX3_init_37 : decode cX3_init 37 = .ok (.bipush 12, 2) := by decide +kernel
theorem dX3_init_39 : decode cX3_init 39 = .ok (.newarray .int, 2) := by decide +kernel
theorem dX3_init_41 : decode cX3_init 41 = .ok (.putfield 24, 3) := by decide +kernel
theorem dX3_init_44 : decode cX3_init 44 = .ok (.aload_n 0, 1) := by decide +kernel
theorem dX3_init_45 : decode cX3_init 45 = .ok (.bipush 12, 2) := by decide +kernel
theorem dX3_init_47 : decode cX3_init 47 = .ok (.newarray .int, 2) := by decide +kernel
theorem dX3_init_49 : decode cX3_init 49 = .ok (.putfield 27, 3) := by decide +kernel
theorem dX3_init_52 : decode cX3_init 52 = .ok (.return_, 1) := by decide +kernel
theorem dX3_copyFrom_0 : decode cX3_copyFrom 0 = .ok (.aload_n 0, 1) := by decide +kernel
theorem dX3_copyFrom_1 : decode cX3_copyFrom 1 = .ok (.aload_n 1, 1) := by decide +kernel
theorem dX3_copyFrom_2 : decode cX3_copyFrom 2 = .ok (.getfield 30, 3) := by decide +kernel
theorem dX3_copyFrom_5 : decode cX3_copyFrom 5 = .ok (.putfield 30, 3) := by decide +kernel
theorem dX3_copyFrom_8 : decode cX3_copyFrom 8 = .ok (.aload_n 1, 1) := by decide +kernel
theorem dX3_copyFrom_9 : decode cX3_copyFrom 9 = .ok (.getfield 9, 3) := by decide +kernel
theorem dX3_copyFrom_12 : decode cX3_copyFrom 12 = .ok (.aload_n 0, 1) := by decide +kernel
theorem dX3_copyFrom_13 : decode cX3_copyFrom 13 = .ok (.getfield 9, 3) := by decide +kernel
theorem dX3_copyFrom_16 : decode cX3_copyFrom 16 = .ok (.invokestatic 34, 3) := by decide +kernel
theorem dX3_copyFrom_19 : decode cX3_copyFrom 19 = .ok (.aload_n 1, 1) := by decide +kernel
theorem dX3_copyFrom_20 : decode cX3_copyFrom 20 = .ok (.getfield 15, 3) := by decide +kernel
theorem dX3_copyFrom_23 : decode cX3_copyFrom 23 = .ok (.aload_n 0, 1) := by decide +kernel
theorem dX3_copyFrom_24 : decode cX3_copyFrom 24 = .ok (.getfield 15, 3) := by decide +kernel
theorem dX3_copyFrom_27 : decode cX3_copyFrom 27 = .ok (.invokestatic 34, 3) := by decide +kernel
theorem dX3_copyFrom_30 : decode cX3_copyFrom 30 = .ok (.aload_n 1, 1) := by decide +kernel
theorem dX3_copyFrom_31 : decode cX3_copyFrom 31 = .ok (.getfield 18, 3) := by decide +kernel
theorem dX3_copyFrom_34 : decode cX3_copyFrom 34 = .ok (.aload_n 0, 1) := by decide +kernel
theorem dX3_copyFrom_35 : decode cX3_copyFrom 35 = .ok (.getfield 18, 3) := by decide +kernel
theorem dX3_copyFrom_38 : decode cX3_copyFrom 38 = .ok (.invokestatic 34, 3) := by decide +kernel
theorem dX3_copyFrom_41 : decode cX3_copyFrom 41 = .ok (.aload_n 1, 1) := by decide +kernel
theorem dX3_copyFrom_42 : decode cX3_copyFrom 42 = .ok (.getfield 21, 3) := by decide +kernel
theorem dX3_copyFrom_45 : decode cX3_copyFrom 45 = .ok (.aload_n 0, 1) := by decide +kernel
theorem dX3_copyFrom_46 : decode cX3_copyFrom 46 = .ok (.getfield 21, 3) := by decide +kernel
theorem dX3_copyFrom_49 : decode cX3_copyFrom 49 = .ok (.invokestatic 34, 3) := by decide +kernel
theorem dX3_copyFrom_52 : decode cX3_copyFrom 52 = .ok (.aload_n 1, 1) := by decide +kernel
theorem dX3_copyFrom_53 : decode cX3_copyFrom 53 = .ok (.getfield 24, 3) := by decide +kernel
theorem dX3_copyFrom_56 : decode cX3_copyFrom 56 = .ok (.aload_n 0, 1) := by decide +kernel
theorem dX3_copyFrom_57 : decode cX3_copyFrom 57 = .ok (.getfield 24, 3) := by decide +kernel
theorem dX3_copyFrom_60 : decode cX3_copyFrom 60 = .ok (.invokestatic 34, 3) := by decide +kernel
theorem dX3_copyFrom_63 : decode cX3_copyFrom 63 = .ok (.aload_n 1, 1) := by decide +kernel
theorem dX3_copyFrom_64 : decode cX3_copyFrom 64 = .ok (.getfield 27, 3) := by decide +kernel
theorem dX3_copyFrom_67 : decode cX3_copyFrom 67 = .ok (.aload_n 0, 1) := by decide +kernel
theorem dX3_copyFrom_68 : decode cX3_copyFrom 68 = .ok (.getfield 27, 3) := by decide +kernel
theorem dX3_copyFrom_71 : decode cX3_copyFrom 71 = .ok (.invokestatic 34, 3) := by decide +kernel
theorem dX3_copyFrom_74 : decode cX3_copyFrom 74 = .ok (.return_, 1) := by decide +kernel
theorem dX3_passByline_0 : decode cX3_passByline 0 = .ok (.aload_n 0, 1) := by decide +kernel
theorem dX3_passByline_1 : decode cX3_passByline 1 = .ok (.getfield 9, 3) := by decide +kernel
theorem dX3_passByline_4 : decode cX3_passByline 4 = .ok (.iload_n 2, 1) := by decide +kernel
theorem dX3_passByline_5 : decode cX3_passByline 5 = .ok (.dup2, 1) := by decide +kernel
theorem dX3_passByline_6 : decode cX3_passByline 6 = .ok (.iaload, 1) := by decide +kernel
theorem dX3_passByline_7 : decode cX3_passByline 7 = .ok (.iload_n 3, 1) := by decide +kernel
theorem dX3_passByline_8 : decode cX3_passByline 8 = .ok (.isub, 1) := by decide +kernel
theorem dX3_passByline_9 : decode cX3_passByline 9 = .ok (.iastore, 1) := by decide +kernel
theorem dX3_passByline_10 : decode cX3_passByline 10 = .ok (.aload_n 0, 1) := by decide +kernel
theorem dX3_passByline_11 : decode cX3_passByline 11 = .ok (.getfield 9, 3) := by decide +kernel
theorem dX3_passByline_14 : decode cX3_passByline 14 = .ok (.aload_n 0, 1) := by decide +kernel
theorem dX3_passByline_15 : decode cX3_passByline 15 = .ok (.getfield 21, 3) := by decide +kernel
theorem dX3_passByline_18 : decode cX3_passByline 18 = .ok (.iload_n 1, 1) := by decide +kernel
theorem dX3_passByline_19 : decode cX3_passByline 19 = .ok (.iaload, 1) := by decide +kernel
theorem dX3_passByline_20 : decode cX3_passByline 20 = .ok (.dup2, 1) := by decide +kernel
theorem dX3_passByline_21 : decode cX3_passByline 21 = .ok (.iaload, 1) := by decide +kernel
theorem dX3_passByline_22 : decode cX3_passByline 22 = .ok (.iload_n 3, 1) := by decide +kernel
theorem dX3_passByline_23 : decode cX3_passByline 23 = .ok (.iadd, 1) := by decide +kernel
theorem dX3_passByline_24 : decode cX3_passByline 24 = .ok (.iastore, 1) := by decide +kernel
theorem dX3_passByline_25 : decode cX3_passByline 25 = .ok (.aload_n 0, 1) := by decide +kernel
theorem dX3_passByline_26 : decode cX3_passByline 26 = .ok (.getfield 21, 3) := by decide +kernel
theorem dX3_passByline_29 : decode cX3_passByline 29 = .ok (.iload_n 1, 1) := by decide +kernel
theorem dX3_passByline_30 : decode cX3_passByline 30 = .ok (.iload_n 2, 1) := by decide +kernel
theorem dX3_passByline_31 : decode cX3_passByline 31 = .ok (.iastore, 1) := by decide +kernel
theorem dX3_passByline_32 : decode cX3_passByline 32 = .ok (.aload_n 0, 1) := by decide +kernel
theorem dX3_passByline_33 : decode cX3_passByline 33 = .ok (.getfield 24, 3) := by decide +kernel
theorem dX3_passByline_36 : decode cX3_passByline 36 = .ok (.iload_n 1, 1) := by decide +kernel
theorem dX3_passByline_37 : decode cX3_passByline 37 = .ok (.iload_n 3, 1) := by decide +kernel
theorem dX3_passByline_38 : decode cX3_passByline 38 = .ok (.iastore, 1) := by decide +kernel
theorem dX3_passByline_39 : decode cX3_passByline 39 = .ok (.return_, 1) := by decide +kernel
theorem dX3_earn_0 : decode cX3_earn 0 = .ok (.iload_n 2, 1) := by decide +kernel
theorem dX3_earn_1 : decode cX3_earn 1 = .ok (.aload_n 0, 1) := by decide +kernel
theorem dX3_earn_2 : decode cX3_earn 2 = .ok (.getfield 15, 3) := by decide +kernel
theorem dX3_earn_5 : decode cX3_earn 5 = .ok (.iload_n 1, 1) := by decide +kernel
theorem dX3_earn_6 : decode cX3_earn 6 = .ok (.iaload, 1) := by decide +kernel
theorem dX3_earn_7 : decode cX3_earn 7 = .ok (.invokestatic 38, 3) := by decide +kernel
theorem dX3_earn_10 : decode cX3_earn 10 = .ok (.istore_n 3, 1) := by decide +kernel
theorem dX3_earn_11 : decode cX3_earn 11 = .ok (.aload_n 0, 1) := by decide +kernel
theorem dX3_earn_12 : decode cX3_earn 12 = .ok (.getfield 18, 3) := by decide +kernel
theorem dX3_earn_15 : decode cX3_earn 15 = .ok (.iload_n 1, 1) := by decide +kernel
theorem dX3_earn_16 : decode cX3_earn 16 = .ok (.dup2, 1) := by decide +kernel
theorem dX3_earn_17 : decode cX3_earn 17 = .ok (.iaload, 1) := by decide +kernel
theorem dX3_earn_18 : decode cX3_earn 18 = .ok (.iload_n 2, 1) := by decide +kernel
theorem dX3_earn_19 : decode cX3_earn 19 = .ok (.iadd, 1) := by decide +kernel
theorem dX3_earn_20 : decode cX3_earn 20 = .ok (.iastore, 1) := by decide +kernel
theorem dX3_earn_21 : decode cX3_earn 21 = .ok (.aload_n 0, 1) := by decide +kernel
theorem dX3_earn_22 : decode cX3_earn 22 = .ok (.getfield 15, 3) := by decide +kernel
theorem dX3_earn_25 : decode cX3_earn 25 = .ok (.iload_n 1, 1) := by decide +kernel
theorem dX3_earn_26 : decode cX3_earn 26 = .ok (.dup2, 1) := by decide +kernel
theorem dX3_earn_27 : decode cX3_earn 27 = .ok (.iaload, 1) := by decide +kernel
theorem dX3_earn_28 : decode cX3_earn 28 = .ok (.iload_n 3, 1) := by decide +kernel
theorem dX3_earn_29 : decode cX3_earn 29 = .ok (.isub, 1) := by decide +kernel
theorem dX3_earn_30 : decode cX3_earn 30 = .ok (.iastore, 1) := by decide +kernel
theorem dX3_earn_31 : decode cX3_earn 31 = .ok (.aload_n 0, 1) := by decide +kernel
theorem dX3_earn_32 : decode cX3_earn 32 = .ok (.getfield 9, 3) := by decide +kernel
theorem dX3_earn_35 : decode cX3_earn 35 = .ok (.iload_n 1, 1) := by decide +kernel
theorem dX3_earn_36 : decode cX3_earn 36 = .ok (.dup2, 1) := by decide +kernel
theorem dX3_earn_37 : decode cX3_earn 37 = .ok (.iaload, 1) := by decide +kernel
theorem dX3_earn_38 : decode cX3_earn 38 = .ok (.iload_n 2, 1) := by decide +kernel
theorem dX3_earn_39 : decode cX3_earn 39 = .ok (.iload_n 3, 1) := by decide +kernel
theorem dX3_earn_40 : decode cX3_earn 40 = .ok (.isub, 1) := by decide +kernel
theorem dX3_earn_41 : decode cX3_earn 41 = .ok (.iadd, 1) := by decide +kernel
theorem dX3_earn_42 : decode cX3_earn 42 = .ok (.iastore, 1) := by decide +kernel
theorem dX3_earn_43 : decode cX3_earn 43 = .ok (.iload_n 3, 1) := by decide +kernel
theorem dX3_earn_44 : decode cX3_earn 44 = .ok (.ireturn, 1) := by decide +kernel
theorem dX3_bylinesOf_0 : decode cX3_bylinesOf 0 = .ok (.iconst 0, 1) := by decide +kernel
theorem dX3_bylinesOf_1 : decode cX3_bylinesOf 1 = .ok (.istore_n 2, 1) := by decide +kernel
theorem dX3_bylinesOf_2 : decode cX3_bylinesOf 2 = .ok (.iconst 0, 1) := by decide +kernel
theorem dX3_bylinesOf_3 : decode cX3_bylinesOf 3 = .ok (.istore_n 3, 1) := by decide +kernel
theorem dX3_bylinesOf_4 : decode cX3_bylinesOf 4 = .ok (.iload_n 3, 1) := by decide +kernel
theorem dX3_bylinesOf_5 : decode cX3_bylinesOf 5 = .ok (.aload_n 0, 1) := by decide +kernel
theorem dX3_bylinesOf_6 : decode cX3_bylinesOf 6 = .ok (.getfield 30, 3) := by decide +kernel
theorem dX3_bylinesOf_9 : decode cX3_bylinesOf 9 = .ok (.if_icmp .ge 27, 3) := by decide +kernel
theorem dX3_bylinesOf_12 : decode cX3_bylinesOf 12 = .ok (.iload_n 2, 1) := by decide +kernel
theorem dX3_bylinesOf_13 : decode cX3_bylinesOf 13 = .ok (.aload_n 0, 1) := by decide +kernel
theorem dX3_bylinesOf_14 : decode cX3_bylinesOf 14 = .ok (.getfield 21, 3) := by decide +kernel
theorem dX3_bylinesOf_17 : decode cX3_bylinesOf 17 = .ok (.iload_n 3, 1) := by decide +kernel
theorem dX3_bylinesOf_18 : decode cX3_bylinesOf 18 = .ok (.iaload, 1) := by decide +kernel
theorem dX3_bylinesOf_19 : decode cX3_bylinesOf 19 = .ok (.iload_n 1, 1) := by decide +kernel
theorem dX3_bylinesOf_20 : decode cX3_bylinesOf 20 = .ok (.if_icmp .ne 7, 3) := by decide +kernel
theorem dX3_bylinesOf_23 : decode cX3_bylinesOf 23 = .ok (.iconst 1, 1) := by decide +kernel
theorem dX3_bylinesOf_24 : decode cX3_bylinesOf 24 = .ok (.goto 4, 3) := by decide +kernel
theorem dX3_bylinesOf_27 : decode cX3_bylinesOf 27 = .ok (.iconst 0, 1) := by decide +kernel
theorem dX3_bylinesOf_28 : decode cX3_bylinesOf 28 = .ok (.iadd, 1) := by decide +kernel
theorem dX3_bylinesOf_29 : decode cX3_bylinesOf 29 = .ok (.istore_n 2, 1) := by decide +kernel
theorem dX3_bylinesOf_30 : decode cX3_bylinesOf 30 = .ok (.iinc 3 1, 3) := by decide +kernel
theorem dX3_bylinesOf_33 : decode cX3_bylinesOf 33 = .ok (.goto (-29), 3) := by decide +kernel
theorem dX3_bylinesOf_36 : decode cX3_bylinesOf 36 = .ok (.iload_n 2, 1) := by decide +kernel
theorem dX3_bylinesOf_37 : decode cX3_bylinesOf 37 = .ok (.ireturn, 1) := by decide +kernel
theorem dX3_bylinesAway_0 : decode cX3_bylinesAway 0 = .ok (.iconst 0, 1) := by decide +kernel
theorem dX3_bylinesAway_1 : decode cX3_bylinesAway 1 = .ok (.istore_n 1, 1) := by decide +kernel
theorem dX3_bylinesAway_2 : decode cX3_bylinesAway 2 = .ok (.iconst 0, 1) := by decide +kernel
theorem dX3_bylinesAway_3 : decode cX3_bylinesAway 3 = .ok (.istore_n 2, 1) := by decide +kernel
theorem dX3_bylinesAway_4 : decode cX3_bylinesAway 4 = .ok (.iload_n 2, 1) := by decide +kernel
theorem dX3_bylinesAway_5 : decode cX3_bylinesAway 5 = .ok (.aload_n 0, 1) := by decide +kernel
theorem dX3_bylinesAway_6 : decode cX3_bylinesAway 6 = .ok (.getfield 30, 3) := by decide +kernel
theorem dX3_bylinesAway_9 : decode cX3_bylinesAway 9 = .ok (.if_icmp .ge 27, 3) := by decide +kernel
theorem dX3_bylinesAway_12 : decode cX3_bylinesAway 12 = .ok (.iload_n 1, 1) := by decide +kernel
theorem dX3_bylinesAway_13 : decode cX3_bylinesAway 13 = .ok (.aload_n 0, 1) := by decide +kernel
theorem dX3_bylinesAway_14 : decode cX3_bylinesAway 14 = .ok (.getfield 21, 3) := by decide +kernel
theorem dX3_bylinesAway_17 : decode cX3_bylinesAway 17 = .ok (.iload_n 2, 1) := by decide +kernel
theorem dX3_bylinesAway_18 : decode cX3_bylinesAway 18 = .ok (.iaload, 1) := by decide +kernel
theorem dX3_bylinesAway_19 : decode cX3_bylinesAway 19 = .ok (.iload_n 2, 1) := by decide +kernel
theorem dX3_bylinesAway_20 : decode cX3_bylinesAway 20 = .ok (.if_icmp .eq 7, 3) := by decide +kernel
theorem dX3_bylinesAway_23 : decode cX3_bylinesAway 23 = .ok (.iconst 1, 1) := by decide +kernel
theorem dX3_bylinesAway_24 : decode cX3_bylinesAway 24 = .ok (.goto 4, 3) := by decide +kernel
theorem dX3_bylinesAway_27 : decode cX3_bylinesAway 27 = .ok (.iconst 0, 1) := by decide +kernel
theorem dX3_bylinesAway_28 : decode cX3_bylinesAway 28 = .ok (.iadd, 1) := by decide +kernel
theorem dX3_bylinesAway_29 : decode cX3_bylinesAway 29 = .ok (.istore_n 1, 1) := by decide +kernel
theorem dX3_bylinesAway_30 : decode cX3_bylinesAway 30 = .ok (.iinc 2 1, 3) := by decide +kernel
theorem dX3_bylinesAway_33 : decode cX3_bylinesAway 33 = .ok (.goto (-29), 3) := by decide +kernel
theorem dX3_bylinesAway_36 : decode cX3_bylinesAway 36 = .ok (.iload_n 1, 1) := by decide +kernel
theorem dX3_bylinesAway_37 : decode cX3_bylinesAway 37 = .ok (.ireturn, 1) := by decide +kernel
theorem dX3_placeOf_0 : decode cX3_placeOf 0 = .ok (.iconst 0, 1) := by decide +kernel
theorem dX3_placeOf_1 : decode cX3_placeOf 1 = .ok (.istore_n 2, 1) := by decide +kernel
theorem dX3_placeOf_2 : decode cX3_placeOf 2 = .ok (.iconst 0, 1) := by decide +kernel
theorem dX3_placeOf_3 : decode cX3_placeOf 3 = .ok (.istore_n 3, 1) := by decide +kernel
theorem dX3_placeOf_4 : decode cX3_placeOf 4 = .ok (.iload_n 3, 1) := by decide +kernel
theorem dX3_placeOf_5 : decode cX3_placeOf 5 = .ok (.aload_n 0, 1) := by decide +kernel
theorem dX3_placeOf_6 : decode cX3_placeOf 6 = .ok (.getfield 30, 3) := by decide +kernel
theorem dX3_placeOf_9 : decode cX3_placeOf 9 = .ok (.if_icmp .ge 64, 3) := by decide +kernel
theorem dX3_placeOf_12 : decode cX3_placeOf 12 = .ok (.aload_n 0, 1) := by decide +kernel
theorem dX3_placeOf_13 : decode cX3_placeOf 13 = .ok (.getfield 9, 3) := by decide +kernel
theorem dX3_placeOf_16 : decode cX3_placeOf 16 = .ok (.iload_n 3, 1) := by decide +kernel
theorem dX3_placeOf_17 : decode cX3_placeOf 17 = .ok (.iaload, 1) := by decide +kernel
theorem dX3_placeOf_18 : decode cX3_placeOf 18 = .ok (.aload_n 0, 1) := by decide +kernel
theorem dX3_placeOf_19 : decode cX3_placeOf 19 = .ok (.getfield 9, 3) := by decide +kernel
theorem dX3_placeOf_22 : decode cX3_placeOf 22 = .ok (.iload_n 1, 1) := by decide +kernel
theorem dX3_placeOf_23 : decode cX3_placeOf 23 = .ok (.iaload, 1) := by decide +kernel
theorem dX3_placeOf_24 : decode cX3_placeOf 24 = .ok (.if_icmp .gt 23, 3) := by decide +kernel
theorem dX3_placeOf_27 : decode cX3_placeOf 27 = .ok (.aload_n 0, 1) := by decide +kernel
theorem dX3_placeOf_28 : decode cX3_placeOf 28 = .ok (.getfield 9, 3) := by decide +kernel
theorem dX3_placeOf_31 : decode cX3_placeOf 31 = .ok (.iload_n 3, 1) := by decide +kernel
theorem dX3_placeOf_32 : decode cX3_placeOf 32 = .ok (.iaload, 1) := by decide +kernel
theorem dX3_placeOf_33 : decode cX3_placeOf 33 = .ok (.aload_n 0, 1) := by decide +kernel
theorem dX3_placeOf_34 : decode cX3_placeOf 34 = .ok (.getfield 9, 3) := by decide +kernel
theorem dX3_placeOf_37 : decode cX3_placeOf 37 = .ok (.iload_n 1, 1) := by decide +kernel
theorem dX3_placeOf_38 : decode cX3_placeOf 38 = .ok (.iaload, 1) := by decide +kernel
theorem dX3_placeOf_39 : decode cX3_placeOf 39 = .ok (.if_icmp .ne 12, 3) := by decide +kernel
theorem dX3_placeOf_42 : decode cX3_placeOf 42 = .ok (.iload_n 3, 1) := by decide +kernel
theorem dX3_placeOf_43 : decode cX3_placeOf 43 = .ok (.iload_n 1, 1) := by decide +kernel
theorem dX3_placeOf_44 : decode cX3_placeOf 44 = .ok (.if_icmp .ge 7, 3) := by decide +kernel
theorem dX3_placeOf_47 : decode cX3_placeOf 47 = .ok (.iconst 1, 1) := by decide +kernel
theorem dX3_placeOf_48 : decode cX3_placeOf 48 = .ok (.goto 4, 3) := by decide +kernel
theorem dX3_placeOf_51 : decode cX3_placeOf 51 = .ok (.iconst 0, 1) := by decide +kernel
theorem dX3_placeOf_52 : decode cX3_placeOf 52 = .ok (.istore 4, 2) := by decide +kernel
theorem dX3_placeOf_54 : decode cX3_placeOf 54 = .ok (.iload_n 2, 1) := by decide +kernel
theorem dX3_placeOf_55 : decode cX3_placeOf 55 = .ok (.iload 4, 2) := by decide +kernel
theorem dX3_placeOf_57 : decode cX3_placeOf 57 = .ok (.ifCond .eq 7, 3) := by decide +kernel
theorem dX3_placeOf_60 : decode cX3_placeOf 60 = .ok (.iconst 1, 1) := by decide +kernel
theorem dX3_placeOf_61 : decode cX3_placeOf 61 = .ok (.goto 4, 3) := by decide +kernel
theorem dX3_placeOf_64 : decode cX3_placeOf 64 = .ok (.iconst 0, 1) := by decide +kernel
theorem dX3_placeOf_65 : decode cX3_placeOf 65 = .ok (.iadd, 1) := by decide +kernel
theorem dX3_placeOf_66 : decode cX3_placeOf 66 = .ok (.istore_n 2, 1) := by decide +kernel
theorem dX3_placeOf_67 : decode cX3_placeOf 67 = .ok (.iinc 3 1, 3) := by decide +kernel
theorem dX3_placeOf_70 : decode cX3_placeOf 70 = .ok (.goto (-66), 3) := by decide +kernel
theorem dX3_placeOf_73 : decode cX3_placeOf 73 = .ok (.iload_n 2, 1) := by decide +kernel
theorem dX3_placeOf_74 : decode cX3_placeOf 74 = .ok (.ireturn, 1) := by decide +kernel
theorem dX3_differences_0 : decode cX3_differences 0 = .ok (.iconst 0, 1) := by decide +kernel
theorem dX3_differences_1 : decode cX3_differences 1 = .ok (.istore_n 1, 1) := by decide +kernel
theorem dX3_differences_2 : decode cX3_differences 2 = .ok (.iconst 0, 1) := by decide +kernel
theorem dX3_differences_3 : decode cX3_differences 3 = .ok (.istore_n 2, 1) := by decide +kernel
theorem dX3_differences_4 : decode cX3_differences 4 = .ok (.iload_n 2, 1) := by decide +kernel
theorem dX3_differences_5 : decode cX3_differences 5 = .ok (.aload_n 0, 1) := by decide +kernel
theorem dX3_differences_6 : decode cX3_differences 6 = .ok (.getfield 30, 3) := by decide +kernel
theorem dX3_differences_9 : decode cX3_differences 9 = .ok (.if_icmp .ge 46, 3) := by decide +kernel
theorem dX3_differences_12 : decode cX3_differences 12 = .ok (.iload_n 2, 1) := by decide +kernel
theorem dX3_differences_13 : decode cX3_differences 13 = .ok (.iconst 1, 1) := by decide +kernel
theorem dX3_differences_14 : decode cX3_differences 14 = .ok (.iadd, 1) := by decide +kernel
theorem dX3_differences_15 : decode cX3_differences 15 = .ok (.istore_n 3, 1) := by decide +kernel
theorem dX3_differences_16 : decode cX3_differences 16 = .ok (.iload_n 3, 1) := by decide +kernel
theorem dX3_differences_17 : decode cX3_differences 17 = .ok (.aload_n 0, 1) := by decide +kernel
theorem dX3_differences_18 : decode cX3_differences 18 = .ok (.getfield 30, 3) := by decide +kernel
theorem dX3_differences_21 : decode cX3_differences 21 = .ok (.if_icmp .ge 28, 3) := by decide +kernel
theorem dX3_differences_24 : decode cX3_differences 24 = .ok (.iload_n 1, 1) := by decide +kernel
theorem dX3_differences_25 : decode cX3_differences 25 = .ok (.aload_n 0, 1) := by decide +kernel
theorem dX3_differences_26 : decode cX3_differences 26 = .ok (.getfield 9, 3) := by decide +kernel
theorem dX3_differences_29 : decode cX3_differences 29 = .ok (.iload_n 2, 1) := by decide +kernel
theorem dX3_differences_30 : decode cX3_differences 30 = .ok (.iaload, 1) := by decide +kernel
theorem dX3_differences_31 : decode cX3_differences 31 = .ok (.aload_n 0, 1) := by decide +kernel
theorem dX3_differences_32 : decode cX3_differences 32 = .ok (.getfield 9, 3) := by decide +kernel
theorem dX3_differences_35 : decode cX3_differences 35 = .ok (.iload_n 3, 1) := by decide +kernel
theorem dX3_differences_36 : decode cX3_differences 36 = .ok (.iaload, 1) := by decide +kernel
theorem dX3_differences_37 : decode cX3_differences 37 = .ok (.isub, 1) := by decide +kernel
theorem dX3_differences_38 : decode cX3_differences 38 = .ok (.invokestatic 42, 3) := by decide +kernel
theorem dX3_differences_41 : decode cX3_differences 41 = .ok (.iadd, 1) := by decide +kernel
theorem dX3_differences_42 : decode cX3_differences 42 = .ok (.istore_n 1, 1) := by decide +kernel
theorem dX3_differences_43 : decode cX3_differences 43 = .ok (.iinc 3 1, 3) := by decide +kernel
theorem dX3_differences_46 : decode cX3_differences 46 = .ok (.goto (-30), 3) := by decide +kernel
theorem dX3_differences_49 : decode cX3_differences 49 = .ok (.iinc 2 1, 3) := by decide +kernel
theorem dX3_differences_52 : decode cX3_differences 52 = .ok (.goto (-48), 3) := by decide +kernel
theorem dX3_differences_55 : decode cX3_differences 55 = .ok (.iload_n 1, 1) := by decide +kernel
theorem dX3_differences_56 : decode cX3_differences 56 = .ok (.ireturn, 1) := by decide +kernel

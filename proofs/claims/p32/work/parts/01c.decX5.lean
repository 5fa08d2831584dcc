theorem dX5_init_0 : decode cX5_init 0 = .ok (.aload_n 0, 1) := by decide +kernel
theorem dX5_init_1 : decode cX5_init 1 = .ok (.invokespecial 3, 3) := by decide +kernel
theorem dX5_init_4 : decode cX5_init 4 = .ok (.aload_n 0, 1) := by decide +kernel
theorem dX5_init_5 : decode cX5_init 5 = .ok (.new 9, 3) := by decide +kernel
theorem dX5_init_8 : decode cX5_init 8 = .ok (.dup, 1) := by decide +kernel
theorem dX5_init_9 : decode cX5_init 9 = .ok (.invokespecial 11, 3) := by decide +kernel
theorem dX5_init_12 : decode cX5_init 12 = .ok (.putfield 12, 3) := by decide +kernel
theorem dX5_init_15 : decode cX5_init 15 = .ok (.aload_n 0, 1) := by decide +kernel
theorem dX5_init_16 : decode cX5_init 16 = .ok (.new 18, 3) := by decide +kernel
theorem dX5_init_19 : decode cX5_init 19 = .ok (.dup, 1) := by decide +kernel
theorem dX5_init_20 : decode cX5_init 20 = .ok (.invokespecial 20, 3) := by decide +kernel
theorem dX5_init_23 : decode cX5_init 23 = .ok (.putfield 21, 3) := by decide +kernel
theorem dX5_init_26 : decode cX5_init 26 = .ok (.aload_n 0, 1) := by decide +kernel
theorem dX5_init_27 : decode cX5_init 27 = .ok (.getstatic 25, 3) := by decide +kernel
theorem dX5_init_30 : decode cX5_init 30 = .ok (.invokevirtual 29, 3) := by decide +kernel
theorem dX5_init_33 : decode cX5_init 33 = .ok (.checkcast 30, 3) := by decide +kernel
theorem dX5_init_36 : decode cX5_init 36 = .ok (.putfield 34, 3) := by decide +kernel
theorem dX5_init_39 : decode cX5_init 39 = .ok (.return_, 1) := by decide +kernel
theorem dX5_copyFrom_0 : decode cX5_copyFrom 0 = .ok (.aload_n 0, 1) := by decide +kernel
theorem dX5_copyFrom_1 : decode cX5_copyFrom 1 = .ok (.getfield 12, 3) := by decide +kernel
theorem dX5_copyFrom_4 : decode cX5_copyFrom 4 = .ok (.aload_n 1, 1) := by decide +kernel
theorem dX5_copyFrom_5 : decode cX5_copyFrom 5 = .ok (.getfield 12, 3) := by decide +kernel
theorem dX5_copyFrom_8 : decode cX5_copyFrom 8 = .ok (.invokevirtual 37, 3) := by decide +kernel
theorem dX5_copyFrom_11 : decode cX5_copyFrom 11 = .ok (.aload_n 0, 1) := by decide +kernel
theorem dX5_copyFrom_12 : decode cX5_copyFrom 12 = .ok (.getfield 21, 3) := by decide +kernel
theorem dX5_copyFrom_15 : decode cX5_copyFrom 15 = .ok (.aload_n 1, 1) := by decide +kernel
theorem dX5_copyFrom_16 : decode cX5_copyFrom 16 = .ok (.getfield 21, 3) := by decide +kernel
theorem dX5_copyFrom_19 : decode cX5_copyFrom 19 = .ok (.invokevirtual 41, 3) := by decide +kernel
theorem dX5_copyFrom_22 : decode cX5_copyFrom 22 = .ok (.aload_n 1, 1) := by decide +kernel
theorem dX5_copyFrom_23 : decode cX5_copyFrom 23 = .ok (.getfield 34, 3) := by decide +kernel
theorem dX5_copyFrom_26 : decode cX5_copyFrom 26 = .ok (.aload_n 0, 1) := by decide +kernel
theorem dX5_copyFrom_27 : decode cX5_copyFrom 27 = .ok (.getfield 34, 3) := by decide +kernel
theorem dX5_copyFrom_30 : decode cX5_copyFrom 30 = .ok (.invokestatic 44, 3) := by decide +kernel
theorem dX5_copyFrom_33 : decode cX5_copyFrom 33 = .ok (.aload_n 0, 1) := by decide +kernel
theorem dX5_copyFrom_34 : decode cX5_copyFrom 34 = .ok (.aload_n 1, 1) := by decide +kernel
theorem dX5_copyFrom_35 : decode cX5_copyFrom 35 = .ok (.getfield 48, 3) := by decide +kernel
theorem dX5_copyFrom_38 : decode cX5_copyFrom 38 = .ok (.putfield 48, 3) := by decide +kernel
theorem dX5_copyFrom_41 : decode cX5_copyFrom 41 = .ok (.aload_n 0, 1) := by decide +kernel
theorem dX5_copyFrom_42 : decode cX5_copyFrom 42 = .ok (.aload_n 1, 1) := by decide +kernel
theorem dX5_copyFrom_43 : decode cX5_copyFrom 43 = .ok (.getfield 52, 3) := by decide +kernel
theorem dX5_copyFrom_46 : decode cX5_copyFrom 46 = .ok (.putfield 52, 3) := by decide +kernel
theorem dX5_copyFrom_49 : decode cX5_copyFrom 49 = .ok (.aload_n 0, 1) := by decide +kernel
theorem dX5_copyFrom_50 : decode cX5_copyFrom 50 = .ok (.aload_n 1, 1) := by decide +kernel
theorem dX5_copyFrom_51 : decode cX5_copyFrom 51 = .ok (.getfield 55, 3) := by decide +kernel
theorem dX5_copyFrom_54 : decode cX5_copyFrom 54 = .ok (.putfield 55, 3) := by decide +kernel
theorem dX5_copyFrom_57 : decode cX5_copyFrom 57 = .ok (.aload_n 0, 1) := by decide +kernel
theorem dX5_copyFrom_58 : decode cX5_copyFrom 58 = .ok (.aload_n 1, 1) := by decide +kernel
theorem dX5_copyFrom_59 : decode cX5_copyFrom 59 = .ok (.getfield 58, 3) := by decide +kernel
theorem dX5_copyFrom_62 : decode cX5_copyFrom 62 = .ok (.putfield 58, 3) := by decide +kernel
theorem dX5_copyFrom_65 : decode cX5_copyFrom 65 = .ok (.aload_n 0, 1) := by decide +kernel
theorem dX5_copyFrom_66 : decode cX5_copyFrom 66 = .ok (.aload_n 1, 1) := by decide +kernel
theorem dX5_copyFrom_67 : decode cX5_copyFrom 67 = .ok (.getfield 61, 3) := by decide +kernel
theorem dX5_copyFrom_70 : decode cX5_copyFrom 70 = .ok (.putfield 61, 3) := by decide +kernel
theorem dX5_copyFrom_73 : decode cX5_copyFrom 73 = .ok (.return_, 1) := by decide +kernel
theorem dX5_killFee_0 : decode cX5_killFee 0 = .ok (.aload_n 0, 1) := by decide +kernel
theorem dX5_killFee_1 : decode cX5_killFee 1 = .ok (.getfield 21, 3) := by decide +kernel
theorem dX5_killFee_4 : decode cX5_killFee 4 = .ok (.getfield 64, 3) := by decide +kernel
theorem dX5_killFee_7 : decode cX5_killFee 7 = .ok (.iload_n 1, 1) := by decide +kernel
theorem dX5_killFee_8 : decode cX5_killFee 8 = .ok (.iaload, 1) := by decide +kernel
theorem dX5_killFee_9 : decode cX5_killFee 9 = .ok (.istore_n 2, 1) := by decide +kernel
theorem dX5_killFee_10 : decode cX5_killFee 10 = .ok (.iload_n 2, 1) := by decide +kernel
theorem dX5_killFee_11 : decode cX5_killFee 11 = .ok (.ifCond .lt 8, 3) := by decide +kernel
theorem dX5_killFee_14 : decode cX5_killFee 14 = .ok (.iload_n 2, 1) := by decide +kernel
theorem dX5_killFee_15 : decode cX5_killFee 15 = .ok (.iconst 2, 1) := by decide +kernel
theorem dX5_killFee_16 : decode cX5_killFee 16 = .ok (.if_icmp .le 5, 3) := by decide +kernel
theorem dX5_killFee_19 : decode cX5_killFee 19 = .ok (.iconst 0, 1) := by decide +kernel
theorem dX5_killFee_20 : decode cX5_killFee 20 = .ok (.ireturn, 1) := by decide +kernel
theorem dX5_killFee_21 : decode cX5_killFee 21 = .ok (.aload_n 0, 1) := by decide +kernel
theorem dX5_killFee_22 : decode cX5_killFee 22 = .ok (.getfield 21, 3) := by decide +kernel
theorem dX5_killFee_25 : decode cX5_killFee 25 = .ok (.getfield 67, 3) := by decide +kernel
theorem dX5_killFee_28 : decode cX5_killFee 28 = .ok (.iload_n 1, 1) := by decide +kernel
theorem dX5_killFee_29 : decode cX5_killFee 29 = .ok (.iaload, 1) := by decide +kernel
theorem dX5_killFee_30 : decode cX5_killFee 30 = .ok (.aload_n 0, 1) := by decide +kernel
theorem dX5_killFee_31 : decode cX5_killFee 31 = .ok (.getfield 34, 3) := by decide +kernel
theorem dX5_killFee_34 : decode cX5_killFee 34 = .ok (.iconst 3, 1) := by decide +kernel
theorem dX5_killFee_35 : decode cX5_killFee 35 = .ok (.iload_n 2, 1) := by decide +kernel
theorem dX5_killFee_36 : decode cX5_killFee 36 = .ok (.iadd, 1) := by decide +kernel
theorem dX5_killFee_37 : decode cX5_killFee 37 = .ok (.iaload, 1) := by decide +kernel
theorem dX5_killFee_38 : decode cX5_killFee 38 = .ok (.imul, 1) := by decide +kernel
theorem dX5_killFee_39 : decode cX5_killFee 39 = .ok (.bipush 100, 2) := by decide +kernel
theorem dX5_killFee_41 : decode cX5_killFee 41 = .ok (.idiv, 1) := by decide +kernel
theorem dX5_killFee_42 : decode cX5_killFee 42 = .ok (.ireturn, 1) := by decide +kernel

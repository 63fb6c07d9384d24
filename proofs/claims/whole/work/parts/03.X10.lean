theorem dX1_init_0 : decode cX1_init 0 = .ok (.aload_n 0, 1) := by decide +kernel
theorem dX1_init_1 : decode cX1_init 1 = .ok (.invokespecial 3, 3) := by decide +kernel
theorem dX1_init_4 : decode cX1_init 4 = .ok (.aload_n 0, 1) := by decide +kernel
theorem dX1_init_5 : decode cX1_init 5 = .ok (.new 9, 3) := by decide +kernel
theorem dX1_init_8 : decode cX1_init 8 = .ok (.dup, 1) := by decide +kernel
theorem dX1_init_9 : decode cX1_init 9 = .ok (.invokespecial 11, 3) := by decide +kernel
theorem dX1_init_12 : decode cX1_init 12 = .ok (.putfield 12, 3) := by decide +kernel
theorem dX1_init_15 : decode cX1_init 15 = .ok (.aload_n 0, 1) := by decide +kernel
theorem dX1_init_16 : decode cX1_init 16 = .ok (.bipush 8, 2) := by decide +kernel
theorem dX1_init_18 : decode cX1_init 18 = .ok (.anewarray 18, 3) := by decide +kernel
theorem dX1_init_21 : decode cX1_init 21 = .ok (.putfield 20, 3) := by decide +kernel
theorem dX1_init_24 : decode cX1_init 24 = .ok (.iconst 0, 1) := by decide +kernel
theorem dX1_init_25 : decode cX1_init 25 = .ok (.istore_n 1, 1) := by decide +kernel
theorem dX1_init_26 : decode cX1_init 26 = .ok (.iload_n 1, 1) := by decide +kernel
theorem dX1_init_27 : decode cX1_init 27 = .ok (.bipush 8, 2) := by decide +kernel
theorem dX1_init_29 : decode cX1_init 29 = .ok (.if_icmp .ge 22, 3) := by decide +kernel
theorem dX1_init_32 : decode cX1_init 32 = .ok (.aload_n 0, 1) := by decide +kernel
theorem dX1_init_33 : decode cX1_init 33 = .ok (.getfield 20, 3) := by decide +kernel
theorem dX1_init_36 : decode cX1_init 36 = .ok (.iload_n 1, 1) := by decide +kernel
theorem dX1_init_37 : decode cX1_init 37 = .ok (.new 18, 3) := by decide +kernel
theorem dX1_init_40 : decode cX1_init 40 = .ok (.dup, 1) := by decide +kernel
theorem dX1_init_41 : decode cX1_init 41 = .ok (.invokespecial 24, 3) := by decide +kernel
theorem dX1_init_44 : decode cX1_init 44 = .ok (.aastore, 1) := by decide +kernel
theorem dX1_init_45 : decode cX1_init 45 = .ok (.iinc 1 1, 3) := by decide +kernel
theorem dX1_init_48 : decode cX1_init 48 = .ok (.goto (-22), 3) := by decide +kernel
theorem dX1_init_51 : decode cX1_init 51 = .ok (.aload_n 0, 1) := by decide +kernel
theorem dX1_init_52 : decode cX1_init 52 = .ok (.iconst 0, 1) := by decide +kernel
theorem dX1_init_53 : decode cX1_init 53 = .ok (.putfield 25, 3) := by decide +kernel
theorem dX1_init_56 : decode cX1_init 56 = .ok (.aload_n 0, 1) := by decide +kernel
theorem dX1_init_57 : decode cX1_init 57 = .ok (.iconst 0, 1) := by decide +kernel
theorem dX1_init_58 : decode cX1_init 58 = .ok (.putfield 29, 3) := by decide +kernel
theorem dX1_init_61 : decode cX1_init 61 = .ok (.aload_n 0, 1) := by decide +kernel
theorem dX1_init_62 : decode cX1_init 62 = .ok (.iconst 0, 1) := by decide +kernel
theorem dX1_init_63 : decode cX1_init 63 = .ok (.putfield 32, 3) := by decide +kernel
theorem dX1_init_66 : decode cX1_init 66 = .ok (.aload_n 0, 1) := by decide +kernel
theorem dX1_init_67 : decode cX1_init 67 = .ok (.iconst 1, 1) := by decide +kernel
theorem dX1_init_68 : decode cX1_init 68 = .ok (.putfield 35, 3) := by decide +kernel
theorem dX1_init_71 : decode cX1_init 71 = .ok (.aload_n 0, 1) := by decide +kernel
theorem dX1_init_72 : decode cX1_init 72 = .ok (.bipush 16, 2) := by decide +kernel
theorem dX1_init_74 : decode cX1_init 74 = .ok (.newarray .int, 2) := by decide +kernel
theorem dX1_init_76 : decode cX1_init 76 = .ok (.putfield 38, 3) := by decide +kernel
theorem dX1_init_79 : decode cX1_init 79 = .ok (.return_, 1) := by decide +kernel
theorem dX1_takeFrom_0 : decode cX1_takeFrom 0 = .ok (.aload_n 0, 1) := by decide +kernel
theorem dX1_takeFrom_1 : decode cX1_takeFrom 1 = .ok (.getfield 12, 3) := by decide +kernel
theorem dX1_takeFrom_4 : decode cX1_takeFrom 4 = .ok (.aload_n 1, 1) := by decide +kernel
theorem dX1_takeFrom_5 : decode cX1_takeFrom 5 = .ok (.getfield 12, 3) := by decide +kernel
theorem dX1_takeFrom_8 : decode cX1_takeFrom 8 = .ok (.invokevirtual 42, 3) := by decide +kernel
theorem dX1_takeFrom_11 : decode cX1_takeFrom 11 = .ok (.aload_n 0, 1) := by decide +kernel
theorem dX1_takeFrom_12 : decode cX1_takeFrom 12 = .ok (.aload_n 1, 1) := by decide +kernel
theorem dX1_takeFrom_13 : decode cX1_takeFrom 13 = .ok (.getfield 25, 3) := by decide +kernel
theorem dX1_takeFrom_16 : decode cX1_takeFrom 16 = .ok (.putfield 25, 3) := by decide +kernel
theorem dX1_takeFrom_19 : decode cX1_takeFrom 19 = .ok (.iconst 0, 1) := by decide +kernel
theorem dX1_takeFrom_20 : decode cX1_takeFrom 20 = .ok (.istore_n 2, 1) := by decide +kernel
theorem dX1_takeFrom_21 : decode cX1_takeFrom 21 = .ok (.iload_n 2, 1) := by decide +kernel
theorem dX1_takeFrom_22 : decode cX1_takeFrom 22 = .ok (.aload_n 0, 1) := by decide +kernel
theorem dX1_takeFrom_23 : decode cX1_takeFrom 23 = .ok (.getfield 25, 3) := by decide +kernel
theorem dX1_takeFrom_26 : decode cX1_takeFrom 26 = .ok (.if_icmp .ge 24, 3) := by decide +kernel
theorem dX1_takeFrom_29 : decode cX1_takeFrom 29 = .ok (.aload_n 0, 1) := by decide +kernel
theorem dX1_takeFrom_30 : decode cX1_takeFrom 30 = .ok (.getfield 20, 3) := by decide +kernel
theorem dX1_takeFrom_33 : decode cX1_takeFrom 33 = .ok (.iload_n 2, 1) := by decide +kernel
theorem dX1_takeFrom_34 : decode cX1_takeFrom 34 = .ok (.aaload, 1) := by decide +kernel
theorem dX1_takeFrom_35 : decode cX1_takeFrom 35 = .ok (.aload_n 1, 1) := by decide +kernel
theorem dX1_takeFrom_36 : decode cX1_takeFrom 36 = .ok (.getfield 20, 3) := by decide +kernel
theorem dX1_takeFrom_39 : decode cX1_takeFrom 39 = .ok (.iload_n 2, 1) := by decide +kernel
theorem dX1_takeFrom_40 : decode cX1_takeFrom 40 = .ok (.aaload, 1) := by decide +kernel
theorem dX1_takeFrom_41 : decode cX1_takeFrom 41 = .ok (.invokevirtual 46, 3) := by decide +kernel
theorem dX1_takeFrom_44 : decode cX1_takeFrom 44 = .ok (.iinc 2 1, 3) := by decide +kernel
theorem dX1_takeFrom_47 : decode cX1_takeFrom 47 = .ok (.goto (-26), 3) := by decide +kernel
theorem dX1_takeFrom_50 : decode cX1_takeFrom 50 = .ok (.aload_n 0, 1) := by decide +kernel
theorem dX1_takeFrom_51 : decode cX1_takeFrom 51 = .ok (.aload_n 1, 1) := by decide +kernel
theorem dX1_takeFrom_52 : decode cX1_takeFrom 52 = .ok (.getfield 29, 3) := by decide +kernel
theorem dX1_takeFrom_55 : decode cX1_takeFrom 55 = .ok (.putfield 29, 3) := by decide +kernel
theorem dX1_takeFrom_58 : decode cX1_takeFrom 58 = .ok (.aload_n 0, 1) := by decide +kernel
theorem dX1_takeFrom_59 : decode cX1_takeFrom 59 = .ok (.aload_n 1, 1) := by decide +kernel
theorem dX1_takeFrom_60 : decode cX1_takeFrom 60 = .ok (.getfield 32, 3) := by decide +kernel
theorem dX1_takeFrom_63 : decode cX1_takeFrom 63 = .ok (.putfield 32, 3) := by decide +kernel
theorem dX1_takeFrom_66 : decode cX1_takeFrom 66 = .ok (.aload_n 0, 1) := by decide +kernel
theorem dX1_takeFrom_67 : decode cX1_takeFrom 67 = .ok (.aload_n 1, 1) := by decide +kernel
theorem dX1_takeFrom_68 : decode cX1_takeFrom 68 = .ok (.getfield 35, 3) := by decide +kernel
theorem dX1_takeFrom_71 : decode cX1_takeFrom 71 = .ok (.putfield 35, 3) := by decide +kernel
theorem dX1_takeFrom_74 : decode cX1_takeFrom 74 = .ok (.return_, 1) := by decide +kernel
theorem dX1_isFull_0 : decode cX1_isFull 0 = .ok (.aload_n 0, 1) := by decide +kernel
theorem dX1_isFull_1 : decode cX1_isFull 1 = .ok (.getfield 25, 3) := by decide +kernel
theorem dX1_isFull_4 : decode cX1_isFull 4 = .ok (.bipush 8, 2) := by decide +kernel
theorem dX1_isFull_6 : decode cX1_isFull 6 = .ok (.if_icmp .lt 7, 3) := by decide +kernel
theorem dX1_isFull_9 : decode cX1_isFull 9 = .ok (.iconst 1, 1) := by decide +kernel
theorem dX1_isFull_10 : decode cX1_isFull 10 = .ok (.goto 4, 3) := by decide +kernel
theorem dX1_isFull_13 : decode cX1_isFull 13 = .ok (.iconst 0, 1) := by decide +kernel
theorem dX1_isFull_14 : decode cX1_isFull 14 = .ok (.ireturn, 1) := by decide +kernel
theorem dX1_add_0 : decode cX1_add 0 = .ok (.aload_n 0, 1) := by decide +kernel
theorem dX1_add_1 : decode cX1_add 1 = .ok (.getfield 20, 3) := by decide +kernel
theorem dX1_add_4 : decode cX1_add 4 = .ok (.aload_n 0, 1) := by decide +kernel
theorem dX1_add_5 : decode cX1_add 5 = .ok (.getfield 25, 3) := by decide +kernel
theorem dX1_add_8 : decode cX1_add 8 = .ok (.aaload, 1) := by decide +kernel
theorem dX1_add_9 : decode cX1_add 9 = .ok (.astore_n 3, 1) := by decide +kernel
theorem dX1_add_10 : decode cX1_add 10 = .ok (.aload_n 3, 1) := by decide +kernel
theorem dX1_add_11 : decode cX1_add 11 = .ok (.iload_n 1, 1) := by decide +kernel
theorem dX1_add_12 : decode cX1_add 12 = .ok (.iload_n 2, 1) := by decide +kernel
theorem dX1_add_13 : decode cX1_add 13 = .ok (.invokevirtual 49, 3) := by decide +kernel
theorem dX1_add_16 : decode cX1_add 16 = .ok (.aload_n 0, 1) := by decide +kernel
theorem dX1_add_17 : decode cX1_add 17 = .ok (.dup, 1) := by decide +kernel
theorem dX1_add_18 : decode cX1_add 18 = .ok (.getfield 25, 3) := by decide +kernel
theorem dX1_add_21 : decode cX1_add 21 = .ok (.iconst 1, 1) := by decide +kernel
theorem dX1_add_22 : decode cX1_add 22 = .ok (.iadd, 1) := by decide +kernel
theorem dX1_add_23 : decode cX1_add 23 = .ok (.putfield 25, 3) := by decide +kernel
theorem dX1_add_26 : decode cX1_add 26 = .ok (.aload_n 3, 1) := by decide +kernel
theorem dX1_add_27 : decode cX1_add 27 = .ok (.areturn, 1) := by decide +kernel
theorem dX1_takeDown_0 : decode cX1_takeDown 0 = .ok (.aload_n 0, 1) := by decide +kernel
theorem dX1_takeDown_1 : decode cX1_takeDown 1 = .ok (.getfield 20, 3) := by decide +kernel
theorem dX1_takeDown_4 : decode cX1_takeDown 4 = .ok (.iload_n 1, 1) := by decide +kernel
theorem dX1_takeDown_5 : decode cX1_takeDown 5 = .ok (.aaload, 1) := by decide +kernel
theorem dX1_takeDown_6 : decode cX1_takeDown 6 = .ok (.astore_n 2, 1) := by decide +kernel
theorem dX1_takeDown_7 : decode cX1_takeDown 7 = .ok (.iload_n 1, 1) := by decide +kernel
theorem dX1_takeDown_8 : decode cX1_takeDown 8 = .ok (.istore_n 3, 1) := by decide +kernel
theorem dX1_takeDown_9 : decode cX1_takeDown 9 = .ok (.iload_n 3, 1) := by decide +kernel
theorem dX1_takeDown_10 : decode cX1_takeDown 10 = .ok (.aload_n 0, 1) := by decide +kernel
theorem dX1_takeDown_11 : decode cX1_takeDown 11 = .ok (.getfield 25, 3) := by decide +kernel
theorem dX1_takeDown_14 : decode cX1_takeDown 14 = .ok (.iconst 1, 1) := by decide +kernel
theorem dX1_takeDown_15 : decode cX1_takeDown 15 = .ok (.isub, 1) := by decide +kernel
theorem dX1_takeDown_16 : decode cX1_takeDown 16 = .ok (.if_icmp .ge 23, 3) := by decide +kernel
theorem dX1_takeDown_19 : decode cX1_takeDown 19 = .ok (.aload_n 0, 1) := by decide +kernel
theorem dX1_takeDown_20 : decode cX1_takeDown 20 = .ok (.getfield 20, 3) := by decide +kernel
theorem dX1_takeDown_23 : decode cX1_takeDown 23 = .ok (.iload_n 3, 1) := by decide +kernel
theorem dX1_takeDown_24 : decode cX1_takeDown 24 = .ok (.aload_n 0, 1) := by decide +kernel
theorem dX1_takeDown_25 : decode cX1_takeDown 25 = .ok (.getfield 20, 3) := by decide +kernel
theorem dX1_takeDown_28 : decode cX1_takeDown 28 = .ok (.iload_n 3, 1) := by decide +kernel
theorem dX1_takeDown_29 : decode cX1_takeDown 29 = .ok (.iconst 1, 1) := by decide +kernel
theorem dX1_takeDown_30 : decode cX1_takeDown 30 = .ok (.iadd, 1) := by decide +kernel
theorem dX1_takeDown_31 : decode cX1_takeDown 31 = .ok (.aaload, 1) := by decide +kernel
theorem dX1_takeDown_32 : decode cX1_takeDown 32 = .ok (.aastore, 1) := by decide +kernel
theorem dX1_takeDown_33 : decode cX1_takeDown 33 = .ok (.iinc 3 1, 3) := by decide +kernel
theorem dX1_takeDown_36 : decode cX1_takeDown 36 = .ok (.goto (-27), 3) := by decide +kernel
theorem dX1_takeDown_39 : decode cX1_takeDown 39 = .ok (.aload_n 0, 1) := by decide +kernel
theorem dX1_takeDown_40 : decode cX1_takeDown 40 = .ok (.dup, 1) := by decide +kernel
theorem dX1_takeDown_41 : decode cX1_takeDown 41 = .ok (.getfield 25, 3) := by decide +kernel
theorem dX1_takeDown_44 : decode cX1_takeDown 44 = .ok (.iconst 1, 1) := by decide +kernel
theorem dX1_takeDown_45 : decode cX1_takeDown 45 = .ok (.isub, 1) := by decide +kernel
theorem dX1_takeDown_46 : decode cX1_takeDown 46 = .ok (.putfield 25, 3) := by decide +kernel
theorem dX1_takeDown_49 : decode cX1_takeDown 49 = .ok (.aload_n 0, 1) := by decide +kernel
theorem dX1_takeDown_50 : decode cX1_takeDown 50 = .ok (.getfield 20, 3) := by decide +kernel
theorem dX1_takeDown_53 : decode cX1_takeDown 53 = .ok (.aload_n 0, 1) := by decide +kernel
theorem dX1_takeDown_54 : decode cX1_takeDown 54 = .ok (.getfield 25, 3) := by decide +kernel
theorem dX1_takeDown_57 : decode cX1_takeDown 57 = .ok (.aload_n 2, 1) := by decide +kernel
theorem dX1_takeDown_58 : decode cX1_takeDown 58 = .ok (.aastore, 1) := by decide +kernel
theorem dX1_takeDown_59 : decode cX1_takeDown 59 = .ok (.return_, 1) := by decide +kernel
theorem dX1_clock_0 : decode cX1_clock 0 = .ok (.aload_n 0, 1) := by decide +kernel
theorem dX1_clock_1 : decode cX1_clock 1 = .ok (.getfield 29, 3) := by decide +kernel
theorem dX1_clock_4 : decode cX1_clock 4 = .ok (.bipush 24, 2) := by decide +kernel
theorem dX1_clock_6 : decode cX1_clock 6 = .ok (.irem, 1) := by decide +kernel
theorem dX1_clock_7 : decode cX1_clock 7 = .ok (.ireturn, 1) := by decide +kernel
theorem dX1_targetFrom_0 : decode cX1_targetFrom 0 = .ok (.iconst (-1), 1) := by decide +kernel
theorem dX1_targetFrom_1 : decode cX1_targetFrom 1 = .ok (.istore_n 2, 1) := by decide +kernel
theorem dX1_targetFrom_2 : decode cX1_targetFrom 2 = .ok (.iconst 0, 1) := by decide +kernel
theorem dX1_targetFrom_3 : decode cX1_targetFrom 3 = .ok (.istore_n 3, 1) := by decide +kernel
theorem dX1_targetFrom_4 : decode cX1_targetFrom 4 = .ok (.iconst 0, 1) := by decide +kernel
theorem dX1_targetFrom_5 : decode cX1_targetFrom 5 = .ok (.istore 4, 2) := by decide +kernel
theorem dX1_targetFrom_7 : decode cX1_targetFrom 7 = .ok (.iload 4, 2) := by decide +kernel
theorem dX1_targetFrom_9 : decode cX1_targetFrom 9 = .ok (.aload_n 0, 1) := by decide +kernel
theorem dX1_targetFrom_10 : decode cX1_targetFrom 10 = .ok (.getfield 25, 3) := by decide +kernel
theorem dX1_targetFrom_13 : decode cX1_targetFrom 13 = .ok (.if_icmp .ge 34, 3) := by decide +kernel
theorem dX1_targetFrom_16 : decode cX1_targetFrom 16 = .ok (.aload_n 0, 1) := by decide +kernel
theorem dX1_targetFrom_17 : decode cX1_targetFrom 17 = .ok (.getfield 20, 3) := by decide +kernel
theorem dX1_targetFrom_20 : decode cX1_targetFrom 20 = .ok (.iload 4, 2) := by decide +kernel
theorem dX1_targetFrom_22 : decode cX1_targetFrom 22 = .ok (.aaload, 1) := by decide +kernel
theorem dX1_targetFrom_23 : decode cX1_targetFrom 23 = .ok (.iload_n 1, 1) := by decide +kernel
theorem dX1_targetFrom_24 : decode cX1_targetFrom 24 = .ok (.invokevirtual 53, 3) := by decide +kernel
theorem dX1_targetFrom_27 : decode cX1_targetFrom 27 = .ok (.istore 5, 2) := by decide +kernel
theorem dX1_targetFrom_29 : decode cX1_targetFrom 29 = .ok (.iload 5, 2) := by decide +kernel
theorem dX1_targetFrom_31 : decode cX1_targetFrom 31 = .ok (.iload_n 3, 1) := by decide +kernel
theorem dX1_targetFrom_32 : decode cX1_targetFrom 32 = .ok (.if_icmp .le 9, 3) := by decide +kernel
theorem dX1_targetFrom_35 : decode cX1_targetFrom 35 = .ok (.iload 5, 2) := by decide +kernel
theorem dX1_targetFrom_37 : decode cX1_targetFrom 37 = .ok (.istore_n 3, 1) := by decide +kernel
theorem dX1_targetFrom_38 : decode cX1_targetFrom 38 = .ok (.iload 4, 2) := by decide +kernel
theorem dX1_targetFrom_40 : decode cX1_targetFrom 40 = .ok (.istore_n 2, 1) := by decide +kernel
theorem dX1_targetFrom_41 : decode cX1_targetFrom 41 = .ok (.iinc 4 1, 3) := by decide +kernel
theorem dX1_targetFrom_44 : decode cX1_targetFrom 44 = .ok (.goto (-37), 3) := by decide +kernel
theorem dX1_targetFrom_47 : decode cX1_targetFrom 47 = .ok (.iload_n 2, 1) := by decide +kernel
theorem dX1_targetFrom_48 : decode cX1_targetFrom 48 = .ok (.ireturn, 1) := by decide +kernel
theorem dX1_aim_0 : decode cX1_aim 0 = .ok (.iconst 0, 1) := by decide +kernel
theorem dX1_aim_1 : decode cX1_aim 1 = .ok (.istore_n 1, 1) := by decide +kernel
theorem dX1_aim_2 : decode cX1_aim 2 = .ok (.iload_n 1, 1) := by decide +kernel
theorem dX1_aim_3 : decode cX1_aim 3 = .ok (.bipush 16, 2) := by decide +kernel
theorem dX1_aim_5 : decode cX1_aim 5 = .ok (.if_icmp .ge 20, 3) := by decide +kernel
theorem dX1_aim_8 : decode cX1_aim 8 = .ok (.aload_n 0, 1) := by decide +kernel
theorem dX1_aim_9 : decode cX1_aim 9 = .ok (.getfield 38, 3) := by decide +kernel
theorem dX1_aim_12 : decode cX1_aim 12 = .ok (.iload_n 1, 1) := by decide +kernel
theorem dX1_aim_13 : decode cX1_aim 13 = .ok (.aload_n 0, 1) := by decide +kernel
theorem dX1_aim_14 : decode cX1_aim 14 = .ok (.iload_n 1, 1) := by decide +kernel
theorem dX1_aim_15 : decode cX1_aim 15 = .ok (.invokevirtual 57, 3) := by decide +kernel
theorem dX1_aim_18 : decode cX1_aim 18 = .ok (.iastore, 1) := by decide +kernel
theorem dX1_aim_19 : decode cX1_aim 19 = .ok (.iinc 1 1, 3) := by decide +kernel
theorem dX1_aim_22 : decode cX1_aim 22 = .ok (.goto (-20), 3) := by decide +kernel
theorem dX1_aim_25 : decode cX1_aim 25 = .ok (.return_, 1) := by decide +kernel
theorem dX1_boltStrikes_0 : decode cX1_boltStrikes 0 = .ok (.aload_n 0, 1) := by decide +kernel
theorem dX1_boltStrikes_1 : decode cX1_boltStrikes 1 = .ok (.getfield 12, 3) := by decide +kernel
theorem dX1_boltStrikes_4 : decode cX1_boltStrikes 4 = .ok (.invokevirtual 60, 3) := by decide +kernel
theorem dX1_boltStrikes_7 : decode cX1_boltStrikes 7 = .ok (.ifCond .eq 23, 3) := by decide +kernel
theorem dX1_boltStrikes_10 : decode cX1_boltStrikes 10 = .ok (.aload_n 0, 1) := by decide +kernel
theorem dX1_boltStrikes_11 : decode cX1_boltStrikes 11 = .ok (.getfield 38, 3) := by decide +kernel
theorem dX1_boltStrikes_14 : decode cX1_boltStrikes 14 = .ok (.aload_n 0, 1) := by decide +kernel
theorem dX1_boltStrikes_15 : decode cX1_boltStrikes 15 = .ok (.getfield 12, 3) := by decide +kernel
theorem dX1_boltStrikes_18 : decode cX1_boltStrikes 18 = .ok (.getfield 64, 3) := by decide +kernel
theorem dX1_boltStrikes_21 : decode cX1_boltStrikes 21 = .ok (.iaload, 1) := by decide +kernel
theorem dX1_boltStrikes_22 : decode cX1_boltStrikes 22 = .ok (.iload_n 1, 1) := by decide +kernel
theorem dX1_boltStrikes_23 : decode cX1_boltStrikes 23 = .ok (.if_icmp .ne 7, 3) := by decide +kernel
theorem dX1_boltStrikes_26 : decode cX1_boltStrikes 26 = .ok (.iconst 1, 1) := by decide +kernel
theorem dX1_boltStrikes_27 : decode cX1_boltStrikes 27 = .ok (.goto 4, 3) := by decide +kernel
theorem dX1_boltStrikes_30 : decode cX1_boltStrikes 30 = .ok (.iconst 0, 1) := by decide +kernel
theorem dX1_boltStrikes_31 : decode cX1_boltStrikes 31 = .ok (.ireturn, 1) := by decide +kernel
theorem dX1_goHour_0 : decode cX1_goHour 0 = .ok (.aload_n 0, 1) := by decide +kernel
theorem dX1_goHour_1 : decode cX1_goHour 1 = .ok (.getfield 12, 3) := by decide +kernel
theorem dX1_goHour_4 : decode cX1_goHour 4 = .ok (.invokevirtual 60, 3) := by decide +kernel
theorem dX1_goHour_7 : decode cX1_goHour 7 = .ok (.ifCond .eq 19, 3) := by decide +kernel
theorem dX1_goHour_10 : decode cX1_goHour 10 = .ok (.aload_n 0, 1) := by decide +kernel
theorem dX1_goHour_11 : decode cX1_goHour 11 = .ok (.aload_n 0, 1) := by decide +kernel
theorem dX1_goHour_12 : decode cX1_goHour 12 = .ok (.getfield 38, 3) := by decide +kernel
theorem dX1_goHour_15 : decode cX1_goHour 15 = .ok (.aload_n 0, 1) := by decide +kernel
theorem dX1_goHour_16 : decode cX1_goHour 16 = .ok (.getfield 12, 3) := by decide +kernel
theorem dX1_goHour_19 : decode cX1_goHour 19 = .ok (.getfield 64, 3) := by decide +kernel
theorem dX1_goHour_22 : decode cX1_goHour 22 = .ok (.iaload, 1) := by decide +kernel
theorem dX1_goHour_23 : decode cX1_goHour 23 = .ok (.invokevirtual 67, 3) := by decide +kernel
theorem dX1_goHour_26 : decode cX1_goHour 26 = .ok (.aload_n 0, 1) := by decide +kernel
theorem dX1_goHour_27 : decode cX1_goHour 27 = .ok (.getfield 12, 3) := by decide +kernel
theorem dX1_goHour_30 : decode cX1_goHour 30 = .ok (.invokevirtual 71, 3) := by decide +kernel
theorem dX1_goHour_33 : decode cX1_goHour 33 = .ok (.aload_n 0, 1) := by decide +kernel
theorem dX1_goHour_34 : decode cX1_goHour 34 = .ok (.dup, 1) := by decide +kernel
theorem dX1_goHour_35 : decode cX1_goHour 35 = .ok (.getfield 29, 3) := by decide +kernel
theorem dX1_goHour_38 : decode cX1_goHour 38 = .ok (.iconst 1, 1) := by decide +kernel
theorem dX1_goHour_39 : decode cX1_goHour 39 = .ok (.iadd, 1) := by decide +kernel
theorem dX1_goHour_40 : decode cX1_goHour 40 = .ok (.putfield 29, 3) := by decide +kernel
theorem dX1_goHour_43 : decode cX1_goHour 43 = .ok (.return_, 1) := by decide +kernel
theorem dX1_strike_0 : decode cX1_strike 0 = .ok (.iconst 0, 1) := by decide +kernel
theorem dX1_strike_1 : decode cX1_strike 1 = .ok (.istore_n 2, 1) := by decide +kernel
theorem dX1_strike_2 : decode cX1_strike 2 = .ok (.iload_n 1, 1) := by decide +kernel
theorem dX1_strike_3 : decode cX1_strike 3 = .ok (.iconst 0, 1) := by decide +kernel
theorem dX1_strike_4 : decode cX1_strike 4 = .ok (.aload_n 0, 1) := by decide +kernel
theorem dX1_strike_5 : decode cX1_strike 5 = .ok (.getfield 25, 3) := by decide +kernel
theorem dX1_strike_8 : decode cX1_strike 8 = .ok (.iconst 1, 1) := by decide +kernel
theorem dX1_strike_9 : decode cX1_strike 9 = .ok (.isub, 1) := by decide +kernel
theorem dX1_strike_10 : decode cX1_strike 10 = .ok (.invokestatic 74, 3) := by decide +kernel
theorem dX1_strike_13 : decode cX1_strike 13 = .ok (.ifCond .eq 52, 3) := by decide +kernel
theorem dX1_strike_16 : decode cX1_strike 16 = .ok (.aload_n 0, 1) := by decide +kernel
theorem dX1_strike_17 : decode cX1_strike 17 = .ok (.getfield 20, 3) := by decide +kernel
theorem dX1_strike_20 : decode cX1_strike 20 = .ok (.iload_n 1, 1) := by decide +kernel
theorem dX1_strike_21 : decode cX1_strike 21 = .ok (.aaload, 1) := by decide +kernel
theorem dX1_strike_22 : decode cX1_strike 22 = .ok (.astore_n 3, 1) := by decide +kernel
theorem dX1_strike_23 : decode cX1_strike 23 = .ok (.aload_n 3, 1) := by decide +kernel
theorem dX1_strike_24 : decode cX1_strike 24 = .ok (.aload_n 0, 1) := by decide +kernel
theorem dX1_strike_25 : decode cX1_strike 25 = .ok (.getfield 12, 3) := by decide +kernel
theorem dX1_strike_28 : decode cX1_strike 28 = .ok (.getfield 78, 3) := by decide +kernel
theorem dX1_strike_31 : decode cX1_strike 31 = .ok (.aload_n 0, 1) := by decide +kernel
theorem dX1_strike_32 : decode cX1_strike 32 = .ok (.invokevirtual 81, 3) := by decide +kernel
theorem dX1_strike_35 : decode cX1_strike 35 = .ok (.invokevirtual 85, 3) := by decide +kernel
theorem dX1_strike_38 : decode cX1_strike 38 = .ok (.istore_n 2, 1) := by decide +kernel
theorem dX1_strike_39 : decode cX1_strike 39 = .ok (.aload_n 3, 1) := by decide +kernel
theorem dX1_strike_40 : decode cX1_strike 40 = .ok (.aload_n 3, 1) := by decide +kernel
theorem dX1_strike_41 : decode cX1_strike 41 = .ok (.getfield 89, 3) := by decide +kernel
theorem dX1_strike_44 : decode cX1_strike 44 = .ok (.iconst 1, 1) := by decide +kernel
theorem dX1_strike_45 : decode cX1_strike 45 = .ok (.iadd, 1) := by decide +kernel
theorem dX1_strike_46 : decode cX1_strike 46 = .ok (.invokestatic 92, 3) := by decide +kernel
theorem dX1_strike_49 : decode cX1_strike 49 = .ok (.putfield 89, 3) := by decide +kernel
theorem dX1_strike_52 : decode cX1_strike 52 = .ok (.aload_n 3, 1) := by decide +kernel
theorem dX1_strike_53 : decode cX1_strike 53 = .ok (.aload_n 3, 1) := by decide +kernel
theorem dX1_strike_54 : decode cX1_strike 54 = .ok (.getfield 95, 3) := by decide +kernel
theorem dX1_strike_57 : decode cX1_strike 57 = .ok (.iload_n 2, 1) := by decide +kernel
theorem dX1_strike_58 : decode cX1_strike 58 = .ok (.iadd, 1) := by decide +kernel
theorem dX1_strike_59 : decode cX1_strike 59 = .ok (.invokestatic 92, 3) := by decide +kernel
theorem dX1_strike_62 : decode cX1_strike 62 = .ok (.putfield 95, 3) := by decide +kernel
theorem dX1_strike_65 : decode cX1_strike 65 = .ok (.iload_n 2, 1) := by decide +kernel
theorem dX1_strike_66 : decode cX1_strike 66 = .ok (.ifCond .ne 22, 3) := by decide +kernel
theorem dX1_strike_69 : decode cX1_strike 69 = .ok (.aload_n 0, 1) := by decide +kernel
theorem dX1_strike_70 : decode cX1_strike 70 = .ok (.aload_n 0, 1) := by decide +kernel
theorem dX1_strike_71 : decode cX1_strike 71 = .ok (.getfield 32, 3) := by decide +kernel
theorem dX1_strike_74 : decode cX1_strike 74 = .ok (.aload_n 0, 1) := by decide +kernel
theorem dX1_strike_75 : decode cX1_strike 75 = .ok (.getfield 12, 3) := by decide +kernel
theorem dX1_strike_78 : decode cX1_strike 78 = .ok (.getfield 78, 3) := by decide +kernel
theorem dX1_strike_81 : decode cX1_strike 81 = .ok (.iadd, 1) := by decide +kernel
theorem dX1_strike_82 : decode cX1_strike 82 = .ok (.invokestatic 92, 3) := by decide +kernel
theorem dX1_strike_85 : decode cX1_strike 85 = .ok (.putfield 32, 3) := by decide +kernel
theorem dX1_strike_88 : decode cX1_strike 88 = .ok (.return_, 1) := by decide +kernel
theorem dX1_goHours_0 : decode cX1_goHours 0 = .ok (.aload_n 0, 1) := by decide +kernel
theorem dX1_goHours_1 : decode cX1_goHours 1 = .ok (.invokevirtual 98, 3) := by decide +kernel
theorem dX1_goHours_4 : decode cX1_goHours 4 = .ok (.iconst 0, 1) := by decide +kernel
theorem dX1_goHours_5 : decode cX1_goHours 5 = .ok (.istore_n 2, 1) := by decide +kernel
theorem dX1_goHours_6 : decode cX1_goHours 6 = .ok (.iload_n 2, 1) := by decide +kernel
theorem dX1_goHours_7 : decode cX1_goHours 7 = .ok (.iload_n 1, 1) := by decide +kernel
theorem dX1_goHours_8 : decode cX1_goHours 8 = .ok (.if_icmp .ge 13, 3) := by decide +kernel
theorem dX1_goHours_11 : decode cX1_goHours 11 = .ok (.aload_n 0, 1) := by decide +kernel
theorem dX1_goHours_12 : decode cX1_goHours 12 = .ok (.invokevirtual 101, 3) := by decide +kernel
theorem dX1_goHours_15 : decode cX1_goHours 15 = .ok (.iinc 2 1, 3) := by decide +kernel
theorem dX1_goHours_18 : decode cX1_goHours 18 = .ok (.goto (-12), 3) := by decide +kernel
theorem dX1_goHours_21 : decode cX1_goHours 21 = .ok (.return_, 1) := by decide +kernel
theorem dX1_drawDrift_0 : decode cX1_drawDrift 0 = .ok (.aload_n 0, 1) := by decide +kernel
theorem dX1_drawDrift_1 : decode cX1_drawDrift 1 = .ok (.aload_n 0, 1) := by decide +kernel
theorem dX1_drawDrift_2 : decode cX1_drawDrift 2 = .ok (.getfield 35, 3) := by decide +kernel
theorem dX1_drawDrift_5 : decode cX1_drawDrift 5 = .ok (.ldc 104, 2) := by decide +kernel
theorem dX1_drawDrift_7 : decode cX1_drawDrift 7 = .ok (.imul, 1) := by decide +kernel
theorem dX1_drawDrift_8 : decode cX1_drawDrift 8 = .ok (.sipush 12345, 3) := by decide +kernel
theorem dX1_drawDrift_11 : decode cX1_drawDrift 11 = .ok (.iadd, 1) := by decide +kernel
theorem dX1_drawDrift_12 : decode cX1_drawDrift 12 = .ok (.putfield 35, 3) := by decide +kernel
theorem dX1_drawDrift_15 : decode cX1_drawDrift 15 = .ok (.aload_n 0, 1) := by decide +kernel
theorem dX1_drawDrift_16 : decode cX1_drawDrift 16 = .ok (.getfield 12, 3) := by decide +kernel
theorem dX1_drawDrift_19 : decode cX1_drawDrift 19 = .ok (.aload_n 0, 1) := by decide +kernel
theorem dX1_drawDrift_20 : decode cX1_drawDrift 20 = .ok (.getfield 35, 3) := by decide +kernel
theorem dX1_drawDrift_23 : decode cX1_drawDrift 23 = .ok (.bipush 8, 2) := by decide +kernel
theorem dX1_drawDrift_25 : decode cX1_drawDrift 25 = .ok (.iushr, 1) := by decide +kernel
theorem dX1_drawDrift_26 : decode cX1_drawDrift 26 = .ok (.iconst 3, 1) := by decide +kernel
theorem dX1_drawDrift_27 : decode cX1_drawDrift 27 = .ok (.irem, 1) := by decide +kernel
theorem dX1_drawDrift_28 : decode cX1_drawDrift 28 = .ok (.iconst 1, 1) := by decide +kernel
theorem dX1_drawDrift_29 : decode cX1_drawDrift 29 = .ok (.isub, 1) := by decide +kernel
theorem dX1_drawDrift_30 : decode cX1_drawDrift 30 = .ok (.putfield 105, 3) := by decide +kernel
theorem dX1_drawDrift_33 : decode cX1_drawDrift 33 = .ok (.return_, 1) := by decide +kernel
theorem dX1_partsOfAll_0 : decode cX1_partsOfAll 0 = .ok (.iconst 0, 1) := by decide +kernel
theorem dX1_partsOfAll_1 : decode cX1_partsOfAll 1 = .ok (.istore_n 2, 1) := by decide +kernel
theorem dX1_partsOfAll_2 : decode cX1_partsOfAll 2 = .ok (.iconst 0, 1) := by decide +kernel
theorem dX1_partsOfAll_3 : decode cX1_partsOfAll 3 = .ok (.istore_n 3, 1) := by decide +kernel
theorem dX1_partsOfAll_4 : decode cX1_partsOfAll 4 = .ok (.iload_n 3, 1) := by decide +kernel
theorem dX1_partsOfAll_5 : decode cX1_partsOfAll 5 = .ok (.aload_n 0, 1) := by decide +kernel
theorem dX1_partsOfAll_6 : decode cX1_partsOfAll 6 = .ok (.getfield 25, 3) := by decide +kernel
theorem dX1_partsOfAll_9 : decode cX1_partsOfAll 9 = .ok (.if_icmp .ge 22, 3) := by decide +kernel
theorem dX1_partsOfAll_12 : decode cX1_partsOfAll 12 = .ok (.iload_n 2, 1) := by decide +kernel
theorem dX1_partsOfAll_13 : decode cX1_partsOfAll 13 = .ok (.aload_n 0, 1) := by decide +kernel
theorem dX1_partsOfAll_14 : decode cX1_partsOfAll 14 = .ok (.getfield 20, 3) := by decide +kernel
theorem dX1_partsOfAll_17 : decode cX1_partsOfAll 17 = .ok (.iload_n 3, 1) := by decide +kernel
theorem dX1_partsOfAll_18 : decode cX1_partsOfAll 18 = .ok (.aaload, 1) := by decide +kernel
theorem dX1_partsOfAll_19 : decode cX1_partsOfAll 19 = .ok (.iload_n 1, 1) := by decide +kernel
theorem dX1_partsOfAll_20 : decode cX1_partsOfAll 20 = .ok (.invokevirtual 108, 3) := by decide +kernel
theorem dX1_partsOfAll_23 : decode cX1_partsOfAll 23 = .ok (.iadd, 1) := by decide +kernel
theorem dX1_partsOfAll_24 : decode cX1_partsOfAll 24 = .ok (.istore_n 2, 1) := by decide +kernel
theorem dX1_partsOfAll_25 : decode cX1_partsOfAll 25 = .ok (.iinc 3 1, 3) := by decide +kernel
theorem dX1_partsOfAll_28 : decode cX1_partsOfAll 28 = .ok (.goto (-24), 3) := by decide +kernel
theorem dX1_partsOfAll_31 : decode cX1_partsOfAll 31 = .ok (.iload_n 2, 1) := by decide +kernel
theorem dX1_partsOfAll_32 : decode cX1_partsOfAll 32 = .ok (.ireturn, 1) := by decide +kernel
theorem dX1_paidHoursOfAll_0 : decode cX1_paidHoursOfAll 0 = .ok (.iconst 0, 1) := by decide +kernel
theorem dX1_paidHoursOfAll_1 : decode cX1_paidHoursOfAll 1 = .ok (.istore_n 1, 1) := by decide +kernel
theorem dX1_paidHoursOfAll_2 : decode cX1_paidHoursOfAll 2 = .ok (.iconst 0, 1) := by decide +kernel
theorem dX1_paidHoursOfAll_3 : decode cX1_paidHoursOfAll 3 = .ok (.istore_n 2, 1) := by decide +kernel
theorem dX1_paidHoursOfAll_4 : decode cX1_paidHoursOfAll 4 = .ok (.iload_n 2, 1) := by decide +kernel
theorem dX1_paidHoursOfAll_5 : decode cX1_paidHoursOfAll 5 = .ok (.aload_n 0, 1) := by decide +kernel
theorem dX1_paidHoursOfAll_6 : decode cX1_paidHoursOfAll 6 = .ok (.getfield 25, 3) := by decide +kernel
theorem dX1_paidHoursOfAll_9 : decode cX1_paidHoursOfAll 9 = .ok (.if_icmp .ge 21, 3) := by decide +kernel
theorem dX1_paidHoursOfAll_12 : decode cX1_paidHoursOfAll 12 = .ok (.iload_n 1, 1) := by decide +kernel
theorem dX1_paidHoursOfAll_13 : decode cX1_paidHoursOfAll 13 = .ok (.aload_n 0, 1) := by decide +kernel
theorem dX1_paidHoursOfAll_14 : decode cX1_paidHoursOfAll 14 = .ok (.getfield 20, 3) := by decide +kernel
theorem dX1_paidHoursOfAll_17 : decode cX1_paidHoursOfAll 17 = .ok (.iload_n 2, 1) := by decide +kernel
theorem dX1_paidHoursOfAll_18 : decode cX1_paidHoursOfAll 18 = .ok (.aaload, 1) := by decide +kernel
theorem dX1_paidHoursOfAll_19 : decode cX1_paidHoursOfAll 19 = .ok (.invokevirtual 111, 3) := by decide +kernel
theorem dX1_paidHoursOfAll_22 : decode cX1_paidHoursOfAll 22 = .ok (.iadd, 1) := by decide +kernel
theorem dX1_paidHoursOfAll_23 : decode cX1_paidHoursOfAll 23 = .ok (.istore_n 1, 1) := by decide +kernel
theorem dX1_paidHoursOfAll_24 : decode cX1_paidHoursOfAll 24 = .ok (.iinc 2 1, 3) := by decide +kernel
theorem dX1_paidHoursOfAll_27 : decode cX1_paidHoursOfAll 27 = .ok (.goto (-23), 3) := by decide +kernel
theorem dX1_paidHoursOfAll_30 : decode cX1_paidHoursOfAll 30 = .ok (.iload_n 1, 1) := by decide +kernel
theorem dX1_paidHoursOfAll_31 : decode cX1_paidHoursOfAll 31 = .ok (.ireturn, 1) := by decide +kernel
theorem dX1_drawsOfAll_0 : decode cX1_drawsOfAll 0 = .ok (.iconst 0, 1) := by decide +kernel
theorem dX1_drawsOfAll_1 : decode cX1_drawsOfAll 1 = .ok (.istore_n 1, 1) := by decide +kernel
theorem dX1_drawsOfAll_2 : decode cX1_drawsOfAll 2 = .ok (.iconst 0, 1) := by decide +kernel
theorem dX1_drawsOfAll_3 : decode cX1_drawsOfAll 3 = .ok (.istore_n 2, 1) := by decide +kernel
theorem dX1_drawsOfAll_4 : decode cX1_drawsOfAll 4 = .ok (.iload_n 2, 1) := by decide +kernel
theorem dX1_drawsOfAll_5 : decode cX1_drawsOfAll 5 = .ok (.aload_n 0, 1) := by decide +kernel
theorem dX1_drawsOfAll_6 : decode cX1_drawsOfAll 6 = .ok (.getfield 25, 3) := by decide +kernel
theorem dX1_drawsOfAll_9 : decode cX1_drawsOfAll 9 = .ok (.if_icmp .ge 28, 3) := by decide +kernel
theorem dX1_drawsOfAll_12 : decode cX1_drawsOfAll 12 = .ok (.iload_n 1, 1) := by decide +kernel
theorem dX1_drawsOfAll_13 : decode cX1_drawsOfAll 13 = .ok (.aload_n 0, 1) := by decide +kernel
theorem dX1_drawsOfAll_14 : decode cX1_drawsOfAll 14 = .ok (.getfield 20, 3) := by decide +kernel
theorem dX1_drawsOfAll_17 : decode cX1_drawsOfAll 17 = .ok (.iload_n 2, 1) := by decide +kernel
theorem dX1_drawsOfAll_18 : decode cX1_drawsOfAll 18 = .ok (.aaload, 1) := by decide +kernel
theorem dX1_drawsOfAll_19 : decode cX1_drawsOfAll 19 = .ok (.aload_n 0, 1) := by decide +kernel
theorem dX1_drawsOfAll_20 : decode cX1_drawsOfAll 20 = .ok (.getfield 12, 3) := by decide +kernel
theorem dX1_drawsOfAll_23 : decode cX1_drawsOfAll 23 = .ok (.getfield 64, 3) := by decide +kernel
theorem dX1_drawsOfAll_26 : decode cX1_drawsOfAll 26 = .ok (.invokevirtual 53, 3) := by decide +kernel
theorem dX1_drawsOfAll_29 : decode cX1_drawsOfAll 29 = .ok (.iadd, 1) := by decide +kernel
theorem dX1_drawsOfAll_30 : decode cX1_drawsOfAll 30 = .ok (.istore_n 1, 1) := by decide +kernel
theorem dX1_drawsOfAll_31 : decode cX1_drawsOfAll 31 = .ok (.iinc 2 1, 3) := by decide +kernel
theorem dX1_drawsOfAll_34 : decode cX1_drawsOfAll 34 = .ok (.goto (-30), 3) := by decide +kernel
theorem dX1_drawsOfAll_37 : decode cX1_drawsOfAll 37 = .ok (.iload_n 1, 1) := by decide +kernel
theorem dX1_drawsOfAll_38 : decode cX1_drawsOfAll 38 = .ok (.ireturn, 1) := by decide +kernel
theorem dX1_forked_0 : decode cX1_forked 0 = .ok (.aload_n 0, 1) := by decide +kernel
theorem dX1_forked_1 : decode cX1_forked 1 = .ok (.getfield 20, 3) := by decide +kernel
theorem dX1_forked_4 : decode cX1_forked 4 = .ok (.iload_n 1, 1) := by decide +kernel
theorem dX1_forked_5 : decode cX1_forked 5 = .ok (.aaload, 1) := by decide +kernel
theorem dX1_forked_6 : decode cX1_forked 6 = .ok (.aload_n 0, 1) := by decide +kernel
theorem dX1_forked_7 : decode cX1_forked 7 = .ok (.getfield 12, 3) := by decide +kernel
theorem dX1_forked_10 : decode cX1_forked 10 = .ok (.getfield 64, 3) := by decide +kernel
theorem dX1_forked_13 : decode cX1_forked 13 = .ok (.invokevirtual 53, 3) := by decide +kernel
theorem dX1_forked_16 : decode cX1_forked 16 = .ok (.aload_n 0, 1) := by decide +kernel
theorem dX1_forked_17 : decode cX1_forked 17 = .ok (.getfield 12, 3) := by decide +kernel
theorem dX1_forked_20 : decode cX1_forked 20 = .ok (.getfield 78, 3) := by decide +kernel
theorem dX1_forked_23 : decode cX1_forked 23 = .ok (.imul, 1) := by decide +kernel
theorem dX1_forked_24 : decode cX1_forked 24 = .ok (.ireturn, 1) := by decide +kernel
theorem dX1_paidRods_0 : decode cX1_paidRods 0 = .ok (.iconst 0, 1) := by decide +kernel
theorem dX1_paidRods_1 : decode cX1_paidRods 1 = .ok (.istore_n 1, 1) := by decide +kernel
theorem dX1_paidRods_2 : decode cX1_paidRods 2 = .ok (.iconst 0, 1) := by decide +kernel
theorem dX1_paidRods_3 : decode cX1_paidRods 3 = .ok (.istore_n 2, 1) := by decide +kernel
theorem dX1_paidRods_4 : decode cX1_paidRods 4 = .ok (.iload_n 2, 1) := by decide +kernel
theorem dX1_paidRods_5 : decode cX1_paidRods 5 = .ok (.aload_n 0, 1) := by decide +kernel
theorem dX1_paidRods_6 : decode cX1_paidRods 6 = .ok (.getfield 25, 3) := by decide +kernel
theorem dX1_paidRods_9 : decode cX1_paidRods 9 = .ok (.if_icmp .ge 31, 3) := by decide +kernel
theorem dX1_paidRods_12 : decode cX1_paidRods 12 = .ok (.aload_n 0, 1) := by decide +kernel
theorem dX1_paidRods_13 : decode cX1_paidRods 13 = .ok (.getfield 20, 3) := by decide +kernel
theorem dX1_paidRods_16 : decode cX1_paidRods 16 = .ok (.iload_n 2, 1) := by decide +kernel
theorem dX1_paidRods_17 : decode cX1_paidRods 17 = .ok (.aaload, 1) := by decide +kernel
theorem dX1_paidRods_18 : decode cX1_paidRods 18 = .ok (.aload_n 0, 1) := by decide +kernel
theorem dX1_paidRods_19 : decode cX1_paidRods 19 = .ok (.invokevirtual 81, 3) := by decide +kernel
theorem dX1_paidRods_22 : decode cX1_paidRods 22 = .ok (.invokevirtual 114, 3) := by decide +kernel
theorem dX1_paidRods_25 : decode cX1_paidRods 25 = .ok (.ifCond .eq 9, 3) := by decide +kernel
theorem dX1_paidRods_28 : decode cX1_paidRods 28 = .ok (.iload_n 1, 1) := by decide +kernel
theorem dX1_paidRods_29 : decode cX1_paidRods 29 = .ok (.iconst 1, 1) := by decide +kernel
theorem dX1_paidRods_30 : decode cX1_paidRods 30 = .ok (.iload_n 2, 1) := by decide +kernel
theorem dX1_paidRods_31 : decode cX1_paidRods 31 = .ok (.ishl, 1) := by decide +kernel
theorem dX1_paidRods_32 : decode cX1_paidRods 32 = .ok (.ior, 1) := by decide +kernel
theorem dX1_paidRods_33 : decode cX1_paidRods 33 = .ok (.istore_n 1, 1) := by decide +kernel
theorem dX1_paidRods_34 : decode cX1_paidRods 34 = .ok (.iinc 2 1, 3) := by decide +kernel
theorem dX1_paidRods_37 : decode cX1_paidRods 37 = .ok (.goto (-33), 3) := by decide +kernel
theorem dX1_paidRods_40 : decode cX1_paidRods 40 = .ok (.iload_n 1, 1) := by decide +kernel
theorem dX1_paidRods_41 : decode cX1_paidRods 41 = .ok (.ireturn, 1) := by decide +kernel
theorem dX3_init_0 : decode cX3_init 0 = .ok (.aload_n 0, 1) := by decide +kernel
theorem dX3_init_1 : decode cX3_init 1 = .ok (.invokespecial 3, 3) := by decide +kernel
theorem dX3_init_4 : decode cX3_init 4 = .ok (.return_, 1) := by decide +kernel
theorem dX3_becomeNew_0 : decode cX3_becomeNew 0 = .ok (.aload_n 0, 1) := by decide +kernel
theorem dX3_becomeNew_1 : decode cX3_becomeNew 1 = .ok (.iload_n 1, 1) := by decide +kernel
theorem dX3_becomeNew_2 : decode cX3_becomeNew 2 = .ok (.putfield 9, 3) := by decide +kernel
theorem dX3_becomeNew_5 : decode cX3_becomeNew 5 = .ok (.aload_n 0, 1) := by decide +kernel
theorem dX3_becomeNew_6 : decode cX3_becomeNew 6 = .ok (.iload_n 2, 1) := by decide +kernel
theorem dX3_becomeNew_7 : decode cX3_becomeNew 7 = .ok (.putfield 15, 3) := by decide +kernel
theorem dX3_becomeNew_10 : decode cX3_becomeNew 10 = .ok (.aload_n 0, 1) := by decide +kernel
theorem dX3_becomeNew_11 : decode cX3_becomeNew 11 = .ok (.bipush 10, 2) := by decide +kernel
theorem dX3_becomeNew_13 : decode cX3_becomeNew 13 = .ok (.putfield 18, 3) := by decide +kernel
theorem dX3_becomeNew_16 : decode cX3_becomeNew 16 = .ok (.aload_n 0, 1) := by decide +kernel
theorem dX3_becomeNew_17 : decode cX3_becomeNew 17 = .ok (.iconst 0, 1) := by decide +kernel
theorem dX3_becomeNew_18 : decode cX3_becomeNew 18 = .ok (.putfield 21, 3) := by decide +kernel
theorem dX3_becomeNew_21 : decode cX3_becomeNew 21 = .ok (.aload_n 0, 1) := by decide +kernel
theorem dX3_becomeNew_22 : decode cX3_becomeNew 22 = .ok (.iconst 0, 1) := by decide +kernel
theorem dX3_becomeNew_23 : decode cX3_becomeNew 23 = .ok (.putfield 24, 3) := by decide +kernel
theorem dX3_becomeNew_26 : decode cX3_becomeNew 26 = .ok (.aload_n 0, 1) := by decide +kernel
theorem dX3_becomeNew_27 : decode cX3_becomeNew 27 = .ok (.iconst 0, 1) := by decide +kernel
theorem dX3_becomeNew_28 : decode cX3_becomeNew 28 = .ok (.putfield 27, 3) := by decide +kernel
theorem dX3_becomeNew_31 : decode cX3_becomeNew 31 = .ok (.aload_n 0, 1) := by decide +kernel
theorem dX3_becomeNew_32 : decode cX3_becomeNew 32 = .ok (.iconst 0, 1) := by decide +kernel
theorem dX3_becomeNew_33 : decode cX3_becomeNew 33 = .ok (.putfield 30, 3) := by decide +kernel
theorem dX3_becomeNew_36 : decode cX3_becomeNew 36 = .ok (.return_, 1) := by decide +kernel
theorem dX3_takeFrom_0 : decode cX3_takeFrom 0 = .ok (.aload_n 0, 1) := by decide +kernel
theorem dX3_takeFrom_1 : decode cX3_takeFrom 1 = .ok (.aload_n 1, 1) := by decide +kernel
theorem dX3_takeFrom_2 : decode cX3_takeFrom 2 = .ok (.getfield 9, 3) := by decide +kernel
theorem dX3_takeFrom_5 : decode cX3_takeFrom 5 = .ok (.putfield 9, 3) := by decide +kernel
theorem dX3_takeFrom_8 : decode cX3_takeFrom 8 = .ok (.aload_n 0, 1) := by decide +kernel
theorem dX3_takeFrom_9 : decode cX3_takeFrom 9 = .ok (.aload_n 1, 1) := by decide +kernel
theorem dX3_takeFrom_10 : decode cX3_takeFrom 10 = .ok (.getfield 15, 3) := by decide +kernel
theorem dX3_takeFrom_13 : decode cX3_takeFrom 13 = .ok (.putfield 15, 3) := by decide +kernel
theorem dX3_takeFrom_16 : decode cX3_takeFrom 16 = .ok (.aload_n 0, 1) := by decide +kernel
theorem dX3_takeFrom_17 : decode cX3_takeFrom 17 = .ok (.aload_n 1, 1) := by decide +kernel
theorem dX3_takeFrom_18 : decode cX3_takeFrom 18 = .ok (.getfield 18, 3) := by decide +kernel
theorem dX3_takeFrom_21 : decode cX3_takeFrom 21 = .ok (.putfield 18, 3) := by decide +kernel
theorem dX3_takeFrom_24 : decode cX3_takeFrom 24 = .ok (.aload_n 0, 1) := by decide +kernel
theorem dX3_takeFrom_25 : decode cX3_takeFrom 25 = .ok (.aload_n 1, 1) := by decide +kernel
theorem dX3_takeFrom_26 : decode cX3_takeFrom 26 = .ok (.getfield 21, 3) := by decide +kernel
theorem dX3_takeFrom_29 : decode cX3_takeFrom 29 = .ok (.putfield 21, 3) := by decide +kernel
theorem dX3_takeFrom_32 : decode cX3_takeFrom 32 = .ok (.aload_n 0, 1) := by decide +kernel
theorem dX3_takeFrom_33 : decode cX3_takeFrom 33 = .ok (.aload_n 1, 1) := by decide +kernel
theorem dX3_takeFrom_34 : decode cX3_takeFrom 34 = .ok (.getfield 24, 3) := by decide +kernel
theorem dX3_takeFrom_37 : decode cX3_takeFrom 37 = .ok (.putfield 24, 3) := by decide +kernel
theorem dX3_takeFrom_40 : decode cX3_takeFrom 40 = .ok (.aload_n 0, 1) := by decide +kernel
theorem dX3_takeFrom_41 : decode cX3_takeFrom 41 = .ok (.aload_n 1, 1) := by decide +kernel
theorem dX3_takeFrom_42 : decode cX3_takeFrom 42 = .ok (.getfield 27, 3) := by decide +kernel
theorem dX3_takeFrom_45 : decode cX3_takeFrom 45 = .ok (.putfield 27, 3) := by decide +kernel
theorem dX3_takeFrom_48 : decode cX3_takeFrom 48 = .ok (.aload_n 0, 1) := by decide +kernel
theorem dX3_takeFrom_49 : decode cX3_takeFrom 49 = .ok (.aload_n 1, 1) := by decide +kernel
theorem dX3_takeFrom_50 : decode cX3_takeFrom 50 = .ok (.getfield 30, 3) := by decide +kernel
theorem dX3_takeFrom_53 : decode cX3_takeFrom 53 = .ok (.putfield 30, 3) := by decide +kernel
theorem dX3_takeFrom_56 : decode cX3_takeFrom 56 = .ok (.return_, 1) := by decide +kernel
theorem dX3_part_0 : decode cX3_part 0 = .ok (.iload_n 1, 1) := by decide +kernel
theorem dX3_part_1 : decode cX3_part 1 = .ok (.tableswitch 69 0 5 #[39, 44, 49, 54, 59, 64], 39) := by decide +kernel
theorem dX3_part_40 : decode cX3_part 40 = .ok (.aload_n 0, 1) := by decide +kernel
theorem dX3_part_41 : decode cX3_part 41 = .ok (.getfield 9, 3) := by decide +kernel
theorem dX3_part_44 : decode cX3_part 44 = .ok (.ireturn, 1) := by decide +kernel
theorem dX3_part_45 : decode cX3_part 45 = .ok (.aload_n 0, 1) := by decide +kernel
theorem dX3_part_46 : decode cX3_part 46 = .ok (.getfield 15, 3) := by decide +kernel
theorem dX3_part_49 : decode cX3_part 49 = .ok (.ireturn, 1) := by decide +kernel
theorem dX3_part_50 : decode cX3_part 50 = .ok (.aload_n 0, 1) := by decide +kernel
theorem dX3_part_51 : decode cX3_part 51 = .ok (.getfield 18, 3) := by decide +kernel
theorem dX3_part_54 : decode cX3_part 54 = .ok (.ireturn, 1) := by decide +kernel
theorem dX3_part_55 : decode cX3_part 55 = .ok (.aload_n 0, 1) := by decide +kernel
theorem dX3_part_56 : decode cX3_part 56 = .ok (.getfield 21, 3) := by decide +kernel
theorem dX3_part_59 : decode cX3_part 59 = .ok (.ireturn, 1) := by decide +kernel
theorem dX3_part_60 : decode cX3_part 60 = .ok (.aload_n 0, 1) := by decide +kernel
theorem dX3_part_61 : decode cX3_part 61 = .ok (.getfield 24, 3) := by decide +kernel
theorem dX3_part_64 : decode cX3_part 64 = .ok (.ireturn, 1) := by decide +kernel
theorem dX3_part_65 : decode cX3_part 65 = .ok (.aload_n 0, 1) := by decide +kernel
theorem dX3_part_66 : decode cX3_part 66 = .ok (.getfield 27, 3) := by decide +kernel
theorem dX3_part_69 : decode cX3_part 69 = .ok (.ireturn, 1) := by decide +kernel
theorem dX3_part_70 : decode cX3_part 70 = .ok (.aload_n 0, 1) := by decide +kernel
theorem dX3_part_71 : decode cX3_part 71 = .ok (.getfield 30, 3) := by decide +kernel
theorem dX3_part_74 : decode cX3_part 74 = .ok (.ireturn, 1) := by decide +kernel
theorem dX3_isOf_0 : decode cX3_isOf 0 = .ok (.iload_n 1, 1) := by decide +kernel
theorem dX3_isOf_1 : decode cX3_isOf 1 = .ok (.aload_n 0, 1) := by decide +kernel
theorem dX3_isOf_2 : decode cX3_isOf 2 = .ok (.getfield 9, 3) := by decide +kernel
theorem dX3_isOf_5 : decode cX3_isOf 5 = .ok (.if_icmp .eq 7, 3) := by decide +kernel
theorem dX3_isOf_8 : decode cX3_isOf 8 = .ok (.iload_n 1, 1) := by decide +kernel
theorem dX3_isOf_9 : decode cX3_isOf 9 = .ok (.ifCond .ne 5, 3) := by decide +kernel
theorem dX3_isOf_12 : decode cX3_isOf 12 = .ok (.iconst 1, 1) := by decide +kernel
theorem dX3_isOf_13 : decode cX3_isOf 13 = .ok (.ireturn, 1) := by decide +kernel
theorem dX3_isOf_14 : decode cX3_isOf 14 = .ok (.aload_n 0, 1) := by decide +kernel
theorem dX3_isOf_15 : decode cX3_isOf 15 = .ok (.getfield 9, 3) := by decide +kernel
theorem dX3_isOf_18 : decode cX3_isOf 18 = .ok (.iconst 4, 1) := by decide +kernel
theorem dX3_isOf_19 : decode cX3_isOf 19 = .ok (.if_icmp .ne 8, 3) := by decide +kernel
theorem dX3_isOf_22 : decode cX3_isOf 22 = .ok (.iload_n 1, 1) := by decide +kernel
theorem dX3_isOf_23 : decode cX3_isOf 23 = .ok (.iconst 1, 1) := by decide +kernel
theorem dX3_isOf_24 : decode cX3_isOf 24 = .ok (.if_icmp .eq 16, 3) := by decide +kernel
theorem dX3_isOf_27 : decode cX3_isOf 27 = .ok (.aload_n 0, 1) := by decide +kernel
theorem dX3_isOf_28 : decode cX3_isOf 28 = .ok (.getfield 9, 3) := by decide +kernel
theorem dX3_isOf_31 : decode cX3_isOf 31 = .ok (.iconst 5, 1) := by decide +kernel
theorem dX3_isOf_32 : decode cX3_isOf 32 = .ok (.if_icmp .ne 12, 3) := by decide +kernel
theorem dX3_isOf_35 : decode cX3_isOf 35 = .ok (.iload_n 1, 1) := by decide +kernel
theorem dX3_isOf_36 : decode cX3_isOf 36 = .ok (.iconst 2, 1) := by decide +kernel
theorem dX3_isOf_37 : decode cX3_isOf 37 = .ok (.if_icmp .ne 7, 3) := by decide +kernel
theorem dX3_isOf_40 : decode cX3_isOf 40 = .ok (.iconst 1, 1) := by decide +kernel
theorem dX3_isOf_41 : decode cX3_isOf 41 = .ok (.goto 4, 3) := by decide +kernel
theorem dX3_isOf_44 : decode cX3_isOf 44 = .ok (.iconst 0, 1) := by decide +kernel
theorem dX3_isOf_45 : decode cX3_isOf 45 = .ok (.ireturn, 1) := by decide +kernel
theorem dX3_drawsFrom_0 : decode cX3_drawsFrom 0 = .ok (.aload_n 0, 1) := by decide +kernel
theorem dX3_drawsFrom_1 : decode cX3_drawsFrom 1 = .ok (.getfield 18, 3) := by decide +kernel
theorem dX3_drawsFrom_4 : decode cX3_drawsFrom 4 = .ok (.iconst 4, 1) := by decide +kernel
theorem dX3_drawsFrom_5 : decode cX3_drawsFrom 5 = .ok (.aload_n 0, 1) := by decide +kernel
theorem dX3_drawsFrom_6 : decode cX3_drawsFrom 6 = .ok (.getfield 15, 3) := by decide +kernel
theorem dX3_drawsFrom_9 : decode cX3_drawsFrom 9 = .ok (.iload_n 1, 1) := by decide +kernel
theorem dX3_drawsFrom_10 : decode cX3_drawsFrom 10 = .ok (.isub, 1) := by decide +kernel
theorem dX3_drawsFrom_11 : decode cX3_drawsFrom 11 = .ok (.invokestatic 33, 3) := by decide +kernel
theorem dX3_drawsFrom_14 : decode cX3_drawsFrom 14 = .ok (.imul, 1) := by decide +kernel
theorem dX3_drawsFrom_15 : decode cX3_drawsFrom 15 = .ok (.isub, 1) := by decide +kernel
theorem dX3_drawsFrom_16 : decode cX3_drawsFrom 16 = .ok (.iconst 0, 1) := by decide +kernel
theorem dX3_drawsFrom_17 : decode cX3_drawsFrom 17 = .ok (.invokestatic 39, 3) := by decide +kernel
theorem dX3_drawsFrom_20 : decode cX3_drawsFrom 20 = .ok (.istore_n 2, 1) := by decide +kernel
theorem dX3_drawsFrom_21 : decode cX3_drawsFrom 21 = .ok (.iload_n 2, 1) := by decide +kernel
theorem dX3_drawsFrom_22 : decode cX3_drawsFrom 22 = .ok (.bipush 8, 2) := by decide +kernel
theorem dX3_drawsFrom_24 : decode cX3_drawsFrom 24 = .ok (.iadd, 1) := by decide +kernel
theorem dX3_drawsFrom_25 : decode cX3_drawsFrom 25 = .ok (.istore_n 3, 1) := by decide +kernel
theorem dX3_drawsFrom_26 : decode cX3_drawsFrom 26 = .ok (.iload_n 2, 1) := by decide +kernel
theorem dX3_drawsFrom_27 : decode cX3_drawsFrom 27 = .ok (.aload_n 0, 1) := by decide +kernel
theorem dX3_drawsFrom_28 : decode cX3_drawsFrom 28 = .ok (.getfield 18, 3) := by decide +kernel
theorem dX3_drawsFrom_31 : decode cX3_drawsFrom 31 = .ok (.iadd, 1) := by decide +kernel
theorem dX3_drawsFrom_32 : decode cX3_drawsFrom 32 = .ok (.istore 4, 2) := by decide +kernel
theorem dX3_drawsFrom_34 : decode cX3_drawsFrom 34 = .ok (.aload_n 0, 1) := by decide +kernel
theorem dX3_drawsFrom_35 : decode cX3_drawsFrom 35 = .ok (.getfield 9, 3) := by decide +kernel
theorem dX3_drawsFrom_38 : decode cX3_drawsFrom 38 = .ok (.tableswitch 62 1 5 #[34, 36, 39, 47, 52], 34) := by decide +kernel
theorem dX3_drawsFrom_72 : decode cX3_drawsFrom 72 = .ok (.iload_n 3, 1) := by decide +kernel
theorem dX3_drawsFrom_73 : decode cX3_drawsFrom 73 = .ok (.ireturn, 1) := by decide +kernel
theorem dX3_drawsFrom_74 : decode cX3_drawsFrom 74 = .ok (.iload 4, 2) := by decide +kernel
theorem dX3_drawsFrom_76 : decode cX3_drawsFrom 76 = .ok (.ireturn, 1) := by decide +kernel
theorem dX3_drawsFrom_77 : decode cX3_drawsFrom 77 = .ok (.iload_n 2, 1) := by decide +kernel
theorem dX3_drawsFrom_78 : decode cX3_drawsFrom 78 = .ok (.iconst 3, 1) := by decide +kernel
theorem dX3_drawsFrom_79 : decode cX3_drawsFrom 79 = .ok (.isub, 1) := by decide +kernel
theorem dX3_drawsFrom_80 : decode cX3_drawsFrom 80 = .ok (.iconst 0, 1) := by decide +kernel
theorem dX3_drawsFrom_81 : decode cX3_drawsFrom 81 = .ok (.invokestatic 39, 3) := by decide +kernel
theorem dX3_drawsFrom_84 : decode cX3_drawsFrom 84 = .ok (.ireturn, 1) := by decide +kernel
theorem dX3_drawsFrom_85 : decode cX3_drawsFrom 85 = .ok (.iload_n 3, 1) := by decide +kernel
theorem dX3_drawsFrom_86 : decode cX3_drawsFrom 86 = .ok (.bipush 20, 2) := by decide +kernel
theorem dX3_drawsFrom_88 : decode cX3_drawsFrom 88 = .ok (.iadd, 1) := by decide +kernel
theorem dX3_drawsFrom_89 : decode cX3_drawsFrom 89 = .ok (.ireturn, 1) := by decide +kernel
theorem dX3_drawsFrom_90 : decode cX3_drawsFrom 90 = .ok (.iload 4, 2) := by decide +kernel
theorem dX3_drawsFrom_92 : decode cX3_drawsFrom 92 = .ok (.bipush 10, 2) := by decide +kernel
theorem dX3_drawsFrom_94 : decode cX3_drawsFrom 94 = .ok (.isub, 1) := by decide +kernel
theorem dX3_drawsFrom_95 : decode cX3_drawsFrom 95 = .ok (.iconst 0, 1) := by decide +kernel
theorem dX3_drawsFrom_96 : decode cX3_drawsFrom 96 = .ok (.invokestatic 39, 3) := by decide +kernel
theorem dX3_drawsFrom_99 : decode cX3_drawsFrom 99 = .ok (.ireturn, 1) := by decide +kernel
theorem dX3_drawsFrom_100 : decode cX3_drawsFrom 100 = .ok (.iload_n 2, 1) := by decide +kernel
theorem dX3_drawsFrom_101 : decode cX3_drawsFrom 101 = .ok (.ireturn, 1) := by decide +kernel
theorem dX3_owesFor_0 : decode cX3_owesFor 0 = .ok (.aload_n 0, 1) := by decide +kernel
theorem dX3_owesFor_1 : decode cX3_owesFor 1 = .ok (.iload_n 2, 1) := by decide +kernel
theorem dX3_owesFor_2 : decode cX3_owesFor 2 = .ok (.invokevirtual 43, 3) := by decide +kernel
theorem dX3_owesFor_5 : decode cX3_owesFor 5 = .ok (.ifCond .eq 7, 3) := by decide +kernel
theorem dX3_owesFor_8 : decode cX3_owesFor 8 = .ok (.iload_n 1, 1) := by decide +kernel
theorem dX3_owesFor_9 : decode cX3_owesFor 9 = .ok (.goto 4, 3) := by decide +kernel
theorem dX3_owesFor_12 : decode cX3_owesFor 12 = .ok (.iconst 0, 1) := by decide +kernel
theorem dX3_owesFor_13 : decode cX3_owesFor 13 = .ok (.istore_n 3, 1) := by decide +kernel
theorem dX3_owesFor_14 : decode cX3_owesFor 14 = .ok (.iload_n 3, 1) := by decide +kernel
theorem dX3_owesFor_15 : decode cX3_owesFor 15 = .ok (.iload_n 3, 1) := by decide +kernel
theorem dX3_owesFor_16 : decode cX3_owesFor 16 = .ok (.bipush 10, 2) := by decide +kernel
theorem dX3_owesFor_18 : decode cX3_owesFor 18 = .ok (.idiv, 1) := by decide +kernel
theorem dX3_owesFor_19 : decode cX3_owesFor 19 = .ok (.isub, 1) := by decide +kernel
theorem dX3_owesFor_20 : decode cX3_owesFor 20 = .ok (.istore 4, 2) := by decide +kernel
theorem dX3_owesFor_22 : decode cX3_owesFor 22 = .ok (.aload_n 0, 1) := by decide +kernel
theorem dX3_owesFor_23 : decode cX3_owesFor 23 = .ok (.getfield 9, 3) := by decide +kernel
theorem dX3_owesFor_26 : decode cX3_owesFor 26 = .ok (.tableswitch 46 1 5 #[34, 46, 37, 39, 44], 34) := by decide +kernel
theorem dX3_owesFor_60 : decode cX3_owesFor 60 = .ok (.iload 4, 2) := by decide +kernel
theorem dX3_owesFor_62 : decode cX3_owesFor 62 = .ok (.ireturn, 1) := by decide +kernel
theorem dX3_owesFor_63 : decode cX3_owesFor 63 = .ok (.iconst 0, 1) := by decide +kernel
theorem dX3_owesFor_64 : decode cX3_owesFor 64 = .ok (.ireturn, 1) := by decide +kernel
theorem dX3_owesFor_65 : decode cX3_owesFor 65 = .ok (.iload 4, 2) := by decide +kernel
theorem dX3_owesFor_67 : decode cX3_owesFor 67 = .ok (.iconst 2, 1) := by decide +kernel
theorem dX3_owesFor_68 : decode cX3_owesFor 68 = .ok (.idiv, 1) := by decide +kernel
theorem dX3_owesFor_69 : decode cX3_owesFor 69 = .ok (.ireturn, 1) := by decide +kernel
theorem dX3_owesFor_70 : decode cX3_owesFor 70 = .ok (.iconst 0, 1) := by decide +kernel
theorem dX3_owesFor_71 : decode cX3_owesFor 71 = .ok (.ireturn, 1) := by decide +kernel
theorem dX3_owesFor_72 : decode cX3_owesFor 72 = .ok (.iload_n 3, 1) := by decide +kernel
theorem dX3_owesFor_73 : decode cX3_owesFor 73 = .ok (.ireturn, 1) := by decide +kernel
theorem dX3_paidHours_0 : decode cX3_paidHours 0 = .ok (.aload_n 0, 1) := by decide +kernel
theorem dX3_paidHours_1 : decode cX3_paidHours 1 = .ok (.getfield 24, 3) := by decide +kernel
theorem dX3_paidHours_4 : decode cX3_paidHours 4 = .ok (.aload_n 0, 1) := by decide +kernel
theorem dX3_paidHours_5 : decode cX3_paidHours 5 = .ok (.getfield 21, 3) := by decide +kernel
theorem dX3_paidHours_8 : decode cX3_paidHours 8 = .ok (.isub, 1) := by decide +kernel
theorem dX3_paidHours_9 : decode cX3_paidHours 9 = .ok (.bipush 24, 2) := by decide +kernel
theorem dX3_paidHours_11 : decode cX3_paidHours 11 = .ok (.iadd, 1) := by decide +kernel
theorem dX3_paidHours_12 : decode cX3_paidHours 12 = .ok (.bipush 24, 2) := by decide +kernel
theorem dX3_paidHours_14 : decode cX3_paidHours 14 = .ok (.irem, 1) := by decide +kernel
theorem dX3_paidHours_15 : decode cX3_paidHours 15 = .ok (.ireturn, 1) := by decide +kernel
theorem dX3_isPaidAt_0 : decode cX3_isPaidAt 0 = .ok (.iload_n 1, 1) := by decide +kernel
theorem dX3_isPaidAt_1 : decode cX3_isPaidAt 1 = .ok (.aload_n 0, 1) := by decide +kernel
theorem dX3_isPaidAt_2 : decode cX3_isPaidAt 2 = .ok (.getfield 21, 3) := by decide +kernel
theorem dX3_isPaidAt_5 : decode cX3_isPaidAt 5 = .ok (.isub, 1) := by decide +kernel
theorem dX3_isPaidAt_6 : decode cX3_isPaidAt 6 = .ok (.bipush 24, 2) := by decide +kernel
theorem dX3_isPaidAt_8 : decode cX3_isPaidAt 8 = .ok (.iadd, 1) := by decide +kernel
theorem dX3_isPaidAt_9 : decode cX3_isPaidAt 9 = .ok (.bipush 24, 2) := by decide +kernel
theorem dX3_isPaidAt_11 : decode cX3_isPaidAt 11 = .ok (.irem, 1) := by decide +kernel
theorem dX3_isPaidAt_12 : decode cX3_isPaidAt 12 = .ok (.aload_n 0, 1) := by decide +kernel
theorem dX3_isPaidAt_13 : decode cX3_isPaidAt 13 = .ok (.invokevirtual 47, 3) := by decide +kernel
theorem dX3_isPaidAt_16 : decode cX3_isPaidAt 16 = .ok (.if_icmp .ge 7, 3) := by decide +kernel
theorem dX3_isPaidAt_19 : decode cX3_isPaidAt 19 = .ok (.iconst 1, 1) := by decide +kernel
theorem dX3_isPaidAt_20 : decode cX3_isPaidAt 20 = .ok (.goto 4, 3) := by decide +kernel
theorem dX3_isPaidAt_23 : decode cX3_isPaidAt 23 = .ok (.iconst 0, 1) := by decide +kernel
theorem dX3_isPaidAt_24 : decode cX3_isPaidAt 24 = .ok (.ireturn, 1) := by decide +kernel
theorem dJ6_numberOfLeadingZeros_0 : decode cJ6_numberOfLeadingZeros 0 = .ok (.iload_n 0, 1) := by decide +kernel
theorem dJ6_numberOfLeadingZeros_1 : decode cJ6_numberOfLeadingZeros 1 = .ok (.ifCond .gt 14, 3) := by decide +kernel
theorem dJ6_numberOfLeadingZeros_4 : decode cJ6_numberOfLeadingZeros 4 = .ok (.iload_n 0, 1) := by decide +kernel
theorem dJ6_numberOfLeadingZeros_5 : decode cJ6_numberOfLeadingZeros 5 = .ok (.ifCond .ne 8, 3) := by decide +kernel
theorem dJ6_numberOfLeadingZeros_8 : decode cJ6_numberOfLeadingZeros 8 = .ok (.bipush 32, 2) := by decide +kernel
theorem dJ6_numberOfLeadingZeros_10 : decode cJ6_numberOfLeadingZeros 10 = .ok (.goto 4, 3) := by decide +kernel
theorem dJ6_numberOfLeadingZeros_13 : decode cJ6_numberOfLeadingZeros 13 = .ok (.iconst 0, 1) := by decide +kernel
theorem dJ6_numberOfLeadingZeros_14 : decode cJ6_numberOfLeadingZeros 14 = .ok (.ireturn, 1) := by decide +kernel
theorem dJ6_numberOfLeadingZeros_15 : decode cJ6_numberOfLeadingZeros 15 = .ok (.bipush 31, 2) := by decide +kernel
theorem dJ6_numberOfLeadingZeros_17 : decode cJ6_numberOfLeadingZeros 17 = .ok (.istore_n 1, 1) := by decide +kernel
theorem dJ6_numberOfLeadingZeros_18 : decode cJ6_numberOfLeadingZeros 18 = .ok (.iload_n 0, 1) := by decide +kernel
theorem dJ6_numberOfLeadingZeros_19 : decode cJ6_numberOfLeadingZeros 19 = .ok (.ldc_w 264, 3) := by decide +kernel
theorem dJ6_numberOfLeadingZeros_22 : decode cJ6_numberOfLeadingZeros 22 = .ok (.if_icmp .lt 11, 3) := by decide +kernel
theorem dJ6_numberOfLeadingZeros_25 : decode cJ6_numberOfLeadingZeros 25 = .ok (.iinc 1 (-16), 3) := by decide +kernel
theorem dJ6_numberOfLeadingZeros_28 : decode cJ6_numberOfLeadingZeros 28 = .ok (.iload_n 0, 1) := by decide +kernel
theorem dJ6_numberOfLeadingZeros_29 : decode cJ6_numberOfLeadingZeros 29 = .ok (.bipush 16, 2) := by decide +kernel
theorem dJ6_numberOfLeadingZeros_31 : decode cJ6_numberOfLeadingZeros 31 = .ok (.iushr, 1) := by decide +kernel
theorem dJ6_numberOfLeadingZeros_32 : decode cJ6_numberOfLeadingZeros 32 = .ok (.istore_n 0, 1) := by decide +kernel
theorem dJ6_numberOfLeadingZeros_33 : decode cJ6_numberOfLeadingZeros 33 = .ok (.iload_n 0, 1) := by decide +kernel
theorem dJ6_numberOfLeadingZeros_34 : decode cJ6_numberOfLeadingZeros 34 = .ok (.sipush 256, 3) := by decide +kernel
theorem dJ6_numberOfLeadingZeros_37 : decode cJ6_numberOfLeadingZeros 37 = .ok (.if_icmp .lt 11, 3) := by decide +kernel
theorem dJ6_numberOfLeadingZeros_40 : decode cJ6_numberOfLeadingZeros 40 = .ok (.iinc 1 (-8), 3) := by decide +kernel
theorem dJ6_numberOfLeadingZeros_43 : decode cJ6_numberOfLeadingZeros 43 = .ok (.iload_n 0, 1) := by decide +kernel
theorem dJ6_numberOfLeadingZeros_44 : decode cJ6_numberOfLeadingZeros 44 = .ok (.bipush 8, 2) := by decide +kernel
theorem dJ6_numberOfLeadingZeros_46 : decode cJ6_numberOfLeadingZeros 46 = .ok (.iushr, 1) := by decide +kernel
theorem dJ6_numberOfLeadingZeros_47 : decode cJ6_numberOfLeadingZeros 47 = .ok (.istore_n 0, 1) := by decide +kernel
theorem dJ6_numberOfLeadingZeros_48 : decode cJ6_numberOfLeadingZeros 48 = .ok (.iload_n 0, 1) := by decide +kernel
theorem dJ6_numberOfLeadingZeros_49 : decode cJ6_numberOfLeadingZeros 49 = .ok (.bipush 16, 2) := by decide +kernel
theorem dJ6_numberOfLeadingZeros_51 : decode cJ6_numberOfLeadingZeros 51 = .ok (.if_icmp .lt 10, 3) := by decide +kernel
theorem dJ6_numberOfLeadingZeros_54 : decode cJ6_numberOfLeadingZeros 54 = .ok (.iinc 1 (-4), 3) := by decide +kernel
theorem dJ6_numberOfLeadingZeros_57 : decode cJ6_numberOfLeadingZeros 57 = .ok (.iload_n 0, 1) := by decide +kernel
theorem dJ6_numberOfLeadingZeros_58 : decode cJ6_numberOfLeadingZeros 58 = .ok (.iconst 4, 1) := by decide +kernel
theorem dJ6_numberOfLeadingZeros_59 : decode cJ6_numberOfLeadingZeros 59 = .ok (.iushr, 1) := by decide +kernel
theorem dJ6_numberOfLeadingZeros_60 : decode cJ6_numberOfLeadingZeros 60 = .ok (.istore_n 0, 1) := by decide +kernel
theorem dJ6_numberOfLeadingZeros_61 : decode cJ6_numberOfLeadingZeros 61 = .ok (.iload_n 0, 1) := by decide +kernel
theorem dJ6_numberOfLeadingZeros_62 : decode cJ6_numberOfLeadingZeros 62 = .ok (.iconst 4, 1) := by decide +kernel
theorem dJ6_numberOfLeadingZeros_63 : decode cJ6_numberOfLeadingZeros 63 = .ok (.if_icmp .lt 10, 3) := by decide +kernel
theorem dJ6_numberOfLeadingZeros_66 : decode cJ6_numberOfLeadingZeros 66 = .ok (.iinc 1 (-2), 3) := by decide +kernel
theorem dJ6_numberOfLeadingZeros_69 : decode cJ6_numberOfLeadingZeros 69 = .ok (.iload_n 0, 1) := by decide +kernel
theorem dJ6_numberOfLeadingZeros_70 : decode cJ6_numberOfLeadingZeros 70 = .ok (.iconst 2, 1) := by decide +kernel
theorem dJ6_numberOfLeadingZeros_71 : decode cJ6_numberOfLeadingZeros 71 = .ok (.iushr, 1) := by decide +kernel
theorem dJ6_numberOfLeadingZeros_72 : decode cJ6_numberOfLeadingZeros 72 = .ok (.istore_n 0, 1) := by decide +kernel
theorem dJ6_numberOfLeadingZeros_73 : decode cJ6_numberOfLeadingZeros 73 = .ok (.iload_n 1, 1) := by decide +kernel
theorem dJ6_numberOfLeadingZeros_74 : decode cJ6_numberOfLeadingZeros 74 = .ok (.iload_n 0, 1) := by decide +kernel
theorem dJ6_numberOfLeadingZeros_75 : decode cJ6_numberOfLeadingZeros 75 = .ok (.iconst 1, 1) := by decide +kernel
theorem dJ6_numberOfLeadingZeros_76 : decode cJ6_numberOfLeadingZeros 76 = .ok (.iushr, 1) := by decide +kernel
theorem dJ6_numberOfLeadingZeros_77 : decode cJ6_numberOfLeadingZeros 77 = .ok (.isub, 1) := by decide +kernel
theorem dJ6_numberOfLeadingZeros_78 : decode cJ6_numberOfLeadingZeros 78 = .ok (.ireturn, 1) := by decide +kernel
theorem dJ9_abs_0 : decode cJ9_abs 0 = .ok (.iload_n 0, 1) := by decide +kernel
theorem dJ9_abs_1 : decode cJ9_abs 1 = .ok (.ifCond .ge 8, 3) := by decide +kernel
theorem dJ9_abs_4 : decode cJ9_abs 4 = .ok (.iload_n 0, 1) := by decide +kernel
theorem dJ9_abs_5 : decode cJ9_abs 5 = .ok (.ineg, 1) := by decide +kernel
theorem dJ9_abs_6 : decode cJ9_abs 6 = .ok (.goto 4, 3) := by decide +kernel
theorem dJ9_abs_9 : decode cJ9_abs 9 = .ok (.iload_n 0, 1) := by decide +kernel
theorem dJ9_abs_10 : decode cJ9_abs 10 = .ok (.ireturn, 1) := by decide +kernel
theorem dJ9_max_0 : decode cJ9_max 0 = .ok (.iload_n 0, 1) := by decide +kernel
theorem dJ9_max_1 : decode cJ9_max 1 = .ok (.iload_n 1, 1) := by decide +kernel
theorem dJ9_max_2 : decode cJ9_max 2 = .ok (.if_icmp .lt 7, 3) := by decide +kernel
theorem dJ9_max_5 : decode cJ9_max 5 = .ok (.iload_n 0, 1) := by decide +kernel
theorem dJ9_max_6 : decode cJ9_max 6 = .ok (.goto 4, 3) := by decide +kernel
theorem dJ9_max_9 : decode cJ9_max 9 = .ok (.iload_n 1, 1) := by decide +kernel
theorem dJ9_max_10 : decode cJ9_max 10 = .ok (.ireturn, 1) := by decide +kernel
theorem dJ9_min_0 : decode cJ9_min 0 = .ok (.iload_n 0, 1) := by decide +kernel
theorem dJ9_min_1 : decode cJ9_min 1 = .ok (.iload_n 1, 1) := by decide +kernel
theorem dJ9_min_2 : decode cJ9_min 2 = .ok (.if_icmp .gt 7, 3) := by decide +kernel
theorem dJ9_min_5 : decode cJ9_min 5 = .ok (.iload_n 0, 1) := by decide +kernel
theorem dJ9_min_6 : decode cJ9_min 6 = .ok (.goto 4, 3) := by decide +kernel
theorem dJ9_min_9 : decode cJ9_min 9 = .ok (.iload_n 1, 1) := by decide +kernel
theorem dJ9_min_10 : decode cJ9_min 10 = .ok (.ireturn, 1) := by decide +kernel
theorem dJ0_length_0 : decode cJ0_length 0 = .ok (.aload_n 0, 1) := by decide +kernel
theorem dJ0_length_1 : decode cJ0_length 1 = .ok (.getfield 9, 3) := by decide +kernel
theorem dJ0_length_4 : decode cJ0_length 4 = .ok (.arraylength, 1) := by decide +kernel
theorem dJ0_length_5 : decode cJ0_length 5 = .ok (.aload_n 0, 1) := by decide +kernel
theorem dJ0_length_6 : decode cJ0_length 6 = .ok (.invokevirtual 335, 3) := by decide +kernel
theorem dJ0_length_9 : decode cJ0_length 9 = .ok (.ishr, 1) := by decide +kernel
theorem dJ0_length_10 : decode cJ0_length 10 = .ok (.ireturn, 1) := by decide +kernel
theorem dJ0_charAt_0 : decode cJ0_charAt 0 = .ok (.aload_n 0, 1) := by decide +kernel
theorem dJ0_charAt_1 : decode cJ0_charAt 1 = .ok (.invokevirtual 492, 3) := by decide +kernel
theorem dJ0_charAt_4 : decode cJ0_charAt 4 = .ok (.ifCond .eq 12, 3) := by decide +kernel
theorem dJ0_charAt_7 : decode cJ0_charAt 7 = .ok (.aload_n 0, 1) := by decide +kernel
theorem dJ0_charAt_8 : decode cJ0_charAt 8 = .ok (.getfield 9, 3) := by decide +kernel
theorem dJ0_charAt_11 : decode cJ0_charAt 11 = .ok (.iload_n 1, 1) := by decide +kernel
theorem dJ0_charAt_12 : decode cJ0_charAt 12 = .ok (.invokestatic 495, 3) := by decide +kernel
theorem dJ0_charAt_15 : decode cJ0_charAt 15 = .ok (.ireturn, 1) := by decide +kernel
theorem dJ0_charAt_16 : decode cJ0_charAt 16 = .ok (.aload_n 0, 1) := by decide +kernel
theorem dJ0_charAt_17 : decode cJ0_charAt 17 = .ok (.getfield 9, 3) := by decide +kernel
theorem dJ0_charAt_20 : decode cJ0_charAt 20 = .ok (.iload_n 1, 1) := by decide +kernel
theorem dJ0_charAt_21 : decode cJ0_charAt 21 = .ok (.invokestatic 498, 3) := by decide +kernel
theorem dJ0_charAt_24 : decode cJ0_charAt 24 = .ok (.ireturn, 1) := by decide +kernel
theorem dJ0_coder_0 : decode cJ0_coder 0 = .ok (.getstatic 38, 3) := by decide +kernel
theorem dJ0_coder_3 : decode cJ0_coder 3 = .ok (.ifCond .eq 10, 3) := by decide +kernel
theorem dJ0_coder_6 : decode cJ0_coder 6 = .ok (.aload_n 0, 1) := by decide +kernel
theorem dJ0_coder_7 : decode cJ0_coder 7 = .ok (.getfield 15, 3) := by decide +kernel
theorem dJ0_coder_10 : decode cJ0_coder 10 = .ok (.goto 4, 3) := by decide +kernel
theorem dJ0_coder_13 : decode cJ0_coder 13 = .ok (.iconst 1, 1) := by decide +kernel
theorem dJ0_coder_14 : decode cJ0_coder 14 = .ok (.ireturn, 1) := by decide +kernel
theorem dJ0_isLatin1_0 : decode cJ0_isLatin1 0 = .ok (.getstatic 38, 3) := by decide +kernel
theorem dJ0_isLatin1_3 : decode cJ0_isLatin1 3 = .ok (.ifCond .eq 14, 3) := by decide +kernel
theorem dJ0_isLatin1_6 : decode cJ0_isLatin1 6 = .ok (.aload_n 0, 1) := by decide +kernel
theorem dJ0_isLatin1_7 : decode cJ0_isLatin1 7 = .ok (.getfield 15, 3) := by decide +kernel
theorem dJ0_isLatin1_10 : decode cJ0_isLatin1 10 = .ok (.ifCond .ne 7, 3) := by decide +kernel
theorem dJ0_isLatin1_13 : decode cJ0_isLatin1 13 = .ok (.iconst 1, 1) := by decide +kernel
theorem dJ0_isLatin1_14 : decode cJ0_isLatin1 14 = .ok (.goto 4, 3) := by decide +kernel
theorem dJ0_isLatin1_17 : decode cJ0_isLatin1 17 = .ok (.iconst 0, 1) := by decide +kernel
theorem dJ0_isLatin1_18 : decode cJ0_isLatin1 18 = .ok (.ireturn, 1) := by decide +kernel
theorem dJ0_checkIndex_0 : decode cJ0_checkIndex 0 = .ok (.iload_n 0, 1) := by decide +kernel
theorem dJ0_checkIndex_1 : decode cJ0_checkIndex 1 = .ok (.iload_n 1, 1) := by decide +kernel
theorem dJ0_checkIndex_2 : decode cJ0_checkIndex 2 = .ok (.getstatic 1053, 3) := by decide +kernel
theorem dJ0_checkIndex_5 : decode cJ0_checkIndex 5 = .ok (.invokestatic 1059, 3) := by decide +kernel
theorem dJ0_checkIndex_8 : decode cJ0_checkIndex 8 = .ok (.pop, 1) := by decide +kernel
theorem dJ0_checkIndex_9 : decode cJ0_checkIndex 9 = .ok (.return_, 1) := by decide +kernel
theorem dJ1_charAt_0 : decode cJ1_charAt 0 = .ok (.iload_n 1, 1) := by decide +kernel
theorem dJ1_charAt_1 : decode cJ1_charAt 1 = .ok (.aload_n 0, 1) := by decide +kernel
theorem dJ1_charAt_2 : decode cJ1_charAt 2 = .ok (.arraylength, 1) := by decide +kernel
theorem dJ1_charAt_3 : decode cJ1_charAt 3 = .ok (.invokestatic 9, 3) := by decide +kernel
theorem dJ1_charAt_6 : decode cJ1_charAt 6 = .ok (.aload_n 0, 1) := by decide +kernel
theorem dJ1_charAt_7 : decode cJ1_charAt 7 = .ok (.iload_n 1, 1) := by decide +kernel
theorem dJ1_charAt_8 : decode cJ1_charAt 8 = .ok (.baload, 1) := by decide +kernel
theorem dJ1_charAt_9 : decode cJ1_charAt 9 = .ok (.sipush 255, 3) := by decide +kernel
theorem dJ1_charAt_12 : decode cJ1_charAt 12 = .ok (.iand, 1) := by decide +kernel
theorem dJ1_charAt_13 : decode cJ1_charAt 13 = .ok (.i2c, 1) := by decide +kernel
theorem dJ1_charAt_14 : decode cJ1_charAt 14 = .ok (.ireturn, 1) := by decide +kernel
theorem dJ2_getChar_0 : decode cJ2_getChar 0 = .ok (.getstatic 44, 3) := by decide +kernel
theorem dJ2_getChar_3 : decode cJ2_getChar 3 = .ok (.ifCond .ne 25, 3) := by decide +kernel
theorem dJ2_getChar_6 : decode cJ2_getChar 6 = .ok (.iload_n 1, 1) := by decide +kernel
theorem dJ2_getChar_7 : decode cJ2_getChar 7 = .ok (.ifCond .lt 11, 3) := by decide +kernel
theorem dJ2_getChar_10 : decode cJ2_getChar 10 = .ok (.iload_n 1, 1) := by decide +kernel
theorem dJ2_getChar_11 : decode cJ2_getChar 11 = .ok (.aload_n 0, 1) := by decide +kernel
theorem dJ2_getChar_12 : decode cJ2_getChar 12 = .ok (.invokestatic 48, 3) := by decide +kernel
theorem dJ2_getChar_15 : decode cJ2_getChar 15 = .ok (.if_icmp .lt 13, 3) := by decide +kernel
theorem dJ2_getChar_18 : decode cJ2_getChar 18 = .ok (.new 52, 3) := by decide +kernel
theorem dJ2_getChar_21 : decode cJ2_getChar 21 = .ok (.dup, 1) := by decide +kernel
theorem dJ2_getChar_22 : decode cJ2_getChar 22 = .ok (.ldc 54, 2) := by decide +kernel
theorem dJ2_getChar_24 : decode cJ2_getChar 24 = .ok (.invokespecial 56, 3) := by decide +kernel
theorem dJ2_getChar_27 : decode cJ2_getChar 27 = .ok (.athrow, 1) := by decide +kernel
theorem dJ2_getChar_28 : decode cJ2_getChar 28 = .ok (.iload_n 1, 1) := by decide +kernel
theorem dJ2_getChar_29 : decode cJ2_getChar 29 = .ok (.iconst 1, 1) := by decide +kernel
theorem dJ2_getChar_30 : decode cJ2_getChar 30 = .ok (.ishl, 1) := by decide +kernel
theorem dJ2_getChar_31 : decode cJ2_getChar 31 = .ok (.istore_n 1, 1) := by decide +kernel
theorem dJ2_getChar_32 : decode cJ2_getChar 32 = .ok (.aload_n 0, 1) := by decide +kernel
theorem dJ2_getChar_33 : decode cJ2_getChar 33 = .ok (.iload_n 1, 1) := by decide +kernel
theorem dJ2_getChar_34 : decode cJ2_getChar 34 = .ok (.iinc 1 1, 3) := by decide +kernel
theorem dJ2_getChar_37 : decode cJ2_getChar 37 = .ok (.baload, 1) := by decide +kernel
theorem dJ2_getChar_38 : decode cJ2_getChar 38 = .ok (.sipush 255, 3) := by decide +kernel
theorem dJ2_getChar_41 : decode cJ2_getChar 41 = .ok (.iand, 1) := by decide +kernel
theorem dJ2_getChar_42 : decode cJ2_getChar 42 = .ok (.getstatic 59, 3) := by decide +kernel
theorem dJ2_getChar_45 : decode cJ2_getChar 45 = .ok (.ishl, 1) := by decide +kernel
theorem dJ2_getChar_46 : decode cJ2_getChar 46 = .ok (.aload_n 0, 1) := by decide +kernel
theorem dJ2_getChar_47 : decode cJ2_getChar 47 = .ok (.iload_n 1, 1) := by decide +kernel
theorem dJ2_getChar_48 : decode cJ2_getChar 48 = .ok (.baload, 1) := by decide +kernel
theorem dJ2_getChar_49 : decode cJ2_getChar 49 = .ok (.sipush 255, 3) := by decide +kernel
theorem dJ2_getChar_52 : decode cJ2_getChar 52 = .ok (.iand, 1) := by decide +kernel
theorem dJ2_getChar_53 : decode cJ2_getChar 53 = .ok (.getstatic 63, 3) := by decide +kernel
theorem dJ2_getChar_56 : decode cJ2_getChar 56 = .ok (.ishl, 1) := by decide +kernel
theorem dJ2_getChar_57 : decode cJ2_getChar 57 = .ok (.ior, 1) := by decide +kernel
theorem dJ2_getChar_58 : decode cJ2_getChar 58 = .ok (.i2c, 1) := by decide +kernel
theorem dJ2_getChar_59 : decode cJ2_getChar 59 = .ok (.ireturn, 1) := by decide +kernel
theorem dJ2_length_0 : decode cJ2_length 0 = .ok (.aload_n 0, 1) := by decide +kernel
theorem dJ2_length_1 : decode cJ2_length 1 = .ok (.arraylength, 1) := by decide +kernel
theorem dJ2_length_2 : decode cJ2_length 2 = .ok (.iconst 1, 1) := by decide +kernel
theorem dJ2_length_3 : decode cJ2_length 3 = .ok (.ishr, 1) := by decide +kernel
theorem dJ2_length_4 : decode cJ2_length 4 = .ok (.ireturn, 1) := by decide +kernel
theorem dJ2_charAt_0 : decode cJ2_charAt 0 = .ok (.iload_n 1, 1) := by decide +kernel
theorem dJ2_charAt_1 : decode cJ2_charAt 1 = .ok (.aload_n 0, 1) := by decide +kernel
theorem dJ2_charAt_2 : decode cJ2_charAt 2 = .ok (.invokestatic 67, 3) := by decide +kernel
theorem dJ2_charAt_5 : decode cJ2_charAt 5 = .ok (.aload_n 0, 1) := by decide +kernel
theorem dJ2_charAt_6 : decode cJ2_charAt 6 = .ok (.iload_n 1, 1) := by decide +kernel
theorem dJ2_charAt_7 : decode cJ2_charAt 7 = .ok (.invokestatic 71, 3) := by decide +kernel
theorem dJ2_charAt_10 : decode cJ2_charAt 10 = .ok (.ireturn, 1) := by decide +kernel
theorem dJ2_checkIndex_0 : decode cJ2_checkIndex 0 = .ok (.iload_n 0, 1) := by decide +kernel
theorem dJ2_checkIndex_1 : decode cJ2_checkIndex 1 = .ok (.aload_n 1, 1) := by decide +kernel
theorem dJ2_checkIndex_2 : decode cJ2_checkIndex 2 = .ok (.invokestatic 48, 3) := by decide +kernel
theorem dJ2_checkIndex_5 : decode cJ2_checkIndex 5 = .ok (.invokestatic 414, 3) := by decide +kernel
theorem dJ2_checkIndex_8 : decode cJ2_checkIndex 8 = .ok (.return_, 1) := by decide +kernel
theorem dJ3_checkIndex_0 : decode cJ3_checkIndex 0 = .ok (.iload_n 0, 1) := by decide +kernel
theorem dJ3_checkIndex_1 : decode cJ3_checkIndex 1 = .ok (.ifCond .lt 8, 3) := by decide +kernel
theorem dJ3_checkIndex_4 : decode cJ3_checkIndex 4 = .ok (.iload_n 0, 1) := by decide +kernel
theorem dJ3_checkIndex_5 : decode cJ3_checkIndex 5 = .ok (.iload_n 1, 1) := by decide +kernel
theorem dJ3_checkIndex_6 : decode cJ3_checkIndex 6 = .ok (.if_icmp .lt 10, 3) := by decide +kernel
theorem dJ3_checkIndex_9 : decode cJ3_checkIndex 9 = .ok (.aload_n 2, 1) := by decide +kernel
theorem dJ3_checkIndex_10 : decode cJ3_checkIndex 10 = .ok (.iload_n 0, 1) := by decide +kernel
theorem dJ3_checkIndex_11 : decode cJ3_checkIndex 11 = .ok (.iload_n 1, 1) := by decide +kernel
theorem dJ3_checkIndex_12 : decode cJ3_checkIndex 12 = .ok (.invokestatic 95, 3) := by decide +kernel
theorem dJ3_checkIndex_15 : decode cJ3_checkIndex 15 = .ok (.athrow, 1) := by decide +kernel
theorem dJ3_checkIndex_16 : decode cJ3_checkIndex 16 = .ok (.iload_n 0, 1) := by decide +kernel
theorem dJ3_checkIndex_17 : decode cJ3_checkIndex 17 = .ok (.ireturn, 1) := by decide +kernel

theorem dX7_fewest_44 : decode cX7_fewest 44 = .ok (.iadd, 1) := by decide +kernel
theorem dX7_fewest_45 : decode cX7_fewest 45 = .ok (.istore_n 2, 1) := by decide +kernel
theorem dX7_fewest_46 : decode cX7_fewest 46 = .ok (.aload_n 0, 1) := by decide +kernel
theorem dX7_fewest_47 : decode cX7_fewest 47 = .ok (.dup, 1) := by decide +kernel
theorem dX7_fewest_48 : decode cX7_fewest 48 = .ok (.getfield 157, 3) := by decide +kernel
theorem dX7_fewest_51 : decode cX7_fewest 51 = .ok (.bipush 24, 2) := by decide +kernel
theorem dX7_fewest_53 : decode cX7_fewest 53 = .ok (.irem, 1) := by decide +kernel
theorem dX7_fewest_54 : decode cX7_fewest 54 = .ok (.putfield 157, 3) := by decide +kernel
theorem dX7_fewest_57 : decode cX7_fewest 57 = .ok (.goto (-50), 3) := by decide +kernel
theorem dX7_fewest_60 : decode cX7_fewest 60 = .ok (.iload_n 2, 1) := by decide +kernel
theorem dX7_fewest_61 : decode cX7_fewest 61 = .ok (.ireturn, 1) := by decide +kernel
theorem dX7_covers_0 : decode cX7_covers 0 = .ok (.aload_n 0, 1) := by decide +kernel
theorem dX7_covers_1 : decode cX7_covers 1 = .ok (.iload_n 1, 1) := by decide +kernel
theorem dX7_covers_2 : decode cX7_covers 2 = .ok (.invokevirtual 87, 3) := by decide +kernel
theorem dX7_covers_5 : decode cX7_covers 5 = .ok (.ifCond .eq 26, 3) := by decide +kernel
theorem dX7_covers_8 : decode cX7_covers 8 = .ok (.iload_n 2, 1) := by decide +kernel
theorem dX7_covers_9 : decode cX7_covers 9 = .ok (.iconst 0, 1) := by decide +kernel
theorem dX7_covers_10 : decode cX7_covers 10 = .ok (.bipush 100, 2) := by decide +kernel
theorem dX7_covers_12 : decode cX7_covers 12 = .ok (.invokestatic 45, 3) := by decide +kernel
theorem dX7_covers_15 : decode cX7_covers 15 = .ok (.ifCond .eq 16, 3) := by decide +kernel
theorem dX7_covers_18 : decode cX7_covers 18 = .ok (.aload_n 0, 1) := by decide +kernel
theorem dX7_covers_19 : decode cX7_covers 19 = .ok (.aload_n 0, 1) := by decide +kernel
theorem dX7_covers_20 : decode cX7_covers 20 = .ok (.iload_n 1, 1) := by decide +kernel
theorem dX7_covers_21 : decode cX7_covers 21 = .ok (.iload_n 2, 1) := by decide +kernel
theorem dX7_covers_22 : decode cX7_covers 22 = .ok (.invokevirtual 154, 3) := by decide +kernel
theorem dX7_covers_25 : decode cX7_covers 25 = .ok (.invokevirtual 163, 3) := by decide +kernel
theorem dX7_covers_28 : decode cX7_covers 28 = .ok (.goto 9, 3) := by decide +kernel
theorem dX7_covers_31 : decode cX7_covers 31 = .ok (.aload_n 0, 1) := by decide +kernel
theorem dX7_covers_32 : decode cX7_covers 32 = .ok (.ldc 44, 2) := by decide +kernel
theorem dX7_covers_34 : decode cX7_covers 34 = .ok (.invokevirtual 53, 3) := by decide +kernel
theorem dX7_covers_37 : decode cX7_covers 37 = .ok (.ireturn, 1) := by decide +kernel
theorem dX7_from_0 : decode cX7_from 0 = .ok (.aload_n 0, 1) := by decide +kernel
theorem dX7_from_1 : decode cX7_from 1 = .ok (.iload_n 1, 1) := by decide +kernel
theorem dX7_from_2 : decode cX7_from 2 = .ok (.invokevirtual 87, 3) := by decide +kernel
theorem dX7_from_5 : decode cX7_from 5 = .ok (.ifCond .eq 13, 3) := by decide +kernel
theorem dX7_from_8 : decode cX7_from 8 = .ok (.iload_n 2, 1) := by decide +kernel
theorem dX7_from_9 : decode cX7_from 9 = .ok (.iconst 0, 1) := by decide +kernel
theorem dX7_from_10 : decode cX7_from 10 = .ok (.bipush 100, 2) := by decide +kernel
theorem dX7_from_12 : decode cX7_from 12 = .ok (.invokestatic 45, 3) := by decide +kernel
theorem dX7_from_15 : decode cX7_from 15 = .ok (.ifCond .ne 10, 3) := by decide +kernel
theorem dX7_from_18 : decode cX7_from 18 = .ok (.aload_n 0, 1) := by decide +kernel
theorem dX7_from_19 : decode cX7_from 19 = .ok (.ldc 44, 2) := by decide +kernel
theorem dX7_from_21 : decode cX7_from 21 = .ok (.invokevirtual 53, 3) := by decide +kernel
theorem dX7_from_24 : decode cX7_from 24 = .ok (.ireturn, 1) := by decide +kernel
theorem dX7_from_25 : decode cX7_from 25 = .ok (.aload_n 0, 1) := by decide +kernel
theorem dX7_from_26 : decode cX7_from 26 = .ok (.aload_n 0, 1) := by decide +kernel
theorem dX7_from_27 : decode cX7_from 27 = .ok (.iload_n 1, 1) := by decide +kernel
theorem dX7_from_28 : decode cX7_from 28 = .ok (.iload_n 2, 1) := by decide +kernel
theorem dX7_from_29 : decode cX7_from 29 = .ok (.invokevirtual 154, 3) := by decide +kernel
theorem dX7_from_32 : decode cX7_from 32 = .ok (.invokevirtual 163, 3) := by decide +kernel
theorem dX7_from_35 : decode cX7_from 35 = .ok (.istore_n 3, 1) := by decide +kernel
theorem dX7_from_36 : decode cX7_from 36 = .ok (.iload_n 3, 1) := by decide +kernel
theorem dX7_from_37 : decode cX7_from 37 = .ok (.ifCond .ge 7, 3) := by decide +kernel
theorem dX7_from_40 : decode cX7_from 40 = .ok (.iconst 0, 1) := by decide +kernel
theorem dX7_from_41 : decode cX7_from 41 = .ok (.goto 7, 3) := by decide +kernel
theorem dX7_from_44 : decode cX7_from 44 = .ok (.aload_n 0, 1) := by decide +kernel
theorem dX7_from_45 : decode cX7_from 45 = .ok (.getfield 157, 3) := by decide +kernel
theorem dX7_from_48 : decode cX7_from 48 = .ok (.ireturn, 1) := by decide +kernel
theorem dX7_strays_0 : decode cX7_strays 0 = .ok (.iload_n 1, 1) := by decide +kernel
theorem dX7_strays_1 : decode cX7_strays 1 = .ok (.iconst 0, 1) := by decide +kernel
theorem dX7_strays_2 : decode cX7_strays 2 = .ok (.bipush 100, 2) := by decide +kernel
theorem dX7_strays_4 : decode cX7_strays 4 = .ok (.invokestatic 45, 3) := by decide +kernel
theorem dX7_strays_7 : decode cX7_strays 7 = .ok (.ifCond .ne 10, 3) := by decide +kernel
theorem dX7_strays_10 : decode cX7_strays 10 = .ok (.aload_n 0, 1) := by decide +kernel
theorem dX7_strays_11 : decode cX7_strays 11 = .ok (.ldc 44, 2) := by decide +kernel
theorem dX7_strays_13 : decode cX7_strays 13 = .ok (.invokevirtual 53, 3) := by decide +kernel
theorem dX7_strays_16 : decode cX7_strays 16 = .ok (.ireturn, 1) := by decide +kernel
theorem dX7_strays_17 : decode cX7_strays 17 = .ok (.aload_n 0, 1) := by decide +kernel
theorem dX7_strays_18 : decode cX7_strays 18 = .ok (.iconst 1, 1) := by decide +kernel
theorem dX7_strays_19 : decode cX7_strays 19 = .ok (.aload_n 0, 1) := by decide +kernel
theorem dX7_strays_20 : decode cX7_strays 20 = .ok (.getfield 16, 3) := by decide +kernel
theorem dX7_strays_23 : decode cX7_strays 23 = .ok (.invokevirtual 126, 3) := by decide +kernel
theorem dX7_strays_26 : decode cX7_strays 26 = .ok (.aload_n 0, 1) := by decide +kernel
theorem dX7_strays_27 : decode cX7_strays 27 = .ok (.iload_n 1, 1) := by decide +kernel
theorem dX7_strays_28 : decode cX7_strays 28 = .ok (.invokevirtual 116, 3) := by decide +kernel
theorem dX7_strays_31 : decode cX7_strays 31 = .ok (.aload_n 0, 1) := by decide +kernel
theorem dX7_strays_32 : decode cX7_strays 32 = .ok (.getfield 7, 3) := by decide +kernel
theorem dX7_strays_35 : decode cX7_strays 35 = .ok (.bipush 6, 2) := by decide +kernel
theorem dX7_strays_37 : decode cX7_strays 37 = .ok (.iaload, 1) := by decide +kernel
theorem dX7_strays_38 : decode cX7_strays 38 = .ok (.istore_n 2, 1) := by decide +kernel
theorem dX7_strays_39 : decode cX7_strays 39 = .ok (.aload_n 0, 1) := by decide +kernel
theorem dX7_strays_40 : decode cX7_strays 40 = .ok (.iconst 0, 1) := by decide +kernel
theorem dX7_strays_41 : decode cX7_strays 41 = .ok (.aload_n 0, 1) := by decide +kernel
theorem dX7_strays_42 : decode cX7_strays 42 = .ok (.getfield 16, 3) := by decide +kernel
theorem dX7_strays_45 : decode cX7_strays 45 = .ok (.invokevirtual 126, 3) := by decide +kernel
theorem dX7_strays_48 : decode cX7_strays 48 = .ok (.iload_n 2, 1) := by decide +kernel
theorem dX7_strays_49 : decode cX7_strays 49 = .ok (.ireturn, 1) := by decide +kernel
theorem dX7_drawAll_0 : decode cX7_drawAll 0 = .ok (.iconst 0, 1) := by decide +kernel
theorem dX7_drawAll_1 : decode cX7_drawAll 1 = .ok (.istore_n 1, 1) := by decide +kernel
theorem dX7_drawAll_2 : decode cX7_drawAll 2 = .ok (.iconst 0, 1) := by decide +kernel
theorem dX7_drawAll_3 : decode cX7_drawAll 3 = .ok (.istore_n 2, 1) := by decide +kernel
theorem dX7_drawAll_4 : decode cX7_drawAll 4 = .ok (.iload_n 2, 1) := by decide +kernel
theorem dX7_drawAll_5 : decode cX7_drawAll 5 = .ok (.aload_n 0, 1) := by decide +kernel
theorem dX7_drawAll_6 : decode cX7_drawAll 6 = .ok (.getfield 7, 3) := by decide +kernel
theorem dX7_drawAll_9 : decode cX7_drawAll 9 = .ok (.bipush 8, 2) := by decide +kernel
theorem dX7_drawAll_11 : decode cX7_drawAll 11 = .ok (.iaload, 1) := by decide +kernel
theorem dX7_drawAll_12 : decode cX7_drawAll 12 = .ok (.if_icmp .ge 23, 3) := by decide +kernel
theorem dX7_drawAll_15 : decode cX7_drawAll 15 = .ok (.iload_n 1, 1) := by decide +kernel
theorem dX7_drawAll_16 : decode cX7_drawAll 16 = .ok (.aload_n 0, 1) := by decide +kernel
theorem dX7_drawAll_17 : decode cX7_drawAll 17 = .ok (.iload_n 2, 1) := by decide +kernel
theorem dX7_drawAll_18 : decode cX7_drawAll 18 = .ok (.aload_n 0, 1) := by decide +kernel
theorem dX7_drawAll_19 : decode cX7_drawAll 19 = .ok (.getfield 7, 3) := by decide +kernel
theorem dX7_drawAll_22 : decode cX7_drawAll 22 = .ok (.iconst 0, 1) := by decide +kernel
theorem dX7_drawAll_23 : decode cX7_drawAll 23 = .ok (.iaload, 1) := by decide +kernel
theorem dX7_drawAll_24 : decode cX7_drawAll 24 = .ok (.invokevirtual 90, 3) := by decide +kernel
theorem dX7_drawAll_27 : decode cX7_drawAll 27 = .ok (.iadd, 1) := by decide +kernel
theorem dX7_drawAll_28 : decode cX7_drawAll 28 = .ok (.istore_n 1, 1) := by decide +kernel
theorem dX7_drawAll_29 : decode cX7_drawAll 29 = .ok (.iinc 2 1, 3) := by decide +kernel
theorem dX7_drawAll_32 : decode cX7_drawAll 32 = .ok (.goto (-28), 3) := by decide +kernel
theorem dX7_drawAll_35 : decode cX7_drawAll 35 = .ok (.iload_n 1, 1) := by decide +kernel
theorem dX7_drawAll_36 : decode cX7_drawAll 36 = .ok (.ireturn, 1) := by decide +kernel
theorem dX7_divisor_0 : decode cX7_divisor 0 = .ok (.iload_n 0, 1) := by decide +kernel
theorem dX7_divisor_1 : decode cX7_divisor 1 = .ok (.istore_n 2, 1) := by decide +kernel
theorem dX7_divisor_2 : decode cX7_divisor 2 = .ok (.iload_n 1, 1) := by decide +kernel
theorem dX7_divisor_3 : decode cX7_divisor 3 = .ok (.istore_n 3, 1) := by decide +kernel
theorem dX7_divisor_4 : decode cX7_divisor 4 = .ok (.iload_n 3, 1) := by decide +kernel
theorem dX7_divisor_5 : decode cX7_divisor 5 = .ok (.ifCond .eq 16, 3) := by decide +kernel
theorem dX7_divisor_8 : decode cX7_divisor 8 = .ok (.iload_n 2, 1) := by decide +kernel
theorem dX7_divisor_9 : decode cX7_divisor 9 = .ok (.iload_n 3, 1) := by decide +kernel
theorem dX7_divisor_10 : decode cX7_divisor 10 = .ok (.irem, 1) := by decide +kernel
theorem dX7_divisor_11 : decode cX7_divisor 11 = .ok (.istore 4, 2) := by decide +kernel
theorem dX7_divisor_13 : decode cX7_divisor 13 = .ok (.iload_n 3, 1) := by decide +kernel
theorem dX7_divisor_14 : decode cX7_divisor 14 = .ok (.istore_n 2, 1) := by decide +kernel
theorem dX7_divisor_15 : decode cX7_divisor 15 = .ok (.iload 4, 2) := by decide +kernel
theorem dX7_divisor_17 : decode cX7_divisor 17 = .ok (.istore_n 3, 1) := by decide +kernel
theorem dX7_divisor_18 : decode cX7_divisor 18 = .ok (.goto (-14), 3) := by decide +kernel
theorem dX7_divisor_21 : decode cX7_divisor 21 = .ok (.iload_n 2, 1) := by decide +kernel
theorem dX7_divisor_22 : decode cX7_divisor 22 = .ok (.ireturn, 1) := by decide +kernel
theorem dX7_fork_0 : decode cX7_fork 0 = .ok (.aload_n 0, 1) := by decide +kernel
theorem dX7_fork_1 : decode cX7_fork 1 = .ok (.iload_n 1, 1) := by decide +kernel
theorem dX7_fork_2 : decode cX7_fork 2 = .ok (.invokevirtual 87, 3) := by decide +kernel
theorem dX7_fork_5 : decode cX7_fork 5 = .ok (.ifCond .eq 12, 3) := by decide +kernel
theorem dX7_fork_8 : decode cX7_fork 8 = .ok (.iload_n 2, 1) := by decide +kernel
theorem dX7_fork_9 : decode cX7_fork 9 = .ok (.iconst 0, 1) := by decide +kernel
theorem dX7_fork_10 : decode cX7_fork 10 = .ok (.iconst 1, 1) := by decide +kernel
theorem dX7_fork_11 : decode cX7_fork 11 = .ok (.invokestatic 45, 3) := by decide +kernel
theorem dX7_fork_14 : decode cX7_fork 14 = .ok (.ifCond .ne 10, 3) := by decide +kernel
theorem dX7_fork_17 : decode cX7_fork 17 = .ok (.aload_n 0, 1) := by decide +kernel
theorem dX7_fork_18 : decode cX7_fork 18 = .ok (.ldc 44, 2) := by decide +kernel
theorem dX7_fork_20 : decode cX7_fork 20 = .ok (.invokevirtual 53, 3) := by decide +kernel
theorem dX7_fork_23 : decode cX7_fork 23 = .ok (.ireturn, 1) := by decide +kernel
theorem dX7_fork_24 : decode cX7_fork 24 = .ok (.aload_n 0, 1) := by decide +kernel
theorem dX7_fork_25 : decode cX7_fork 25 = .ok (.iload_n 1, 1) := by decide +kernel
theorem dX7_fork_26 : decode cX7_fork 26 = .ok (.aload_n 0, 1) := by decide +kernel
theorem dX7_fork_27 : decode cX7_fork 27 = .ok (.getfield 7, 3) := by decide +kernel
theorem dX7_fork_30 : decode cX7_fork 30 = .ok (.iconst 0, 1) := by decide +kernel
theorem dX7_fork_31 : decode cX7_fork 31 = .ok (.iaload, 1) := by decide +kernel
theorem dX7_fork_32 : decode cX7_fork 32 = .ok (.invokevirtual 90, 3) := by decide +kernel
theorem dX7_fork_35 : decode cX7_fork 35 = .ok (.aload_n 0, 1) := by decide +kernel
theorem dX7_fork_36 : decode cX7_fork 36 = .ok (.getfield 7, 3) := by decide +kernel
theorem dX7_fork_39 : decode cX7_fork 39 = .ok (.iconst 1, 1) := by decide +kernel
theorem dX7_fork_40 : decode cX7_fork 40 = .ok (.iaload, 1) := by decide +kernel
theorem dX7_fork_41 : decode cX7_fork 41 = .ok (.imul, 1) := by decide +kernel
theorem dX7_fork_42 : decode cX7_fork 42 = .ok (.istore_n 3, 1) := by decide +kernel
theorem dX7_fork_43 : decode cX7_fork 43 = .ok (.iload_n 3, 1) := by decide +kernel
theorem dX7_fork_44 : decode cX7_fork 44 = .ok (.ifCond .ne 7, 3) := by decide +kernel
theorem dX7_fork_47 : decode cX7_fork 47 = .ok (.iconst 1, 1) := by decide +kernel
theorem dX7_fork_48 : decode cX7_fork 48 = .ok (.goto 7, 3) := by decide +kernel
theorem dX7_fork_51 : decode cX7_fork 51 = .ok (.aload_n 0, 1) := by decide +kernel
theorem dX7_fork_52 : decode cX7_fork 52 = .ok (.invokevirtual 166, 3) := by decide +kernel
theorem dX7_fork_55 : decode cX7_fork 55 = .ok (.istore 4, 2) := by decide +kernel
theorem dX7_fork_57 : decode cX7_fork 57 = .ok (.iload_n 3, 1) := by decide +kernel
theorem dX7_fork_58 : decode cX7_fork 58 = .ok (.iload 4, 2) := by decide +kernel
theorem dX7_fork_60 : decode cX7_fork 60 = .ok (.invokestatic 169, 3) := by decide +kernel
theorem dX7_fork_63 : decode cX7_fork 63 = .ok (.istore 5, 2) := by decide +kernel
theorem dX7_fork_65 : decode cX7_fork 65 = .ok (.iload_n 2, 1) := by decide +kernel
theorem dX7_fork_66 : decode cX7_fork 66 = .ok (.ifCond .ne 10, 3) := by decide +kernel
theorem dX7_fork_69 : decode cX7_fork 69 = .ok (.iload_n 3, 1) := by decide +kernel
theorem dX7_fork_70 : decode cX7_fork 70 = .ok (.iload 5, 2) := by decide +kernel
theorem dX7_fork_72 : decode cX7_fork 72 = .ok (.idiv, 1) := by decide +kernel
theorem dX7_fork_73 : decode cX7_fork 73 = .ok (.goto 8, 3) := by decide +kernel
theorem dX7_fork_76 : decode cX7_fork 76 = .ok (.iload 4, 2) := by decide +kernel
theorem dX7_fork_78 : decode cX7_fork 78 = .ok (.iload 5, 2) := by decide +kernel
theorem dX7_fork_80 : decode cX7_fork 80 = .ok (.idiv, 1) := by decide +kernel
theorem dX7_fork_81 : decode cX7_fork 81 = .ok (.ireturn, 1) := by decide +kernel
theorem dX7_share_0 : decode cX7_share 0 = .ok (.aload_n 0, 1) := by decide +kernel
theorem dX7_share_1 : decode cX7_share 1 = .ok (.iload_n 1, 1) := by decide +kernel
theorem dX7_share_2 : decode cX7_share 2 = .ok (.invokevirtual 87, 3) := by decide +kernel
theorem dX7_share_5 : decode cX7_share 5 = .ok (.ifCond .ne 10, 3) := by decide +kernel
theorem dX7_share_8 : decode cX7_share 8 = .ok (.aload_n 0, 1) := by decide +kernel
theorem dX7_share_9 : decode cX7_share 9 = .ok (.ldc 44, 2) := by decide +kernel
theorem dX7_share_11 : decode cX7_share 11 = .ok (.invokevirtual 53, 3) := by decide +kernel
theorem dX7_share_14 : decode cX7_share 14 = .ok (.ireturn, 1) := by decide +kernel
theorem dX7_share_15 : decode cX7_share 15 = .ok (.aload_n 0, 1) := by decide +kernel
theorem dX7_share_16 : decode cX7_share 16 = .ok (.invokevirtual 166, 3) := by decide +kernel
theorem dX7_share_19 : decode cX7_share 19 = .ok (.istore_n 2, 1) := by decide +kernel
theorem dX7_share_20 : decode cX7_share 20 = .ok (.iload_n 2, 1) := by decide +kernel
theorem dX7_share_21 : decode cX7_share 21 = .ok (.ifCond .ne 5, 3) := by decide +kernel
theorem dX7_share_24 : decode cX7_share 24 = .ok (.iconst 0, 1) := by decide +kernel
theorem dX7_share_25 : decode cX7_share 25 = .ok (.ireturn, 1) := by decide +kernel
theorem dX7_share_26 : decode cX7_share 26 = .ok (.aload_n 0, 1) := by decide +kernel
theorem dX7_share_27 : decode cX7_share 27 = .ok (.getfield 7, 3) := by decide +kernel
theorem dX7_share_30 : decode cX7_share 30 = .ok (.iconst 1, 1) := by decide +kernel
theorem dX7_share_31 : decode cX7_share 31 = .ok (.iaload, 1) := by decide +kernel
theorem dX7_share_32 : decode cX7_share 32 = .ok (.istore_n 3, 1) := by decide +kernel
theorem dX7_share_33 : decode cX7_share 33 = .ok (.iconst 0, 1) := by decide +kernel
theorem dX7_share_34 : decode cX7_share 34 = .ok (.istore 4, 2) := by decide +kernel
theorem dX7_share_36 : decode cX7_share 36 = .ok (.iload 4, 2) := by decide +kernel
theorem dX7_share_38 : decode cX7_share 38 = .ok (.aload_n 0, 1) := by decide +kernel
theorem dX7_share_39 : decode cX7_share 39 = .ok (.getfield 7, 3) := by decide +kernel
theorem dX7_share_42 : decode cX7_share 42 = .ok (.bipush 8, 2) := by decide +kernel
theorem dX7_share_44 : decode cX7_share 44 = .ok (.iaload, 1) := by decide +kernel
theorem dX7_share_45 : decode cX7_share 45 = .ok (.if_icmp .ge 33, 3) := by decide +kernel
theorem dX7_share_48 : decode cX7_share 48 = .ok (.iload_n 3, 1) := by decide +kernel
theorem dX7_share_49 : decode cX7_share 49 = .ok (.aload_n 0, 1) := by decide +kernel
theorem dX7_share_50 : decode cX7_share 50 = .ok (.iload 4, 2) := by decide +kernel
theorem dX7_share_52 : decode cX7_share 52 = .ok (.aload_n 0, 1) := by decide +kernel
theorem dX7_share_53 : decode cX7_share 53 = .ok (.getfield 7, 3) := by decide +kernel
theorem dX7_share_56 : decode cX7_share 56 = .ok (.iconst 0, 1) := by decide +kernel
theorem dX7_share_57 : decode cX7_share 57 = .ok (.iaload, 1) := by decide +kernel
theorem dX7_share_58 : decode cX7_share 58 = .ok (.invokevirtual 90, 3) := by decide +kernel
theorem dX7_share_61 : decode cX7_share 61 = .ok (.aload_n 0, 1) := by decide +kernel
theorem dX7_share_62 : decode cX7_share 62 = .ok (.getfield 7, 3) := by decide +kernel
theorem dX7_share_65 : decode cX7_share 65 = .ok (.iconst 1, 1) := by decide +kernel
theorem dX7_share_66 : decode cX7_share 66 = .ok (.iaload, 1) := by decide +kernel
theorem dX7_share_67 : decode cX7_share 67 = .ok (.imul, 1) := by decide +kernel
theorem dX7_share_68 : decode cX7_share 68 = .ok (.iload_n 2, 1) := by decide +kernel
theorem dX7_share_69 : decode cX7_share 69 = .ok (.idiv, 1) := by decide +kernel
theorem dX7_share_70 : decode cX7_share 70 = .ok (.isub, 1) := by decide +kernel
theorem dX7_share_71 : decode cX7_share 71 = .ok (.istore_n 3, 1) := by decide +kernel
theorem dX7_share_72 : decode cX7_share 72 = .ok (.iinc 4 1, 3) := by decide +kernel
theorem dX7_share_75 : decode cX7_share 75 = .ok (.goto (-39), 3) := by decide +kernel
theorem dX7_share_78 : decode cX7_share 78 = .ok (.aload_n 0, 1) := by decide +kernel
theorem dX7_share_79 : decode cX7_share 79 = .ok (.iload_n 1, 1) := by decide +kernel
theorem dX7_share_80 : decode cX7_share 80 = .ok (.aload_n 0, 1) := by decide +kernel
theorem dX7_share_81 : decode cX7_share 81 = .ok (.getfield 7, 3) := by decide +kernel
theorem dX7_share_84 : decode cX7_share 84 = .ok (.iconst 0, 1) := by decide +kernel
theorem dX7_share_85 : decode cX7_share 85 = .ok (.iaload, 1) := by decide +kernel
theorem dX7_share_86 : decode cX7_share 86 = .ok (.invokevirtual 90, 3) := by decide +kernel
theorem dX7_share_89 : decode cX7_share 89 = .ok (.aload_n 0, 1) := by decide +kernel
theorem dX7_share_90 : decode cX7_share 90 = .ok (.getfield 7, 3) := by decide +kernel
theorem dX7_share_93 : decode cX7_share 93 = .ok (.iconst 1, 1) := by decide +kernel
theorem dX7_share_94 : decode cX7_share 94 = .ok (.iaload, 1) := by decide +kernel
theorem dX7_share_95 : decode cX7_share 95 = .ok (.imul, 1) := by decide +kernel
theorem dX7_share_96 : decode cX7_share 96 = .ok (.istore 4, 2) := by decide +kernel
theorem dX7_share_98 : decode cX7_share 98 = .ok (.iconst 0, 1) := by decide +kernel
theorem dX7_share_99 : decode cX7_share 99 = .ok (.istore 5, 2) := by decide +kernel
theorem dX7_share_101 : decode cX7_share 101 = .ok (.iconst 0, 1) := by decide +kernel
theorem dX7_share_102 : decode cX7_share 102 = .ok (.istore 6, 2) := by decide +kernel
theorem dX7_share_104 : decode cX7_share 104 = .ok (.iload 6, 2) := by decide +kernel
theorem dX7_share_106 : decode cX7_share 106 = .ok (.aload_n 0, 1) := by decide +kernel
theorem dX7_share_107 : decode cX7_share 107 = .ok (.getfield 7, 3) := by decide +kernel
theorem dX7_share_110 : decode cX7_share 110 = .ok (.bipush 8, 2) := by decide +kernel
theorem dX7_share_112 : decode cX7_share 112 = .ok (.iaload, 1) := by decide +kernel
theorem dX7_share_113 : decode cX7_share 113 = .ok (.if_icmp .ge 66, 3) := by decide +kernel
theorem dX7_share_116 : decode cX7_share 116 = .ok (.aload_n 0, 1) := by decide +kernel
theorem dX7_share_117 : decode cX7_share 117 = .ok (.iload 6, 2) := by decide +kernel
theorem dX7_share_119 : decode cX7_share 119 = .ok (.aload_n 0, 1) := by decide +kernel
theorem dX7_share_120 : decode cX7_share 120 = .ok (.getfield 7, 3) := by decide +kernel
theorem dX7_share_123 : decode cX7_share 123 = .ok (.iconst 0, 1) := by decide +kernel
theorem dX7_share_124 : decode cX7_share 124 = .ok (.iaload, 1) := by decide +kernel
theorem dX7_share_125 : decode cX7_share 125 = .ok (.invokevirtual 90, 3) := by decide +kernel
theorem dX7_share_128 : decode cX7_share 128 = .ok (.aload_n 0, 1) := by decide +kernel
theorem dX7_share_129 : decode cX7_share 129 = .ok (.getfield 7, 3) := by decide +kernel
theorem dX7_share_132 : decode cX7_share 132 = .ok (.iconst 1, 1) := by decide +kernel
theorem dX7_share_133 : decode cX7_share 133 = .ok (.iaload, 1) := by decide +kernel
theorem dX7_share_134 : decode cX7_share 134 = .ok (.imul, 1) := by decide +kernel
theorem dX7_share_135 : decode cX7_share 135 = .ok (.iload_n 2, 1) := by decide +kernel
theorem dX7_share_136 : decode cX7_share 136 = .ok (.irem, 1) := by decide +kernel
theorem dX7_share_137 : decode cX7_share 137 = .ok (.istore 7, 2) := by decide +kernel
theorem dX7_share_139 : decode cX7_share 139 = .ok (.iload 5, 2) := by decide +kernel
theorem dX7_share_141 : decode cX7_share 141 = .ok (.iload 7, 2) := by decide +kernel
theorem dX7_share_143 : decode cX7_share 143 = .ok (.iload 4, 2) := by decide +kernel
theorem dX7_share_145 : decode cX7_share 145 = .ok (.iload_n 2, 1) := by decide +kernel
theorem dX7_share_146 : decode cX7_share 146 = .ok (.irem, 1) := by decide +kernel
theorem dX7_share_147 : decode cX7_share 147 = .ok (.if_icmp .gt 18, 3) := by decide +kernel
theorem dX7_share_150 : decode cX7_share 150 = .ok (.iload 7, 2) := by decide +kernel
theorem dX7_share_152 : decode cX7_share 152 = .ok (.iload 4, 2) := by decide +kernel
theorem dX7_share_154 : decode cX7_share 154 = .ok (.iload_n 2, 1) := by decide +kernel
theorem dX7_share_155 : decode cX7_share 155 = .ok (.irem, 1) := by decide +kernel
theorem dX7_share_156 : decode cX7_share 156 = .ok (.if_icmp .ne 13, 3) := by decide +kernel
theorem dX7_share_159 : decode cX7_share 159 = .ok (.iload 6, 2) := by decide +kernel
theorem dX7_share_161 : decode cX7_share 161 = .ok (.iload_n 1, 1) := by decide +kernel
theorem dX7_share_162 : decode cX7_share 162 = .ok (.if_icmp .ge 7, 3) := by decide +kernel
theorem dX7_share_165 : decode cX7_share 165 = .ok (.iconst 1, 1) := by decide +kernel
theorem dX7_share_166 : decode cX7_share 166 = .ok (.goto 4, 3) := by decide +kernel
theorem dX7_share_169 : decode cX7_share 169 = .ok (.iconst 0, 1) := by decide +kernel
theorem dX7_share_170 : decode cX7_share 170 = .ok (.iadd, 1) := by decide +kernel
theorem dX7_share_171 : decode cX7_share 171 = .ok (.istore 5, 2) := by decide +kernel
theorem dX7_share_173 : decode cX7_share 173 = .ok (.iinc 6 1, 3) := by decide +kernel
theorem dX7_share_176 : decode cX7_share 176 = .ok (.goto (-72), 3) := by decide +kernel
theorem dX7_share_179 : decode cX7_share 179 = .ok (.iload 4, 2) := by decide +kernel
theorem dX7_share_181 : decode cX7_share 181 = .ok (.iload_n 2, 1) := by decide +kernel
theorem dX7_share_182 : decode cX7_share 182 = .ok (.idiv, 1) := by decide +kernel
theorem dX7_share_183 : decode cX7_share 183 = .ok (.iload 5, 2) := by decide +kernel
theorem dX7_share_185 : decode cX7_share 185 = .ok (.iload_n 3, 1) := by decide +kernel
theorem dX7_share_186 : decode cX7_share 186 = .ok (.if_icmp .ge 7, 3) := by decide +kernel
theorem dX7_share_189 : decode cX7_share 189 = .ok (.iconst 1, 1) := by decide +kernel
theorem dX7_share_190 : decode cX7_share 190 = .ok (.goto 4, 3) := by decide +kernel
theorem dX7_share_193 : decode cX7_share 193 = .ok (.iconst 0, 1) := by decide +kernel
theorem dX7_share_194 : decode cX7_share 194 = .ok (.iadd, 1) := by decide +kernel
theorem dX7_share_195 : decode cX7_share 195 = .ok (.ireturn, 1) := by decide +kernel
theorem dX7_feed_0 : decode cX7_feed 0 = .ok (.iload_n 2, 1) := by decide +kernel
theorem dX7_feed_1 : decode cX7_feed 1 = .ok (.iconst 1, 1) := by decide +kernel
theorem dX7_feed_2 : decode cX7_feed 2 = .ok (.iconst 4, 1) := by decide +kernel
theorem dX7_feed_3 : decode cX7_feed 3 = .ok (.invokestatic 45, 3) := by decide +kernel
theorem dX7_feed_6 : decode cX7_feed 6 = .ok (.ifCond .ne 10, 3) := by decide +kernel
theorem dX7_feed_9 : decode cX7_feed 9 = .ok (.aload_n 0, 1) := by decide +kernel
theorem dX7_feed_10 : decode cX7_feed 10 = .ok (.ldc 44, 2) := by decide +kernel
theorem dX7_feed_12 : decode cX7_feed 12 = .ok (.invokevirtual 53, 3) := by decide +kernel
theorem dX7_feed_15 : decode cX7_feed 15 = .ok (.ireturn, 1) := by decide +kernel
theorem dX7_feed_16 : decode cX7_feed 16 = .ok (.aload_n 0, 1) := by decide +kernel
theorem dX7_feed_17 : decode cX7_feed 17 = .ok (.getfield 172, 3) := by decide +kernel
theorem dX7_feed_20 : decode cX7_feed 20 = .ok (.iload_n 2, 1) := by decide +kernel
theorem dX7_feed_21 : decode cX7_feed 21 = .ok (.iadd, 1) := by decide +kernel
theorem dX7_feed_22 : decode cX7_feed 22 = .ok (.bipush 120, 2) := by decide +kernel
theorem dX7_feed_24 : decode cX7_feed 24 = .ok (.if_icmp .le 10, 3) := by decide +kernel
theorem dX7_feed_27 : decode cX7_feed 27 = .ok (.aload_n 0, 1) := by decide +kernel
theorem dX7_feed_28 : decode cX7_feed 28 = .ok (.ldc 64, 2) := by decide +kernel
theorem dX7_feed_30 : decode cX7_feed 30 = .ok (.invokevirtual 53, 3) := by decide +kernel
theorem dX7_feed_33 : decode cX7_feed 33 = .ok (.ireturn, 1) := by decide +kernel
theorem dX7_feed_34 : decode cX7_feed 34 = .ok (.iload_n 2, 1) := by decide +kernel
theorem dX7_feed_35 : decode cX7_feed 35 = .ok (.iconst 1, 1) := by decide +kernel
theorem dX7_feed_36 : decode cX7_feed 36 = .ok (.isub, 1) := by decide +kernel
theorem dX7_feed_37 : decode cX7_feed 37 = .ok (.istore_n 3, 1) := by decide +kernel
theorem dX7_feed_38 : decode cX7_feed 38 = .ok (.iload_n 3, 1) := by decide +kernel
theorem dX7_feed_39 : decode cX7_feed 39 = .ok (.ifCond .lt 38, 3) := by decide +kernel
theorem dX7_feed_42 : decode cX7_feed 42 = .ok (.aload_n 0, 1) := by decide +kernel
theorem dX7_feed_43 : decode cX7_feed 43 = .ok (.getfield 22, 3) := by decide +kernel
theorem dX7_feed_46 : decode cX7_feed 46 = .ok (.aload_n 0, 1) := by decide +kernel
theorem dX7_feed_47 : decode cX7_feed 47 = .ok (.getfield 172, 3) := by decide +kernel
theorem dX7_feed_50 : decode cX7_feed 50 = .ok (.iload_n 1, 1) := by decide +kernel
theorem dX7_feed_51 : decode cX7_feed 51 = .ok (.bipush 8, 2) := by decide +kernel
theorem dX7_feed_53 : decode cX7_feed 53 = .ok (.iload_n 3, 1) := by decide +kernel
theorem dX7_feed_54 : decode cX7_feed 54 = .ok (.imul, 1) := by decide +kernel
theorem dX7_feed_55 : decode cX7_feed 55 = .ok (.ishr, 1) := by decide +kernel
theorem dX7_feed_56 : decode cX7_feed 56 = .ok (.sipush 255, 3) := by decide +kernel
theorem dX7_feed_59 : decode cX7_feed 59 = .ok (.iand, 1) := by decide +kernel
theorem dX7_feed_60 : decode cX7_feed 60 = .ok (.iastore, 1) := by decide +kernel
theorem dX7_feed_61 : decode cX7_feed 61 = .ok (.aload_n 0, 1) := by decide +kernel
theorem dX7_feed_62 : decode cX7_feed 62 = .ok (.dup, 1) := by decide +kernel
theorem dX7_feed_63 : decode cX7_feed 63 = .ok (.getfield 172, 3) := by decide +kernel
theorem dX7_feed_66 : decode cX7_feed 66 = .ok (.iconst 1, 1) := by decide +kernel
theorem dX7_feed_67 : decode cX7_feed 67 = .ok (.iadd, 1) := by decide +kernel
theorem dX7_feed_68 : decode cX7_feed 68 = .ok (.putfield 172, 3) := by decide +kernel
theorem dX7_feed_71 : decode cX7_feed 71 = .ok (.iinc 3 (-1), 3) := by decide +kernel
theorem dX7_feed_74 : decode cX7_feed 74 = .ok (.goto (-36), 3) := by decide +kernel
theorem dX7_feed_77 : decode cX7_feed 77 = .ok (.aload_n 0, 1) := by decide +kernel
theorem dX7_feed_78 : decode cX7_feed 78 = .ok (.getfield 172, 3) := by decide +kernel
theorem dX7_feed_81 : decode cX7_feed 81 = .ok (.ireturn, 1) := by decide +kernel
theorem dX7_wipe_0 : decode cX7_wipe 0 = .ok (.aload_n 0, 1) := by decide +kernel
theorem dX7_wipe_1 : decode cX7_wipe 1 = .ok (.getfield 172, 3) := by decide +kernel
theorem dX7_wipe_4 : decode cX7_wipe 4 = .ok (.istore_n 1, 1) := by decide +kernel
theorem dX7_wipe_5 : decode cX7_wipe 5 = .ok (.aload_n 0, 1) := by decide +kernel
theorem dX7_wipe_6 : decode cX7_wipe 6 = .ok (.iconst 0, 1) := by decide +kernel
theorem dX7_wipe_7 : decode cX7_wipe 7 = .ok (.putfield 172, 3) := by decide +kernel
theorem dX7_wipe_10 : decode cX7_wipe 10 = .ok (.iload_n 1, 1) := by decide +kernel
theorem dX7_wipe_11 : decode cX7_wipe 11 = .ok (.ireturn, 1) := by decide +kernel
theorem dX7_byteAt_0 : decode cX7_byteAt 0 = .ok (.iload_n 1, 1) := by decide +kernel
theorem dX7_byteAt_1 : decode cX7_byteAt 1 = .ok (.aload_n 0, 1) := by decide +kernel
theorem dX7_byteAt_2 : decode cX7_byteAt 2 = .ok (.getfield 172, 3) := by decide +kernel
theorem dX7_byteAt_5 : decode cX7_byteAt 5 = .ok (.if_icmp .ge 12, 3) := by decide +kernel
theorem dX7_byteAt_8 : decode cX7_byteAt 8 = .ok (.aload_n 0, 1) := by decide +kernel
theorem dX7_byteAt_9 : decode cX7_byteAt 9 = .ok (.getfield 22, 3) := by decide +kernel
theorem dX7_byteAt_12 : decode cX7_byteAt 12 = .ok (.iload_n 1, 1) := by decide +kernel
theorem dX7_byteAt_13 : decode cX7_byteAt 13 = .ok (.iaload, 1) := by decide +kernel
theorem dX7_byteAt_14 : decode cX7_byteAt 14 = .ok (.goto 4, 3) := by decide +kernel
theorem dX7_byteAt_17 : decode cX7_byteAt 17 = .ok (.iconst (-1), 1) := by decide +kernel
theorem dX7_byteAt_18 : decode cX7_byteAt 18 = .ok (.ireturn, 1) := by decide +kernel
theorem dX7_isLetter_0 : decode cX7_isLetter 0 = .ok (.iload_n 0, 1) := by decide +kernel
theorem dX7_isLetter_1 : decode cX7_isLetter 1 = .ok (.bipush 97, 2) := by decide +kernel
theorem dX7_isLetter_3 : decode cX7_isLetter 3 = .ok (.bipush 122, 2) := by decide +kernel
theorem dX7_isLetter_5 : decode cX7_isLetter 5 = .ok (.invokestatic 45, 3) := by decide +kernel
theorem dX7_isLetter_8 : decode cX7_isLetter 8 = .ok (.ireturn, 1) := by decide +kernel
theorem dX7_isDigit_0 : decode cX7_isDigit 0 = .ok (.iload_n 0, 1) := by decide +kernel
theorem dX7_isDigit_1 : decode cX7_isDigit 1 = .ok (.bipush 48, 2) := by decide +kernel
theorem dX7_isDigit_3 : decode cX7_isDigit 3 = .ok (.bipush 57, 2) := by decide +kernel
theorem dX7_isDigit_5 : decode cX7_isDigit 5 = .ok (.invokestatic 45, 3) := by decide +kernel
theorem dX7_isDigit_8 : decode cX7_isDigit 8 = .ok (.ireturn, 1) := by decide +kernel
theorem dX7_advance_0 : decode cX7_advance 0 = .ok (.aload_n 0, 1) := by decide +kernel
theorem dX7_advance_1 : decode cX7_advance 1 = .ok (.aload_n 0, 1) := by decide +kernel
theorem dX7_advance_2 : decode cX7_advance 2 = .ok (.getfield 175, 3) := by decide +kernel
theorem dX7_advance_5 : decode cX7_advance 5 = .ok (.putfield 178, 3) := by decide +kernel
theorem dX7_advance_8 : decode cX7_advance 8 = .ok (.aload_n 0, 1) := by decide +kernel
theorem dX7_advance_9 : decode cX7_advance 9 = .ok (.aload_n 0, 1) := by decide +kernel
theorem dX7_advance_10 : decode cX7_advance 10 = .ok (.getfield 178, 3) := by decide +kernel
theorem dX7_advance_13 : decode cX7_advance 13 = .ok (.invokevirtual 181, 3) := by decide +kernel
theorem dX7_advance_16 : decode cX7_advance 16 = .ok (.bipush 32, 2) := by decide +kernel
theorem dX7_advance_18 : decode cX7_advance 18 = .ok (.if_icmp .ne 16, 3) := by decide +kernel
theorem dX7_advance_21 : decode cX7_advance 21 = .ok (.aload_n 0, 1) := by decide +kernel
theorem dX7_advance_22 : decode cX7_advance 22 = .ok (.dup, 1) := by decide +kernel
theorem dX7_advance_23 : decode cX7_advance 23 = .ok (.getfield 178, 3) := by decide +kernel
theorem dX7_advance_26 : decode cX7_advance 26 = .ok (.iconst 1, 1) := by decide +kernel
theorem dX7_advance_27 : decode cX7_advance 27 = .ok (.iadd, 1) := by decide +kernel
theorem dX7_advance_28 : decode cX7_advance 28 = .ok (.putfield 178, 3) := by decide +kernel
theorem dX7_advance_31 : decode cX7_advance 31 = .ok (.goto (-23), 3) := by decide +kernel
theorem dX7_advance_34 : decode cX7_advance 34 = .ok (.aload_n 0, 1) := by decide +kernel
theorem dX7_advance_35 : decode cX7_advance 35 = .ok (.aload_n 0, 1) := by decide +kernel
theorem dX7_advance_36 : decode cX7_advance 36 = .ok (.getfield 178, 3) := by decide +kernel
theorem dX7_advance_39 : decode cX7_advance 39 = .ok (.putfield 175, 3) := by decide +kernel
theorem dX7_advance_42 : decode cX7_advance 42 = .ok (.aload_n 0, 1) := by decide +kernel
theorem dX7_advance_43 : decode cX7_advance 43 = .ok (.aload_n 0, 1) := by decide +kernel
theorem dX7_advance_44 : decode cX7_advance 44 = .ok (.getfield 178, 3) := by decide +kernel
theorem dX7_advance_47 : decode cX7_advance 47 = .ok (.invokevirtual 181, 3) := by decide +kernel
theorem dX7_advance_50 : decode cX7_advance 50 = .ok (.istore_n 1, 1) := by decide +kernel
theorem dX7_advance_51 : decode cX7_advance 51 = .ok (.aload_n 0, 1) := by decide +kernel
theorem dX7_advance_52 : decode cX7_advance 52 = .ok (.iload_n 1, 1) := by decide +kernel
theorem dX7_advance_53 : decode cX7_advance 53 = .ok (.ifCond .ge 7, 3) := by decide +kernel
theorem dX7_advance_56 : decode cX7_advance 56 = .ok (.iconst 0, 1) := by decide +kernel
theorem dX7_advance_57 : decode cX7_advance 57 = .ok (.goto 26, 3) := by decide +kernel
theorem dX7_advance_60 : decode cX7_advance 60 = .ok (.iload_n 1, 1) := by decide +kernel
theorem dX7_advance_61 : decode cX7_advance 61 = .ok (.invokestatic 184, 3) := by decide +kernel
theorem dX7_advance_64 : decode cX7_advance 64 = .ok (.ifCond .eq 7, 3) := by decide +kernel
theorem dX7_advance_67 : decode cX7_advance 67 = .ok (.iconst 1, 1) := by decide +kernel
theorem dX7_advance_68 : decode cX7_advance 68 = .ok (.goto 15, 3) := by decide +kernel
theorem dX7_advance_71 : decode cX7_advance 71 = .ok (.iload_n 1, 1) := by decide +kernel
theorem dX7_advance_72 : decode cX7_advance 72 = .ok (.invokestatic 187, 3) := by decide +kernel
theorem dX7_advance_75 : decode cX7_advance 75 = .ok (.ifCond .eq 7, 3) := by decide +kernel
theorem dX7_advance_78 : decode cX7_advance 78 = .ok (.iconst 2, 1) := by decide +kernel
theorem dX7_advance_79 : decode cX7_advance 79 = .ok (.goto 4, 3) := by decide +kernel
theorem dX7_advance_82 : decode cX7_advance 82 = .ok (.iconst 3, 1) := by decide +kernel
theorem dX7_advance_83 : decode cX7_advance 83 = .ok (.putfield 190, 3) := by decide +kernel
theorem dX7_advance_86 : decode cX7_advance 86 = .ok (.aload_n 0, 1) := by decide +kernel
theorem dX7_advance_87 : decode cX7_advance 87 = .ok (.lconst 0, 1) := by decide +kernel
theorem dX7_advance_88 : decode cX7_advance 88 = .ok (.putfield 193, 3) := by decide +kernel
theorem dX7_advance_91 : decode cX7_advance 91 = .ok (.aload_n 0, 1) := by decide +kernel
theorem dX7_advance_92 : decode cX7_advance 92 = .ok (.aload_n 0, 1) := by decide +kernel
theorem dX7_advance_93 : decode cX7_advance 93 = .ok (.getfield 190, 3) := by decide +kernel
theorem dX7_advance_96 : decode cX7_advance 96 = .ok (.iconst 2, 1) := by decide +kernel
theorem dX7_advance_97 : decode cX7_advance 97 = .ok (.if_icmp .ne 7, 3) := by decide +kernel
theorem dX7_advance_100 : decode cX7_advance 100 = .ok (.iconst 0, 1) := by decide +kernel
theorem dX7_advance_101 : decode cX7_advance 101 = .ok (.goto 4, 3) := by decide +kernel
theorem dX7_advance_104 : decode cX7_advance 104 = .ok (.iload_n 1, 1) := by decide +kernel
theorem dX7_advance_105 : decode cX7_advance 105 = .ok (.putfield 197, 3) := by decide +kernel
theorem dX7_advance_108 : decode cX7_advance 108 = .ok (.aload_n 0, 1) := by decide +kernel
theorem dX7_advance_109 : decode cX7_advance 109 = .ok (.getfield 190, 3) := by decide +kernel
theorem dX7_advance_112 : decode cX7_advance 112 = .ok (.iconst 3, 1) := by decide +kernel
theorem dX7_advance_113 : decode cX7_advance 113 = .ok (.if_icmp .ne 13, 3) := by decide +kernel
theorem dX7_advance_116 : decode cX7_advance 116 = .ok (.aload_n 0, 1) := by decide +kernel
theorem dX7_advance_117 : decode cX7_advance 117 = .ok (.dup, 1) := by decide +kernel
theorem dX7_advance_118 : decode cX7_advance 118 = .ok (.getfield 175, 3) := by decide +kernel
theorem dX7_advance_121 : decode cX7_advance 121 = .ok (.iconst 1, 1) := by decide +kernel
theorem dX7_advance_122 : decode cX7_advance 122 = .ok (.iadd, 1) := by decide +kernel
theorem dX7_advance_123 : decode cX7_advance 123 = .ok (.putfield 175, 3) := by decide +kernel
theorem dX7_advance_126 : decode cX7_advance 126 = .ok (.aload_n 0, 1) := by decide +kernel
theorem dX7_advance_127 : decode cX7_advance 127 = .ok (.getfield 190, 3) := by decide +kernel
theorem dX7_advance_130 : decode cX7_advance 130 = .ok (.iconst 1, 1) := by decide +kernel
theorem dX7_advance_131 : decode cX7_advance 131 = .ok (.if_icmp .ne 76, 3) := by decide +kernel
theorem dX7_advance_134 : decode cX7_advance 134 = .ok (.aload_n 0, 1) := by decide +kernel
theorem dX7_advance_135 : decode cX7_advance 135 = .ok (.aload_n 0, 1) := by decide +kernel
theorem dX7_advance_136 : decode cX7_advance 136 = .ok (.getfield 175, 3) := by decide +kernel
theorem dX7_advance_139 : decode cX7_advance 139 = .ok (.invokevirtual 181, 3) := by decide +kernel
theorem dX7_advance_142 : decode cX7_advance 142 = .ok (.invokestatic 184, 3) := by decide +kernel
theorem dX7_advance_145 : decode cX7_advance 145 = .ok (.ifCond .eq 62, 3) := by decide +kernel
theorem dX7_advance_148 : decode cX7_advance 148 = .ok (.aload_n 0, 1) := by decide +kernel
theorem dX7_advance_149 : decode cX7_advance 149 = .ok (.aload_n 0, 1) := by decide +kernel
theorem dX7_advance_150 : decode cX7_advance 150 = .ok (.getfield 175, 3) := by decide +kernel
theorem dX7_advance_153 : decode cX7_advance 153 = .ok (.aload_n 0, 1) := by decide +kernel
theorem dX7_advance_154 : decode cX7_advance 154 = .ok (.getfield 178, 3) := by decide +kernel
theorem dX7_advance_157 : decode cX7_advance 157 = .ok (.isub, 1) := by decide +kernel
theorem dX7_advance_158 : decode cX7_advance 158 = .ok (.bipush 12, 2) := by decide +kernel
theorem dX7_advance_160 : decode cX7_advance 160 = .ok (.if_icmp .ge 28, 3) := by decide +kernel
theorem dX7_advance_163 : decode cX7_advance 163 = .ok (.ldc2_w 200, 3) := by decide +kernel
theorem dX7_advance_166 : decode cX7_advance 166 = .ok (.aload_n 0, 1) := by decide +kernel
theorem dX7_advance_167 : decode cX7_advance 167 = .ok (.getfield 193, 3) := by decide +kernel
theorem dX7_advance_170 : decode cX7_advance 170 = .ok (.lmul, 1) := by decide +kernel
theorem dX7_advance_171 : decode cX7_advance 171 = .ok (.aload_n 0, 1) := by decide +kernel
theorem dX7_advance_172 : decode cX7_advance 172 = .ok (.aload_n 0, 1) := by decide +kernel
theorem dX7_advance_173 : decode cX7_advance 173 = .ok (.getfield 175, 3) := by decide +kernel
theorem dX7_advance_176 : decode cX7_advance 176 = .ok (.invokevirtual 181, 3) := by decide +kernel
theorem dX7_advance_179 : decode cX7_advance 179 = .ok (.i2l, 1) := by decide +kernel
theorem dX7_advance_180 : decode cX7_advance 180 = .ok (.ladd, 1) := by decide +kernel
theorem dX7_advance_181 : decode cX7_advance 181 = .ok (.ldc2_w 202, 3) := by decide +kernel
theorem dX7_advance_184 : decode cX7_advance 184 = .ok (.lsub, 1) := by decide +kernel
theorem dX7_advance_185 : decode cX7_advance 185 = .ok (.goto 6, 3) := by decide +kernel
theorem dX7_advance_188 : decode cX7_advance 188 = .ok (.ldc2_w 204, 3) := by decide +kernel
theorem dX7_advance_191 : decode cX7_advance 191 = .ok (.putfield 193, 3) := by decide +kernel
theorem dX7_advance_194 : decode cX7_advance 194 = .ok (.aload_n 0, 1) := by decide +kernel
theorem dX7_advance_195 : decode cX7_advance 195 = .ok (.dup, 1) := by decide +kernel
theorem dX7_advance_196 : decode cX7_advance 196 = .ok (.getfield 175, 3) := by decide +kernel
theorem dX7_advance_199 : decode cX7_advance 199 = .ok (.iconst 1, 1) := by decide +kernel
theorem dX7_advance_200 : decode cX7_advance 200 = .ok (.iadd, 1) := by decide +kernel
theorem dX7_advance_201 : decode cX7_advance 201 = .ok (.putfield 175, 3) := by decide +kernel
theorem dX7_advance_204 : decode cX7_advance 204 = .ok (.goto (-78), 3) := by decide +kernel
theorem dX7_advance_207 : decode cX7_advance 207 = .ok (.aload_n 0, 1) := by decide +kernel
theorem dX7_advance_208 : decode cX7_advance 208 = .ok (.getfield 190, 3) := by decide +kernel
theorem dX7_advance_211 : decode cX7_advance 211 = .ok (.iconst 2, 1) := by decide +kernel
theorem dX7_advance_212 : decode cX7_advance 212 = .ok (.if_icmp .ne 68, 3) := by decide +kernel
theorem dX7_advance_215 : decode cX7_advance 215 = .ok (.aload_n 0, 1) := by decide +kernel
theorem dX7_advance_216 : decode cX7_advance 216 = .ok (.aload_n 0, 1) := by decide +kernel
theorem dX7_advance_217 : decode cX7_advance 217 = .ok (.getfield 175, 3) := by decide +kernel
theorem dX7_advance_220 : decode cX7_advance 220 = .ok (.invokevirtual 181, 3) := by decide +kernel
theorem dX7_advance_223 : decode cX7_advance 223 = .ok (.invokestatic 187, 3) := by decide +kernel
theorem dX7_advance_226 : decode cX7_advance 226 = .ok (.ifCond .eq 54, 3) := by decide +kernel
theorem dX7_advance_229 : decode cX7_advance 229 = .ok (.aload_n 0, 1) := by decide +kernel
theorem dX7_advance_230 : decode cX7_advance 230 = .ok (.aload_n 0, 1) := by decide +kernel
theorem dX7_advance_231 : decode cX7_advance 231 = .ok (.getfield 197, 3) := by decide +kernel
theorem dX7_advance_234 : decode cX7_advance 234 = .ok (.bipush 99, 2) := by decide +kernel
theorem dX7_advance_236 : decode cX7_advance 236 = .ok (.if_icmp .le 9, 3) := by decide +kernel
theorem dX7_advance_239 : decode cX7_advance 239 = .ok (.sipush 1000, 3) := by decide +kernel
theorem dX7_advance_242 : decode cX7_advance 242 = .ok (.goto 22, 3) := by decide +kernel
theorem dX7_advance_245 : decode cX7_advance 245 = .ok (.bipush 10, 2) := by decide +kernel
theorem dX7_advance_247 : decode cX7_advance 247 = .ok (.aload_n 0, 1) := by decide +kernel
theorem dX7_advance_248 : decode cX7_advance 248 = .ok (.getfield 197, 3) := by decide +kernel
theorem dX7_advance_251 : decode cX7_advance 251 = .ok (.imul, 1) := by decide +kernel
theorem dX7_advance_252 : decode cX7_advance 252 = .ok (.aload_n 0, 1) := by decide +kernel
theorem dX7_advance_253 : decode cX7_advance 253 = .ok (.aload_n 0, 1) := by decide +kernel
theorem dX7_advance_254 : decode cX7_advance 254 = .ok (.getfield 175, 3) := by decide +kernel
theorem dX7_advance_257 : decode cX7_advance 257 = .ok (.invokevirtual 181, 3) := by decide +kernel
theorem dX7_advance_260 : decode cX7_advance 260 = .ok (.iadd, 1) := by decide +kernel
theorem dX7_advance_261 : decode cX7_advance 261 = .ok (.bipush 48, 2) := by decide +kernel
theorem dX7_advance_263 : decode cX7_advance 263 = .ok (.isub, 1) := by decide +kernel
theorem dX7_advance_264 : decode cX7_advance 264 = .ok (.putfield 197, 3) := by decide +kernel
theorem dX7_advance_267 : decode cX7_advance 267 = .ok (.aload_n 0, 1) := by decide +kernel
theorem dX7_advance_268 : decode cX7_advance 268 = .ok (.dup, 1) := by decide +kernel
theorem dX7_advance_269 : decode cX7_advance 269 = .ok (.getfield 175, 3) := by decide +kernel
theorem dX7_advance_272 : decode cX7_advance 272 = .ok (.iconst 1, 1) := by decide +kernel
theorem dX7_advance_273 : decode cX7_advance 273 = .ok (.iadd, 1) := by decide +kernel
theorem dX7_advance_274 : decode cX7_advance 274 = .ok (.putfield 175, 3) := by decide +kernel
theorem dX7_advance_277 : decode cX7_advance 277 = .ok (.goto (-70), 3) := by decide +kernel
theorem dX7_advance_280 : decode cX7_advance 280 = .ok (.return_, 1) := by decide +kernel
theorem dX7_isWord_0 : decode cX7_isWord 0 = .ok (.aload_n 0, 1) := by decide +kernel
theorem dX7_isWord_1 : decode cX7_isWord 1 = .ok (.getfield 190, 3) := by decide +kernel
theorem dX7_isWord_4 : decode cX7_isWord 4 = .ok (.iconst 1, 1) := by decide +kernel
theorem dX7_isWord_5 : decode cX7_isWord 5 = .ok (.if_icmp .ne 16, 3) := by decide +kernel
theorem dX7_isWord_8 : decode cX7_isWord 8 = .ok (.aload_n 0, 1) := by decide +kernel
theorem dX7_isWord_9 : decode cX7_isWord 9 = .ok (.getfield 193, 3) := by decide +kernel
theorem dX7_isWord_12 : decode cX7_isWord 12 = .ok (.lload_n 1, 1) := by decide +kernel
theorem dX7_isWord_13 : decode cX7_isWord 13 = .ok (.lcmp, 1) := by decide +kernel
theorem dX7_isWord_14 : decode cX7_isWord 14 = .ok (.ifCond .ne 7, 3) := by decide +kernel
theorem dX7_isWord_17 : decode cX7_isWord 17 = .ok (.iconst 1, 1) := by decide +kernel
theorem dX7_isWord_18 : decode cX7_isWord 18 = .ok (.goto 4, 3) := by decide +kernel
theorem dX7_isWord_21 : decode cX7_isWord 21 = .ok (.iconst 0, 1) := by decide +kernel
theorem dX7_isWord_22 : decode cX7_isWord 22 = .ok (.ireturn, 1) := by decide +kernel
theorem dX7_kindHere_0 : decode cX7_kindHere 0 = .ok (.aload_n 0, 1) := by decide +kernel
theorem dX7_kindHere_1 : decode cX7_kindHere 1 = .ok (.ldc2_w 206, 3) := by decide +kernel
theorem dX7_kindHere_4 : decode cX7_kindHere 4 = .ok (.invokevirtual 208, 3) := by decide +kernel
theorem dX7_kindHere_7 : decode cX7_kindHere 7 = .ok (.ifCond .eq 7, 3) := by decide +kernel
theorem dX7_kindHere_10 : decode cX7_kindHere 10 = .ok (.iconst 0, 1) := by decide +kernel
theorem dX7_kindHere_11 : decode cX7_kindHere 11 = .ok (.goto 74, 3) := by decide +kernel
theorem dX7_kindHere_14 : decode cX7_kindHere 14 = .ok (.aload_n 0, 1) := by decide +kernel
theorem dX7_kindHere_15 : decode cX7_kindHere 15 = .ok (.ldc2_w 212, 3) := by decide +kernel
theorem dX7_kindHere_18 : decode cX7_kindHere 18 = .ok (.invokevirtual 208, 3) := by decide +kernel
theorem dX7_kindHere_21 : decode cX7_kindHere 21 = .ok (.ifCond .eq 7, 3) := by decide +kernel
theorem dX7_kindHere_24 : decode cX7_kindHere 24 = .ok (.iconst 1, 1) := by decide +kernel
theorem dX7_kindHere_25 : decode cX7_kindHere 25 = .ok (.goto 60, 3) := by decide +kernel
theorem dX7_kindHere_28 : decode cX7_kindHere 28 = .ok (.aload_n 0, 1) := by decide +kernel
theorem dX7_kindHere_29 : decode cX7_kindHere 29 = .ok (.ldc2_w 214, 3) := by decide +kernel
theorem dX7_kindHere_32 : decode cX7_kindHere 32 = .ok (.invokevirtual 208, 3) := by decide +kernel
theorem dX7_kindHere_35 : decode cX7_kindHere 35 = .ok (.ifCond .eq 7, 3) := by decide +kernel
theorem dX7_kindHere_38 : decode cX7_kindHere 38 = .ok (.iconst 2, 1) := by decide +kernel
theorem dX7_kindHere_39 : decode cX7_kindHere 39 = .ok (.goto 46, 3) := by decide +kernel
theorem dX7_kindHere_42 : decode cX7_kindHere 42 = .ok (.aload_n 0, 1) := by decide +kernel
theorem dX7_kindHere_43 : decode cX7_kindHere 43 = .ok (.ldc2_w 216, 3) := by decide +kernel
theorem dX7_kindHere_46 : decode cX7_kindHere 46 = .ok (.invokevirtual 208, 3) := by decide +kernel
theorem dX7_kindHere_49 : decode cX7_kindHere 49 = .ok (.ifCond .eq 7, 3) := by decide +kernel
theorem dX7_kindHere_52 : decode cX7_kindHere 52 = .ok (.iconst 3, 1) := by decide +kernel
theorem dX7_kindHere_53 : decode cX7_kindHere 53 = .ok (.goto 32, 3) := by decide +kernel
theorem dX7_kindHere_56 : decode cX7_kindHere 56 = .ok (.aload_n 0, 1) := by decide +kernel
theorem dX7_kindHere_57 : decode cX7_kindHere 57 = .ok (.ldc2_w 218, 3) := by decide +kernel
theorem dX7_kindHere_60 : decode cX7_kindHere 60 = .ok (.invokevirtual 208, 3) := by decide +kernel
theorem dX7_kindHere_63 : decode cX7_kindHere 63 = .ok (.ifCond .eq 7, 3) := by decide +kernel
theorem dX7_kindHere_66 : decode cX7_kindHere 66 = .ok (.iconst 4, 1) := by decide +kernel
theorem dX7_kindHere_67 : decode cX7_kindHere 67 = .ok (.goto 18, 3) := by decide +kernel
theorem dX7_kindHere_70 : decode cX7_kindHere 70 = .ok (.aload_n 0, 1) := by decide +kernel
theorem dX7_kindHere_71 : decode cX7_kindHere 71 = .ok (.ldc2_w 220, 3) := by decide +kernel
theorem dX7_kindHere_74 : decode cX7_kindHere 74 = .ok (.invokevirtual 208, 3) := by decide +kernel
theorem dX7_kindHere_77 : decode cX7_kindHere 77 = .ok (.ifCond .eq 7, 3) := by decide +kernel
theorem dX7_kindHere_80 : decode cX7_kindHere 80 = .ok (.iconst 5, 1) := by decide +kernel
theorem dX7_kindHere_81 : decode cX7_kindHere 81 = .ok (.goto 4, 3) := by decide +kernel
theorem dX7_kindHere_84 : decode cX7_kindHere 84 = .ok (.iconst (-1), 1) := by decide +kernel
theorem dX7_kindHere_85 : decode cX7_kindHere 85 = .ok (.ireturn, 1) := by decide +kernel
theorem dX7_wantNumber_0 : decode cX7_wantNumber 0 = .ok (.aload_n 0, 1) := by decide +kernel
theorem dX7_wantNumber_1 : decode cX7_wantNumber 1 = .ok (.getfield 197, 3) := by decide +kernel
theorem dX7_wantNumber_4 : decode cX7_wantNumber 4 = .ok (.istore_n 3, 1) := by decide +kernel
theorem dX7_wantNumber_5 : decode cX7_wantNumber 5 = .ok (.aload_n 0, 1) := by decide +kernel
theorem dX7_wantNumber_6 : decode cX7_wantNumber 6 = .ok (.aload_n 0, 1) := by decide +kernel
theorem dX7_wantNumber_7 : decode cX7_wantNumber 7 = .ok (.getfield 222, 3) := by decide +kernel
theorem dX7_wantNumber_10 : decode cX7_wantNumber 10 = .ok (.ifCond .eq 24, 3) := by decide +kernel
theorem dX7_wantNumber_13 : decode cX7_wantNumber 13 = .ok (.aload_n 0, 1) := by decide +kernel
theorem dX7_wantNumber_14 : decode cX7_wantNumber 14 = .ok (.getfield 190, 3) := by decide +kernel
theorem dX7_wantNumber_17 : decode cX7_wantNumber 17 = .ok (.iconst 2, 1) := by decide +kernel
theorem dX7_wantNumber_18 : decode cX7_wantNumber 18 = .ok (.if_icmp .ne 16, 3) := by decide +kernel
theorem dX7_wantNumber_21 : decode cX7_wantNumber 21 = .ok (.iload_n 3, 1) := by decide +kernel
theorem dX7_wantNumber_22 : decode cX7_wantNumber 22 = .ok (.iload_n 1, 1) := by decide +kernel
theorem dX7_wantNumber_23 : decode cX7_wantNumber 23 = .ok (.iload_n 2, 1) := by decide +kernel
theorem dX7_wantNumber_24 : decode cX7_wantNumber 24 = .ok (.invokestatic 45, 3) := by decide +kernel
theorem dX7_wantNumber_27 : decode cX7_wantNumber 27 = .ok (.ifCond .eq 7, 3) := by decide +kernel
theorem dX7_wantNumber_30 : decode cX7_wantNumber 30 = .ok (.iconst 1, 1) := by decide +kernel
theorem dX7_wantNumber_31 : decode cX7_wantNumber 31 = .ok (.goto 4, 3) := by decide +kernel
theorem dX7_wantNumber_34 : decode cX7_wantNumber 34 = .ok (.iconst 0, 1) := by decide +kernel
theorem dX7_wantNumber_35 : decode cX7_wantNumber 35 = .ok (.putfield 222, 3) := by decide +kernel
theorem dX7_wantNumber_38 : decode cX7_wantNumber 38 = .ok (.aload_n 0, 1) := by decide +kernel
theorem dX7_wantNumber_39 : decode cX7_wantNumber 39 = .ok (.getfield 222, 3) := by decide +kernel
theorem dX7_wantNumber_42 : decode cX7_wantNumber 42 = .ok (.ifCond .eq 7, 3) := by decide +kernel
theorem dX7_wantNumber_45 : decode cX7_wantNumber 45 = .ok (.aload_n 0, 1) := by decide +kernel
theorem dX7_wantNumber_46 : decode cX7_wantNumber 46 = .ok (.invokevirtual 226, 3) := by decide +kernel
theorem dX7_wantNumber_49 : decode cX7_wantNumber 49 = .ok (.iload_n 3, 1) := by decide +kernel
theorem dX7_wantNumber_50 : decode cX7_wantNumber 50 = .ok (.ireturn, 1) := by decide +kernel
theorem dX7_mayWant_0 : decode cX7_mayWant 0 = .ok (.aload_n 0, 1) := by decide +kernel
theorem dX7_mayWant_1 : decode cX7_mayWant 1 = .ok (.getfield 222, 3) := by decide +kernel
theorem dX7_mayWant_4 : decode cX7_mayWant 4 = .ok (.ifCond .eq 11, 3) := by decide +kernel
theorem dX7_mayWant_7 : decode cX7_mayWant 7 = .ok (.aload_n 0, 1) := by decide +kernel
theorem dX7_mayWant_8 : decode cX7_mayWant 8 = .ok (.lload_n 1, 1) := by decide +kernel
theorem dX7_mayWant_9 : decode cX7_mayWant 9 = .ok (.invokevirtual 208, 3) := by decide +kernel
theorem dX7_mayWant_12 : decode cX7_mayWant 12 = .ok (.ifCond .ne 6, 3) := by decide +kernel
theorem dX7_mayWant_15 : decode cX7_mayWant 15 = .ok (.iload 5, 2) := by decide +kernel
theorem dX7_mayWant_17 : decode cX7_mayWant 17 = .ok (.ireturn, 1) := by decide +kernel
theorem dX7_mayWant_18 : decode cX7_mayWant 18 = .ok (.aload_n 0, 1) := by decide +kernel
theorem dX7_mayWant_19 : decode cX7_mayWant 19 = .ok (.invokevirtual 226, 3) := by decide +kernel
theorem dX7_mayWant_22 : decode cX7_mayWant 22 = .ok (.aload_n 0, 1) := by decide +kernel
theorem dX7_mayWant_23 : decode cX7_mayWant 23 = .ok (.iload_n 3, 1) := by decide +kernel
theorem dX7_mayWant_24 : decode cX7_mayWant 24 = .ok (.iload 4, 2) := by decide +kernel
theorem dX7_mayWant_26 : decode cX7_mayWant 26 = .ok (.invokevirtual 229, 3) := by decide +kernel
theorem dX7_mayWant_29 : decode cX7_mayWant 29 = .ok (.ireturn, 1) := by decide +kernel
theorem dX7_wantRod_0 : decode cX7_wantRod 0 = .ok (.aload_n 0, 1) := by decide +kernel
theorem dX7_wantRod_1 : decode cX7_wantRod 1 = .ok (.aload_n 0, 1) := by decide +kernel
theorem dX7_wantRod_2 : decode cX7_wantRod 2 = .ok (.getfield 7, 3) := by decide +kernel
theorem dX7_wantRod_5 : decode cX7_wantRod 5 = .ok (.bipush 8, 2) := by decide +kernel
theorem dX7_wantRod_7 : decode cX7_wantRod 7 = .ok (.iaload, 1) := by decide +kernel
theorem dX7_wantRod_8 : decode cX7_wantRod 8 = .ok (.bipush 8, 2) := by decide +kernel
theorem dX7_wantRod_10 : decode cX7_wantRod 10 = .ok (.if_icmp .ge 7, 3) := by decide +kernel
theorem dX7_wantRod_13 : decode cX7_wantRod 13 = .ok (.iconst 1, 1) := by decide +kernel
theorem dX7_wantRod_14 : decode cX7_wantRod 14 = .ok (.goto 4, 3) := by decide +kernel
theorem dX7_wantRod_17 : decode cX7_wantRod 17 = .ok (.iconst 0, 1) := by decide +kernel
theorem dX7_wantRod_18 : decode cX7_wantRod 18 = .ok (.putfield 222, 3) := by decide +kernel
theorem dX7_wantRod_21 : decode cX7_wantRod 21 = .ok (.aload_n 0, 1) := by decide +kernel
theorem dX7_wantRod_22 : decode cX7_wantRod 22 = .ok (.getfield 222, 3) := by decide +kernel
theorem dX7_wantRod_25 : decode cX7_wantRod 25 = .ok (.ifCond .ne 4, 3) := by decide +kernel
theorem dX7_wantRod_28 : decode cX7_wantRod 28 = .ok (.return_, 1) := by decide +kernel
theorem dX7_wantRod_29 : decode cX7_wantRod 29 = .ok (.aload_n 0, 1) := by decide +kernel
theorem dX7_wantRod_30 : decode cX7_wantRod 30 = .ok (.invokevirtual 226, 3) := by decide +kernel
theorem dX7_wantRod_33 : decode cX7_wantRod 33 = .ok (.aload_n 0, 1) := by decide +kernel
theorem dX7_wantRod_34 : decode cX7_wantRod 34 = .ok (.aload_n 0, 1) := by decide +kernel
theorem dX7_wantRod_35 : decode cX7_wantRod 35 = .ok (.ldc2_w 232, 3) := by decide +kernel
theorem dX7_wantRod_38 : decode cX7_wantRod 38 = .ok (.invokevirtual 208, 3) := by decide +kernel
theorem dX7_wantRod_41 : decode cX7_wantRod 41 = .ok (.putfield 222, 3) := by decide +kernel
theorem dX7_wantRod_44 : decode cX7_wantRod 44 = .ok (.aload_n 0, 1) := by decide +kernel
theorem dX7_wantRod_45 : decode cX7_wantRod 45 = .ok (.getfield 222, 3) := by decide +kernel
theorem dX7_wantRod_48 : decode cX7_wantRod 48 = .ok (.ifCond .ne 4, 3) := by decide +kernel
theorem dX7_wantRod_51 : decode cX7_wantRod 51 = .ok (.return_, 1) := by decide +kernel
theorem dX7_wantRod_52 : decode cX7_wantRod 52 = .ok (.aload_n 0, 1) := by decide +kernel
theorem dX7_wantRod_53 : decode cX7_wantRod 53 = .ok (.invokevirtual 226, 3) := by decide +kernel
theorem dX7_wantRod_56 : decode cX7_wantRod 56 = .ok (.aload_n 0, 1) := by decide +kernel
theorem dX7_wantRod_57 : decode cX7_wantRod 57 = .ok (.iconst 0, 1) := by decide +kernel
theorem dX7_wantRod_58 : decode cX7_wantRod 58 = .ok (.bipush 15, 2) := by decide +kernel
theorem dX7_wantRod_60 : decode cX7_wantRod 60 = .ok (.invokevirtual 229, 3) := by decide +kernel
theorem dX7_wantRod_63 : decode cX7_wantRod 63 = .ok (.istore_n 2, 1) := by decide +kernel
theorem dX7_wantRod_64 : decode cX7_wantRod 64 = .ok (.aload_n 0, 1) := by decide +kernel
theorem dX7_wantRod_65 : decode cX7_wantRod 65 = .ok (.ldc2_w 234, 3) := by decide +kernel
theorem dX7_wantRod_68 : decode cX7_wantRod 68 = .ok (.iconst 0, 1) := by decide +kernel
theorem dX7_wantRod_69 : decode cX7_wantRod 69 = .ok (.bipush 60, 2) := by decide +kernel
theorem dX7_wantRod_71 : decode cX7_wantRod 71 = .ok (.bipush 10, 2) := by decide +kernel
theorem dX7_wantRod_73 : decode cX7_wantRod 73 = .ok (.invokevirtual 236, 3) := by decide +kernel
theorem dX7_wantRod_76 : decode cX7_wantRod 76 = .ok (.istore_n 3, 1) := by decide +kernel
theorem dX7_wantRod_77 : decode cX7_wantRod 77 = .ok (.aload_n 0, 1) := by decide +kernel
theorem dX7_wantRod_78 : decode cX7_wantRod 78 = .ok (.getfield 222, 3) := by decide +kernel
theorem dX7_wantRod_81 : decode cX7_wantRod 81 = .ok (.ifCond .eq 17, 3) := by decide +kernel
theorem dX7_wantRod_84 : decode cX7_wantRod 84 = .ok (.aload_n 0, 1) := by decide +kernel
theorem dX7_wantRod_85 : decode cX7_wantRod 85 = .ok (.ldc2_w 240, 3) := by decide +kernel
theorem dX7_wantRod_88 : decode cX7_wantRod 88 = .ok (.invokevirtual 208, 3) := by decide +kernel
theorem dX7_wantRod_91 : decode cX7_wantRod 91 = .ok (.ifCond .eq 7, 3) := by decide +kernel
theorem dX7_wantRod_94 : decode cX7_wantRod 94 = .ok (.iconst 1, 1) := by decide +kernel
theorem dX7_wantRod_95 : decode cX7_wantRod 95 = .ok (.goto 4, 3) := by decide +kernel
theorem dX7_wantRod_98 : decode cX7_wantRod 98 = .ok (.iconst 0, 1) := by decide +kernel
theorem dX7_wantRod_99 : decode cX7_wantRod 99 = .ok (.istore 4, 2) := by decide +kernel
theorem dX7_wantRod_101 : decode cX7_wantRod 101 = .ok (.aload_n 0, 1) := by decide +kernel
theorem dX7_wantRod_102 : decode cX7_wantRod 102 = .ok (.ldc2_w 240, 3) := by decide +kernel
theorem dX7_wantRod_105 : decode cX7_wantRod 105 = .ok (.iconst 0, 1) := by decide +kernel
theorem dX7_wantRod_106 : decode cX7_wantRod 106 = .ok (.bipush 23, 2) := by decide +kernel
theorem dX7_wantRod_108 : decode cX7_wantRod 108 = .ok (.iconst 0, 1) := by decide +kernel
theorem dX7_wantRod_109 : decode cX7_wantRod 109 = .ok (.invokevirtual 236, 3) := by decide +kernel
theorem dX7_wantRod_112 : decode cX7_wantRod 112 = .ok (.istore 5, 2) := by decide +kernel
theorem dX7_wantRod_114 : decode cX7_wantRod 114 = .ok (.iload 4, 2) := by decide +kernel
theorem dX7_wantRod_116 : decode cX7_wantRod 116 = .ok (.ifCond .eq 21, 3) := by decide +kernel
theorem dX7_wantRod_119 : decode cX7_wantRod 119 = .ok (.aload_n 0, 1) := by decide +kernel
theorem dX7_wantRod_120 : decode cX7_wantRod 120 = .ok (.getfield 222, 3) := by decide +kernel
theorem dX7_wantRod_123 : decode cX7_wantRod 123 = .ok (.ifCond .eq 14, 3) := by decide +kernel
theorem dX7_wantRod_126 : decode cX7_wantRod 126 = .ok (.aload_n 0, 1) := by decide +kernel
theorem dX7_wantRod_127 : decode cX7_wantRod 127 = .ok (.aload_n 0, 1) := by decide +kernel
theorem dX7_wantRod_128 : decode cX7_wantRod 128 = .ok (.ldc2_w 242, 3) := by decide +kernel
theorem dX7_wantRod_131 : decode cX7_wantRod 131 = .ok (.invokevirtual 208, 3) := by decide +kernel
theorem dX7_wantRod_134 : decode cX7_wantRod 134 = .ok (.putfield 222, 3) := by decide +kernel
theorem dX7_wantRod_137 : decode cX7_wantRod 137 = .ok (.iload 4, 2) := by decide +kernel
theorem dX7_wantRod_139 : decode cX7_wantRod 139 = .ok (.ifCond .eq 17, 3) := by decide +kernel
theorem dX7_wantRod_142 : decode cX7_wantRod 142 = .ok (.aload_n 0, 1) := by decide +kernel
theorem dX7_wantRod_143 : decode cX7_wantRod 143 = .ok (.ldc2_w 242, 3) := by decide +kernel
theorem dX7_wantRod_146 : decode cX7_wantRod 146 = .ok (.iconst 0, 1) := by decide +kernel
theorem dX7_wantRod_147 : decode cX7_wantRod 147 = .ok (.bipush 23, 2) := by decide +kernel
theorem dX7_wantRod_149 : decode cX7_wantRod 149 = .ok (.iconst 0, 1) := by decide +kernel
theorem dX7_wantRod_150 : decode cX7_wantRod 150 = .ok (.invokevirtual 236, 3) := by decide +kernel
theorem dX7_wantRod_153 : decode cX7_wantRod 153 = .ok (.goto 4, 3) := by decide +kernel
theorem dX7_wantRod_156 : decode cX7_wantRod 156 = .ok (.iconst 0, 1) := by decide +kernel
theorem dX7_wantRod_157 : decode cX7_wantRod 157 = .ok (.istore 6, 2) := by decide +kernel
theorem dX7_wantRod_159 : decode cX7_wantRod 159 = .ok (.aload_n 0, 1) := by decide +kernel
theorem dX7_wantRod_160 : decode cX7_wantRod 160 = .ok (.getfield 222, 3) := by decide +kernel
theorem dX7_wantRod_163 : decode cX7_wantRod 163 = .ok (.ifCond .eq 14, 3) := by decide +kernel
theorem dX7_wantRod_166 : decode cX7_wantRod 166 = .ok (.aload_n 0, 1) := by decide +kernel
theorem dX7_wantRod_167 : decode cX7_wantRod 167 = .ok (.iload_n 1, 1) := by decide +kernel
theorem dX7_wantRod_168 : decode cX7_wantRod 168 = .ok (.iload_n 2, 1) := by decide +kernel
theorem dX7_wantRod_169 : decode cX7_wantRod 169 = .ok (.iload_n 3, 1) := by decide +kernel
theorem dX7_wantRod_170 : decode cX7_wantRod 170 = .ok (.iload 5, 2) := by decide +kernel
theorem dX7_wantRod_172 : decode cX7_wantRod 172 = .ok (.iload 6, 2) := by decide +kernel
theorem dX7_wantRod_174 : decode cX7_wantRod 174 = .ok (.invokevirtual 65, 3) := by decide +kernel
theorem dX7_wantRod_177 : decode cX7_wantRod 177 = .ok (.return_, 1) := by decide +kernel
theorem dX7_wantCloud_0 : decode cX7_wantCloud 0 = .ok (.aload_n 0, 1) := by decide +kernel
theorem dX7_wantCloud_1 : decode cX7_wantCloud 1 = .ok (.invokevirtual 226, 3) := by decide +kernel
theorem dX7_wantCloud_4 : decode cX7_wantCloud 4 = .ok (.aload_n 0, 1) := by decide +kernel
theorem dX7_wantCloud_5 : decode cX7_wantCloud 5 = .ok (.iconst 0, 1) := by decide +kernel
theorem dX7_wantCloud_6 : decode cX7_wantCloud 6 = .ok (.bipush 15, 2) := by decide +kernel
theorem dX7_wantCloud_8 : decode cX7_wantCloud 8 = .ok (.invokevirtual 229, 3) := by decide +kernel
theorem dX7_wantCloud_11 : decode cX7_wantCloud 11 = .ok (.istore_n 1, 1) := by decide +kernel
theorem dX7_wantCloud_12 : decode cX7_wantCloud 12 = .ok (.aload_n 0, 1) := by decide +kernel
theorem dX7_wantCloud_13 : decode cX7_wantCloud 13 = .ok (.ldc2_w 244, 3) := by decide +kernel
theorem dX7_wantCloud_16 : decode cX7_wantCloud 16 = .ok (.iconst 0, 1) := by decide +kernel
theorem dX7_wantCloud_17 : decode cX7_wantCloud 17 = .ok (.bipush 99, 2) := by decide +kernel
theorem dX7_wantCloud_19 : decode cX7_wantCloud 19 = .ok (.aload_n 0, 1) := by decide +kernel
theorem dX7_wantCloud_20 : decode cX7_wantCloud 20 = .ok (.getfield 7, 3) := by decide +kernel
theorem dX7_wantCloud_23 : decode cX7_wantCloud 23 = .ok (.iconst 1, 1) := by decide +kernel
theorem dX7_wantCloud_24 : decode cX7_wantCloud 24 = .ok (.iaload, 1) := by decide +kernel
theorem dX7_wantCloud_25 : decode cX7_wantCloud 25 = .ok (.invokevirtual 236, 3) := by decide +kernel
theorem dX7_wantCloud_28 : decode cX7_wantCloud 28 = .ok (.istore_n 2, 1) := by decide +kernel
theorem dX7_wantCloud_29 : decode cX7_wantCloud 29 = .ok (.aload_n 0, 1) := by decide +kernel
theorem dX7_wantCloud_30 : decode cX7_wantCloud 30 = .ok (.getfield 222, 3) := by decide +kernel
theorem dX7_wantCloud_33 : decode cX7_wantCloud 33 = .ok (.ifCond .eq 37, 3) := by decide +kernel
theorem dX7_wantCloud_36 : decode cX7_wantCloud 36 = .ok (.aload_n 0, 1) := by decide +kernel
theorem dX7_wantCloud_37 : decode cX7_wantCloud 37 = .ok (.ldc2_w 246, 3) := by decide +kernel
theorem dX7_wantCloud_40 : decode cX7_wantCloud 40 = .ok (.invokevirtual 208, 3) := by decide +kernel
theorem dX7_wantCloud_43 : decode cX7_wantCloud 43 = .ok (.ifCond .ne 23, 3) := by decide +kernel
theorem dX7_wantCloud_46 : decode cX7_wantCloud 46 = .ok (.aload_n 0, 1) := by decide +kernel
theorem dX7_wantCloud_47 : decode cX7_wantCloud 47 = .ok (.ldc2_w 248, 3) := by decide +kernel
theorem dX7_wantCloud_50 : decode cX7_wantCloud 50 = .ok (.invokevirtual 208, 3) := by decide +kernel
theorem dX7_wantCloud_53 : decode cX7_wantCloud 53 = .ok (.ifCond .ne 13, 3) := by decide +kernel
theorem dX7_wantCloud_56 : decode cX7_wantCloud 56 = .ok (.aload_n 0, 1) := by decide +kernel
theorem dX7_wantCloud_57 : decode cX7_wantCloud 57 = .ok (.ldc2_w 250, 3) := by decide +kernel
theorem dX7_wantCloud_60 : decode cX7_wantCloud 60 = .ok (.invokevirtual 208, 3) := by decide +kernel
theorem dX7_wantCloud_63 : decode cX7_wantCloud 63 = .ok (.ifCond .eq 7, 3) := by decide +kernel
theorem dX7_wantCloud_66 : decode cX7_wantCloud 66 = .ok (.iconst 1, 1) := by decide +kernel
theorem dX7_wantCloud_67 : decode cX7_wantCloud 67 = .ok (.goto 4, 3) := by decide +kernel
theorem dX7_wantCloud_70 : decode cX7_wantCloud 70 = .ok (.iconst 0, 1) := by decide +kernel
theorem dX7_wantCloud_71 : decode cX7_wantCloud 71 = .ok (.istore_n 3, 1) := by decide +kernel
theorem dX7_wantCloud_72 : decode cX7_wantCloud 72 = .ok (.iload_n 3, 1) := by decide +kernel
theorem dX7_wantCloud_73 : decode cX7_wantCloud 73 = .ok (.ifCond .ne 12, 3) := by decide +kernel
theorem dX7_wantCloud_76 : decode cX7_wantCloud 76 = .ok (.aload_n 0, 1) := by decide +kernel
theorem dX7_wantCloud_77 : decode cX7_wantCloud 77 = .ok (.getfield 7, 3) := by decide +kernel
theorem dX7_wantCloud_80 : decode cX7_wantCloud 80 = .ok (.iconst 2, 1) := by decide +kernel
theorem dX7_wantCloud_81 : decode cX7_wantCloud 81 = .ok (.iaload, 1) := by decide +kernel
theorem dX7_wantCloud_82 : decode cX7_wantCloud 82 = .ok (.goto 32, 3) := by decide +kernel
theorem dX7_wantCloud_85 : decode cX7_wantCloud 85 = .ok (.aload_n 0, 1) := by decide +kernel
theorem dX7_wantCloud_86 : decode cX7_wantCloud 86 = .ok (.ldc2_w 246, 3) := by decide +kernel
theorem dX7_wantCloud_89 : decode cX7_wantCloud 89 = .ok (.invokevirtual 208, 3) := by decide +kernel
theorem dX7_wantCloud_92 : decode cX7_wantCloud 92 = .ok (.ifCond .eq 7, 3) := by decide +kernel
theorem dX7_wantCloud_95 : decode cX7_wantCloud 95 = .ok (.iconst (-1), 1) := by decide +kernel
theorem dX7_wantCloud_96 : decode cX7_wantCloud 96 = .ok (.goto 18, 3) := by decide +kernel
theorem dX7_wantCloud_99 : decode cX7_wantCloud 99 = .ok (.aload_n 0, 1) := by decide +kernel
theorem dX7_wantCloud_100 : decode cX7_wantCloud 100 = .ok (.ldc2_w 248, 3) := by decide +kernel
theorem dX7_wantCloud_103 : decode cX7_wantCloud 103 = .ok (.invokevirtual 208, 3) := by decide +kernel
theorem dX7_wantCloud_106 : decode cX7_wantCloud 106 = .ok (.ifCond .eq 7, 3) := by decide +kernel
theorem dX7_wantCloud_109 : decode cX7_wantCloud 109 = .ok (.iconst 1, 1) := by decide +kernel
theorem dX7_wantCloud_110 : decode cX7_wantCloud 110 = .ok (.goto 4, 3) := by decide +kernel
theorem dX7_wantCloud_113 : decode cX7_wantCloud 113 = .ok (.iconst 0, 1) := by decide +kernel
theorem dX7_wantCloud_114 : decode cX7_wantCloud 114 = .ok (.istore 4, 2) := by decide +kernel
theorem dX7_wantCloud_116 : decode cX7_wantCloud 116 = .ok (.iload_n 3, 1) := by decide +kernel
theorem dX7_wantCloud_117 : decode cX7_wantCloud 117 = .ok (.ifCond .eq 7, 3) := by decide +kernel
theorem dX7_wantCloud_120 : decode cX7_wantCloud 120 = .ok (.aload_n 0, 1) := by decide +kernel
theorem dX7_wantCloud_121 : decode cX7_wantCloud 121 = .ok (.invokevirtual 226, 3) := by decide +kernel
theorem dX7_wantCloud_124 : decode cX7_wantCloud 124 = .ok (.aload_n 0, 1) := by decide +kernel
theorem dX7_wantCloud_125 : decode cX7_wantCloud 125 = .ok (.getfield 222, 3) := by decide +kernel
theorem dX7_wantCloud_128 : decode cX7_wantCloud 128 = .ok (.ifCond .eq 25, 3) := by decide +kernel
theorem dX7_wantCloud_131 : decode cX7_wantCloud 131 = .ok (.aload_n 0, 1) := by decide +kernel
theorem dX7_wantCloud_132 : decode cX7_wantCloud 132 = .ok (.getfield 7, 3) := by decide +kernel
theorem dX7_wantCloud_135 : decode cX7_wantCloud 135 = .ok (.iconst 0, 1) := by decide +kernel
theorem dX7_wantCloud_136 : decode cX7_wantCloud 136 = .ok (.iload_n 1, 1) := by decide +kernel
theorem dX7_wantCloud_137 : decode cX7_wantCloud 137 = .ok (.iastore, 1) := by decide +kernel
theorem dX7_wantCloud_138 : decode cX7_wantCloud 138 = .ok (.aload_n 0, 1) := by decide +kernel
theorem dX7_wantCloud_139 : decode cX7_wantCloud 139 = .ok (.getfield 7, 3) := by decide +kernel
theorem dX7_wantCloud_142 : decode cX7_wantCloud 142 = .ok (.iconst 1, 1) := by decide +kernel
theorem dX7_wantCloud_143 : decode cX7_wantCloud 143 = .ok (.iload_n 2, 1) := by decide +kernel
theorem dX7_wantCloud_144 : decode cX7_wantCloud 144 = .ok (.iastore, 1) := by decide +kernel
theorem dX7_wantCloud_145 : decode cX7_wantCloud 145 = .ok (.aload_n 0, 1) := by decide +kernel
theorem dX7_wantCloud_146 : decode cX7_wantCloud 146 = .ok (.getfield 7, 3) := by decide +kernel
theorem dX7_wantCloud_149 : decode cX7_wantCloud 149 = .ok (.iconst 2, 1) := by decide +kernel
theorem dX7_wantCloud_150 : decode cX7_wantCloud 150 = .ok (.iload 4, 2) := by decide +kernel
theorem dX7_wantCloud_152 : decode cX7_wantCloud 152 = .ok (.iastore, 1) := by decide +kernel
theorem dX7_wantCloud_153 : decode cX7_wantCloud 153 = .ok (.return_, 1) := by decide +kernel
theorem dX7_wantRule_0 : decode cX7_wantRule 0 = .ok (.aload_n 0, 1) := by decide +kernel
theorem dX7_wantRule_1 : decode cX7_wantRule 1 = .ok (.invokevirtual 226, 3) := by decide +kernel
theorem dX7_wantRule_4 : decode cX7_wantRule 4 = .ok (.aload_n 0, 1) := by decide +kernel
theorem dX7_wantRule_5 : decode cX7_wantRule 5 = .ok (.iload_n 2, 1) := by decide +kernel
theorem dX7_wantRule_6 : decode cX7_wantRule 6 = .ok (.iload_n 3, 1) := by decide +kernel
theorem dX7_wantRule_7 : decode cX7_wantRule 7 = .ok (.invokevirtual 229, 3) := by decide +kernel
theorem dX7_wantRule_10 : decode cX7_wantRule 10 = .ok (.istore 4, 2) := by decide +kernel
theorem dX7_wantRule_12 : decode cX7_wantRule 12 = .ok (.aload_n 0, 1) := by decide +kernel
theorem dX7_wantRule_13 : decode cX7_wantRule 13 = .ok (.getfield 222, 3) := by decide +kernel
theorem dX7_wantRule_16 : decode cX7_wantRule 16 = .ok (.ifCond .eq 11, 3) := by decide +kernel
theorem dX7_wantRule_19 : decode cX7_wantRule 19 = .ok (.aload_n 0, 1) := by decide +kernel
theorem dX7_wantRule_20 : decode cX7_wantRule 20 = .ok (.getfield 7, 3) := by decide +kernel
theorem dX7_wantRule_23 : decode cX7_wantRule 23 = .ok (.iload_n 1, 1) := by decide +kernel
theorem dX7_wantRule_24 : decode cX7_wantRule 24 = .ok (.iload 4, 2) := by decide +kernel
theorem dX7_wantRule_26 : decode cX7_wantRule 26 = .ok (.iastore, 1) := by decide +kernel
theorem dX7_wantRule_27 : decode cX7_wantRule 27 = .ok (.return_, 1) := by decide +kernel
theorem dX7_wantItem_0 : decode cX7_wantItem 0 = .ok (.aload_n 0, 1) := by decide +kernel
theorem dX7_wantItem_1 : decode cX7_wantItem 1 = .ok (.invokevirtual 252, 3) := by decide +kernel
theorem dX7_wantItem_4 : decode cX7_wantItem 4 = .ok (.ifCond .lt 14, 3) := by decide +kernel
theorem dX7_wantItem_7 : decode cX7_wantItem 7 = .ok (.aload_n 0, 1) := by decide +kernel
theorem dX7_wantItem_8 : decode cX7_wantItem 8 = .ok (.aload_n 0, 1) := by decide +kernel
theorem dX7_wantItem_9 : decode cX7_wantItem 9 = .ok (.invokevirtual 252, 3) := by decide +kernel
theorem dX7_wantItem_12 : decode cX7_wantItem 12 = .ok (.invokevirtual 255, 3) := by decide +kernel
theorem dX7_wantItem_15 : decode cX7_wantItem 15 = .ok (.goto 68, 3) := by decide +kernel
theorem dX7_wantItem_18 : decode cX7_wantItem 18 = .ok (.aload_n 0, 1) := by decide +kernel
theorem dX7_wantItem_19 : decode cX7_wantItem 19 = .ok (.ldc2_w 258, 3) := by decide +kernel
theorem dX7_wantItem_22 : decode cX7_wantItem 22 = .ok (.invokevirtual 208, 3) := by decide +kernel
theorem dX7_wantItem_25 : decode cX7_wantItem 25 = .ok (.ifCond .eq 10, 3) := by decide +kernel
theorem dX7_wantItem_28 : decode cX7_wantItem 28 = .ok (.aload_n 0, 1) := by decide +kernel
theorem dX7_wantItem_29 : decode cX7_wantItem 29 = .ok (.invokevirtual 260, 3) := by decide +kernel
theorem dX7_wantItem_32 : decode cX7_wantItem 32 = .ok (.goto 51, 3) := by decide +kernel
theorem dX7_wantItem_35 : decode cX7_wantItem 35 = .ok (.aload_n 0, 1) := by decide +kernel
theorem dX7_wantItem_36 : decode cX7_wantItem 36 = .ok (.ldc2_w 263, 3) := by decide +kernel
theorem dX7_wantItem_39 : decode cX7_wantItem 39 = .ok (.invokevirtual 208, 3) := by decide +kernel
theorem dX7_wantItem_42 : decode cX7_wantItem 42 = .ok (.ifCond .eq 14, 3) := by decide +kernel
theorem dX7_wantItem_45 : decode cX7_wantItem 45 = .ok (.aload_n 0, 1) := by decide +kernel
theorem dX7_wantItem_46 : decode cX7_wantItem 46 = .ok (.iconst 3, 1) := by decide +kernel
theorem dX7_wantItem_47 : decode cX7_wantItem 47 = .ok (.iconst 0, 1) := by decide +kernel
theorem dX7_wantItem_48 : decode cX7_wantItem 48 = .ok (.bipush 50, 2) := by decide +kernel
theorem dX7_wantItem_50 : decode cX7_wantItem 50 = .ok (.invokevirtual 265, 3) := by decide +kernel
theorem dX7_wantItem_53 : decode cX7_wantItem 53 = .ok (.goto 30, 3) := by decide +kernel
theorem dX7_wantItem_56 : decode cX7_wantItem 56 = .ok (.aload_n 0, 1) := by decide +kernel
theorem dX7_wantItem_57 : decode cX7_wantItem 57 = .ok (.ldc2_w 268, 3) := by decide +kernel
theorem dX7_wantItem_60 : decode cX7_wantItem 60 = .ok (.invokevirtual 208, 3) := by decide +kernel
theorem dX7_wantItem_63 : decode cX7_wantItem 63 = .ok (.ifCond .eq 15, 3) := by decide +kernel
theorem dX7_wantItem_66 : decode cX7_wantItem 66 = .ok (.aload_n 0, 1) := by decide +kernel
theorem dX7_wantItem_67 : decode cX7_wantItem 67 = .ok (.iconst 4, 1) := by decide +kernel
theorem dX7_wantItem_68 : decode cX7_wantItem 68 = .ok (.bipush 20, 2) := by decide +kernel
theorem dX7_wantItem_70 : decode cX7_wantItem 70 = .ok (.bipush 99, 2) := by decide +kernel
theorem dX7_wantItem_72 : decode cX7_wantItem 72 = .ok (.invokevirtual 265, 3) := by decide +kernel
theorem dX7_wantItem_75 : decode cX7_wantItem 75 = .ok (.goto 8, 3) := by decide +kernel
theorem dX7_wantItem_78 : decode cX7_wantItem 78 = .ok (.aload_n 0, 1) := by decide +kernel
theorem dX7_wantItem_79 : decode cX7_wantItem 79 = .ok (.iconst 0, 1) := by decide +kernel
theorem dX7_wantItem_80 : decode cX7_wantItem 80 = .ok (.putfield 222, 3) := by decide +kernel
theorem dX7_wantItem_83 : decode cX7_wantItem 83 = .ok (.return_, 1) := by decide +kernel
theorem dX7_plain_0 : decode cX7_plain 0 = .ok (.aload_n 0, 1) := by decide +kernel
theorem dX7_plain_1 : decode cX7_plain 1 = .ok (.iconst 1, 1) := by decide +kernel
theorem dX7_plain_2 : decode cX7_plain 2 = .ok (.aload_n 0, 1) := by decide +kernel
theorem dX7_plain_3 : decode cX7_plain 3 = .ok (.getfield 41, 3) := by decide +kernel
theorem dX7_plain_6 : decode cX7_plain 6 = .ok (.invokevirtual 126, 3) := by decide +kernel
theorem dX7_plain_9 : decode cX7_plain 9 = .ok (.aload_n 0, 1) := by decide +kernel
theorem dX7_plain_10 : decode cX7_plain 10 = .ok (.iconst 0, 1) := by decide +kernel
theorem dX7_plain_11 : decode cX7_plain 11 = .ok (.putfield 175, 3) := by decide +kernel
theorem dX7_plain_14 : decode cX7_plain 14 = .ok (.aload_n 0, 1) := by decide +kernel
theorem dX7_plain_15 : decode cX7_plain 15 = .ok (.iconst 1, 1) := by decide +kernel
theorem dX7_plain_16 : decode cX7_plain 16 = .ok (.putfield 222, 3) := by decide +kernel
theorem dX7_plain_19 : decode cX7_plain 19 = .ok (.iconst 0, 1) := by decide +kernel
theorem dX7_plain_20 : decode cX7_plain 20 = .ok (.istore_n 1, 1) := by decide +kernel
theorem dX7_plain_21 : decode cX7_plain 21 = .ok (.iconst 1, 1) := by decide +kernel
theorem dX7_plain_22 : decode cX7_plain 22 = .ok (.istore_n 2, 1) := by decide +kernel
theorem dX7_plain_23 : decode cX7_plain 23 = .ok (.iload_n 2, 1) := by decide +kernel
theorem dX7_plain_24 : decode cX7_plain 24 = .ok (.ifCond .eq 47, 3) := by decide +kernel
theorem dX7_plain_27 : decode cX7_plain 27 = .ok (.aload_n 0, 1) := by decide +kernel
theorem dX7_plain_28 : decode cX7_plain 28 = .ok (.invokevirtual 226, 3) := by decide +kernel
theorem dX7_plain_31 : decode cX7_plain 31 = .ok (.aload_n 0, 1) := by decide +kernel
theorem dX7_plain_32 : decode cX7_plain 32 = .ok (.invokevirtual 270, 3) := by decide +kernel
theorem dX7_plain_35 : decode cX7_plain 35 = .ok (.iinc 1 1, 3) := by decide +kernel
theorem dX7_plain_38 : decode cX7_plain 38 = .ok (.aload_n 0, 1) := by decide +kernel
theorem dX7_plain_39 : decode cX7_plain 39 = .ok (.getfield 222, 3) := by decide +kernel
theorem dX7_plain_42 : decode cX7_plain 42 = .ok (.ifCond .eq 24, 3) := by decide +kernel
theorem dX7_plain_45 : decode cX7_plain 45 = .ok (.aload_n 0, 1) := by decide +kernel
theorem dX7_plain_46 : decode cX7_plain 46 = .ok (.getfield 190, 3) := by decide +kernel
theorem dX7_plain_49 : decode cX7_plain 49 = .ok (.iconst 3, 1) := by decide +kernel
theorem dX7_plain_50 : decode cX7_plain 50 = .ok (.if_icmp .ne 16, 3) := by decide +kernel
theorem dX7_plain_53 : decode cX7_plain 53 = .ok (.aload_n 0, 1) := by decide +kernel
theorem dX7_plain_54 : decode cX7_plain 54 = .ok (.getfield 197, 3) := by decide +kernel
theorem dX7_plain_57 : decode cX7_plain 57 = .ok (.bipush 59, 2) := by decide +kernel
theorem dX7_plain_59 : decode cX7_plain 59 = .ok (.if_icmp .ne 7, 3) := by decide +kernel
theorem dX7_plain_62 : decode cX7_plain 62 = .ok (.iconst 1, 1) := by decide +kernel
theorem dX7_plain_63 : decode cX7_plain 63 = .ok (.goto 4, 3) := by decide +kernel
theorem dX7_plain_66 : decode cX7_plain 66 = .ok (.iconst 0, 1) := by decide +kernel
theorem dX7_plain_67 : decode cX7_plain 67 = .ok (.istore_n 2, 1) := by decide +kernel
theorem dX7_plain_68 : decode cX7_plain 68 = .ok (.goto (-45), 3) := by decide +kernel
theorem dX7_plain_71 : decode cX7_plain 71 = .ok (.aload_n 0, 1) := by decide +kernel
theorem dX7_plain_72 : decode cX7_plain 72 = .ok (.aload_n 0, 1) := by decide +kernel
theorem dX7_plain_73 : decode cX7_plain 73 = .ok (.getfield 222, 3) := by decide +kernel
theorem dX7_plain_76 : decode cX7_plain 76 = .ok (.ifCond .eq 14, 3) := by decide +kernel
theorem dX7_plain_79 : decode cX7_plain 79 = .ok (.aload_n 0, 1) := by decide +kernel
theorem dX7_plain_80 : decode cX7_plain 80 = .ok (.getfield 190, 3) := by decide +kernel
theorem dX7_plain_83 : decode cX7_plain 83 = .ok (.ifCond .ne 7, 3) := by decide +kernel
theorem dX7_plain_86 : decode cX7_plain 86 = .ok (.iconst 1, 1) := by decide +kernel
theorem dX7_plain_87 : decode cX7_plain 87 = .ok (.goto 4, 3) := by decide +kernel
theorem dX7_plain_90 : decode cX7_plain 90 = .ok (.iconst 0, 1) := by decide +kernel
theorem dX7_plain_91 : decode cX7_plain 91 = .ok (.putfield 222, 3) := by decide +kernel
theorem dX7_plain_94 : decode cX7_plain 94 = .ok (.aload_n 0, 1) := by decide +kernel
theorem dX7_plain_95 : decode cX7_plain 95 = .ok (.iconst 0, 1) := by decide +kernel
theorem dX7_plain_96 : decode cX7_plain 96 = .ok (.putfield 172, 3) := by decide +kernel
theorem dX7_plain_99 : decode cX7_plain 99 = .ok (.aload_n 0, 1) := by decide +kernel
theorem dX7_plain_100 : decode cX7_plain 100 = .ok (.getfield 222, 3) := by decide +kernel
theorem dX7_plain_103 : decode cX7_plain 103 = .ok (.ifCond .ne 19, 3) := by decide +kernel
theorem dX7_plain_106 : decode cX7_plain 106 = .ok (.aload_n 0, 1) := by decide +kernel
theorem dX7_plain_107 : decode cX7_plain 107 = .ok (.iconst 0, 1) := by decide +kernel
theorem dX7_plain_108 : decode cX7_plain 108 = .ok (.aload_n 0, 1) := by decide +kernel
theorem dX7_plain_109 : decode cX7_plain 109 = .ok (.getfield 41, 3) := by decide +kernel
theorem dX7_plain_112 : decode cX7_plain 112 = .ok (.invokevirtual 126, 3) := by decide +kernel
theorem dX7_plain_115 : decode cX7_plain 115 = .ok (.iconst (-1), 1) := by decide +kernel
theorem dX7_plain_116 : decode cX7_plain 116 = .ok (.aload_n 0, 1) := by decide +kernel
theorem dX7_plain_117 : decode cX7_plain 117 = .ok (.getfield 178, 3) := by decide +kernel
theorem dX7_plain_120 : decode cX7_plain 120 = .ok (.isub, 1) := by decide +kernel
theorem dX7_plain_121 : decode cX7_plain 121 = .ok (.ireturn, 1) := by decide +kernel
theorem dX7_plain_122 : decode cX7_plain 122 = .ok (.iload_n 1, 1) := by decide +kernel
theorem dX7_plain_123 : decode cX7_plain 123 = .ok (.ireturn, 1) := by decide +kernel
theorem dX7_isSheet_0 : decode cX7_isSheet 0 = .ok (.iload_n 0, 1) := by decide +kernel
theorem dX7_isSheet_1 : decode cX7_isSheet 1 = .ok (.iconst 0, 1) := by decide +kernel
theorem dX7_isSheet_2 : decode cX7_isSheet 2 = .ok (.iconst 3, 1) := by decide +kernel
theorem dX7_isSheet_3 : decode cX7_isSheet 3 = .ok (.invokestatic 45, 3) := by decide +kernel
theorem dX7_isSheet_6 : decode cX7_isSheet 6 = .ok (.ireturn, 1) := by decide +kernel
theorem dX7_narrow_0 : decode cX7_narrow 0 = .ok (.iload_n 0, 1) := by decide +kernel
theorem dX7_narrow_1 : decode cX7_narrow 1 = .ok (.bipush 8, 2) := by decide +kernel
theorem dX7_narrow_3 : decode cX7_narrow 3 = .ok (.if_icmp .ne 13, 3) := by decide +kernel
theorem dX7_narrow_6 : decode cX7_narrow 6 = .ok (.lload_n 1, 1) := by decide +kernel
theorem dX7_narrow_7 : decode cX7_narrow 7 = .ok (.bipush 56, 2) := by decide +kernel
theorem dX7_narrow_9 : decode cX7_narrow 9 = .ok (.lshl, 1) := by decide +kernel
theorem dX7_narrow_10 : decode cX7_narrow 10 = .ok (.bipush 56, 2) := by decide +kernel
theorem dX7_narrow_12 : decode cX7_narrow 12 = .ok (.lshr, 1) := by decide +kernel
theorem dX7_narrow_13 : decode cX7_narrow 13 = .ok (.goto 20, 3) := by decide +kernel
theorem dX7_narrow_16 : decode cX7_narrow 16 = .ok (.iload_n 0, 1) := by decide +kernel
theorem dX7_narrow_17 : decode cX7_narrow 17 = .ok (.bipush 16, 2) := by decide +kernel
theorem dX7_narrow_19 : decode cX7_narrow 19 = .ok (.if_icmp .ne 13, 3) := by decide +kernel
theorem dX7_narrow_22 : decode cX7_narrow 22 = .ok (.lload_n 1, 1) := by decide +kernel
theorem dX7_narrow_23 : decode cX7_narrow 23 = .ok (.bipush 48, 2) := by decide +kernel
theorem dX7_narrow_25 : decode cX7_narrow 25 = .ok (.lshl, 1) := by decide +kernel
theorem dX7_narrow_26 : decode cX7_narrow 26 = .ok (.bipush 48, 2) := by decide +kernel
theorem dX7_narrow_28 : decode cX7_narrow 28 = .ok (.lshr, 1) := by decide +kernel
theorem dX7_narrow_29 : decode cX7_narrow 29 = .ok (.goto 4, 3) := by decide +kernel
theorem dX7_narrow_32 : decode cX7_narrow 32 = .ok (.lload_n 1, 1) := by decide +kernel
theorem dX7_narrow_33 : decode cX7_narrow 33 = .ok (.lreturn, 1) := by decide +kernel
theorem dX7_sheet_0 : decode cX7_sheet 0 = .ok (.iload_n 1, 1) := by decide +kernel
theorem dX7_sheet_1 : decode cX7_sheet 1 = .ok (.invokestatic 273, 3) := by decide +kernel
theorem dX7_sheet_4 : decode cX7_sheet 4 = .ok (.ifCond .eq 25, 3) := by decide +kernel
theorem dX7_sheet_7 : decode cX7_sheet 7 = .ok (.iload_n 2, 1) := by decide +kernel
theorem dX7_sheet_8 : decode cX7_sheet 8 = .ok (.ifCond .eq 28, 3) := by decide +kernel
theorem dX7_sheet_11 : decode cX7_sheet 11 = .ok (.iload_n 2, 1) := by decide +kernel
theorem dX7_sheet_12 : decode cX7_sheet 12 = .ok (.bipush 8, 2) := by decide +kernel
theorem dX7_sheet_14 : decode cX7_sheet 14 = .ok (.if_icmp .eq 22, 3) := by decide +kernel
theorem dX7_sheet_17 : decode cX7_sheet 17 = .ok (.iload_n 2, 1) := by decide +kernel
theorem dX7_sheet_18 : decode cX7_sheet 18 = .ok (.bipush 16, 2) := by decide +kernel
theorem dX7_sheet_20 : decode cX7_sheet 20 = .ok (.if_icmp .eq 16, 3) := by decide +kernel
theorem dX7_sheet_23 : decode cX7_sheet 23 = .ok (.iload_n 2, 1) := by decide +kernel
theorem dX7_sheet_24 : decode cX7_sheet 24 = .ok (.bipush 64, 2) := by decide +kernel
theorem dX7_sheet_26 : decode cX7_sheet 26 = .ok (.if_icmp .eq 10, 3) := by decide +kernel
theorem dX7_sheet_29 : decode cX7_sheet 29 = .ok (.aload_n 0, 1) := by decide +kernel
theorem dX7_sheet_30 : decode cX7_sheet 30 = .ok (.ldc 44, 2) := by decide +kernel
theorem dX7_sheet_32 : decode cX7_sheet 32 = .ok (.invokevirtual 53, 3) := by decide +kernel
theorem dX7_sheet_35 : decode cX7_sheet 35 = .ok (.ireturn, 1) := by decide +kernel
theorem dX7_sheet_36 : decode cX7_sheet 36 = .ok (.iload_n 3, 1) := by decide +kernel
theorem dX7_sheet_37 : decode cX7_sheet 37 = .ok (.ifCond .ge 11, 3) := by decide +kernel
theorem dX7_sheet_40 : decode cX7_sheet 40 = .ok (.aload_n 0, 1) := by decide +kernel
theorem dX7_sheet_41 : decode cX7_sheet 41 = .ok (.ldc_w 276, 3) := by decide +kernel
theorem dX7_sheet_44 : decode cX7_sheet 44 = .ok (.invokevirtual 53, 3) := by decide +kernel
theorem dX7_sheet_47 : decode cX7_sheet 47 = .ok (.ireturn, 1) := by decide +kernel
theorem dX7_sheet_48 : decode cX7_sheet 48 = .ok (.iload_n 3, 1) := by decide +kernel
theorem dX7_sheet_49 : decode cX7_sheet 49 = .ok (.bipush 40, 2) := by decide +kernel
theorem dX7_sheet_51 : decode cX7_sheet 51 = .ok (.if_icmp .le 10, 3) := by decide +kernel
theorem dX7_sheet_54 : decode cX7_sheet 54 = .ok (.aload_n 0, 1) := by decide +kernel
theorem dX7_sheet_55 : decode cX7_sheet 55 = .ok (.ldc 44, 2) := by decide +kernel
theorem dX7_sheet_57 : decode cX7_sheet 57 = .ok (.invokevirtual 53, 3) := by decide +kernel
theorem dX7_sheet_60 : decode cX7_sheet 60 = .ok (.ireturn, 1) := by decide +kernel
theorem dX7_sheet_61 : decode cX7_sheet 61 = .ok (.aload_n 0, 1) := by decide +kernel
theorem dX7_sheet_62 : decode cX7_sheet 62 = .ok (.getfield 25, 3) := by decide +kernel
theorem dX7_sheet_65 : decode cX7_sheet 65 = .ok (.iload_n 1, 1) := by decide +kernel
theorem dX7_sheet_66 : decode cX7_sheet 66 = .ok (.iload_n 2, 1) := by decide +kernel
theorem dX7_sheet_67 : decode cX7_sheet 67 = .ok (.iastore, 1) := by decide +kernel
theorem dX7_sheet_68 : decode cX7_sheet 68 = .ok (.aload_n 0, 1) := by decide +kernel
theorem dX7_sheet_69 : decode cX7_sheet 69 = .ok (.getfield 28, 3) := by decide +kernel
theorem dX7_sheet_72 : decode cX7_sheet 72 = .ok (.iload_n 1, 1) := by decide +kernel
theorem dX7_sheet_73 : decode cX7_sheet 73 = .ok (.iload_n 2, 1) := by decide +kernel
theorem dX7_sheet_74 : decode cX7_sheet 74 = .ok (.ifCond .ne 7, 3) := by decide +kernel
theorem dX7_sheet_77 : decode cX7_sheet 77 = .ok (.iconst 0, 1) := by decide +kernel
theorem dX7_sheet_78 : decode cX7_sheet 78 = .ok (.goto 4, 3) := by decide +kernel
theorem dX7_sheet_81 : decode cX7_sheet 81 = .ok (.iload_n 3, 1) := by decide +kernel
theorem dX7_sheet_82 : decode cX7_sheet 82 = .ok (.iastore, 1) := by decide +kernel
theorem dX7_sheet_83 : decode cX7_sheet 83 = .ok (.iconst 0, 1) := by decide +kernel
theorem dX7_sheet_84 : decode cX7_sheet 84 = .ok (.istore 4, 2) := by decide +kernel
theorem dX7_sheet_86 : decode cX7_sheet 86 = .ok (.iload 4, 2) := by decide +kernel
theorem dX7_sheet_88 : decode cX7_sheet 88 = .ok (.bipush 40, 2) := by decide +kernel
theorem dX7_sheet_90 : decode cX7_sheet 90 = .ok (.if_icmp .ge 22, 3) := by decide +kernel
theorem dX7_sheet_93 : decode cX7_sheet 93 = .ok (.aload_n 0, 1) := by decide +kernel
theorem dX7_sheet_94 : decode cX7_sheet 94 = .ok (.getfield 31, 3) := by decide +kernel
theorem dX7_sheet_97 : decode cX7_sheet 97 = .ok (.bipush 40, 2) := by decide +kernel
theorem dX7_sheet_99 : decode cX7_sheet 99 = .ok (.iload_n 1, 1) := by decide +kernel
theorem dX7_sheet_100 : decode cX7_sheet 100 = .ok (.imul, 1) := by decide +kernel
theorem dX7_sheet_101 : decode cX7_sheet 101 = .ok (.iload 4, 2) := by decide +kernel
theorem dX7_sheet_103 : decode cX7_sheet 103 = .ok (.iadd, 1) := by decide +kernel
theorem dX7_sheet_104 : decode cX7_sheet 104 = .ok (.lconst 0, 1) := by decide +kernel
theorem dX7_sheet_105 : decode cX7_sheet 105 = .ok (.lastore, 1) := by decide +kernel
theorem dX7_sheet_106 : decode cX7_sheet 106 = .ok (.iinc 4 1, 3) := by decide +kernel
theorem dX7_sheet_109 : decode cX7_sheet 109 = .ok (.goto (-23), 3) := by decide +kernel
theorem dX7_sheet_112 : decode cX7_sheet 112 = .ok (.aload_n 0, 1) := by decide +kernel
theorem dX7_sheet_113 : decode cX7_sheet 113 = .ok (.getfield 28, 3) := by decide +kernel
theorem dX7_sheet_116 : decode cX7_sheet 116 = .ok (.iload_n 1, 1) := by decide +kernel
theorem dX7_sheet_117 : decode cX7_sheet 117 = .ok (.iaload, 1) := by decide +kernel
theorem dX7_sheet_118 : decode cX7_sheet 118 = .ok (.ireturn, 1) := by decide +kernel
theorem dX7_write_0 : decode cX7_write 0 = .ok (.iload_n 1, 1) := by decide +kernel
theorem dX7_write_1 : decode cX7_write 1 = .ok (.invokestatic 273, 3) := by decide +kernel
theorem dX7_write_4 : decode cX7_write 4 = .ok (.ifCond .ne 11, 3) := by decide +kernel
theorem dX7_write_7 : decode cX7_write 7 = .ok (.aload_n 0, 1) := by decide +kernel
theorem dX7_write_8 : decode cX7_write 8 = .ok (.ldc 44, 2) := by decide +kernel
theorem dX7_write_10 : decode cX7_write 10 = .ok (.invokevirtual 53, 3) := by decide +kernel
theorem dX7_write_13 : decode cX7_write 13 = .ok (.i2l, 1) := by decide +kernel
theorem dX7_write_14 : decode cX7_write 14 = .ok (.lreturn, 1) := by decide +kernel
theorem dX7_write_15 : decode cX7_write 15 = .ok (.aload_n 0, 1) := by decide +kernel
theorem dX7_write_16 : decode cX7_write 16 = .ok (.getfield 25, 3) := by decide +kernel
theorem dX7_write_19 : decode cX7_write 19 = .ok (.iload_n 1, 1) := by decide +kernel
theorem dX7_write_20 : decode cX7_write 20 = .ok (.iaload, 1) := by decide +kernel
theorem dX7_write_21 : decode cX7_write 21 = .ok (.ifCond .ne 12, 3) := by decide +kernel
theorem dX7_write_24 : decode cX7_write 24 = .ok (.aload_n 0, 1) := by decide +kernel
theorem dX7_write_25 : decode cX7_write 25 = .ok (.ldc_w 277, 3) := by decide +kernel
theorem dX7_write_28 : decode cX7_write 28 = .ok (.invokevirtual 53, 3) := by decide +kernel
theorem dX7_write_31 : decode cX7_write 31 = .ok (.i2l, 1) := by decide +kernel
theorem dX7_write_32 : decode cX7_write 32 = .ok (.lreturn, 1) := by decide +kernel
theorem dX7_write_33 : decode cX7_write 33 = .ok (.iload_n 2, 1) := by decide +kernel
theorem dX7_write_34 : decode cX7_write 34 = .ok (.iconst 0, 1) := by decide +kernel
theorem dX7_write_35 : decode cX7_write 35 = .ok (.aload_n 0, 1) := by decide +kernel
theorem dX7_write_36 : decode cX7_write 36 = .ok (.getfield 28, 3) := by decide +kernel
theorem dX7_write_39 : decode cX7_write 39 = .ok (.iload_n 1, 1) := by decide +kernel
theorem dX7_write_40 : decode cX7_write 40 = .ok (.iaload, 1) := by decide +kernel
theorem dX7_write_41 : decode cX7_write 41 = .ok (.iconst 1, 1) := by decide +kernel
theorem dX7_write_42 : decode cX7_write 42 = .ok (.isub, 1) := by decide +kernel
theorem dX7_write_43 : decode cX7_write 43 = .ok (.invokestatic 45, 3) := by decide +kernel
theorem dX7_write_46 : decode cX7_write 46 = .ok (.ifCond .ne 11, 3) := by decide +kernel
theorem dX7_write_49 : decode cX7_write 49 = .ok (.aload_n 0, 1) := by decide +kernel
theorem dX7_write_50 : decode cX7_write 50 = .ok (.ldc 44, 2) := by decide +kernel
theorem dX7_write_52 : decode cX7_write 52 = .ok (.invokevirtual 53, 3) := by decide +kernel
theorem dX7_write_55 : decode cX7_write 55 = .ok (.i2l, 1) := by decide +kernel
theorem dX7_write_56 : decode cX7_write 56 = .ok (.lreturn, 1) := by decide +kernel
theorem dX7_write_57 : decode cX7_write 57 = .ok (.aload_n 0, 1) := by decide +kernel
theorem dX7_write_58 : decode cX7_write 58 = .ok (.getfield 31, 3) := by decide +kernel
theorem dX7_write_61 : decode cX7_write 61 = .ok (.bipush 40, 2) := by decide +kernel
theorem dX7_write_63 : decode cX7_write 63 = .ok (.iload_n 1, 1) := by decide +kernel
theorem dX7_write_64 : decode cX7_write 64 = .ok (.imul, 1) := by decide +kernel
theorem dX7_write_65 : decode cX7_write 65 = .ok (.iload_n 2, 1) := by decide +kernel
theorem dX7_write_66 : decode cX7_write 66 = .ok (.iadd, 1) := by decide +kernel
theorem dX7_write_67 : decode cX7_write 67 = .ok (.laload, 1) := by decide +kernel
theorem dX7_write_68 : decode cX7_write 68 = .ok (.lstore 5, 2) := by decide +kernel
theorem dX7_write_70 : decode cX7_write 70 = .ok (.aload_n 0, 1) := by decide +kernel
theorem dX7_write_71 : decode cX7_write 71 = .ok (.getfield 31, 3) := by decide +kernel
theorem dX7_write_74 : decode cX7_write 74 = .ok (.bipush 40, 2) := by decide +kernel
theorem dX7_write_76 : decode cX7_write 76 = .ok (.iload_n 1, 1) := by decide +kernel
theorem dX7_write_77 : decode cX7_write 77 = .ok (.imul, 1) := by decide +kernel
theorem dX7_write_78 : decode cX7_write 78 = .ok (.iload_n 2, 1) := by decide +kernel
theorem dX7_write_79 : decode cX7_write 79 = .ok (.iadd, 1) := by decide +kernel
theorem dX7_write_80 : decode cX7_write 80 = .ok (.aload_n 0, 1) := by decide +kernel
theorem dX7_write_81 : decode cX7_write 81 = .ok (.getfield 25, 3) := by decide +kernel
theorem dX7_write_84 : decode cX7_write 84 = .ok (.iload_n 1, 1) := by decide +kernel
theorem dX7_write_85 : decode cX7_write 85 = .ok (.iaload, 1) := by decide +kernel
theorem dX7_write_86 : decode cX7_write 86 = .ok (.lload_n 3, 1) := by decide +kernel
theorem dX7_write_87 : decode cX7_write 87 = .ok (.invokestatic 278, 3) := by decide +kernel
theorem dX7_write_90 : decode cX7_write 90 = .ok (.lastore, 1) := by decide +kernel
theorem dX7_write_91 : decode cX7_write 91 = .ok (.lload 5, 2) := by decide +kernel
theorem dX7_write_93 : decode cX7_write 93 = .ok (.lreturn, 1) := by decide +kernel
theorem dX7_isPart_0 : decode cX7_isPart 0 = .ok (.iload_n 2, 1) := by decide +kernel
theorem dX7_isPart_1 : decode cX7_isPart 1 = .ok (.ifCond .lt 33, 3) := by decide +kernel
theorem dX7_isPart_4 : decode cX7_isPart 4 = .ok (.iload_n 3, 1) := by decide +kernel
theorem dX7_isPart_5 : decode cX7_isPart 5 = .ok (.ifCond .lt 29, 3) := by decide +kernel
theorem dX7_isPart_8 : decode cX7_isPart 8 = .ok (.iload_n 3, 1) := by decide +kernel
theorem dX7_isPart_9 : decode cX7_isPart 9 = .ok (.aload_n 0, 1) := by decide +kernel
theorem dX7_isPart_10 : decode cX7_isPart 10 = .ok (.getfield 28, 3) := by decide +kernel
theorem dX7_isPart_13 : decode cX7_isPart 13 = .ok (.iload_n 1, 1) := by decide +kernel
theorem dX7_isPart_14 : decode cX7_isPart 14 = .ok (.iaload, 1) := by decide +kernel
theorem dX7_isPart_15 : decode cX7_isPart 15 = .ok (.if_icmp .gt 19, 3) := by decide +kernel
theorem dX7_isPart_18 : decode cX7_isPart 18 = .ok (.iload_n 2, 1) := by decide +kernel
theorem dX7_isPart_19 : decode cX7_isPart 19 = .ok (.aload_n 0, 1) := by decide +kernel
theorem dX7_isPart_20 : decode cX7_isPart 20 = .ok (.getfield 28, 3) := by decide +kernel
theorem dX7_isPart_23 : decode cX7_isPart 23 = .ok (.iload_n 1, 1) := by decide +kernel
theorem dX7_isPart_24 : decode cX7_isPart 24 = .ok (.iaload, 1) := by decide +kernel
theorem dX7_isPart_25 : decode cX7_isPart 25 = .ok (.iload_n 3, 1) := by decide +kernel
theorem dX7_isPart_26 : decode cX7_isPart 26 = .ok (.isub, 1) := by decide +kernel
theorem dX7_isPart_27 : decode cX7_isPart 27 = .ok (.if_icmp .gt 7, 3) := by decide +kernel
theorem dX7_isPart_30 : decode cX7_isPart 30 = .ok (.iconst 1, 1) := by decide +kernel
theorem dX7_isPart_31 : decode cX7_isPart 31 = .ok (.goto 4, 3) := by decide +kernel
theorem dX7_isPart_34 : decode cX7_isPart 34 = .ok (.iconst 0, 1) := by decide +kernel
theorem dX7_isPart_35 : decode cX7_isPart 35 = .ok (.ireturn, 1) := by decide +kernel
theorem dX7_copy_0 : decode cX7_copy 0 = .ok (.iload_n 1, 1) := by decide +kernel
theorem dX7_copy_1 : decode cX7_copy 1 = .ok (.invokestatic 273, 3) := by decide +kernel
theorem dX7_copy_4 : decode cX7_copy 4 = .ok (.ifCond .eq 10, 3) := by decide +kernel
theorem dX7_copy_7 : decode cX7_copy 7 = .ok (.iload_n 3, 1) := by decide +kernel
theorem dX7_copy_8 : decode cX7_copy 8 = .ok (.invokestatic 273, 3) := by decide +kernel
theorem dX7_copy_11 : decode cX7_copy 11 = .ok (.ifCond .ne 10, 3) := by decide +kernel
theorem dX7_copy_14 : decode cX7_copy 14 = .ok (.aload_n 0, 1) := by decide +kernel
theorem dX7_copy_15 : decode cX7_copy 15 = .ok (.ldc 44, 2) := by decide +kernel
theorem dX7_copy_17 : decode cX7_copy 17 = .ok (.invokevirtual 53, 3) := by decide +kernel
theorem dX7_copy_20 : decode cX7_copy 20 = .ok (.ireturn, 1) := by decide +kernel
theorem dX7_copy_21 : decode cX7_copy 21 = .ok (.aload_n 0, 1) := by decide +kernel
theorem dX7_copy_22 : decode cX7_copy 22 = .ok (.getfield 25, 3) := by decide +kernel
theorem dX7_copy_25 : decode cX7_copy 25 = .ok (.iload_n 1, 1) := by decide +kernel
theorem dX7_copy_26 : decode cX7_copy 26 = .ok (.iaload, 1) := by decide +kernel
theorem dX7_copy_27 : decode cX7_copy 27 = .ok (.ifCond .eq 12, 3) := by decide +kernel
theorem dX7_copy_30 : decode cX7_copy 30 = .ok (.aload_n 0, 1) := by decide +kernel
theorem dX7_copy_31 : decode cX7_copy 31 = .ok (.getfield 25, 3) := by decide +kernel
theorem dX7_copy_34 : decode cX7_copy 34 = .ok (.iload_n 3, 1) := by decide +kernel
theorem dX7_copy_35 : decode cX7_copy 35 = .ok (.iaload, 1) := by decide +kernel
theorem dX7_copy_36 : decode cX7_copy 36 = .ok (.ifCond .ne 11, 3) := by decide +kernel
theorem dX7_copy_39 : decode cX7_copy 39 = .ok (.aload_n 0, 1) := by decide +kernel
theorem dX7_copy_40 : decode cX7_copy 40 = .ok (.ldc_w 277, 3) := by decide +kernel
theorem dX7_copy_43 : decode cX7_copy 43 = .ok (.invokevirtual 53, 3) := by decide +kernel
theorem dX7_copy_46 : decode cX7_copy 46 = .ok (.ireturn, 1) := by decide +kernel
theorem dX7_copy_47 : decode cX7_copy 47 = .ok (.aload_n 0, 1) := by decide +kernel
theorem dX7_copy_48 : decode cX7_copy 48 = .ok (.getfield 25, 3) := by decide +kernel
theorem dX7_copy_51 : decode cX7_copy 51 = .ok (.iload_n 1, 1) := by decide +kernel
theorem dX7_copy_52 : decode cX7_copy 52 = .ok (.iaload, 1) := by decide +kernel
theorem dX7_copy_53 : decode cX7_copy 53 = .ok (.aload_n 0, 1) := by decide +kernel
theorem dX7_copy_54 : decode cX7_copy 54 = .ok (.getfield 25, 3) := by decide +kernel
theorem dX7_copy_57 : decode cX7_copy 57 = .ok (.iload_n 3, 1) := by decide +kernel
theorem dX7_copy_58 : decode cX7_copy 58 = .ok (.iaload, 1) := by decide +kernel
theorem dX7_copy_59 : decode cX7_copy 59 = .ok (.if_icmp .eq 10, 3) := by decide +kernel
theorem dX7_copy_62 : decode cX7_copy 62 = .ok (.aload_n 0, 1) := by decide +kernel
theorem dX7_copy_63 : decode cX7_copy 63 = .ok (.ldc 96, 2) := by decide +kernel
theorem dX7_copy_65 : decode cX7_copy 65 = .ok (.invokevirtual 53, 3) := by decide +kernel
theorem dX7_copy_68 : decode cX7_copy 68 = .ok (.ireturn, 1) := by decide +kernel
theorem dX7_copy_69 : decode cX7_copy 69 = .ok (.aload_n 0, 1) := by decide +kernel
theorem dX7_copy_70 : decode cX7_copy 70 = .ok (.iload_n 1, 1) := by decide +kernel
theorem dX7_copy_71 : decode cX7_copy 71 = .ok (.iload_n 2, 1) := by decide +kernel
theorem dX7_copy_72 : decode cX7_copy 72 = .ok (.iload 5, 2) := by decide +kernel
theorem dX7_copy_74 : decode cX7_copy 74 = .ok (.invokevirtual 282, 3) := by decide +kernel
theorem dX7_copy_77 : decode cX7_copy 77 = .ok (.ifCond .eq 15, 3) := by decide +kernel
theorem dX7_copy_80 : decode cX7_copy 80 = .ok (.aload_n 0, 1) := by decide +kernel
theorem dX7_copy_81 : decode cX7_copy 81 = .ok (.iload_n 3, 1) := by decide +kernel
theorem dX7_copy_82 : decode cX7_copy 82 = .ok (.iload 4, 2) := by decide +kernel
theorem dX7_copy_84 : decode cX7_copy 84 = .ok (.iload 5, 2) := by decide +kernel
theorem dX7_copy_86 : decode cX7_copy 86 = .ok (.invokevirtual 282, 3) := by decide +kernel
theorem dX7_copy_89 : decode cX7_copy 89 = .ok (.ifCond .ne 10, 3) := by decide +kernel
theorem dX7_copy_92 : decode cX7_copy 92 = .ok (.aload_n 0, 1) := by decide +kernel
theorem dX7_copy_93 : decode cX7_copy 93 = .ok (.ldc 44, 2) := by decide +kernel
theorem dX7_copy_95 : decode cX7_copy 95 = .ok (.invokevirtual 53, 3) := by decide +kernel
theorem dX7_copy_98 : decode cX7_copy 98 = .ok (.ireturn, 1) := by decide +kernel
theorem dX7_copy_99 : decode cX7_copy 99 = .ok (.iconst 0, 1) := by decide +kernel
theorem dX7_copy_100 : decode cX7_copy 100 = .ok (.istore 6, 2) := by decide +kernel
theorem dX7_copy_102 : decode cX7_copy 102 = .ok (.iload 6, 2) := by decide +kernel
theorem dX7_copy_104 : decode cX7_copy 104 = .ok (.iload 5, 2) := by decide +kernel
theorem dX7_copy_106 : decode cX7_copy 106 = .ok (.if_icmp .ge 30, 3) := by decide +kernel
theorem dX7_copy_109 : decode cX7_copy 109 = .ok (.aload_n 0, 1) := by decide +kernel
theorem dX7_copy_110 : decode cX7_copy 110 = .ok (.getfield 35, 3) := by decide +kernel
theorem dX7_copy_113 : decode cX7_copy 113 = .ok (.iload 6, 2) := by decide +kernel
theorem dX7_copy_115 : decode cX7_copy 115 = .ok (.aload_n 0, 1) := by decide +kernel
theorem dX7_copy_116 : decode cX7_copy 116 = .ok (.getfield 31, 3) := by decide +kernel
theorem dX7_copy_119 : decode cX7_copy 119 = .ok (.bipush 40, 2) := by decide +kernel
theorem dX7_copy_121 : decode cX7_copy 121 = .ok (.iload_n 1, 1) := by decide +kernel
theorem dX7_copy_122 : decode cX7_copy 122 = .ok (.imul, 1) := by decide +kernel
theorem dX7_copy_123 : decode cX7_copy 123 = .ok (.iload_n 2, 1) := by decide +kernel
theorem dX7_copy_124 : decode cX7_copy 124 = .ok (.iadd, 1) := by decide +kernel
theorem dX7_copy_125 : decode cX7_copy 125 = .ok (.iload 6, 2) := by decide +kernel
theorem dX7_copy_127 : decode cX7_copy 127 = .ok (.iadd, 1) := by decide +kernel
theorem dX7_copy_128 : decode cX7_copy 128 = .ok (.laload, 1) := by decide +kernel
theorem dX7_copy_129 : decode cX7_copy 129 = .ok (.lastore, 1) := by decide +kernel
theorem dX7_copy_130 : decode cX7_copy 130 = .ok (.iinc 6 1, 3) := by decide +kernel
theorem dX7_copy_133 : decode cX7_copy 133 = .ok (.goto (-31), 3) := by decide +kernel
theorem dX7_copy_136 : decode cX7_copy 136 = .ok (.iconst 0, 1) := by decide +kernel
theorem dX7_copy_137 : decode cX7_copy 137 = .ok (.istore 6, 2) := by decide +kernel
theorem dX7_copy_139 : decode cX7_copy 139 = .ok (.iload 6, 2) := by decide +kernel
theorem dX7_copy_141 : decode cX7_copy 141 = .ok (.iload 5, 2) := by decide +kernel
theorem dX7_copy_143 : decode cX7_copy 143 = .ok (.if_icmp .ge 31, 3) := by decide +kernel
theorem dX7_copy_146 : decode cX7_copy 146 = .ok (.aload_n 0, 1) := by decide +kernel
theorem dX7_copy_147 : decode cX7_copy 147 = .ok (.getfield 31, 3) := by decide +kernel
theorem dX7_copy_150 : decode cX7_copy 150 = .ok (.bipush 40, 2) := by decide +kernel
theorem dX7_copy_152 : decode cX7_copy 152 = .ok (.iload_n 3, 1) := by decide +kernel
theorem dX7_copy_153 : decode cX7_copy 153 = .ok (.imul, 1) := by decide +kernel
theorem dX7_copy_154 : decode cX7_copy 154 = .ok (.iload 4, 2) := by decide +kernel
theorem dX7_copy_156 : decode cX7_copy 156 = .ok (.iadd, 1) := by decide +kernel
theorem dX7_copy_157 : decode cX7_copy 157 = .ok (.iload 6, 2) := by decide +kernel
theorem dX7_copy_159 : decode cX7_copy 159 = .ok (.iadd, 1) := by decide +kernel
theorem dX7_copy_160 : decode cX7_copy 160 = .ok (.aload_n 0, 1) := by decide +kernel
theorem dX7_copy_161 : decode cX7_copy 161 = .ok (.getfield 35, 3) := by decide +kernel
theorem dX7_copy_164 : decode cX7_copy 164 = .ok (.iload 6, 2) := by decide +kernel
theorem dX7_copy_166 : decode cX7_copy 166 = .ok (.laload, 1) := by decide +kernel
theorem dX7_copy_167 : decode cX7_copy 167 = .ok (.lastore, 1) := by decide +kernel
theorem dX7_copy_168 : decode cX7_copy 168 = .ok (.iinc 6 1, 3) := by decide +kernel
theorem dX7_copy_171 : decode cX7_copy 171 = .ok (.goto (-32), 3) := by decide +kernel
theorem dX7_copy_174 : decode cX7_copy 174 = .ok (.iload 5, 2) := by decide +kernel
theorem dX7_copy_176 : decode cX7_copy 176 = .ok (.ireturn, 1) := by decide +kernel
theorem dX7_badSheet_0 : decode cX7_badSheet 0 = .ok (.iload_n 1, 1) := by decide +kernel
theorem dX7_badSheet_1 : decode cX7_badSheet 1 = .ok (.invokestatic 273, 3) := by decide +kernel
theorem dX7_badSheet_4 : decode cX7_badSheet 4 = .ok (.ifCond .ne 8, 3) := by decide +kernel
theorem dX7_badSheet_7 : decode cX7_badSheet 7 = .ok (.ldc 44, 2) := by decide +kernel
theorem dX7_badSheet_9 : decode cX7_badSheet 9 = .ok (.goto 19, 3) := by decide +kernel
theorem dX7_badSheet_12 : decode cX7_badSheet 12 = .ok (.aload_n 0, 1) := by decide +kernel
theorem dX7_badSheet_13 : decode cX7_badSheet 13 = .ok (.getfield 25, 3) := by decide +kernel
theorem dX7_badSheet_16 : decode cX7_badSheet 16 = .ok (.iload_n 1, 1) := by decide +kernel
theorem dX7_badSheet_17 : decode cX7_badSheet 17 = .ok (.iaload, 1) := by decide +kernel
theorem dX7_badSheet_18 : decode cX7_badSheet 18 = .ok (.ifCond .ne 9, 3) := by decide +kernel
theorem dX7_badSheet_21 : decode cX7_badSheet 21 = .ok (.ldc_w 277, 3) := by decide +kernel
theorem dX7_badSheet_24 : decode cX7_badSheet 24 = .ok (.goto 4, 3) := by decide +kernel
theorem dX7_badSheet_27 : decode cX7_badSheet 27 = .ok (.iconst 0, 1) := by decide +kernel
theorem dX7_badSheet_28 : decode cX7_badSheet 28 = .ok (.ireturn, 1) := by decide +kernel
theorem dX7_lays_0 : decode cX7_lays 0 = .ok (.aload_n 0, 1) := by decide +kernel
theorem dX7_lays_1 : decode cX7_lays 1 = .ok (.iload_n 1, 1) := by decide +kernel
theorem dX7_lays_2 : decode cX7_lays 2 = .ok (.invokevirtual 285, 3) := by decide +kernel
theorem dX7_lays_5 : decode cX7_lays 5 = .ok (.istore_n 2, 1) := by decide +kernel
theorem dX7_lays_6 : decode cX7_lays 6 = .ok (.iload_n 2, 1) := by decide +kernel
theorem dX7_lays_7 : decode cX7_lays 7 = .ok (.ifCond .eq 9, 3) := by decide +kernel
theorem dX7_lays_10 : decode cX7_lays 10 = .ok (.aload_n 0, 1) := by decide +kernel
theorem dX7_lays_11 : decode cX7_lays 11 = .ok (.iload_n 2, 1) := by decide +kernel
theorem dX7_lays_12 : decode cX7_lays 12 = .ok (.invokevirtual 53, 3) := by decide +kernel
theorem dX7_lays_15 : decode cX7_lays 15 = .ok (.ireturn, 1) := by decide +kernel
theorem dX7_lays_16 : decode cX7_lays 16 = .ok (.iconst 0, 1) := by decide +kernel
theorem dX7_lays_17 : decode cX7_lays 17 = .ok (.istore_n 3, 1) := by decide +kernel
theorem dX7_lays_18 : decode cX7_lays 18 = .ok (.iconst 0, 1) := by decide +kernel
theorem dX7_lays_19 : decode cX7_lays 19 = .ok (.istore 4, 2) := by decide +kernel
theorem dX7_lays_21 : decode cX7_lays 21 = .ok (.iload 4, 2) := by decide +kernel
theorem dX7_lays_23 : decode cX7_lays 23 = .ok (.aload_n 0, 1) := by decide +kernel
theorem dX7_lays_24 : decode cX7_lays 24 = .ok (.getfield 28, 3) := by decide +kernel
theorem dX7_lays_27 : decode cX7_lays 27 = .ok (.iload_n 1, 1) := by decide +kernel
theorem dX7_lays_28 : decode cX7_lays 28 = .ok (.iaload, 1) := by decide +kernel
theorem dX7_lays_29 : decode cX7_lays 29 = .ok (.if_icmp .ge 64, 3) := by decide +kernel
theorem dX7_lays_32 : decode cX7_lays 32 = .ok (.iload 4, 2) := by decide +kernel
theorem dX7_lays_34 : decode cX7_lays 34 = .ok (.aload_n 0, 1) := by decide +kernel
theorem dX7_lays_35 : decode cX7_lays 35 = .ok (.getfield 7, 3) := by decide +kernel
theorem dX7_lays_38 : decode cX7_lays 38 = .ok (.bipush 8, 2) := by decide +kernel
theorem dX7_lays_40 : decode cX7_lays 40 = .ok (.iaload, 1) := by decide +kernel
theorem dX7_lays_41 : decode cX7_lays 41 = .ok (.if_icmp .ge 52, 3) := by decide +kernel
theorem dX7_lays_44 : decode cX7_lays 44 = .ok (.aload_n 0, 1) := by decide +kernel
theorem dX7_lays_45 : decode cX7_lays 45 = .ok (.getfield 31, 3) := by decide +kernel
theorem dX7_lays_48 : decode cX7_lays 48 = .ok (.bipush 40, 2) := by decide +kernel
theorem dX7_lays_50 : decode cX7_lays 50 = .ok (.iload_n 1, 1) := by decide +kernel
theorem dX7_lays_51 : decode cX7_lays 51 = .ok (.imul, 1) := by decide +kernel
theorem dX7_lays_52 : decode cX7_lays 52 = .ok (.iload 4, 2) := by decide +kernel
theorem dX7_lays_54 : decode cX7_lays 54 = .ok (.iadd, 1) := by decide +kernel
theorem dX7_lays_55 : decode cX7_lays 55 = .ok (.laload, 1) := by decide +kernel
theorem dX7_lays_56 : decode cX7_lays 56 = .ok (.lstore 5, 2) := by decide +kernel
theorem dX7_lays_58 : decode cX7_lays 58 = .ok (.lload 5, 2) := by decide +kernel
theorem dX7_lays_60 : decode cX7_lays 60 = .ok (.lconst 0, 1) := by decide +kernel
theorem dX7_lays_61 : decode cX7_lays 61 = .ok (.lcmp, 1) := by decide +kernel
theorem dX7_lays_62 : decode cX7_lays 62 = .ok (.ifCond .lt 25, 3) := by decide +kernel
theorem dX7_lays_65 : decode cX7_lays 65 = .ok (.lload 5, 2) := by decide +kernel
theorem dX7_lays_67 : decode cX7_lays 67 = .ok (.ldc2_w 288, 3) := by decide +kernel
theorem dX7_lays_70 : decode cX7_lays 70 = .ok (.lcmp, 1) := by decide +kernel
theorem dX7_lays_71 : decode cX7_lays 71 = .ok (.ifCond .gt 16, 3) := by decide +kernel
theorem dX7_lays_74 : decode cX7_lays 74 = .ok (.aload_n 0, 1) := by decide +kernel
theorem dX7_lays_75 : decode cX7_lays 75 = .ok (.iload 4, 2) := by decide +kernel
theorem dX7_lays_77 : decode cX7_lays 77 = .ok (.iconst 2, 1) := by decide +kernel
theorem dX7_lays_78 : decode cX7_lays 78 = .ok (.lload 5, 2) := by decide +kernel
theorem dX7_lays_80 : decode cX7_lays 80 = .ok (.l2i, 1) := by decide +kernel
theorem dX7_lays_81 : decode cX7_lays 81 = .ok (.invokevirtual 57, 3) := by decide +kernel
theorem dX7_lays_84 : decode cX7_lays 84 = .ok (.iinc 3 1, 3) := by decide +kernel
theorem dX7_lays_87 : decode cX7_lays 87 = .ok (.iinc 4 1, 3) := by decide +kernel
theorem dX7_lays_90 : decode cX7_lays 90 = .ok (.goto (-69), 3) := by decide +kernel
theorem dX7_lays_93 : decode cX7_lays 93 = .ok (.iload_n 3, 1) := by decide +kernel
theorem dX7_lays_94 : decode cX7_lays 94 = .ok (.ireturn, 1) := by decide +kernel
theorem dX7_book_0 : decode cX7_book 0 = .ok (.aload_n 0, 1) := by decide +kernel
theorem dX7_book_1 : decode cX7_book 1 = .ok (.iload_n 1, 1) := by decide +kernel
theorem dX7_book_2 : decode cX7_book 2 = .ok (.invokevirtual 285, 3) := by decide +kernel
theorem dX7_book_5 : decode cX7_book 5 = .ok (.istore_n 3, 1) := by decide +kernel
theorem dX7_book_6 : decode cX7_book 6 = .ok (.iload_n 3, 1) := by decide +kernel
theorem dX7_book_7 : decode cX7_book 7 = .ok (.ifCond .eq 9, 3) := by decide +kernel
theorem dX7_book_10 : decode cX7_book 10 = .ok (.aload_n 0, 1) := by decide +kernel
theorem dX7_book_11 : decode cX7_book 11 = .ok (.iload_n 3, 1) := by decide +kernel
theorem dX7_book_12 : decode cX7_book 12 = .ok (.invokevirtual 53, 3) := by decide +kernel
theorem dX7_book_15 : decode cX7_book 15 = .ok (.ireturn, 1) := by decide +kernel
theorem dX7_book_16 : decode cX7_book 16 = .ok (.aload_n 0, 1) := by decide +kernel
theorem dX7_book_17 : decode cX7_book 17 = .ok (.iload_n 2, 1) := by decide +kernel
theorem dX7_book_18 : decode cX7_book 18 = .ok (.invokevirtual 87, 3) := by decide +kernel
theorem dX7_book_21 : decode cX7_book 21 = .ok (.ifCond .ne 10, 3) := by decide +kernel
theorem dX7_book_24 : decode cX7_book 24 = .ok (.aload_n 0, 1) := by decide +kernel
theorem dX7_book_25 : decode cX7_book 25 = .ok (.ldc 44, 2) := by decide +kernel
theorem dX7_book_27 : decode cX7_book 27 = .ok (.invokevirtual 53, 3) := by decide +kernel
theorem dX7_book_30 : decode cX7_book 30 = .ok (.ireturn, 1) := by decide +kernel
theorem dX7_book_31 : decode cX7_book 31 = .ok (.aload_n 0, 1) := by decide +kernel
theorem dX7_book_32 : decode cX7_book 32 = .ok (.iconst 1, 1) := by decide +kernel
theorem dX7_book_33 : decode cX7_book 33 = .ok (.aload_n 0, 1) := by decide +kernel
theorem dX7_book_34 : decode cX7_book 34 = .ok (.getfield 16, 3) := by decide +kernel
theorem dX7_book_37 : decode cX7_book 37 = .ok (.invokevirtual 126, 3) := by decide +kernel
theorem dX7_book_40 : decode cX7_book 40 = .ok (.iconst 0, 1) := by decide +kernel
theorem dX7_book_41 : decode cX7_book 41 = .ok (.istore 4, 2) := by decide +kernel
theorem dX7_book_43 : decode cX7_book 43 = .ok (.iload 4, 2) := by decide +kernel
theorem dX7_book_45 : decode cX7_book 45 = .ok (.aload_n 0, 1) := by decide +kernel
theorem dX7_book_46 : decode cX7_book 46 = .ok (.getfield 28, 3) := by decide +kernel
theorem dX7_book_49 : decode cX7_book 49 = .ok (.iload_n 1, 1) := by decide +kernel
theorem dX7_book_50 : decode cX7_book 50 = .ok (.iaload, 1) := by decide +kernel
theorem dX7_book_51 : decode cX7_book 51 = .ok (.if_icmp .ge 42, 3) := by decide +kernel
theorem dX7_book_54 : decode cX7_book 54 = .ok (.aload_n 0, 1) := by decide +kernel
theorem dX7_book_55 : decode cX7_book 55 = .ok (.getfield 31, 3) := by decide +kernel
theorem dX7_book_58 : decode cX7_book 58 = .ok (.bipush 40, 2) := by decide +kernel
theorem dX7_book_60 : decode cX7_book 60 = .ok (.iload_n 1, 1) := by decide +kernel
theorem dX7_book_61 : decode cX7_book 61 = .ok (.imul, 1) := by decide +kernel
theorem dX7_book_62 : decode cX7_book 62 = .ok (.iload 4, 2) := by decide +kernel
theorem dX7_book_64 : decode cX7_book 64 = .ok (.iadd, 1) := by decide +kernel
theorem dX7_book_65 : decode cX7_book 65 = .ok (.aload_n 0, 1) := by decide +kernel
theorem dX7_book_66 : decode cX7_book 66 = .ok (.getfield 25, 3) := by decide +kernel
theorem dX7_book_69 : decode cX7_book 69 = .ok (.iload_n 1, 1) := by decide +kernel
theorem dX7_book_70 : decode cX7_book 70 = .ok (.iaload, 1) := by decide +kernel
theorem dX7_book_71 : decode cX7_book 71 = .ok (.aload_n 0, 1) := by decide +kernel
theorem dX7_book_72 : decode cX7_book 72 = .ok (.iload_n 2, 1) := by decide +kernel
theorem dX7_book_73 : decode cX7_book 73 = .ok (.bipush 6, 2) := by decide +kernel
theorem dX7_book_75 : decode cX7_book 75 = .ok (.invokevirtual 69, 3) := by decide +kernel
theorem dX7_book_78 : decode cX7_book 78 = .ok (.i2l, 1) := by decide +kernel
theorem dX7_book_79 : decode cX7_book 79 = .ok (.invokestatic 278, 3) := by decide +kernel
theorem dX7_book_82 : decode cX7_book 82 = .ok (.lastore, 1) := by decide +kernel
theorem dX7_book_83 : decode cX7_book 83 = .ok (.aload_n 0, 1) := by decide +kernel
theorem dX7_book_84 : decode cX7_book 84 = .ok (.invokevirtual 112, 3) := by decide +kernel
theorem dX7_book_87 : decode cX7_book 87 = .ok (.iinc 4 1, 3) := by decide +kernel
theorem dX7_book_90 : decode cX7_book 90 = .ok (.goto (-47), 3) := by decide +kernel
theorem dX7_book_93 : decode cX7_book 93 = .ok (.aload_n 0, 1) := by decide +kernel
theorem dX7_book_94 : decode cX7_book 94 = .ok (.iconst 0, 1) := by decide +kernel
theorem dX7_book_95 : decode cX7_book 95 = .ok (.aload_n 0, 1) := by decide +kernel
theorem dX7_book_96 : decode cX7_book 96 = .ok (.getfield 16, 3) := by decide +kernel
theorem dX7_book_99 : decode cX7_book 99 = .ok (.invokevirtual 126, 3) := by decide +kernel
theorem dX7_book_102 : decode cX7_book 102 = .ok (.aload_n 0, 1) := by decide +kernel
theorem dX7_book_103 : decode cX7_book 103 = .ok (.getfield 28, 3) := by decide +kernel
theorem dX7_book_106 : decode cX7_book 106 = .ok (.iload_n 1, 1) := by decide +kernel
theorem dX7_book_107 : decode cX7_book 107 = .ok (.iaload, 1) := by decide +kernel
theorem dX7_book_108 : decode cX7_book 108 = .ok (.ireturn, 1) := by decide +kernel
theorem dX7_isSo_0 : decode cX7_isSo 0 = .ok (.iconst 1, 1) := by decide +kernel
theorem dX7_isSo_1 : decode cX7_isSo 1 = .ok (.istore_n 3, 1) := by decide +kernel
theorem dX7_isSo_2 : decode cX7_isSo 2 = .ok (.iconst 0, 1) := by decide +kernel
theorem dX7_isSo_3 : decode cX7_isSo 3 = .ok (.istore 4, 2) := by decide +kernel
theorem dX7_isSo_5 : decode cX7_isSo 5 = .ok (.iload 4, 2) := by decide +kernel
theorem dX7_isSo_7 : decode cX7_isSo 7 = .ok (.aload_n 0, 1) := by decide +kernel
theorem dX7_isSo_8 : decode cX7_isSo 8 = .ok (.getfield 28, 3) := by decide +kernel
theorem dX7_isSo_11 : decode cX7_isSo 11 = .ok (.iload_n 1, 1) := by decide +kernel
theorem dX7_isSo_12 : decode cX7_isSo 12 = .ok (.iaload, 1) := by decide +kernel
theorem dX7_isSo_13 : decode cX7_isSo 13 = .ok (.if_icmp .ge 47, 3) := by decide +kernel
theorem dX7_isSo_16 : decode cX7_isSo 16 = .ok (.iload_n 3, 1) := by decide +kernel
theorem dX7_isSo_17 : decode cX7_isSo 17 = .ok (.ifCond .eq 43, 3) := by decide +kernel
theorem dX7_isSo_20 : decode cX7_isSo 20 = .ok (.aload_n 0, 1) := by decide +kernel
theorem dX7_isSo_21 : decode cX7_isSo 21 = .ok (.getfield 31, 3) := by decide +kernel
theorem dX7_isSo_24 : decode cX7_isSo 24 = .ok (.bipush 40, 2) := by decide +kernel
theorem dX7_isSo_26 : decode cX7_isSo 26 = .ok (.iload_n 1, 1) := by decide +kernel
theorem dX7_isSo_27 : decode cX7_isSo 27 = .ok (.imul, 1) := by decide +kernel
theorem dX7_isSo_28 : decode cX7_isSo 28 = .ok (.iload 4, 2) := by decide +kernel
theorem dX7_isSo_30 : decode cX7_isSo 30 = .ok (.iadd, 1) := by decide +kernel
theorem dX7_isSo_31 : decode cX7_isSo 31 = .ok (.laload, 1) := by decide +kernel
theorem dX7_isSo_32 : decode cX7_isSo 32 = .ok (.aload_n 0, 1) := by decide +kernel
theorem dX7_isSo_33 : decode cX7_isSo 33 = .ok (.iload_n 2, 1) := by decide +kernel
theorem dX7_isSo_34 : decode cX7_isSo 34 = .ok (.bipush 6, 2) := by decide +kernel
theorem dX7_isSo_36 : decode cX7_isSo 36 = .ok (.invokevirtual 69, 3) := by decide +kernel
theorem dX7_isSo_39 : decode cX7_isSo 39 = .ok (.i2l, 1) := by decide +kernel
theorem dX7_isSo_40 : decode cX7_isSo 40 = .ok (.lcmp, 1) := by decide +kernel
theorem dX7_isSo_41 : decode cX7_isSo 41 = .ok (.ifCond .ne 7, 3) := by decide +kernel
theorem dX7_isSo_44 : decode cX7_isSo 44 = .ok (.iconst 1, 1) := by decide +kernel
theorem dX7_isSo_45 : decode cX7_isSo 45 = .ok (.goto 4, 3) := by decide +kernel
theorem dX7_isSo_48 : decode cX7_isSo 48 = .ok (.iconst 0, 1) := by decide +kernel
theorem dX7_isSo_49 : decode cX7_isSo 49 = .ok (.istore_n 3, 1) := by decide +kernel
theorem dX7_isSo_50 : decode cX7_isSo 50 = .ok (.aload_n 0, 1) := by decide +kernel
theorem dX7_isSo_51 : decode cX7_isSo 51 = .ok (.invokevirtual 112, 3) := by decide +kernel
theorem dX7_isSo_54 : decode cX7_isSo 54 = .ok (.iinc 4 1, 3) := by decide +kernel
theorem dX7_isSo_57 : decode cX7_isSo 57 = .ok (.goto (-52), 3) := by decide +kernel
theorem dX7_isSo_60 : decode cX7_isSo 60 = .ok (.iload_n 3, 1) := by decide +kernel
theorem dX7_isSo_61 : decode cX7_isSo 61 = .ok (.ireturn, 1) := by decide +kernel
theorem dX7_read_0 : decode cX7_read 0 = .ok (.aload_n 0, 1) := by decide +kernel
theorem dX7_read_1 : decode cX7_read 1 = .ok (.iload_n 1, 1) := by decide +kernel
theorem dX7_read_2 : decode cX7_read 2 = .ok (.invokevirtual 285, 3) := by decide +kernel
theorem dX7_read_5 : decode cX7_read 5 = .ok (.istore_n 3, 1) := by decide +kernel
theorem dX7_read_6 : decode cX7_read 6 = .ok (.iload_n 3, 1) := by decide +kernel
theorem dX7_read_7 : decode cX7_read 7 = .ok (.ifCond .eq 9, 3) := by decide +kernel
theorem dX7_read_10 : decode cX7_read 10 = .ok (.aload_n 0, 1) := by decide +kernel
theorem dX7_read_11 : decode cX7_read 11 = .ok (.iload_n 3, 1) := by decide +kernel
theorem dX7_read_12 : decode cX7_read 12 = .ok (.invokevirtual 53, 3) := by decide +kernel
theorem dX7_read_15 : decode cX7_read 15 = .ok (.ireturn, 1) := by decide +kernel
theorem dX7_read_16 : decode cX7_read 16 = .ok (.aload_n 0, 1) := by decide +kernel
theorem dX7_read_17 : decode cX7_read 17 = .ok (.iload_n 2, 1) := by decide +kernel
theorem dX7_read_18 : decode cX7_read 18 = .ok (.invokevirtual 87, 3) := by decide +kernel
theorem dX7_read_21 : decode cX7_read 21 = .ok (.ifCond .ne 10, 3) := by decide +kernel
theorem dX7_read_24 : decode cX7_read 24 = .ok (.aload_n 0, 1) := by decide +kernel
theorem dX7_read_25 : decode cX7_read 25 = .ok (.ldc 44, 2) := by decide +kernel
theorem dX7_read_27 : decode cX7_read 27 = .ok (.invokevirtual 53, 3) := by decide +kernel
theorem dX7_read_30 : decode cX7_read 30 = .ok (.ireturn, 1) := by decide +kernel
theorem dX7_read_31 : decode cX7_read 31 = .ok (.iconst 0, 1) := by decide +kernel
theorem dX7_read_32 : decode cX7_read 32 = .ok (.istore 4, 2) := by decide +kernel
theorem dX7_read_34 : decode cX7_read 34 = .ok (.aload_n 0, 1) := by decide +kernel
theorem dX7_read_35 : decode cX7_read 35 = .ok (.iconst 1, 1) := by decide +kernel
theorem dX7_read_36 : decode cX7_read 36 = .ok (.aload_n 0, 1) := by decide +kernel
theorem dX7_read_37 : decode cX7_read 37 = .ok (.getfield 16, 3) := by decide +kernel
theorem dX7_read_40 : decode cX7_read 40 = .ok (.invokevirtual 126, 3) := by decide +kernel
theorem dX7_read_43 : decode cX7_read 43 = .ok (.iconst 0, 1) := by decide +kernel
theorem dX7_read_44 : decode cX7_read 44 = .ok (.istore 5, 2) := by decide +kernel
theorem dX7_read_46 : decode cX7_read 46 = .ok (.iload 5, 2) := by decide +kernel
theorem dX7_read_48 : decode cX7_read 48 = .ok (.bipush 99, 2) := by decide +kernel
theorem dX7_read_50 : decode cX7_read 50 = .ok (.if_icmp .gt 69, 3) := by decide +kernel
theorem dX7_read_53 : decode cX7_read 53 = .ok (.iconst 0, 1) := by decide +kernel
theorem dX7_read_54 : decode cX7_read 54 = .ok (.istore 6, 2) := by decide +kernel
theorem dX7_read_56 : decode cX7_read 56 = .ok (.iload 6, 2) := by decide +kernel
theorem dX7_read_58 : decode cX7_read 58 = .ok (.bipush 16, 2) := by decide +kernel
theorem dX7_read_60 : decode cX7_read 60 = .ok (.if_icmp .ge 53, 3) := by decide +kernel
theorem dX7_read_63 : decode cX7_read 63 = .ok (.aload_n 0, 1) := by decide +kernel
theorem dX7_read_64 : decode cX7_read 64 = .ok (.getfield 7, 3) := by decide +kernel
theorem dX7_read_67 : decode cX7_read 67 = .ok (.iconst 1, 1) := by decide +kernel
theorem dX7_read_68 : decode cX7_read 68 = .ok (.iload 5, 2) := by decide +kernel
theorem dX7_read_70 : decode cX7_read 70 = .ok (.iastore, 1) := by decide +kernel
theorem dX7_read_71 : decode cX7_read 71 = .ok (.aload_n 0, 1) := by decide +kernel
theorem dX7_read_72 : decode cX7_read 72 = .ok (.getfield 7, 3) := by decide +kernel
theorem dX7_read_75 : decode cX7_read 75 = .ok (.iconst 0, 1) := by decide +kernel
theorem dX7_read_76 : decode cX7_read 76 = .ok (.iload 6, 2) := by decide +kernel
theorem dX7_read_78 : decode cX7_read 78 = .ok (.iastore, 1) := by decide +kernel
theorem dX7_read_79 : decode cX7_read 79 = .ok (.iload 4, 2) := by decide +kernel
theorem dX7_read_81 : decode cX7_read 81 = .ok (.aload_n 0, 1) := by decide +kernel
theorem dX7_read_82 : decode cX7_read 82 = .ok (.iload_n 1, 1) := by decide +kernel
theorem dX7_read_83 : decode cX7_read 83 = .ok (.iload_n 2, 1) := by decide +kernel
theorem dX7_read_84 : decode cX7_read 84 = .ok (.invokevirtual 290, 3) := by decide +kernel
theorem dX7_read_87 : decode cX7_read 87 = .ok (.ifCond .eq 7, 3) := by decide +kernel
theorem dX7_read_90 : decode cX7_read 90 = .ok (.iconst 1, 1) := by decide +kernel
theorem dX7_read_91 : decode cX7_read 91 = .ok (.goto 4, 3) := by decide +kernel
theorem dX7_read_94 : decode cX7_read 94 = .ok (.iconst 0, 1) := by decide +kernel
theorem dX7_read_95 : decode cX7_read 95 = .ok (.iadd, 1) := by decide +kernel
theorem dX7_read_96 : decode cX7_read 96 = .ok (.istore 4, 2) := by decide +kernel
theorem dX7_read_98 : decode cX7_read 98 = .ok (.aload_n 0, 1) := by decide +kernel
theorem dX7_read_99 : decode cX7_read 99 = .ok (.iconst 0, 1) := by decide +kernel
theorem dX7_read_100 : decode cX7_read 100 = .ok (.aload_n 0, 1) := by decide +kernel
theorem dX7_read_101 : decode cX7_read 101 = .ok (.getfield 16, 3) := by decide +kernel
theorem dX7_read_104 : decode cX7_read 104 = .ok (.invokevirtual 126, 3) := by decide +kernel
theorem dX7_read_107 : decode cX7_read 107 = .ok (.iinc 6 1, 3) := by decide +kernel
theorem dX7_read_110 : decode cX7_read 110 = .ok (.goto (-54), 3) := by decide +kernel
theorem dX7_read_113 : decode cX7_read 113 = .ok (.iinc 5 1, 3) := by decide +kernel
theorem dX7_read_116 : decode cX7_read 116 = .ok (.goto (-70), 3) := by decide +kernel
theorem dX7_read_119 : decode cX7_read 119 = .ok (.iload 4, 2) := by decide +kernel
theorem dX7_read_121 : decode cX7_read 121 = .ok (.ireturn, 1) := by decide +kernel
theorem dX7_moveAll_0 : decode cX7_moveAll 0 = .ok (.iconst 0, 1) := by decide +kernel
theorem dX7_moveAll_1 : decode cX7_moveAll 1 = .ok (.istore_n 3, 1) := by decide +kernel
theorem dX7_moveAll_2 : decode cX7_moveAll 2 = .ok (.iload_n 3, 1) := by decide +kernel
theorem dX7_moveAll_3 : decode cX7_moveAll 3 = .ok (.bipush 65, 2) := by decide +kernel
theorem dX7_moveAll_5 : decode cX7_moveAll 5 = .ok (.if_icmp .ge 34, 3) := by decide +kernel
theorem dX7_moveAll_8 : decode cX7_moveAll 8 = .ok (.iload_n 1, 1) := by decide +kernel
theorem dX7_moveAll_9 : decode cX7_moveAll 9 = .ok (.ifCond .eq 15, 3) := by decide +kernel
theorem dX7_moveAll_12 : decode cX7_moveAll 12 = .ok (.aload_n 2, 1) := by decide +kernel
theorem dX7_moveAll_13 : decode cX7_moveAll 13 = .ok (.iload_n 3, 1) := by decide +kernel
theorem dX7_moveAll_14 : decode cX7_moveAll 14 = .ok (.aload_n 0, 1) := by decide +kernel
theorem dX7_moveAll_15 : decode cX7_moveAll 15 = .ok (.getfield 7, 3) := by decide +kernel
theorem dX7_moveAll_18 : decode cX7_moveAll 18 = .ok (.iload_n 3, 1) := by decide +kernel
theorem dX7_moveAll_19 : decode cX7_moveAll 19 = .ok (.iaload, 1) := by decide +kernel
theorem dX7_moveAll_20 : decode cX7_moveAll 20 = .ok (.iastore, 1) := by decide +kernel
theorem dX7_moveAll_21 : decode cX7_moveAll 21 = .ok (.goto 12, 3) := by decide +kernel
theorem dX7_moveAll_24 : decode cX7_moveAll 24 = .ok (.aload_n 0, 1) := by decide +kernel
theorem dX7_moveAll_25 : decode cX7_moveAll 25 = .ok (.getfield 7, 3) := by decide +kernel
theorem dX7_moveAll_28 : decode cX7_moveAll 28 = .ok (.iload_n 3, 1) := by decide +kernel
theorem dX7_moveAll_29 : decode cX7_moveAll 29 = .ok (.aload_n 2, 1) := by decide +kernel
theorem dX7_moveAll_30 : decode cX7_moveAll 30 = .ok (.iload_n 3, 1) := by decide +kernel
theorem dX7_moveAll_31 : decode cX7_moveAll 31 = .ok (.iaload, 1) := by decide +kernel
theorem dX7_moveAll_32 : decode cX7_moveAll 32 = .ok (.iastore, 1) := by decide +kernel
theorem dX7_moveAll_33 : decode cX7_moveAll 33 = .ok (.iinc 3 1, 3) := by decide +kernel
theorem dX7_moveAll_36 : decode cX7_moveAll 36 = .ok (.goto (-34), 3) := by decide +kernel
theorem dX7_moveAll_39 : decode cX7_moveAll 39 = .ok (.return_, 1) := by decide +kernel
theorem dX7_image_0 : decode cX7_image 0 = .ok (.aload_n 0, 1) := by decide +kernel
theorem dX7_image_1 : decode cX7_image 1 = .ok (.iconst 1, 1) := by decide +kernel
theorem dX7_image_2 : decode cX7_image 2 = .ok (.aload_n 0, 1) := by decide +kernel
theorem dX7_image_3 : decode cX7_image 3 = .ok (.getfield 38, 3) := by decide +kernel
theorem dX7_image_6 : decode cX7_image 6 = .ok (.invokevirtual 126, 3) := by decide +kernel
theorem dX7_image_9 : decode cX7_image 9 = .ok (.aload_n 0, 1) := by decide +kernel
theorem dX7_image_10 : decode cX7_image 10 = .ok (.iconst 1, 1) := by decide +kernel
theorem dX7_image_11 : decode cX7_image 11 = .ok (.putfield 293, 3) := by decide +kernel
theorem dX7_image_14 : decode cX7_image 14 = .ok (.iconst 1, 1) := by decide +kernel
theorem dX7_image_15 : decode cX7_image 15 = .ok (.ireturn, 1) := by decide +kernel
theorem dX7_undo_0 : decode cX7_undo 0 = .ok (.aload_n 0, 1) := by decide +kernel
theorem dX7_undo_1 : decode cX7_undo 1 = .ok (.getfield 293, 3) := by decide +kernel
theorem dX7_undo_4 : decode cX7_undo 4 = .ok (.ifCond .ne 10, 3) := by decide +kernel
theorem dX7_undo_7 : decode cX7_undo 7 = .ok (.aload_n 0, 1) := by decide +kernel
theorem dX7_undo_8 : decode cX7_undo 8 = .ok (.ldc 149, 2) := by decide +kernel
theorem dX7_undo_10 : decode cX7_undo 10 = .ok (.invokevirtual 53, 3) := by decide +kernel
theorem dX7_undo_13 : decode cX7_undo 13 = .ok (.ireturn, 1) := by decide +kernel
theorem dX7_undo_14 : decode cX7_undo 14 = .ok (.aload_n 0, 1) := by decide +kernel
theorem dX7_undo_15 : decode cX7_undo 15 = .ok (.iconst 0, 1) := by decide +kernel
theorem dX7_undo_16 : decode cX7_undo 16 = .ok (.aload_n 0, 1) := by decide +kernel
theorem dX7_undo_17 : decode cX7_undo 17 = .ok (.getfield 38, 3) := by decide +kernel
theorem dX7_undo_20 : decode cX7_undo 20 = .ok (.invokevirtual 126, 3) := by decide +kernel
theorem dX7_undo_23 : decode cX7_undo 23 = .ok (.aload_n 0, 1) := by decide +kernel
theorem dX7_undo_24 : decode cX7_undo 24 = .ok (.getfield 7, 3) := by decide +kernel
theorem dX7_undo_27 : decode cX7_undo 27 = .ok (.bipush 8, 2) := by decide +kernel
theorem dX7_undo_29 : decode cX7_undo 29 = .ok (.iaload, 1) := by decide +kernel
theorem dX7_undo_30 : decode cX7_undo 30 = .ok (.ireturn, 1) := by decide +kernel
theorem dX7_tear_0 : decode cX7_tear 0 = .ok (.aload_n 0, 1) := by decide +kernel
theorem dX7_tear_1 : decode cX7_tear 1 = .ok (.getfield 293, 3) := by decide +kernel
theorem dX7_tear_4 : decode cX7_tear 4 = .ok (.ifCond .eq 7, 3) := by decide +kernel
theorem dX7_tear_7 : decode cX7_tear 7 = .ok (.iconst 1, 1) := by decide +kernel
theorem dX7_tear_8 : decode cX7_tear 8 = .ok (.goto 4, 3) := by decide +kernel
theorem dX7_tear_11 : decode cX7_tear 11 = .ok (.iconst 0, 1) := by decide +kernel
theorem dX7_tear_12 : decode cX7_tear 12 = .ok (.istore_n 1, 1) := by decide +kernel
theorem dX7_tear_13 : decode cX7_tear 13 = .ok (.aload_n 0, 1) := by decide +kernel
theorem dX7_tear_14 : decode cX7_tear 14 = .ok (.iconst 0, 1) := by decide +kernel
theorem dX7_tear_15 : decode cX7_tear 15 = .ok (.putfield 293, 3) := by decide +kernel
theorem dX7_tear_18 : decode cX7_tear 18 = .ok (.iload_n 1, 1) := by decide +kernel
theorem dX7_tear_19 : decode cX7_tear 19 = .ok (.ireturn, 1) := by decide +kernel
theorem dX7_paidAll_0 : decode cX7_paidAll 0 = .ok (.iconst 0, 1) := by decide +kernel
theorem dX7_paidAll_1 : decode cX7_paidAll 1 = .ok (.istore_n 1, 1) := by decide +kernel
theorem dX7_paidAll_2 : decode cX7_paidAll 2 = .ok (.iconst 0, 1) := by decide +kernel
theorem dX7_paidAll_3 : decode cX7_paidAll 3 = .ok (.istore_n 2, 1) := by decide +kernel
theorem dX7_paidAll_4 : decode cX7_paidAll 4 = .ok (.iload_n 2, 1) := by decide +kernel
theorem dX7_paidAll_5 : decode cX7_paidAll 5 = .ok (.aload_n 0, 1) := by decide +kernel
theorem dX7_paidAll_6 : decode cX7_paidAll 6 = .ok (.getfield 7, 3) := by decide +kernel
theorem dX7_paidAll_9 : decode cX7_paidAll 9 = .ok (.bipush 8, 2) := by decide +kernel
theorem dX7_paidAll_11 : decode cX7_paidAll 11 = .ok (.iaload, 1) := by decide +kernel
theorem dX7_paidAll_12 : decode cX7_paidAll 12 = .ok (.if_icmp .ge 17, 3) := by decide +kernel
theorem dX7_paidAll_15 : decode cX7_paidAll 15 = .ok (.iload_n 1, 1) := by decide +kernel
theorem dX7_paidAll_16 : decode cX7_paidAll 16 = .ok (.aload_n 0, 1) := by decide +kernel
theorem dX7_paidAll_17 : decode cX7_paidAll 17 = .ok (.iload_n 2, 1) := by decide +kernel
theorem dX7_paidAll_18 : decode cX7_paidAll 18 = .ok (.invokevirtual 81, 3) := by decide +kernel
theorem dX7_paidAll_21 : decode cX7_paidAll 21 = .ok (.iadd, 1) := by decide +kernel
theorem dX7_paidAll_22 : decode cX7_paidAll 22 = .ok (.istore_n 1, 1) := by decide +kernel
theorem dX7_paidAll_23 : decode cX7_paidAll 23 = .ok (.iinc 2 1, 3) := by decide +kernel
theorem dX7_paidAll_26 : decode cX7_paidAll 26 = .ok (.goto (-22), 3) := by decide +kernel
theorem dX7_paidAll_29 : decode cX7_paidAll 29 = .ok (.iload_n 1, 1) := by decide +kernel
theorem dX7_paidAll_30 : decode cX7_paidAll 30 = .ok (.ireturn, 1) := by decide +kernel
theorem dX7_count_0 : decode cX7_count 0 = .ok (.iload_n 1, 1) := by decide +kernel
theorem dX7_count_1 : decode cX7_count 1 = .ok (.tableswitch 55 0 3 #[31, 39, 44, 50], 31) := by decide +kernel
theorem dX7_count_32 : decode cX7_count 32 = .ok (.aload_n 0, 1) := by decide +kernel
theorem dX7_count_33 : decode cX7_count 33 = .ok (.getfield 7, 3) := by decide +kernel
theorem dX7_count_36 : decode cX7_count 36 = .ok (.bipush 8, 2) := by decide +kernel
theorem dX7_count_38 : decode cX7_count 38 = .ok (.iaload, 1) := by decide +kernel
theorem dX7_count_39 : decode cX7_count 39 = .ok (.ireturn, 1) := by decide +kernel
theorem dX7_count_40 : decode cX7_count 40 = .ok (.aload_n 0, 1) := by decide +kernel
theorem dX7_count_41 : decode cX7_count 41 = .ok (.getfield 172, 3) := by decide +kernel
theorem dX7_count_44 : decode cX7_count 44 = .ok (.ireturn, 1) := by decide +kernel
theorem dX7_count_45 : decode cX7_count 45 = .ok (.aload_n 0, 1) := by decide +kernel
theorem dX7_count_46 : decode cX7_count 46 = .ok (.iconst 2, 1) := by decide +kernel
theorem dX7_count_47 : decode cX7_count 47 = .ok (.invokevirtual 119, 3) := by decide +kernel
theorem dX7_count_50 : decode cX7_count 50 = .ok (.ireturn, 1) := by decide +kernel
theorem dX7_count_51 : decode cX7_count 51 = .ok (.aload_n 0, 1) := by decide +kernel
theorem dX7_count_52 : decode cX7_count 52 = .ok (.invokevirtual 296, 3) := by decide +kernel
theorem dX7_count_55 : decode cX7_count 55 = .ok (.ireturn, 1) := by decide +kernel
theorem dX7_count_56 : decode cX7_count 56 = .ok (.aload_n 0, 1) := by decide +kernel
theorem dX7_count_57 : decode cX7_count 57 = .ok (.ldc 44, 2) := by decide +kernel
theorem dX7_count_59 : decode cX7_count 59 = .ok (.invokevirtual 53, 3) := by decide +kernel
theorem dX7_count_62 : decode cX7_count 62 = .ok (.ireturn, 1) := by decide +kernel
theorem dX7_status_0 : decode cX7_status 0 = .ok (.iload_n 1, 1) := by decide +kernel
theorem dX7_status_1 : decode cX7_status 1 = .ok (.iconst (-1), 1) := by decide +kernel
theorem dX7_status_2 : decode cX7_status 2 = .ok (.bipush 6, 2) := by decide +kernel
theorem dX7_status_4 : decode cX7_status 4 = .ok (.invokestatic 45, 3) := by decide +kernel
theorem dX7_status_7 : decode cX7_status 7 = .ok (.ifCond .ne 10, 3) := by decide +kernel
theorem dX7_status_10 : decode cX7_status 10 = .ok (.aload_n 0, 1) := by decide +kernel
theorem dX7_status_11 : decode cX7_status 11 = .ok (.ldc 44, 2) := by decide +kernel
theorem dX7_status_13 : decode cX7_status 13 = .ok (.invokevirtual 53, 3) := by decide +kernel
theorem dX7_status_16 : decode cX7_status 16 = .ok (.ireturn, 1) := by decide +kernel
theorem dX7_status_17 : decode cX7_status 17 = .ok (.iconst 0, 1) := by decide +kernel
theorem dX7_status_18 : decode cX7_status 18 = .ok (.istore_n 2, 1) := by decide +kernel
theorem dX7_status_19 : decode cX7_status 19 = .ok (.iconst 0, 1) := by decide +kernel
theorem dX7_status_20 : decode cX7_status 20 = .ok (.istore_n 3, 1) := by decide +kernel
theorem dX7_status_21 : decode cX7_status 21 = .ok (.iload_n 3, 1) := by decide +kernel
theorem dX7_status_22 : decode cX7_status 22 = .ok (.bipush 7, 2) := by decide +kernel
theorem dX7_status_24 : decode cX7_status 24 = .ok (.if_icmp .ge 18, 3) := by decide +kernel
theorem dX7_status_27 : decode cX7_status 27 = .ok (.iload_n 2, 1) := by decide +kernel
theorem dX7_status_28 : decode cX7_status 28 = .ok (.aload_n 0, 1) := by decide +kernel
theorem dX7_status_29 : decode cX7_status 29 = .ok (.getfield 13, 3) := by decide +kernel
theorem dX7_status_32 : decode cX7_status 32 = .ok (.iload_n 3, 1) := by decide +kernel
theorem dX7_status_33 : decode cX7_status 33 = .ok (.iaload, 1) := by decide +kernel
theorem dX7_status_34 : decode cX7_status 34 = .ok (.iadd, 1) := by decide +kernel
theorem dX7_status_35 : decode cX7_status 35 = .ok (.istore_n 2, 1) := by decide +kernel
theorem dX7_status_36 : decode cX7_status 36 = .ok (.iinc 3 1, 3) := by decide +kernel
theorem dX7_status_39 : decode cX7_status 39 = .ok (.goto (-18), 3) := by decide +kernel
theorem dX7_status_42 : decode cX7_status 42 = .ok (.iload_n 1, 1) := by decide +kernel
theorem dX7_status_43 : decode cX7_status 43 = .ok (.ifCond .ge 7, 3) := by decide +kernel
theorem dX7_status_46 : decode cX7_status 46 = .ok (.iload_n 2, 1) := by decide +kernel
theorem dX7_status_47 : decode cX7_status 47 = .ok (.goto 17, 3) := by decide +kernel
theorem dX7_status_50 : decode cX7_status 50 = .ok (.aload_n 0, 1) := by decide +kernel
theorem dX7_status_51 : decode cX7_status 51 = .ok (.getfield 13, 3) := by decide +kernel
theorem dX7_status_54 : decode cX7_status 54 = .ok (.iload_n 1, 1) := by decide +kernel
theorem dX7_status_55 : decode cX7_status 55 = .ok (.ifCond .ge 7, 3) := by decide +kernel
theorem dX7_status_58 : decode cX7_status 58 = .ok (.iconst 0, 1) := by decide +kernel
theorem dX7_status_59 : decode cX7_status 59 = .ok (.goto 4, 3) := by decide +kernel
theorem dX7_status_62 : decode cX7_status 62 = .ok (.iload_n 1, 1) := by decide +kernel
theorem dX7_status_63 : decode cX7_status 63 = .ok (.iaload, 1) := by decide +kernel
theorem dX7_status_64 : decode cX7_status 64 = .ok (.ireturn, 1) := by decide +kernel

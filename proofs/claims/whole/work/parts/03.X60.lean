theorem dX6_init_0 : decode cX6_init 0 = .ok (.aload_n 0, 1) := by decide +kernel
theorem dX6_init_1 : decode cX6_init 1 = .ok (.invokespecial 1, 3) := by decide +kernel
theorem dX6_init_4 : decode cX6_init 4 = .ok (.aload_n 0, 1) := by decide +kernel
theorem dX6_init_5 : decode cX6_init 5 = .ok (.new 7, 3) := by decide +kernel
theorem dX6_init_8 : decode cX6_init 8 = .ok (.dup, 1) := by decide +kernel
theorem dX6_init_9 : decode cX6_init 9 = .ok (.invokespecial 9, 3) := by decide +kernel
theorem dX6_init_12 : decode cX6_init 12 = .ok (.putfield 10, 3) := by decide +kernel
theorem dX6_init_15 : decode cX6_init 15 = .ok (.aload_n 0, 1) := by decide +kernel
theorem dX6_init_16 : decode cX6_init 16 = .ok (.new 7, 3) := by decide +kernel
theorem dX6_init_19 : decode cX6_init 19 = .ok (.dup, 1) := by decide +kernel
theorem dX6_init_20 : decode cX6_init 20 = .ok (.invokespecial 9, 3) := by decide +kernel
theorem dX6_init_23 : decode cX6_init 23 = .ok (.putfield 16, 3) := by decide +kernel
theorem dX6_init_26 : decode cX6_init 26 = .ok (.aload_n 0, 1) := by decide +kernel
theorem dX6_init_27 : decode cX6_init 27 = .ok (.new 7, 3) := by decide +kernel
theorem dX6_init_30 : decode cX6_init 30 = .ok (.dup, 1) := by decide +kernel
theorem dX6_init_31 : decode cX6_init 31 = .ok (.invokespecial 9, 3) := by decide +kernel
theorem dX6_init_34 : decode cX6_init 34 = .ok (.putfield 19, 3) := by decide +kernel
theorem dX6_init_37 : decode cX6_init 37 = .ok (.aload_n 0, 1) := by decide +kernel
theorem dX6_init_38 : decode cX6_init 38 = .ok (.iconst 0, 1) := by decide +kernel
theorem dX6_init_39 : decode cX6_init 39 = .ok (.putfield 22, 3) := by decide +kernel
theorem dX6_init_42 : decode cX6_init 42 = .ok (.aload_n 0, 1) := by decide +kernel
theorem dX6_init_43 : decode cX6_init 43 = .ok (.new 26, 3) := by decide +kernel
theorem dX6_init_46 : decode cX6_init 46 = .ok (.dup, 1) := by decide +kernel
theorem dX6_init_47 : decode cX6_init 47 = .ok (.invokespecial 28, 3) := by decide +kernel
theorem dX6_init_50 : decode cX6_init 50 = .ok (.putfield 29, 3) := by decide +kernel
theorem dX6_init_53 : decode cX6_init 53 = .ok (.aload_n 0, 1) := by decide +kernel
theorem dX6_init_54 : decode cX6_init 54 = .ok (.iconst 4, 1) := by decide +kernel
theorem dX6_init_55 : decode cX6_init 55 = .ok (.anewarray 33, 3) := by decide +kernel
theorem dX6_init_58 : decode cX6_init 58 = .ok (.putfield 35, 3) := by decide +kernel
theorem dX6_init_61 : decode cX6_init 61 = .ok (.iconst 0, 1) := by decide +kernel
theorem dX6_init_62 : decode cX6_init 62 = .ok (.istore_n 1, 1) := by decide +kernel
theorem dX6_init_63 : decode cX6_init 63 = .ok (.iload_n 1, 1) := by decide +kernel
theorem dX6_init_64 : decode cX6_init 64 = .ok (.iconst 4, 1) := by decide +kernel
theorem dX6_init_65 : decode cX6_init 65 = .ok (.if_icmp .ge 22, 3) := by decide +kernel
theorem dX6_init_68 : decode cX6_init 68 = .ok (.aload_n 0, 1) := by decide +kernel
theorem dX6_init_69 : decode cX6_init 69 = .ok (.getfield 35, 3) := by decide +kernel
theorem dX6_init_72 : decode cX6_init 72 = .ok (.iload_n 1, 1) := by decide +kernel
theorem dX6_init_73 : decode cX6_init 73 = .ok (.new 33, 3) := by decide +kernel
theorem dX6_init_76 : decode cX6_init 76 = .ok (.dup, 1) := by decide +kernel
theorem dX6_init_77 : decode cX6_init 77 = .ok (.invokespecial 39, 3) := by decide +kernel
theorem dX6_init_80 : decode cX6_init 80 = .ok (.aastore, 1) := by decide +kernel
theorem dX6_init_81 : decode cX6_init 81 = .ok (.iinc 1 1, 3) := by decide +kernel
theorem dX6_init_84 : decode cX6_init 84 = .ok (.goto (-21), 3) := by decide +kernel
theorem dX6_init_87 : decode cX6_init 87 = .ok (.aload_n 0, 1) := by decide +kernel
theorem dX6_init_88 : decode cX6_init 88 = .ok (.bipush 7, 2) := by decide +kernel
theorem dX6_init_90 : decode cX6_init 90 = .ok (.newarray .int, 2) := by decide +kernel
theorem dX6_init_92 : decode cX6_init 92 = .ok (.putfield 40, 3) := by decide +kernel
theorem dX6_init_95 : decode cX6_init 95 = .ok (.return_, 1) := by decide +kernel
theorem dX6_cloud_0 : decode cX6_cloud 0 = .ok (.iload_n 1, 1) := by decide +kernel
theorem dX6_cloud_1 : decode cX6_cloud 1 = .ok (.iload_n 2, 1) := by decide +kernel
theorem dX6_cloud_2 : decode cX6_cloud 2 = .ok (.invokestatic 44, 3) := by decide +kernel
theorem dX6_cloud_5 : decode cX6_cloud 5 = .ok (.ifCond .ne 10, 3) := by decide +kernel
theorem dX6_cloud_8 : decode cX6_cloud 8 = .ok (.aload_n 0, 1) := by decide +kernel
theorem dX6_cloud_9 : decode cX6_cloud 9 = .ok (.ldc 50, 2) := by decide +kernel
theorem dX6_cloud_11 : decode cX6_cloud 11 = .ok (.invokevirtual 51, 3) := by decide +kernel
theorem dX6_cloud_14 : decode cX6_cloud 14 = .ok (.ireturn, 1) := by decide +kernel
theorem dX6_cloud_15 : decode cX6_cloud 15 = .ok (.aload_n 0, 1) := by decide +kernel
theorem dX6_cloud_16 : decode cX6_cloud 16 = .ok (.getfield 10, 3) := by decide +kernel
theorem dX6_cloud_19 : decode cX6_cloud 19 = .ok (.getfield 55, 3) := by decide +kernel
theorem dX6_cloud_22 : decode cX6_cloud 22 = .ok (.iload_n 1, 1) := by decide +kernel
theorem dX6_cloud_23 : decode cX6_cloud 23 = .ok (.invokevirtual 59, 3) := by decide +kernel
theorem dX6_cloud_26 : decode cX6_cloud 26 = .ok (.istore_n 3, 1) := by decide +kernel
theorem dX6_cloud_27 : decode cX6_cloud 27 = .ok (.aload_n 0, 1) := by decide +kernel
theorem dX6_cloud_28 : decode cX6_cloud 28 = .ok (.getfield 10, 3) := by decide +kernel
theorem dX6_cloud_31 : decode cX6_cloud 31 = .ok (.getfield 55, 3) := by decide +kernel
theorem dX6_cloud_34 : decode cX6_cloud 34 = .ok (.iload_n 1, 1) := by decide +kernel
theorem dX6_cloud_35 : decode cX6_cloud 35 = .ok (.iload_n 2, 1) := by decide +kernel
theorem dX6_cloud_36 : decode cX6_cloud 36 = .ok (.invokevirtual 62, 3) := by decide +kernel
theorem dX6_cloud_39 : decode cX6_cloud 39 = .ok (.iload_n 3, 1) := by decide +kernel
theorem dX6_cloud_40 : decode cX6_cloud 40 = .ok (.ireturn, 1) := by decide +kernel
theorem dX6_cloudOf_0 : decode cX6_cloudOf 0 = .ok (.iload_n 1, 1) := by decide +kernel
theorem dX6_cloudOf_1 : decode cX6_cloudOf 1 = .ok (.iconst 0, 1) := by decide +kernel
theorem dX6_cloudOf_2 : decode cX6_cloudOf 2 = .ok (.iconst 4, 1) := by decide +kernel
theorem dX6_cloudOf_3 : decode cX6_cloudOf 3 = .ok (.invokestatic 66, 3) := by decide +kernel
theorem dX6_cloudOf_6 : decode cX6_cloudOf 6 = .ok (.ifCond .ne 10, 3) := by decide +kernel
theorem dX6_cloudOf_9 : decode cX6_cloudOf 9 = .ok (.aload_n 0, 1) := by decide +kernel
theorem dX6_cloudOf_10 : decode cX6_cloudOf 10 = .ok (.ldc 50, 2) := by decide +kernel
theorem dX6_cloudOf_12 : decode cX6_cloudOf 12 = .ok (.invokevirtual 51, 3) := by decide +kernel
theorem dX6_cloudOf_15 : decode cX6_cloudOf 15 = .ok (.ireturn, 1) := by decide +kernel
theorem dX6_cloudOf_16 : decode cX6_cloudOf 16 = .ok (.aload_n 0, 1) := by decide +kernel
theorem dX6_cloudOf_17 : decode cX6_cloudOf 17 = .ok (.getfield 10, 3) := by decide +kernel
theorem dX6_cloudOf_20 : decode cX6_cloudOf 20 = .ok (.getfield 55, 3) := by decide +kernel
theorem dX6_cloudOf_23 : decode cX6_cloudOf 23 = .ok (.iload_n 1, 1) := by decide +kernel
theorem dX6_cloudOf_24 : decode cX6_cloudOf 24 = .ok (.invokevirtual 59, 3) := by decide +kernel
theorem dX6_cloudOf_27 : decode cX6_cloudOf 27 = .ok (.ireturn, 1) := by decide +kernel
theorem dX6_rod_0 : decode cX6_rod 0 = .ok (.iload_n 1, 1) := by decide +kernel
theorem dX6_rod_1 : decode cX6_rod 1 = .ok (.invokestatic 70, 3) := by decide +kernel
theorem dX6_rod_4 : decode cX6_rod 4 = .ok (.ifCond .eq 10, 3) := by decide +kernel
theorem dX6_rod_7 : decode cX6_rod 7 = .ok (.iload_n 2, 1) := by decide +kernel
theorem dX6_rod_8 : decode cX6_rod 8 = .ok (.invokestatic 74, 3) := by decide +kernel
theorem dX6_rod_11 : decode cX6_rod 11 = .ok (.ifCond .ne 10, 3) := by decide +kernel
theorem dX6_rod_14 : decode cX6_rod 14 = .ok (.aload_n 0, 1) := by decide +kernel
theorem dX6_rod_15 : decode cX6_rod 15 = .ok (.ldc 50, 2) := by decide +kernel
theorem dX6_rod_17 : decode cX6_rod 17 = .ok (.invokevirtual 51, 3) := by decide +kernel
theorem dX6_rod_20 : decode cX6_rod 20 = .ok (.ireturn, 1) := by decide +kernel
theorem dX6_rod_21 : decode cX6_rod 21 = .ok (.aload_n 0, 1) := by decide +kernel
theorem dX6_rod_22 : decode cX6_rod 22 = .ok (.getfield 10, 3) := by decide +kernel
theorem dX6_rod_25 : decode cX6_rod 25 = .ok (.invokevirtual 77, 3) := by decide +kernel
theorem dX6_rod_28 : decode cX6_rod 28 = .ok (.ifCond .eq 10, 3) := by decide +kernel
theorem dX6_rod_31 : decode cX6_rod 31 = .ok (.aload_n 0, 1) := by decide +kernel
theorem dX6_rod_32 : decode cX6_rod 32 = .ok (.ldc 81, 2) := by decide +kernel
theorem dX6_rod_34 : decode cX6_rod 34 = .ok (.invokevirtual 51, 3) := by decide +kernel
theorem dX6_rod_37 : decode cX6_rod 37 = .ok (.ireturn, 1) := by decide +kernel
theorem dX6_rod_38 : decode cX6_rod 38 = .ok (.aload_n 0, 1) := by decide +kernel
theorem dX6_rod_39 : decode cX6_rod 39 = .ok (.getfield 10, 3) := by decide +kernel
theorem dX6_rod_42 : decode cX6_rod 42 = .ok (.iload_n 1, 1) := by decide +kernel
theorem dX6_rod_43 : decode cX6_rod 43 = .ok (.iload_n 2, 1) := by decide +kernel
theorem dX6_rod_44 : decode cX6_rod 44 = .ok (.invokevirtual 82, 3) := by decide +kernel
theorem dX6_rod_47 : decode cX6_rod 47 = .ok (.pop, 1) := by decide +kernel
theorem dX6_rod_48 : decode cX6_rod 48 = .ok (.aload_n 0, 1) := by decide +kernel
theorem dX6_rod_49 : decode cX6_rod 49 = .ok (.getfield 10, 3) := by decide +kernel
theorem dX6_rod_52 : decode cX6_rod 52 = .ok (.getfield 86, 3) := by decide +kernel
theorem dX6_rod_55 : decode cX6_rod 55 = .ok (.iconst 1, 1) := by decide +kernel
theorem dX6_rod_56 : decode cX6_rod 56 = .ok (.isub, 1) := by decide +kernel
theorem dX6_rod_57 : decode cX6_rod 57 = .ok (.ireturn, 1) := by decide +kernel
theorem dX6_of_0 : decode cX6_of 0 = .ok (.aload_n 0, 1) := by decide +kernel
theorem dX6_of_1 : decode cX6_of 1 = .ok (.iload_n 1, 1) := by decide +kernel
theorem dX6_of_2 : decode cX6_of 2 = .ok (.invokevirtual 90, 3) := by decide +kernel
theorem dX6_of_5 : decode cX6_of 5 = .ok (.ifCond .eq 13, 3) := by decide +kernel
theorem dX6_of_8 : decode cX6_of 8 = .ok (.iload_n 2, 1) := by decide +kernel
theorem dX6_of_9 : decode cX6_of 9 = .ok (.iconst 0, 1) := by decide +kernel
theorem dX6_of_10 : decode cX6_of 10 = .ok (.bipush 9, 2) := by decide +kernel
theorem dX6_of_12 : decode cX6_of 12 = .ok (.invokestatic 66, 3) := by decide +kernel
theorem dX6_of_15 : decode cX6_of 15 = .ok (.ifCond .ne 10, 3) := by decide +kernel
theorem dX6_of_18 : decode cX6_of 18 = .ok (.aload_n 0, 1) := by decide +kernel
theorem dX6_of_19 : decode cX6_of 19 = .ok (.ldc 50, 2) := by decide +kernel
theorem dX6_of_21 : decode cX6_of 21 = .ok (.invokevirtual 51, 3) := by decide +kernel
theorem dX6_of_24 : decode cX6_of 24 = .ok (.ireturn, 1) := by decide +kernel
theorem dX6_of_25 : decode cX6_of 25 = .ok (.aload_n 0, 1) := by decide +kernel
theorem dX6_of_26 : decode cX6_of 26 = .ok (.getfield 10, 3) := by decide +kernel
theorem dX6_of_29 : decode cX6_of 29 = .ok (.getfield 93, 3) := by decide +kernel
theorem dX6_of_32 : decode cX6_of 32 = .ok (.iload_n 1, 1) := by decide +kernel
theorem dX6_of_33 : decode cX6_of 33 = .ok (.aaload, 1) := by decide +kernel
theorem dX6_of_34 : decode cX6_of 34 = .ok (.astore_n 3, 1) := by decide +kernel
theorem dX6_of_35 : decode cX6_of 35 = .ok (.iload_n 2, 1) := by decide +kernel
theorem dX6_of_36 : decode cX6_of 36 = .ok (.tableswitch 85 7 9 #[28, 43, 65], 28) := by decide +kernel
theorem dX6_of_64 : decode cX6_of 64 = .ok (.aload_n 3, 1) := by decide +kernel
theorem dX6_of_65 : decode cX6_of 65 = .ok (.aload_n 0, 1) := by decide +kernel
theorem dX6_of_66 : decode cX6_of 66 = .ok (.getfield 10, 3) := by decide +kernel
theorem dX6_of_69 : decode cX6_of 69 = .ok (.getfield 55, 3) := by decide +kernel
theorem dX6_of_72 : decode cX6_of 72 = .ok (.getfield 97, 3) := by decide +kernel
theorem dX6_of_75 : decode cX6_of 75 = .ok (.invokevirtual 100, 3) := by decide +kernel
theorem dX6_of_78 : decode cX6_of 78 = .ok (.ireturn, 1) := by decide +kernel
theorem dX6_of_79 : decode cX6_of 79 = .ok (.aload_n 3, 1) := by decide +kernel
theorem dX6_of_80 : decode cX6_of 80 = .ok (.aload_n 0, 1) := by decide +kernel
theorem dX6_of_81 : decode cX6_of 81 = .ok (.getfield 10, 3) := by decide +kernel
theorem dX6_of_84 : decode cX6_of 84 = .ok (.getfield 55, 3) := by decide +kernel
theorem dX6_of_87 : decode cX6_of 87 = .ok (.getfield 105, 3) := by decide +kernel
theorem dX6_of_90 : decode cX6_of 90 = .ok (.aload_n 0, 1) := by decide +kernel
theorem dX6_of_91 : decode cX6_of 91 = .ok (.getfield 10, 3) := by decide +kernel
theorem dX6_of_94 : decode cX6_of 94 = .ok (.invokevirtual 108, 3) := by decide +kernel
theorem dX6_of_97 : decode cX6_of 97 = .ok (.invokevirtual 112, 3) := by decide +kernel
theorem dX6_of_100 : decode cX6_of 100 = .ok (.ireturn, 1) := by decide +kernel
theorem dX6_of_101 : decode cX6_of 101 = .ok (.aload_n 3, 1) := by decide +kernel
theorem dX6_of_102 : decode cX6_of 102 = .ok (.aload_n 0, 1) := by decide +kernel
theorem dX6_of_103 : decode cX6_of 103 = .ok (.getfield 10, 3) := by decide +kernel
theorem dX6_of_106 : decode cX6_of 106 = .ok (.invokevirtual 108, 3) := by decide +kernel
theorem dX6_of_109 : decode cX6_of 109 = .ok (.invokevirtual 116, 3) := by decide +kernel
theorem dX6_of_112 : decode cX6_of 112 = .ok (.ifCond .eq 7, 3) := by decide +kernel
theorem dX6_of_115 : decode cX6_of 115 = .ok (.iconst 1, 1) := by decide +kernel
theorem dX6_of_116 : decode cX6_of 116 = .ok (.goto 4, 3) := by decide +kernel
theorem dX6_of_119 : decode cX6_of 119 = .ok (.iconst 0, 1) := by decide +kernel
theorem dX6_of_120 : decode cX6_of 120 = .ok (.ireturn, 1) := by decide +kernel
theorem dX6_of_121 : decode cX6_of 121 = .ok (.aload_n 3, 1) := by decide +kernel
theorem dX6_of_122 : decode cX6_of 122 = .ok (.iload_n 2, 1) := by decide +kernel
theorem dX6_of_123 : decode cX6_of 123 = .ok (.invokevirtual 119, 3) := by decide +kernel
theorem dX6_of_126 : decode cX6_of 126 = .ok (.ireturn, 1) := by decide +kernel
theorem dX6_set_0 : decode cX6_set 0 = .ok (.aload_n 0, 1) := by decide +kernel
theorem dX6_set_1 : decode cX6_set 1 = .ok (.iload_n 1, 1) := by decide +kernel
theorem dX6_set_2 : decode cX6_set 2 = .ok (.invokevirtual 90, 3) := by decide +kernel
theorem dX6_set_5 : decode cX6_set 5 = .ok (.ifCond .ne 10, 3) := by decide +kernel
theorem dX6_set_8 : decode cX6_set 8 = .ok (.aload_n 0, 1) := by decide +kernel
theorem dX6_set_9 : decode cX6_set 9 = .ok (.ldc 50, 2) := by decide +kernel
theorem dX6_set_11 : decode cX6_set 11 = .ok (.invokevirtual 51, 3) := by decide +kernel
theorem dX6_set_14 : decode cX6_set 14 = .ok (.ireturn, 1) := by decide +kernel
theorem dX6_set_15 : decode cX6_set 15 = .ok (.aload_n 0, 1) := by decide +kernel
theorem dX6_set_16 : decode cX6_set 16 = .ok (.getfield 10, 3) := by decide +kernel
theorem dX6_set_19 : decode cX6_set 19 = .ok (.getfield 93, 3) := by decide +kernel
theorem dX6_set_22 : decode cX6_set 22 = .ok (.iload_n 1, 1) := by decide +kernel
theorem dX6_set_23 : decode cX6_set 23 = .ok (.aaload, 1) := by decide +kernel
theorem dX6_set_24 : decode cX6_set 24 = .ok (.astore 4, 2) := by decide +kernel
theorem dX6_set_26 : decode cX6_set 26 = .ok (.iload_n 2, 1) := by decide +kernel
theorem dX6_set_27 : decode cX6_set 27 = .ok (.iconst 1, 1) := by decide +kernel
theorem dX6_set_28 : decode cX6_set 28 = .ok (.if_icmp .ne 26, 3) := by decide +kernel
theorem dX6_set_31 : decode cX6_set 31 = .ok (.iload_n 3, 1) := by decide +kernel
theorem dX6_set_32 : decode cX6_set 32 = .ok (.invokestatic 74, 3) := by decide +kernel
theorem dX6_set_35 : decode cX6_set 35 = .ok (.ifCond .eq 19, 3) := by decide +kernel
theorem dX6_set_38 : decode cX6_set 38 = .ok (.aload 4, 2) := by decide +kernel
theorem dX6_set_40 : decode cX6_set 40 = .ok (.getfield 120, 3) := by decide +kernel
theorem dX6_set_43 : decode cX6_set 43 = .ok (.istore 5, 2) := by decide +kernel
theorem dX6_set_45 : decode cX6_set 45 = .ok (.aload 4, 2) := by decide +kernel
theorem dX6_set_47 : decode cX6_set 47 = .ok (.iload_n 3, 1) := by decide +kernel
theorem dX6_set_48 : decode cX6_set 48 = .ok (.putfield 120, 3) := by decide +kernel
theorem dX6_set_51 : decode cX6_set 51 = .ok (.iload 5, 2) := by decide +kernel
theorem dX6_set_53 : decode cX6_set 53 = .ok (.ireturn, 1) := by decide +kernel
theorem dX6_set_54 : decode cX6_set 54 = .ok (.iload_n 2, 1) := by decide +kernel
theorem dX6_set_55 : decode cX6_set 55 = .ok (.iconst 2, 1) := by decide +kernel
theorem dX6_set_56 : decode cX6_set 56 = .ok (.if_icmp .ne 26, 3) := by decide +kernel
theorem dX6_set_59 : decode cX6_set 59 = .ok (.iload_n 3, 1) := by decide +kernel
theorem dX6_set_60 : decode cX6_set 60 = .ok (.invokestatic 121, 3) := by decide +kernel
theorem dX6_set_63 : decode cX6_set 63 = .ok (.ifCond .eq 19, 3) := by decide +kernel
theorem dX6_set_66 : decode cX6_set 66 = .ok (.aload 4, 2) := by decide +kernel
theorem dX6_set_68 : decode cX6_set 68 = .ok (.getfield 124, 3) := by decide +kernel
theorem dX6_set_71 : decode cX6_set 71 = .ok (.istore 5, 2) := by decide +kernel
theorem dX6_set_73 : decode cX6_set 73 = .ok (.aload 4, 2) := by decide +kernel
theorem dX6_set_75 : decode cX6_set 75 = .ok (.iload_n 3, 1) := by decide +kernel
theorem dX6_set_76 : decode cX6_set 76 = .ok (.putfield 124, 3) := by decide +kernel
theorem dX6_set_79 : decode cX6_set 79 = .ok (.iload 5, 2) := by decide +kernel
theorem dX6_set_81 : decode cX6_set 81 = .ok (.ireturn, 1) := by decide +kernel
theorem dX6_set_82 : decode cX6_set 82 = .ok (.aload_n 0, 1) := by decide +kernel
theorem dX6_set_83 : decode cX6_set 83 = .ok (.ldc 50, 2) := by decide +kernel
theorem dX6_set_85 : decode cX6_set 85 = .ok (.invokevirtual 51, 3) := by decide +kernel
theorem dX6_set_88 : decode cX6_set 88 = .ok (.ireturn, 1) := by decide +kernel
theorem dX6_pays_0 : decode cX6_pays 0 = .ok (.aload_n 0, 1) := by decide +kernel
theorem dX6_pays_1 : decode cX6_pays 1 = .ok (.iload_n 1, 1) := by decide +kernel
theorem dX6_pays_2 : decode cX6_pays 2 = .ok (.invokevirtual 90, 3) := by decide +kernel
theorem dX6_pays_5 : decode cX6_pays 5 = .ok (.ifCond .eq 17, 3) := by decide +kernel
theorem dX6_pays_8 : decode cX6_pays 8 = .ok (.iload_n 2, 1) := by decide +kernel
theorem dX6_pays_9 : decode cX6_pays 9 = .ok (.invokestatic 127, 3) := by decide +kernel
theorem dX6_pays_12 : decode cX6_pays 12 = .ok (.ifCond .eq 10, 3) := by decide +kernel
theorem dX6_pays_15 : decode cX6_pays 15 = .ok (.iload_n 3, 1) := by decide +kernel
theorem dX6_pays_16 : decode cX6_pays 16 = .ok (.invokestatic 127, 3) := by decide +kernel
theorem dX6_pays_19 : decode cX6_pays 19 = .ok (.ifCond .ne 10, 3) := by decide +kernel
theorem dX6_pays_22 : decode cX6_pays 22 = .ok (.aload_n 0, 1) := by decide +kernel
theorem dX6_pays_23 : decode cX6_pays 23 = .ok (.ldc 50, 2) := by decide +kernel
theorem dX6_pays_25 : decode cX6_pays 25 = .ok (.invokevirtual 51, 3) := by decide +kernel
theorem dX6_pays_28 : decode cX6_pays 28 = .ok (.ireturn, 1) := by decide +kernel
theorem dX6_pays_29 : decode cX6_pays 29 = .ok (.aload_n 0, 1) := by decide +kernel
theorem dX6_pays_30 : decode cX6_pays 30 = .ok (.getfield 10, 3) := by decide +kernel
theorem dX6_pays_33 : decode cX6_pays 33 = .ok (.getfield 93, 3) := by decide +kernel
theorem dX6_pays_36 : decode cX6_pays 36 = .ok (.iload_n 1, 1) := by decide +kernel
theorem dX6_pays_37 : decode cX6_pays 37 = .ok (.aaload, 1) := by decide +kernel
theorem dX6_pays_38 : decode cX6_pays 38 = .ok (.astore 4, 2) := by decide +kernel
theorem dX6_pays_40 : decode cX6_pays 40 = .ok (.aload 4, 2) := by decide +kernel
theorem dX6_pays_42 : decode cX6_pays 42 = .ok (.iload_n 2, 1) := by decide +kernel
theorem dX6_pays_43 : decode cX6_pays 43 = .ok (.putfield 130, 3) := by decide +kernel
theorem dX6_pays_46 : decode cX6_pays 46 = .ok (.aload 4, 2) := by decide +kernel
theorem dX6_pays_48 : decode cX6_pays 48 = .ok (.iload_n 3, 1) := by decide +kernel
theorem dX6_pays_49 : decode cX6_pays 49 = .ok (.putfield 133, 3) := by decide +kernel
theorem dX6_pays_52 : decode cX6_pays 52 = .ok (.aload 4, 2) := by decide +kernel
theorem dX6_pays_54 : decode cX6_pays 54 = .ok (.invokevirtual 136, 3) := by decide +kernel
theorem dX6_pays_57 : decode cX6_pays 57 = .ok (.ireturn, 1) := by decide +kernel
theorem dX6_turn_0 : decode cX6_turn 0 = .ok (.aload_n 0, 1) := by decide +kernel
theorem dX6_turn_1 : decode cX6_turn 1 = .ok (.iload_n 1, 1) := by decide +kernel
theorem dX6_turn_2 : decode cX6_turn 2 = .ok (.invokevirtual 90, 3) := by decide +kernel
theorem dX6_turn_5 : decode cX6_turn 5 = .ok (.ifCond .eq 10, 3) := by decide +kernel
theorem dX6_turn_8 : decode cX6_turn 8 = .ok (.iload_n 2, 1) := by decide +kernel
theorem dX6_turn_9 : decode cX6_turn 9 = .ok (.invokestatic 70, 3) := by decide +kernel
theorem dX6_turn_12 : decode cX6_turn 12 = .ok (.ifCond .ne 10, 3) := by decide +kernel
theorem dX6_turn_15 : decode cX6_turn 15 = .ok (.aload_n 0, 1) := by decide +kernel
theorem dX6_turn_16 : decode cX6_turn 16 = .ok (.ldc 50, 2) := by decide +kernel
theorem dX6_turn_18 : decode cX6_turn 18 = .ok (.invokevirtual 51, 3) := by decide +kernel
theorem dX6_turn_21 : decode cX6_turn 21 = .ok (.ireturn, 1) := by decide +kernel
theorem dX6_turn_22 : decode cX6_turn 22 = .ok (.aload_n 0, 1) := by decide +kernel
theorem dX6_turn_23 : decode cX6_turn 23 = .ok (.getfield 10, 3) := by decide +kernel
theorem dX6_turn_26 : decode cX6_turn 26 = .ok (.getfield 93, 3) := by decide +kernel
theorem dX6_turn_29 : decode cX6_turn 29 = .ok (.iload_n 1, 1) := by decide +kernel
theorem dX6_turn_30 : decode cX6_turn 30 = .ok (.aaload, 1) := by decide +kernel
theorem dX6_turn_31 : decode cX6_turn 31 = .ok (.getfield 139, 3) := by decide +kernel
theorem dX6_turn_34 : decode cX6_turn 34 = .ok (.istore_n 3, 1) := by decide +kernel
theorem dX6_turn_35 : decode cX6_turn 35 = .ok (.aload_n 0, 1) := by decide +kernel
theorem dX6_turn_36 : decode cX6_turn 36 = .ok (.getfield 10, 3) := by decide +kernel
theorem dX6_turn_39 : decode cX6_turn 39 = .ok (.getfield 93, 3) := by decide +kernel
theorem dX6_turn_42 : decode cX6_turn 42 = .ok (.iload_n 1, 1) := by decide +kernel
theorem dX6_turn_43 : decode cX6_turn 43 = .ok (.aaload, 1) := by decide +kernel
theorem dX6_turn_44 : decode cX6_turn 44 = .ok (.iload_n 2, 1) := by decide +kernel
theorem dX6_turn_45 : decode cX6_turn 45 = .ok (.putfield 139, 3) := by decide +kernel
theorem dX6_turn_48 : decode cX6_turn 48 = .ok (.iload_n 3, 1) := by decide +kernel
theorem dX6_turn_49 : decode cX6_turn 49 = .ok (.ireturn, 1) := by decide +kernel
theorem dX6_as_0 : decode cX6_as 0 = .ok (.aload_n 0, 1) := by decide +kernel
theorem dX6_as_1 : decode cX6_as 1 = .ok (.iload_n 1, 1) := by decide +kernel
theorem dX6_as_2 : decode cX6_as 2 = .ok (.invokevirtual 90, 3) := by decide +kernel
theorem dX6_as_5 : decode cX6_as 5 = .ok (.ifCond .eq 10, 3) := by decide +kernel
theorem dX6_as_8 : decode cX6_as 8 = .ok (.iload_n 2, 1) := by decide +kernel
theorem dX6_as_9 : decode cX6_as 9 = .ok (.invokestatic 70, 3) := by decide +kernel
theorem dX6_as_12 : decode cX6_as 12 = .ok (.ifCond .ne 10, 3) := by decide +kernel
theorem dX6_as_15 : decode cX6_as 15 = .ok (.aload_n 0, 1) := by decide +kernel
theorem dX6_as_16 : decode cX6_as 16 = .ok (.ldc 50, 2) := by decide +kernel
theorem dX6_as_18 : decode cX6_as 18 = .ok (.invokevirtual 51, 3) := by decide +kernel
theorem dX6_as_21 : decode cX6_as 21 = .ok (.ireturn, 1) := by decide +kernel
theorem dX6_as_22 : decode cX6_as 22 = .ok (.aload_n 0, 1) := by decide +kernel
theorem dX6_as_23 : decode cX6_as 23 = .ok (.getfield 10, 3) := by decide +kernel
theorem dX6_as_26 : decode cX6_as 26 = .ok (.getfield 93, 3) := by decide +kernel
theorem dX6_as_29 : decode cX6_as 29 = .ok (.iload_n 1, 1) := by decide +kernel
theorem dX6_as_30 : decode cX6_as 30 = .ok (.aaload, 1) := by decide +kernel
theorem dX6_as_31 : decode cX6_as 31 = .ok (.iload_n 2, 1) := by decide +kernel
theorem dX6_as_32 : decode cX6_as 32 = .ok (.invokevirtual 142, 3) := by decide +kernel
theorem dX6_as_35 : decode cX6_as 35 = .ok (.ifCond .ne 10, 3) := by decide +kernel
theorem dX6_as_38 : decode cX6_as 38 = .ok (.aload_n 0, 1) := by decide +kernel
theorem dX6_as_39 : decode cX6_as 39 = .ok (.ldc 145, 2) := by decide +kernel
theorem dX6_as_41 : decode cX6_as 41 = .ok (.invokevirtual 51, 3) := by decide +kernel
theorem dX6_as_44 : decode cX6_as 44 = .ok (.ireturn, 1) := by decide +kernel
theorem dX6_as_45 : decode cX6_as 45 = .ok (.aload_n 0, 1) := by decide +kernel
theorem dX6_as_46 : decode cX6_as 46 = .ok (.getfield 10, 3) := by decide +kernel
theorem dX6_as_49 : decode cX6_as 49 = .ok (.getfield 93, 3) := by decide +kernel
theorem dX6_as_52 : decode cX6_as 52 = .ok (.iload_n 1, 1) := by decide +kernel
theorem dX6_as_53 : decode cX6_as 53 = .ok (.aaload, 1) := by decide +kernel
theorem dX6_as_54 : decode cX6_as 54 = .ok (.getfield 124, 3) := by decide +kernel
theorem dX6_as_57 : decode cX6_as 57 = .ok (.ireturn, 1) := by decide +kernel
theorem dX6_down_0 : decode cX6_down 0 = .ok (.aload_n 0, 1) := by decide +kernel
theorem dX6_down_1 : decode cX6_down 1 = .ok (.iload_n 1, 1) := by decide +kernel
theorem dX6_down_2 : decode cX6_down 2 = .ok (.invokevirtual 90, 3) := by decide +kernel
theorem dX6_down_5 : decode cX6_down 5 = .ok (.ifCond .ne 10, 3) := by decide +kernel
theorem dX6_down_8 : decode cX6_down 8 = .ok (.aload_n 0, 1) := by decide +kernel
theorem dX6_down_9 : decode cX6_down 9 = .ok (.ldc 50, 2) := by decide +kernel
theorem dX6_down_11 : decode cX6_down 11 = .ok (.invokevirtual 51, 3) := by decide +kernel
theorem dX6_down_14 : decode cX6_down 14 = .ok (.ireturn, 1) := by decide +kernel
theorem dX6_down_15 : decode cX6_down 15 = .ok (.aload_n 0, 1) := by decide +kernel
theorem dX6_down_16 : decode cX6_down 16 = .ok (.getfield 10, 3) := by decide +kernel
theorem dX6_down_19 : decode cX6_down 19 = .ok (.getfield 93, 3) := by decide +kernel
theorem dX6_down_22 : decode cX6_down 22 = .ok (.iload_n 1, 1) := by decide +kernel
theorem dX6_down_23 : decode cX6_down 23 = .ok (.aaload, 1) := by decide +kernel
theorem dX6_down_24 : decode cX6_down 24 = .ok (.getfield 146, 3) := by decide +kernel
theorem dX6_down_27 : decode cX6_down 27 = .ok (.istore_n 2, 1) := by decide +kernel
theorem dX6_down_28 : decode cX6_down 28 = .ok (.aload_n 0, 1) := by decide +kernel
theorem dX6_down_29 : decode cX6_down 29 = .ok (.getfield 10, 3) := by decide +kernel
theorem dX6_down_32 : decode cX6_down 32 = .ok (.iload_n 1, 1) := by decide +kernel
theorem dX6_down_33 : decode cX6_down 33 = .ok (.invokevirtual 149, 3) := by decide +kernel
theorem dX6_down_36 : decode cX6_down 36 = .ok (.iload_n 2, 1) := by decide +kernel
theorem dX6_down_37 : decode cX6_down 37 = .ok (.ireturn, 1) := by decide +kernel
theorem dX6_settle_0 : decode cX6_settle 0 = .ok (.aload_n 0, 1) := by decide +kernel
theorem dX6_settle_1 : decode cX6_settle 1 = .ok (.iload_n 1, 1) := by decide +kernel
theorem dX6_settle_2 : decode cX6_settle 2 = .ok (.invokevirtual 90, 3) := by decide +kernel
theorem dX6_settle_5 : decode cX6_settle 5 = .ok (.ifCond .ne 10, 3) := by decide +kernel
theorem dX6_settle_8 : decode cX6_settle 8 = .ok (.aload_n 0, 1) := by decide +kernel
theorem dX6_settle_9 : decode cX6_settle 9 = .ok (.ldc 50, 2) := by decide +kernel
theorem dX6_settle_11 : decode cX6_settle 11 = .ok (.invokevirtual 51, 3) := by decide +kernel
theorem dX6_settle_14 : decode cX6_settle 14 = .ok (.ireturn, 1) := by decide +kernel
theorem dX6_settle_15 : decode cX6_settle 15 = .ok (.aload_n 0, 1) := by decide +kernel
theorem dX6_settle_16 : decode cX6_settle 16 = .ok (.getfield 10, 3) := by decide +kernel
theorem dX6_settle_19 : decode cX6_settle 19 = .ok (.getfield 93, 3) := by decide +kernel
theorem dX6_settle_22 : decode cX6_settle 22 = .ok (.iload_n 1, 1) := by decide +kernel
theorem dX6_settle_23 : decode cX6_settle 23 = .ok (.aaload, 1) := by decide +kernel
theorem dX6_settle_24 : decode cX6_settle 24 = .ok (.getfield 146, 3) := by decide +kernel
theorem dX6_settle_27 : decode cX6_settle 27 = .ok (.istore_n 2, 1) := by decide +kernel
theorem dX6_settle_28 : decode cX6_settle 28 = .ok (.aload_n 0, 1) := by decide +kernel
theorem dX6_settle_29 : decode cX6_settle 29 = .ok (.getfield 10, 3) := by decide +kernel
theorem dX6_settle_32 : decode cX6_settle 32 = .ok (.getfield 93, 3) := by decide +kernel
theorem dX6_settle_35 : decode cX6_settle 35 = .ok (.iload_n 1, 1) := by decide +kernel
theorem dX6_settle_36 : decode cX6_settle 36 = .ok (.aaload, 1) := by decide +kernel
theorem dX6_settle_37 : decode cX6_settle 37 = .ok (.iconst 0, 1) := by decide +kernel
theorem dX6_settle_38 : decode cX6_settle 38 = .ok (.putfield 146, 3) := by decide +kernel
theorem dX6_settle_41 : decode cX6_settle 41 = .ok (.iload_n 2, 1) := by decide +kernel
theorem dX6_settle_42 : decode cX6_settle 42 = .ok (.ireturn, 1) := by decide +kernel
theorem dX6_hours_0 : decode cX6_hours 0 = .ok (.iload_n 1, 1) := by decide +kernel
theorem dX6_hours_1 : decode cX6_hours 1 = .ok (.iconst 1, 1) := by decide +kernel
theorem dX6_hours_2 : decode cX6_hours 2 = .ok (.bipush 100, 2) := by decide +kernel
theorem dX6_hours_4 : decode cX6_hours 4 = .ok (.invokestatic 66, 3) := by decide +kernel
theorem dX6_hours_7 : decode cX6_hours 7 = .ok (.ifCond .ne 10, 3) := by decide +kernel
theorem dX6_hours_10 : decode cX6_hours 10 = .ok (.aload_n 0, 1) := by decide +kernel
theorem dX6_hours_11 : decode cX6_hours 11 = .ok (.ldc 50, 2) := by decide +kernel
theorem dX6_hours_13 : decode cX6_hours 13 = .ok (.invokevirtual 51, 3) := by decide +kernel
theorem dX6_hours_16 : decode cX6_hours 16 = .ok (.ireturn, 1) := by decide +kernel
theorem dX6_hours_17 : decode cX6_hours 17 = .ok (.aload_n 0, 1) := by decide +kernel
theorem dX6_hours_18 : decode cX6_hours 18 = .ok (.getfield 10, 3) := by decide +kernel
theorem dX6_hours_21 : decode cX6_hours 21 = .ok (.getfield 153, 3) := by decide +kernel
theorem dX6_hours_24 : decode cX6_hours 24 = .ok (.iload_n 1, 1) := by decide +kernel
theorem dX6_hours_25 : decode cX6_hours 25 = .ok (.iadd, 1) := by decide +kernel
theorem dX6_hours_26 : decode cX6_hours 26 = .ok (.sipush 9999, 3) := by decide +kernel
theorem dX6_hours_29 : decode cX6_hours 29 = .ok (.if_icmp .le 10, 3) := by decide +kernel
theorem dX6_hours_32 : decode cX6_hours 32 = .ok (.aload_n 0, 1) := by decide +kernel
theorem dX6_hours_33 : decode cX6_hours 33 = .ok (.ldc 156, 2) := by decide +kernel
theorem dX6_hours_35 : decode cX6_hours 35 = .ok (.invokevirtual 51, 3) := by decide +kernel
theorem dX6_hours_38 : decode cX6_hours 38 = .ok (.ireturn, 1) := by decide +kernel
theorem dX6_hours_39 : decode cX6_hours 39 = .ok (.aload_n 0, 1) := by decide +kernel
theorem dX6_hours_40 : decode cX6_hours 40 = .ok (.getfield 10, 3) := by decide +kernel
theorem dX6_hours_43 : decode cX6_hours 43 = .ok (.iload_n 1, 1) := by decide +kernel
theorem dX6_hours_44 : decode cX6_hours 44 = .ok (.invokevirtual 157, 3) := by decide +kernel
theorem dX6_hours_47 : decode cX6_hours 47 = .ok (.aload_n 0, 1) := by decide +kernel
theorem dX6_hours_48 : decode cX6_hours 48 = .ok (.getfield 10, 3) := by decide +kernel
theorem dX6_hours_51 : decode cX6_hours 51 = .ok (.iconst 5, 1) := by decide +kernel
theorem dX6_hours_52 : decode cX6_hours 52 = .ok (.invokevirtual 160, 3) := by decide +kernel
theorem dX6_hours_55 : decode cX6_hours 55 = .ok (.ireturn, 1) := by decide +kernel
theorem dX6_days_0 : decode cX6_days 0 = .ok (.iload_n 1, 1) := by decide +kernel
theorem dX6_days_1 : decode cX6_days 1 = .ok (.iconst 1, 1) := by decide +kernel
theorem dX6_days_2 : decode cX6_days 2 = .ok (.iconst 4, 1) := by decide +kernel
theorem dX6_days_3 : decode cX6_days 3 = .ok (.invokestatic 66, 3) := by decide +kernel
theorem dX6_days_6 : decode cX6_days 6 = .ok (.ifCond .ne 10, 3) := by decide +kernel
theorem dX6_days_9 : decode cX6_days 9 = .ok (.aload_n 0, 1) := by decide +kernel
theorem dX6_days_10 : decode cX6_days 10 = .ok (.ldc 50, 2) := by decide +kernel
theorem dX6_days_12 : decode cX6_days 12 = .ok (.invokevirtual 51, 3) := by decide +kernel
theorem dX6_days_15 : decode cX6_days 15 = .ok (.ireturn, 1) := by decide +kernel
theorem dX6_days_16 : decode cX6_days 16 = .ok (.aload_n 0, 1) := by decide +kernel
theorem dX6_days_17 : decode cX6_days 17 = .ok (.getfield 10, 3) := by decide +kernel
theorem dX6_days_20 : decode cX6_days 20 = .ok (.getfield 153, 3) := by decide +kernel
theorem dX6_days_23 : decode cX6_days 23 = .ok (.iload_n 1, 1) := by decide +kernel
theorem dX6_days_24 : decode cX6_days 24 = .ok (.bipush 24, 2) := by decide +kernel
theorem dX6_days_26 : decode cX6_days 26 = .ok (.imul, 1) := by decide +kernel
theorem dX6_days_27 : decode cX6_days 27 = .ok (.iadd, 1) := by decide +kernel
theorem dX6_days_28 : decode cX6_days 28 = .ok (.sipush 9999, 3) := by decide +kernel
theorem dX6_days_31 : decode cX6_days 31 = .ok (.if_icmp .le 10, 3) := by decide +kernel
theorem dX6_days_34 : decode cX6_days 34 = .ok (.aload_n 0, 1) := by decide +kernel
theorem dX6_days_35 : decode cX6_days 35 = .ok (.ldc 156, 2) := by decide +kernel
theorem dX6_days_37 : decode cX6_days 37 = .ok (.invokevirtual 51, 3) := by decide +kernel
theorem dX6_days_40 : decode cX6_days 40 = .ok (.ireturn, 1) := by decide +kernel
theorem dX6_days_41 : decode cX6_days 41 = .ok (.iconst 0, 1) := by decide +kernel
theorem dX6_days_42 : decode cX6_days 42 = .ok (.istore_n 2, 1) := by decide +kernel
theorem dX6_days_43 : decode cX6_days 43 = .ok (.iload_n 2, 1) := by decide +kernel
theorem dX6_days_44 : decode cX6_days 44 = .ok (.iload_n 1, 1) := by decide +kernel
theorem dX6_days_45 : decode cX6_days 45 = .ok (.if_icmp .ge 25, 3) := by decide +kernel
theorem dX6_days_48 : decode cX6_days 48 = .ok (.aload_n 0, 1) := by decide +kernel
theorem dX6_days_49 : decode cX6_days 49 = .ok (.getfield 10, 3) := by decide +kernel
theorem dX6_days_52 : decode cX6_days 52 = .ok (.invokevirtual 163, 3) := by decide +kernel
theorem dX6_days_55 : decode cX6_days 55 = .ok (.aload_n 0, 1) := by decide +kernel
theorem dX6_days_56 : decode cX6_days 56 = .ok (.getfield 10, 3) := by decide +kernel
theorem dX6_days_59 : decode cX6_days 59 = .ok (.bipush 24, 2) := by decide +kernel
theorem dX6_days_61 : decode cX6_days 61 = .ok (.invokevirtual 157, 3) := by decide +kernel
theorem dX6_days_64 : decode cX6_days 64 = .ok (.iinc 2 1, 3) := by decide +kernel
theorem dX6_days_67 : decode cX6_days 67 = .ok (.goto (-24), 3) := by decide +kernel
theorem dX6_days_70 : decode cX6_days 70 = .ok (.aload_n 0, 1) := by decide +kernel
theorem dX6_days_71 : decode cX6_days 71 = .ok (.getfield 10, 3) := by decide +kernel
theorem dX6_days_74 : decode cX6_days 74 = .ok (.iconst 5, 1) := by decide +kernel
theorem dX6_days_75 : decode cX6_days 75 = .ok (.invokevirtual 160, 3) := by decide +kernel
theorem dX6_days_78 : decode cX6_days 78 = .ok (.ireturn, 1) := by decide +kernel
theorem dX6_seed_0 : decode cX6_seed 0 = .ok (.aload_n 0, 1) := by decide +kernel
theorem dX6_seed_1 : decode cX6_seed 1 = .ok (.getfield 10, 3) := by decide +kernel
theorem dX6_seed_4 : decode cX6_seed 4 = .ok (.getfield 166, 3) := by decide +kernel
theorem dX6_seed_7 : decode cX6_seed 7 = .ok (.istore_n 2, 1) := by decide +kernel
theorem dX6_seed_8 : decode cX6_seed 8 = .ok (.aload_n 0, 1) := by decide +kernel
theorem dX6_seed_9 : decode cX6_seed 9 = .ok (.getfield 10, 3) := by decide +kernel
theorem dX6_seed_12 : decode cX6_seed 12 = .ok (.iload_n 1, 1) := by decide +kernel
theorem dX6_seed_13 : decode cX6_seed 13 = .ok (.putfield 166, 3) := by decide +kernel
theorem dX6_seed_16 : decode cX6_seed 16 = .ok (.iload_n 2, 1) := by decide +kernel
theorem dX6_seed_17 : decode cX6_seed 17 = .ok (.ireturn, 1) := by decide +kernel
theorem dX6_now_0 : decode cX6_now 0 = .ok (.iload_n 1, 1) := by decide +kernel
theorem dX6_now_1 : decode cX6_now 1 = .ok (.tableswitch 90 0 5 #[39, 47, 55, 64, 74, 82], 39) := by decide +kernel
theorem dX6_now_40 : decode cX6_now 40 = .ok (.aload_n 0, 1) := by decide +kernel
theorem dX6_now_41 : decode cX6_now 41 = .ok (.getfield 10, 3) := by decide +kernel
theorem dX6_now_44 : decode cX6_now 44 = .ok (.getfield 153, 3) := by decide +kernel
theorem dX6_now_47 : decode cX6_now 47 = .ok (.ireturn, 1) := by decide +kernel
theorem dX6_now_48 : decode cX6_now 48 = .ok (.aload_n 0, 1) := by decide +kernel
theorem dX6_now_49 : decode cX6_now 49 = .ok (.getfield 10, 3) := by decide +kernel
theorem dX6_now_52 : decode cX6_now 52 = .ok (.invokevirtual 108, 3) := by decide +kernel
theorem dX6_now_55 : decode cX6_now 55 = .ok (.ireturn, 1) := by decide +kernel
theorem dX6_now_56 : decode cX6_now 56 = .ok (.aload_n 0, 1) := by decide +kernel
theorem dX6_now_57 : decode cX6_now 57 = .ok (.getfield 10, 3) := by decide +kernel
theorem dX6_now_60 : decode cX6_now 60 = .ok (.iconst 5, 1) := by decide +kernel
theorem dX6_now_61 : decode cX6_now 61 = .ok (.invokevirtual 160, 3) := by decide +kernel
theorem dX6_now_64 : decode cX6_now 64 = .ok (.ireturn, 1) := by decide +kernel
theorem dX6_now_65 : decode cX6_now 65 = .ok (.aload_n 0, 1) := by decide +kernel
theorem dX6_now_66 : decode cX6_now 66 = .ok (.getfield 10, 3) := by decide +kernel
theorem dX6_now_69 : decode cX6_now 69 = .ok (.bipush 6, 2) := by decide +kernel
theorem dX6_now_71 : decode cX6_now 71 = .ok (.invokevirtual 160, 3) := by decide +kernel
theorem dX6_now_74 : decode cX6_now 74 = .ok (.ireturn, 1) := by decide +kernel
theorem dX6_now_75 : decode cX6_now 75 = .ok (.aload_n 0, 1) := by decide +kernel
theorem dX6_now_76 : decode cX6_now 76 = .ok (.getfield 10, 3) := by decide +kernel
theorem dX6_now_79 : decode cX6_now 79 = .ok (.getfield 169, 3) := by decide +kernel
theorem dX6_now_82 : decode cX6_now 82 = .ok (.ireturn, 1) := by decide +kernel
theorem dX6_now_83 : decode cX6_now 83 = .ok (.aload_n 0, 1) := by decide +kernel
theorem dX6_now_84 : decode cX6_now 84 = .ok (.getfield 10, 3) := by decide +kernel
theorem dX6_now_87 : decode cX6_now 87 = .ok (.invokevirtual 172, 3) := by decide +kernel
theorem dX6_now_90 : decode cX6_now 90 = .ok (.ireturn, 1) := by decide +kernel
theorem dX6_now_91 : decode cX6_now 91 = .ok (.aload_n 0, 1) := by decide +kernel
theorem dX6_now_92 : decode cX6_now 92 = .ok (.ldc 50, 2) := by decide +kernel
theorem dX6_now_94 : decode cX6_now 94 = .ok (.invokevirtual 51, 3) := by decide +kernel
theorem dX6_now_97 : decode cX6_now 97 = .ok (.ireturn, 1) := by decide +kernel
theorem dX6_on_0 : decode cX6_on 0 = .ok (.aload_n 0, 1) := by decide +kernel
theorem dX6_on_1 : decode cX6_on 1 = .ok (.iload_n 1, 1) := by decide +kernel
theorem dX6_on_2 : decode cX6_on 2 = .ok (.invokevirtual 90, 3) := by decide +kernel
theorem dX6_on_5 : decode cX6_on 5 = .ok (.ifCond .eq 22, 3) := by decide +kernel
theorem dX6_on_8 : decode cX6_on 8 = .ok (.iload_n 2, 1) := by decide +kernel
theorem dX6_on_9 : decode cX6_on 9 = .ok (.iconst 0, 1) := by decide +kernel
theorem dX6_on_10 : decode cX6_on 10 = .ok (.bipush 100, 2) := by decide +kernel
theorem dX6_on_12 : decode cX6_on 12 = .ok (.invokestatic 66, 3) := by decide +kernel
theorem dX6_on_15 : decode cX6_on 15 = .ok (.ifCond .eq 12, 3) := by decide +kernel
theorem dX6_on_18 : decode cX6_on 18 = .ok (.iload_n 3, 1) := by decide +kernel
theorem dX6_on_19 : decode cX6_on 19 = .ok (.iconst 0, 1) := by decide +kernel
theorem dX6_on_20 : decode cX6_on 20 = .ok (.iconst 1, 1) := by decide +kernel
theorem dX6_on_21 : decode cX6_on 21 = .ok (.invokestatic 66, 3) := by decide +kernel
theorem dX6_on_24 : decode cX6_on 24 = .ok (.ifCond .ne 10, 3) := by decide +kernel
theorem dX6_on_27 : decode cX6_on 27 = .ok (.aload_n 0, 1) := by decide +kernel
theorem dX6_on_28 : decode cX6_on 28 = .ok (.ldc 50, 2) := by decide +kernel
theorem dX6_on_30 : decode cX6_on 30 = .ok (.invokevirtual 51, 3) := by decide +kernel
theorem dX6_on_33 : decode cX6_on 33 = .ok (.ireturn, 1) := by decide +kernel
theorem dX6_on_34 : decode cX6_on 34 = .ok (.aload_n 0, 1) := by decide +kernel
theorem dX6_on_35 : decode cX6_on 35 = .ok (.invokevirtual 175, 3) := by decide +kernel
theorem dX6_on_38 : decode cX6_on 38 = .ok (.aload_n 0, 1) := by decide +kernel
theorem dX6_on_39 : decode cX6_on 39 = .ok (.getfield 16, 3) := by decide +kernel
theorem dX6_on_42 : decode cX6_on 42 = .ok (.iload_n 2, 1) := by decide +kernel
theorem dX6_on_43 : decode cX6_on 43 = .ok (.invokevirtual 157, 3) := by decide +kernel
theorem dX6_on_46 : decode cX6_on 46 = .ok (.iload_n 3, 1) := by decide +kernel
theorem dX6_on_47 : decode cX6_on 47 = .ok (.ifCond .ne 18, 3) := by decide +kernel
theorem dX6_on_50 : decode cX6_on 50 = .ok (.aload_n 0, 1) := by decide +kernel
theorem dX6_on_51 : decode cX6_on 51 = .ok (.getfield 16, 3) := by decide +kernel
theorem dX6_on_54 : decode cX6_on 54 = .ok (.getfield 93, 3) := by decide +kernel
theorem dX6_on_57 : decode cX6_on 57 = .ok (.iload_n 1, 1) := by decide +kernel
theorem dX6_on_58 : decode cX6_on 58 = .ok (.aaload, 1) := by decide +kernel
theorem dX6_on_59 : decode cX6_on 59 = .ok (.getfield 146, 3) := by decide +kernel
theorem dX6_on_62 : decode cX6_on 62 = .ok (.goto 15, 3) := by decide +kernel
theorem dX6_on_65 : decode cX6_on 65 = .ok (.aload_n 0, 1) := by decide +kernel
theorem dX6_on_66 : decode cX6_on 66 = .ok (.getfield 16, 3) := by decide +kernel
theorem dX6_on_69 : decode cX6_on 69 = .ok (.getfield 93, 3) := by decide +kernel
theorem dX6_on_72 : decode cX6_on 72 = .ok (.iload_n 1, 1) := by decide +kernel
theorem dX6_on_73 : decode cX6_on 73 = .ok (.aaload, 1) := by decide +kernel
theorem dX6_on_74 : decode cX6_on 74 = .ok (.getfield 178, 3) := by decide +kernel
theorem dX6_on_77 : decode cX6_on 77 = .ok (.ireturn, 1) := by decide +kernel
theorem dX6_next_0 : decode cX6_next 0 = .ok (.iload_n 1, 1) := by decide +kernel
theorem dX6_next_1 : decode cX6_next 1 = .ok (.iconst 0, 1) := by decide +kernel
theorem dX6_next_2 : decode cX6_next 2 = .ok (.iconst 3, 1) := by decide +kernel
theorem dX6_next_3 : decode cX6_next 3 = .ok (.invokestatic 66, 3) := by decide +kernel
theorem dX6_next_6 : decode cX6_next 6 = .ok (.ifCond .ne 10, 3) := by decide +kernel
theorem dX6_next_9 : decode cX6_next 9 = .ok (.aload_n 0, 1) := by decide +kernel
theorem dX6_next_10 : decode cX6_next 10 = .ok (.ldc 50, 2) := by decide +kernel
theorem dX6_next_12 : decode cX6_next 12 = .ok (.invokevirtual 51, 3) := by decide +kernel
theorem dX6_next_15 : decode cX6_next 15 = .ok (.ireturn, 1) := by decide +kernel
theorem dX6_next_16 : decode cX6_next 16 = .ok (.aload_n 0, 1) := by decide +kernel
theorem dX6_next_17 : decode cX6_next 17 = .ok (.invokevirtual 181, 3) := by decide +kernel
theorem dX6_next_20 : decode cX6_next 20 = .ok (.istore_n 2, 1) := by decide +kernel
theorem dX6_next_21 : decode cX6_next 21 = .ok (.iload_n 2, 1) := by decide +kernel
theorem dX6_next_22 : decode cX6_next 22 = .ok (.ifCond .ge 10, 3) := by decide +kernel
theorem dX6_next_25 : decode cX6_next 25 = .ok (.aload_n 0, 1) := by decide +kernel
theorem dX6_next_26 : decode cX6_next 26 = .ok (.ldc 184, 2) := by decide +kernel
theorem dX6_next_28 : decode cX6_next 28 = .ok (.invokevirtual 51, 3) := by decide +kernel
theorem dX6_next_31 : decode cX6_next 31 = .ok (.ireturn, 1) := by decide +kernel
theorem dX6_next_32 : decode cX6_next 32 = .ok (.iload_n 1, 1) := by decide +kernel
theorem dX6_next_33 : decode cX6_next 33 = .ok (.tableswitch 58 0 2 #[27, 29, 47], 27) := by decide +kernel
theorem dX6_next_60 : decode cX6_next 60 = .ok (.iload_n 2, 1) := by decide +kernel
theorem dX6_next_61 : decode cX6_next 61 = .ok (.ireturn, 1) := by decide +kernel
theorem dX6_next_62 : decode cX6_next 62 = .ok (.aload_n 0, 1) := by decide +kernel
theorem dX6_next_63 : decode cX6_next 63 = .ok (.getfield 16, 3) := by decide +kernel
theorem dX6_next_66 : decode cX6_next 66 = .ok (.aload_n 0, 1) := by decide +kernel
theorem dX6_next_67 : decode cX6_next 67 = .ok (.getfield 16, 3) := by decide +kernel
theorem dX6_next_70 : decode cX6_next 70 = .ok (.getfield 55, 3) := by decide +kernel
theorem dX6_next_73 : decode cX6_next 73 = .ok (.getfield 97, 3) := by decide +kernel
theorem dX6_next_76 : decode cX6_next 76 = .ok (.invokevirtual 185, 3) := by decide +kernel
theorem dX6_next_79 : decode cX6_next 79 = .ok (.ireturn, 1) := by decide +kernel
theorem dX6_next_80 : decode cX6_next 80 = .ok (.aload_n 0, 1) := by decide +kernel
theorem dX6_next_81 : decode cX6_next 81 = .ok (.getfield 16, 3) := by decide +kernel
theorem dX6_next_84 : decode cX6_next 84 = .ok (.getfield 55, 3) := by decide +kernel
theorem dX6_next_87 : decode cX6_next 87 = .ok (.getfield 105, 3) := by decide +kernel
theorem dX6_next_90 : decode cX6_next 90 = .ok (.ireturn, 1) := by decide +kernel
theorem dX6_next_91 : decode cX6_next 91 = .ok (.aload_n 0, 1) := by decide +kernel
theorem dX6_next_92 : decode cX6_next 92 = .ok (.getfield 16, 3) := by decide +kernel
theorem dX6_next_95 : decode cX6_next 95 = .ok (.getfield 55, 3) := by decide +kernel
theorem dX6_next_98 : decode cX6_next 98 = .ok (.getfield 97, 3) := by decide +kernel
theorem dX6_next_101 : decode cX6_next 101 = .ok (.ireturn, 1) := by decide +kernel
theorem dX6_struck_0 : decode cX6_struck 0 = .ok (.iload_n 1, 1) := by decide +kernel
theorem dX6_struck_1 : decode cX6_struck 1 = .ok (.invokestatic 74, 3) := by decide +kernel
theorem dX6_struck_4 : decode cX6_struck 4 = .ok (.ifCond .ne 10, 3) := by decide +kernel
theorem dX6_struck_7 : decode cX6_struck 7 = .ok (.aload_n 0, 1) := by decide +kernel
theorem dX6_struck_8 : decode cX6_struck 8 = .ok (.ldc 50, 2) := by decide +kernel
theorem dX6_struck_10 : decode cX6_struck 10 = .ok (.invokevirtual 51, 3) := by decide +kernel
theorem dX6_struck_13 : decode cX6_struck 13 = .ok (.ireturn, 1) := by decide +kernel
theorem dX6_struck_14 : decode cX6_struck 14 = .ok (.aload_n 0, 1) := by decide +kernel
theorem dX6_struck_15 : decode cX6_struck 15 = .ok (.getfield 10, 3) := by decide +kernel
theorem dX6_struck_18 : decode cX6_struck 18 = .ok (.iload_n 1, 1) := by decide +kernel
theorem dX6_struck_19 : decode cX6_struck 19 = .ok (.invokevirtual 185, 3) := by decide +kernel
theorem dX6_struck_22 : decode cX6_struck 22 = .ok (.ireturn, 1) := by decide +kernel
theorem dX6_reach_0 : decode cX6_reach 0 = .ok (.aload_n 0, 1) := by decide +kernel
theorem dX6_reach_1 : decode cX6_reach 1 = .ok (.iload_n 1, 1) := by decide +kernel
theorem dX6_reach_2 : decode cX6_reach 2 = .ok (.invokevirtual 90, 3) := by decide +kernel
theorem dX6_reach_5 : decode cX6_reach 5 = .ok (.ifCond .ne 10, 3) := by decide +kernel
theorem dX6_reach_8 : decode cX6_reach 8 = .ok (.aload_n 0, 1) := by decide +kernel
theorem dX6_reach_9 : decode cX6_reach 9 = .ok (.ldc 50, 2) := by decide +kernel
theorem dX6_reach_11 : decode cX6_reach 11 = .ok (.invokevirtual 51, 3) := by decide +kernel
theorem dX6_reach_14 : decode cX6_reach 14 = .ok (.ireturn, 1) := by decide +kernel
theorem dX6_reach_15 : decode cX6_reach 15 = .ok (.iconst 0, 1) := by decide +kernel
theorem dX6_reach_16 : decode cX6_reach 16 = .ok (.istore_n 2, 1) := by decide +kernel
theorem dX6_reach_17 : decode cX6_reach 17 = .ok (.iconst 0, 1) := by decide +kernel
theorem dX6_reach_18 : decode cX6_reach 18 = .ok (.istore_n 3, 1) := by decide +kernel
theorem dX6_reach_19 : decode cX6_reach 19 = .ok (.iload_n 3, 1) := by decide +kernel
theorem dX6_reach_20 : decode cX6_reach 20 = .ok (.bipush 16, 2) := by decide +kernel
theorem dX6_reach_22 : decode cX6_reach 22 = .ok (.if_icmp .ge 27, 3) := by decide +kernel
theorem dX6_reach_25 : decode cX6_reach 25 = .ok (.aload_n 0, 1) := by decide +kernel
theorem dX6_reach_26 : decode cX6_reach 26 = .ok (.getfield 10, 3) := by decide +kernel
theorem dX6_reach_29 : decode cX6_reach 29 = .ok (.iload_n 3, 1) := by decide +kernel
theorem dX6_reach_30 : decode cX6_reach 30 = .ok (.invokevirtual 185, 3) := by decide +kernel
theorem dX6_reach_33 : decode cX6_reach 33 = .ok (.iload_n 1, 1) := by decide +kernel
theorem dX6_reach_34 : decode cX6_reach 34 = .ok (.if_icmp .ne 9, 3) := by decide +kernel
theorem dX6_reach_37 : decode cX6_reach 37 = .ok (.iload_n 2, 1) := by decide +kernel
theorem dX6_reach_38 : decode cX6_reach 38 = .ok (.iconst 1, 1) := by decide +kernel
theorem dX6_reach_39 : decode cX6_reach 39 = .ok (.iload_n 3, 1) := by decide +kernel
theorem dX6_reach_40 : decode cX6_reach 40 = .ok (.ishl, 1) := by decide +kernel
theorem dX6_reach_41 : decode cX6_reach 41 = .ok (.ior, 1) := by decide +kernel
theorem dX6_reach_42 : decode cX6_reach 42 = .ok (.istore_n 2, 1) := by decide +kernel
theorem dX6_reach_43 : decode cX6_reach 43 = .ok (.iinc 3 1, 3) := by decide +kernel
theorem dX6_reach_46 : decode cX6_reach 46 = .ok (.goto (-27), 3) := by decide +kernel
theorem dX6_reach_49 : decode cX6_reach 49 = .ok (.iload_n 2, 1) := by decide +kernel
theorem dX6_reach_50 : decode cX6_reach 50 = .ok (.ireturn, 1) := by decide +kernel
theorem dX6_steals_0 : decode cX6_steals 0 = .ok (.aload_n 0, 1) := by decide +kernel
theorem dX6_steals_1 : decode cX6_steals 1 = .ok (.iload_n 1, 1) := by decide +kernel
theorem dX6_steals_2 : decode cX6_steals 2 = .ok (.invokevirtual 90, 3) := by decide +kernel
theorem dX6_steals_5 : decode cX6_steals 5 = .ok (.ifCond .ne 10, 3) := by decide +kernel
theorem dX6_steals_8 : decode cX6_steals 8 = .ok (.aload_n 0, 1) := by decide +kernel
theorem dX6_steals_9 : decode cX6_steals 9 = .ok (.ldc 50, 2) := by decide +kernel
theorem dX6_steals_11 : decode cX6_steals 11 = .ok (.invokevirtual 51, 3) := by decide +kernel
theorem dX6_steals_14 : decode cX6_steals 14 = .ok (.ireturn, 1) := by decide +kernel
theorem dX6_steals_15 : decode cX6_steals 15 = .ok (.aload_n 0, 1) := by decide +kernel
theorem dX6_steals_16 : decode cX6_steals 16 = .ok (.invokevirtual 181, 3) := by decide +kernel
theorem dX6_steals_19 : decode cX6_steals 19 = .ok (.ifCond .lt 7, 3) := by decide +kernel
theorem dX6_steals_22 : decode cX6_steals 22 = .ok (.iconst 1, 1) := by decide +kernel
theorem dX6_steals_23 : decode cX6_steals 23 = .ok (.goto 4, 3) := by decide +kernel
theorem dX6_steals_26 : decode cX6_steals 26 = .ok (.iconst 0, 1) := by decide +kernel
theorem dX6_steals_27 : decode cX6_steals 27 = .ok (.istore_n 2, 1) := by decide +kernel
theorem dX6_steals_28 : decode cX6_steals 28 = .ok (.iconst 0, 1) := by decide +kernel
theorem dX6_steals_29 : decode cX6_steals 29 = .ok (.istore_n 3, 1) := by decide +kernel
theorem dX6_steals_30 : decode cX6_steals 30 = .ok (.iload_n 2, 1) := by decide +kernel
theorem dX6_steals_31 : decode cX6_steals 31 = .ok (.ifCond .eq 26, 3) := by decide +kernel
theorem dX6_steals_34 : decode cX6_steals 34 = .ok (.iload_n 3, 1) := by decide +kernel
theorem dX6_steals_35 : decode cX6_steals 35 = .ok (.bipush 60, 2) := by decide +kernel
theorem dX6_steals_37 : decode cX6_steals 37 = .ok (.if_icmp .gt 20, 3) := by decide +kernel
theorem dX6_steals_40 : decode cX6_steals 40 = .ok (.aload_n 0, 1) := by decide +kernel
theorem dX6_steals_41 : decode cX6_steals 41 = .ok (.iload_n 1, 1) := by decide +kernel
theorem dX6_steals_42 : decode cX6_steals 42 = .ok (.iload_n 3, 1) := by decide +kernel
theorem dX6_steals_43 : decode cX6_steals 43 = .ok (.invokevirtual 188, 3) := by decide +kernel
theorem dX6_steals_46 : decode cX6_steals 46 = .ok (.ifCond .eq 5, 3) := by decide +kernel
theorem dX6_steals_49 : decode cX6_steals 49 = .ok (.iload_n 3, 1) := by decide +kernel
theorem dX6_steals_50 : decode cX6_steals 50 = .ok (.ireturn, 1) := by decide +kernel
theorem dX6_steals_51 : decode cX6_steals 51 = .ok (.iinc 3 1, 3) := by decide +kernel
theorem dX6_steals_54 : decode cX6_steals 54 = .ok (.goto (-24), 3) := by decide +kernel
theorem dX6_steals_57 : decode cX6_steals 57 = .ok (.aload_n 0, 1) := by decide +kernel
theorem dX6_steals_58 : decode cX6_steals 58 = .ok (.ldc 184, 2) := by decide +kernel
theorem dX6_steals_60 : decode cX6_steals 60 = .ok (.invokevirtual 51, 3) := by decide +kernel
theorem dX6_steals_63 : decode cX6_steals 63 = .ok (.ireturn, 1) := by decide +kernel
theorem dX6_ducks_0 : decode cX6_ducks 0 = .ok (.aload_n 0, 1) := by decide +kernel
theorem dX6_ducks_1 : decode cX6_ducks 1 = .ok (.iload_n 1, 1) := by decide +kernel
theorem dX6_ducks_2 : decode cX6_ducks 2 = .ok (.invokevirtual 90, 3) := by decide +kernel
theorem dX6_ducks_5 : decode cX6_ducks 5 = .ok (.ifCond .ne 10, 3) := by decide +kernel
theorem dX6_ducks_8 : decode cX6_ducks 8 = .ok (.aload_n 0, 1) := by decide +kernel
theorem dX6_ducks_9 : decode cX6_ducks 9 = .ok (.ldc 50, 2) := by decide +kernel
theorem dX6_ducks_11 : decode cX6_ducks 11 = .ok (.invokevirtual 51, 3) := by decide +kernel
theorem dX6_ducks_14 : decode cX6_ducks 14 = .ok (.ireturn, 1) := by decide +kernel
theorem dX6_ducks_15 : decode cX6_ducks 15 = .ok (.aload_n 0, 1) := by decide +kernel
theorem dX6_ducks_16 : decode cX6_ducks 16 = .ok (.invokevirtual 181, 3) := by decide +kernel
theorem dX6_ducks_19 : decode cX6_ducks 19 = .ok (.ifCond .lt 7, 3) := by decide +kernel
theorem dX6_ducks_22 : decode cX6_ducks 22 = .ok (.iconst 1, 1) := by decide +kernel
theorem dX6_ducks_23 : decode cX6_ducks 23 = .ok (.goto 4, 3) := by decide +kernel
theorem dX6_ducks_26 : decode cX6_ducks 26 = .ok (.iconst 0, 1) := by decide +kernel
theorem dX6_ducks_27 : decode cX6_ducks 27 = .ok (.istore_n 2, 1) := by decide +kernel
theorem dX6_ducks_28 : decode cX6_ducks 28 = .ok (.bipush 60, 2) := by decide +kernel
theorem dX6_ducks_30 : decode cX6_ducks 30 = .ok (.istore_n 3, 1) := by decide +kernel
theorem dX6_ducks_31 : decode cX6_ducks 31 = .ok (.iload_n 3, 1) := by decide +kernel
theorem dX6_ducks_32 : decode cX6_ducks 32 = .ok (.ifCond .lt 24, 3) := by decide +kernel
theorem dX6_ducks_35 : decode cX6_ducks 35 = .ok (.iload_n 2, 1) := by decide +kernel
theorem dX6_ducks_36 : decode cX6_ducks 36 = .ok (.ifCond .eq 12, 3) := by decide +kernel
theorem dX6_ducks_39 : decode cX6_ducks 39 = .ok (.aload_n 0, 1) := by decide +kernel
theorem dX6_ducks_40 : decode cX6_ducks 40 = .ok (.iload_n 1, 1) := by decide +kernel
theorem dX6_ducks_41 : decode cX6_ducks 41 = .ok (.iload_n 3, 1) := by decide +kernel
theorem dX6_ducks_42 : decode cX6_ducks 42 = .ok (.invokevirtual 188, 3) := by decide +kernel
theorem dX6_ducks_45 : decode cX6_ducks 45 = .ok (.ifCond .ne 5, 3) := by decide +kernel
theorem dX6_ducks_48 : decode cX6_ducks 48 = .ok (.iload_n 3, 1) := by decide +kernel
theorem dX6_ducks_49 : decode cX6_ducks 49 = .ok (.ireturn, 1) := by decide +kernel
theorem dX6_ducks_50 : decode cX6_ducks 50 = .ok (.iinc 3 (-1), 3) := by decide +kernel
theorem dX6_ducks_53 : decode cX6_ducks 53 = .ok (.goto (-22), 3) := by decide +kernel
theorem dX6_ducks_56 : decode cX6_ducks 56 = .ok (.aload_n 0, 1) := by decide +kernel
theorem dX6_ducks_57 : decode cX6_ducks 57 = .ok (.ldc 184, 2) := by decide +kernel
theorem dX6_ducks_59 : decode cX6_ducks 59 = .ok (.invokevirtual 51, 3) := by decide +kernel
theorem dX6_ducks_62 : decode cX6_ducks 62 = .ok (.ireturn, 1) := by decide +kernel
theorem dX6_place_0 : decode cX6_place 0 = .ok (.aload_n 0, 1) := by decide +kernel
theorem dX6_place_1 : decode cX6_place 1 = .ok (.iload_n 1, 1) := by decide +kernel
theorem dX6_place_2 : decode cX6_place 2 = .ok (.invokevirtual 90, 3) := by decide +kernel
theorem dX6_place_5 : decode cX6_place 5 = .ok (.ifCond .eq 13, 3) := by decide +kernel
theorem dX6_place_8 : decode cX6_place 8 = .ok (.iload_n 2, 1) := by decide +kernel
theorem dX6_place_9 : decode cX6_place 9 = .ok (.iconst 0, 1) := by decide +kernel
theorem dX6_place_10 : decode cX6_place 10 = .ok (.bipush 100, 2) := by decide +kernel
theorem dX6_place_12 : decode cX6_place 12 = .ok (.invokestatic 66, 3) := by decide +kernel
theorem dX6_place_15 : decode cX6_place 15 = .ok (.ifCond .ne 10, 3) := by decide +kernel
theorem dX6_place_18 : decode cX6_place 18 = .ok (.aload_n 0, 1) := by decide +kernel
theorem dX6_place_19 : decode cX6_place 19 = .ok (.ldc 50, 2) := by decide +kernel
theorem dX6_place_21 : decode cX6_place 21 = .ok (.invokevirtual 51, 3) := by decide +kernel
theorem dX6_place_24 : decode cX6_place 24 = .ok (.ireturn, 1) := by decide +kernel
theorem dX6_place_25 : decode cX6_place 25 = .ok (.iconst 0, 1) := by decide +kernel
theorem dX6_place_26 : decode cX6_place 26 = .ok (.istore_n 3, 1) := by decide +kernel
theorem dX6_place_27 : decode cX6_place 27 = .ok (.iconst (-1), 1) := by decide +kernel
theorem dX6_place_28 : decode cX6_place 28 = .ok (.istore 4, 2) := by decide +kernel
theorem dX6_place_30 : decode cX6_place 30 = .ok (.iconst 0, 1) := by decide +kernel
theorem dX6_place_31 : decode cX6_place 31 = .ok (.istore 5, 2) := by decide +kernel
theorem dX6_place_33 : decode cX6_place 33 = .ok (.iload 5, 2) := by decide +kernel
theorem dX6_place_35 : decode cX6_place 35 = .ok (.bipush 16, 2) := by decide +kernel
theorem dX6_place_37 : decode cX6_place 37 = .ok (.if_icmp .ge 69, 3) := by decide +kernel
theorem dX6_place_40 : decode cX6_place 40 = .ok (.aload_n 0, 1) := by decide +kernel
theorem dX6_place_41 : decode cX6_place 41 = .ok (.invokevirtual 175, 3) := by decide +kernel
theorem dX6_place_44 : decode cX6_place 44 = .ok (.aload_n 0, 1) := by decide +kernel
theorem dX6_place_45 : decode cX6_place 45 = .ok (.getfield 16, 3) := by decide +kernel
theorem dX6_place_48 : decode cX6_place 48 = .ok (.getfield 93, 3) := by decide +kernel
theorem dX6_place_51 : decode cX6_place 51 = .ok (.iload_n 1, 1) := by decide +kernel
theorem dX6_place_52 : decode cX6_place 52 = .ok (.aaload, 1) := by decide +kernel
theorem dX6_place_53 : decode cX6_place 53 = .ok (.iload 5, 2) := by decide +kernel
theorem dX6_place_55 : decode cX6_place 55 = .ok (.putfield 120, 3) := by decide +kernel
theorem dX6_place_58 : decode cX6_place 58 = .ok (.aload_n 0, 1) := by decide +kernel
theorem dX6_place_59 : decode cX6_place 59 = .ok (.getfield 16, 3) := by decide +kernel
theorem dX6_place_62 : decode cX6_place 62 = .ok (.iload_n 2, 1) := by decide +kernel
theorem dX6_place_63 : decode cX6_place 63 = .ok (.invokevirtual 157, 3) := by decide +kernel
theorem dX6_place_66 : decode cX6_place 66 = .ok (.aload_n 0, 1) := by decide +kernel
theorem dX6_place_67 : decode cX6_place 67 = .ok (.getfield 16, 3) := by decide +kernel
theorem dX6_place_70 : decode cX6_place 70 = .ok (.getfield 93, 3) := by decide +kernel
theorem dX6_place_73 : decode cX6_place 73 = .ok (.iload_n 1, 1) := by decide +kernel
theorem dX6_place_74 : decode cX6_place 74 = .ok (.aaload, 1) := by decide +kernel
theorem dX6_place_75 : decode cX6_place 75 = .ok (.getfield 178, 3) := by decide +kernel
theorem dX6_place_78 : decode cX6_place 78 = .ok (.iload 4, 2) := by decide +kernel
theorem dX6_place_80 : decode cX6_place 80 = .ok (.if_icmp .le 20, 3) := by decide +kernel
theorem dX6_place_83 : decode cX6_place 83 = .ok (.aload_n 0, 1) := by decide +kernel
theorem dX6_place_84 : decode cX6_place 84 = .ok (.getfield 16, 3) := by decide +kernel
theorem dX6_place_87 : decode cX6_place 87 = .ok (.getfield 93, 3) := by decide +kernel
theorem dX6_place_90 : decode cX6_place 90 = .ok (.iload_n 1, 1) := by decide +kernel
theorem dX6_place_91 : decode cX6_place 91 = .ok (.aaload, 1) := by decide +kernel
theorem dX6_place_92 : decode cX6_place 92 = .ok (.getfield 178, 3) := by decide +kernel
theorem dX6_place_95 : decode cX6_place 95 = .ok (.istore 4, 2) := by decide +kernel
theorem dX6_place_97 : decode cX6_place 97 = .ok (.iload 5, 2) := by decide +kernel
theorem dX6_place_99 : decode cX6_place 99 = .ok (.istore_n 3, 1) := by decide +kernel
theorem dX6_place_100 : decode cX6_place 100 = .ok (.iinc 5 1, 3) := by decide +kernel
theorem dX6_place_103 : decode cX6_place 103 = .ok (.goto (-70), 3) := by decide +kernel
theorem dX6_place_106 : decode cX6_place 106 = .ok (.iload_n 3, 1) := by decide +kernel
theorem dX6_place_107 : decode cX6_place 107 = .ok (.ireturn, 1) := by decide +kernel
theorem dX6_thief_0 : decode cX6_thief 0 = .ok (.aload_n 0, 1) := by decide +kernel
theorem dX6_thief_1 : decode cX6_thief 1 = .ok (.iload_n 1, 1) := by decide +kernel
theorem dX6_thief_2 : decode cX6_thief 2 = .ok (.invokevirtual 90, 3) := by decide +kernel
theorem dX6_thief_5 : decode cX6_thief 5 = .ok (.ifCond .eq 13, 3) := by decide +kernel
theorem dX6_thief_8 : decode cX6_thief 8 = .ok (.iload_n 2, 1) := by decide +kernel
theorem dX6_thief_9 : decode cX6_thief 9 = .ok (.iconst 0, 1) := by decide +kernel
theorem dX6_thief_10 : decode cX6_thief 10 = .ok (.bipush 60, 2) := by decide +kernel
theorem dX6_thief_12 : decode cX6_thief 12 = .ok (.invokestatic 66, 3) := by decide +kernel
theorem dX6_thief_15 : decode cX6_thief 15 = .ok (.ifCond .ne 10, 3) := by decide +kernel
theorem dX6_thief_18 : decode cX6_thief 18 = .ok (.aload_n 0, 1) := by decide +kernel
theorem dX6_thief_19 : decode cX6_thief 19 = .ok (.ldc 50, 2) := by decide +kernel
theorem dX6_thief_21 : decode cX6_thief 21 = .ok (.invokevirtual 51, 3) := by decide +kernel
theorem dX6_thief_24 : decode cX6_thief 24 = .ok (.ireturn, 1) := by decide +kernel
theorem dX6_thief_25 : decode cX6_thief 25 = .ok (.aload_n 0, 1) := by decide +kernel
theorem dX6_thief_26 : decode cX6_thief 26 = .ok (.invokevirtual 175, 3) := by decide +kernel
theorem dX6_thief_29 : decode cX6_thief 29 = .ok (.aload_n 0, 1) := by decide +kernel
theorem dX6_thief_30 : decode cX6_thief 30 = .ok (.getfield 16, 3) := by decide +kernel
theorem dX6_thief_33 : decode cX6_thief 33 = .ok (.iload_n 2, 1) := by decide +kernel
theorem dX6_thief_34 : decode cX6_thief 34 = .ok (.invokevirtual 157, 3) := by decide +kernel
theorem dX6_thief_37 : decode cX6_thief 37 = .ok (.aload_n 0, 1) := by decide +kernel
theorem dX6_thief_38 : decode cX6_thief 38 = .ok (.getfield 16, 3) := by decide +kernel
theorem dX6_thief_41 : decode cX6_thief 41 = .ok (.getfield 93, 3) := by decide +kernel
theorem dX6_thief_44 : decode cX6_thief 44 = .ok (.iload_n 1, 1) := by decide +kernel
theorem dX6_thief_45 : decode cX6_thief 45 = .ok (.aaload, 1) := by decide +kernel
theorem dX6_thief_46 : decode cX6_thief 46 = .ok (.getfield 178, 3) := by decide +kernel
theorem dX6_thief_49 : decode cX6_thief 49 = .ok (.istore_n 3, 1) := by decide +kernel
theorem dX6_thief_50 : decode cX6_thief 50 = .ok (.iconst (-1), 1) := by decide +kernel
theorem dX6_thief_51 : decode cX6_thief 51 = .ok (.istore 4, 2) := by decide +kernel
theorem dX6_thief_53 : decode cX6_thief 53 = .ok (.iconst 0, 1) := by decide +kernel
theorem dX6_thief_54 : decode cX6_thief 54 = .ok (.istore 5, 2) := by decide +kernel
theorem dX6_thief_56 : decode cX6_thief 56 = .ok (.iload 5, 2) := by decide +kernel
theorem dX6_thief_58 : decode cX6_thief 58 = .ok (.aload_n 0, 1) := by decide +kernel
theorem dX6_thief_59 : decode cX6_thief 59 = .ok (.getfield 10, 3) := by decide +kernel
theorem dX6_thief_62 : decode cX6_thief 62 = .ok (.getfield 86, 3) := by decide +kernel
theorem dX6_thief_65 : decode cX6_thief 65 = .ok (.if_icmp .ge 78, 3) := by decide +kernel
theorem dX6_thief_68 : decode cX6_thief 68 = .ok (.iload 5, 2) := by decide +kernel
theorem dX6_thief_70 : decode cX6_thief 70 = .ok (.iload_n 1, 1) := by decide +kernel
theorem dX6_thief_71 : decode cX6_thief 71 = .ok (.if_icmp .ne 6, 3) := by decide +kernel
theorem dX6_thief_74 : decode cX6_thief 74 = .ok (.goto 63, 3) := by decide +kernel
theorem dX6_thief_77 : decode cX6_thief 77 = .ok (.aload_n 0, 1) := by decide +kernel
theorem dX6_thief_78 : decode cX6_thief 78 = .ok (.invokevirtual 175, 3) := by decide +kernel
theorem dX6_thief_81 : decode cX6_thief 81 = .ok (.aload_n 0, 1) := by decide +kernel
theorem dX6_thief_82 : decode cX6_thief 82 = .ok (.getfield 16, 3) := by decide +kernel
theorem dX6_thief_85 : decode cX6_thief 85 = .ok (.iload 5, 2) := by decide +kernel
theorem dX6_thief_87 : decode cX6_thief 87 = .ok (.invokevirtual 149, 3) := by decide +kernel
theorem dX6_thief_90 : decode cX6_thief 90 = .ok (.aload_n 0, 1) := by decide +kernel
theorem dX6_thief_91 : decode cX6_thief 91 = .ok (.getfield 16, 3) := by decide +kernel
theorem dX6_thief_94 : decode cX6_thief 94 = .ok (.iload_n 2, 1) := by decide +kernel
theorem dX6_thief_95 : decode cX6_thief 95 = .ok (.invokevirtual 157, 3) := by decide +kernel
theorem dX6_thief_98 : decode cX6_thief 98 = .ok (.aload_n 0, 1) := by decide +kernel
theorem dX6_thief_99 : decode cX6_thief 99 = .ok (.getfield 16, 3) := by decide +kernel
theorem dX6_thief_102 : decode cX6_thief 102 = .ok (.getfield 93, 3) := by decide +kernel
theorem dX6_thief_105 : decode cX6_thief 105 = .ok (.iload 5, 2) := by decide +kernel
theorem dX6_thief_107 : decode cX6_thief 107 = .ok (.iload_n 1, 1) := by decide +kernel
theorem dX6_thief_108 : decode cX6_thief 108 = .ok (.if_icmp .ge 9, 3) := by decide +kernel
theorem dX6_thief_111 : decode cX6_thief 111 = .ok (.iload_n 1, 1) := by decide +kernel
theorem dX6_thief_112 : decode cX6_thief 112 = .ok (.iconst 1, 1) := by decide +kernel
theorem dX6_thief_113 : decode cX6_thief 113 = .ok (.isub, 1) := by decide +kernel
theorem dX6_thief_114 : decode cX6_thief 114 = .ok (.goto 4, 3) := by decide +kernel
theorem dX6_thief_117 : decode cX6_thief 117 = .ok (.iload_n 1, 1) := by decide +kernel
theorem dX6_thief_118 : decode cX6_thief 118 = .ok (.aaload, 1) := by decide +kernel
theorem dX6_thief_119 : decode cX6_thief 119 = .ok (.getfield 178, 3) := by decide +kernel
theorem dX6_thief_122 : decode cX6_thief 122 = .ok (.istore 6, 2) := by decide +kernel
theorem dX6_thief_124 : decode cX6_thief 124 = .ok (.iload 6, 2) := by decide +kernel
theorem dX6_thief_126 : decode cX6_thief 126 = .ok (.iload_n 3, 1) := by decide +kernel
theorem dX6_thief_127 : decode cX6_thief 127 = .ok (.if_icmp .le 10, 3) := by decide +kernel
theorem dX6_thief_130 : decode cX6_thief 130 = .ok (.iload 6, 2) := by decide +kernel
theorem dX6_thief_132 : decode cX6_thief 132 = .ok (.istore_n 3, 1) := by decide +kernel
theorem dX6_thief_133 : decode cX6_thief 133 = .ok (.iload 5, 2) := by decide +kernel
theorem dX6_thief_135 : decode cX6_thief 135 = .ok (.istore 4, 2) := by decide +kernel
theorem dX6_thief_137 : decode cX6_thief 137 = .ok (.iinc 5 1, 3) := by decide +kernel
theorem dX6_thief_140 : decode cX6_thief 140 = .ok (.goto (-84), 3) := by decide +kernel
theorem dX6_thief_143 : decode cX6_thief 143 = .ok (.iload 4, 2) := by decide +kernel
theorem dX6_thief_145 : decode cX6_thief 145 = .ok (.ifCond .ge 12, 3) := by decide +kernel
theorem dX6_thief_148 : decode cX6_thief 148 = .ok (.aload_n 0, 1) := by decide +kernel
theorem dX6_thief_149 : decode cX6_thief 149 = .ok (.ldc 184, 2) := by decide +kernel
theorem dX6_thief_151 : decode cX6_thief 151 = .ok (.invokevirtual 51, 3) := by decide +kernel
theorem dX6_thief_154 : decode cX6_thief 154 = .ok (.goto 5, 3) := by decide +kernel
theorem dX6_thief_157 : decode cX6_thief 157 = .ok (.iload 4, 2) := by decide +kernel
theorem dX6_thief_159 : decode cX6_thief 159 = .ok (.ireturn, 1) := by decide +kernel
theorem dX6_kind_0 : decode cX6_kind 0 = .ok (.aload_n 0, 1) := by decide +kernel
theorem dX6_kind_1 : decode cX6_kind 1 = .ok (.iload_n 1, 1) := by decide +kernel
theorem dX6_kind_2 : decode cX6_kind 2 = .ok (.invokevirtual 90, 3) := by decide +kernel
theorem dX6_kind_5 : decode cX6_kind 5 = .ok (.ifCond .eq 13, 3) := by decide +kernel
theorem dX6_kind_8 : decode cX6_kind 8 = .ok (.iload_n 2, 1) := by decide +kernel
theorem dX6_kind_9 : decode cX6_kind 9 = .ok (.iconst 0, 1) := by decide +kernel
theorem dX6_kind_10 : decode cX6_kind 10 = .ok (.bipush 60, 2) := by decide +kernel
theorem dX6_kind_12 : decode cX6_kind 12 = .ok (.invokestatic 66, 3) := by decide +kernel
theorem dX6_kind_15 : decode cX6_kind 15 = .ok (.ifCond .ne 10, 3) := by decide +kernel
theorem dX6_kind_18 : decode cX6_kind 18 = .ok (.aload_n 0, 1) := by decide +kernel
theorem dX6_kind_19 : decode cX6_kind 19 = .ok (.ldc 50, 2) := by decide +kernel
theorem dX6_kind_21 : decode cX6_kind 21 = .ok (.invokevirtual 51, 3) := by decide +kernel
theorem dX6_kind_24 : decode cX6_kind 24 = .ok (.ireturn, 1) := by decide +kernel
theorem dX6_kind_25 : decode cX6_kind 25 = .ok (.iconst 0, 1) := by decide +kernel
theorem dX6_kind_26 : decode cX6_kind 26 = .ok (.istore_n 3, 1) := by decide +kernel
theorem dX6_kind_27 : decode cX6_kind 27 = .ok (.iconst (-1), 1) := by decide +kernel
theorem dX6_kind_28 : decode cX6_kind 28 = .ok (.istore 4, 2) := by decide +kernel
theorem dX6_kind_30 : decode cX6_kind 30 = .ok (.iconst 0, 1) := by decide +kernel
theorem dX6_kind_31 : decode cX6_kind 31 = .ok (.istore 5, 2) := by decide +kernel
theorem dX6_kind_33 : decode cX6_kind 33 = .ok (.iconst 0, 1) := by decide +kernel
theorem dX6_kind_34 : decode cX6_kind 34 = .ok (.istore 6, 2) := by decide +kernel
theorem dX6_kind_36 : decode cX6_kind 36 = .ok (.iload 6, 2) := by decide +kernel
theorem dX6_kind_38 : decode cX6_kind 38 = .ok (.bipush 6, 2) := by decide +kernel
theorem dX6_kind_40 : decode cX6_kind 40 = .ok (.if_icmp .ge 86, 3) := by decide +kernel
theorem dX6_kind_43 : decode cX6_kind 43 = .ok (.aload_n 0, 1) := by decide +kernel
theorem dX6_kind_44 : decode cX6_kind 44 = .ok (.invokevirtual 175, 3) := by decide +kernel
theorem dX6_kind_47 : decode cX6_kind 47 = .ok (.aload_n 0, 1) := by decide +kernel
theorem dX6_kind_48 : decode cX6_kind 48 = .ok (.getfield 16, 3) := by decide +kernel
theorem dX6_kind_51 : decode cX6_kind 51 = .ok (.getfield 93, 3) := by decide +kernel
theorem dX6_kind_54 : decode cX6_kind 54 = .ok (.iload_n 1, 1) := by decide +kernel
theorem dX6_kind_55 : decode cX6_kind 55 = .ok (.aaload, 1) := by decide +kernel
theorem dX6_kind_56 : decode cX6_kind 56 = .ok (.astore 7, 2) := by decide +kernel
theorem dX6_kind_58 : decode cX6_kind 58 = .ok (.aload 7, 2) := by decide +kernel
theorem dX6_kind_60 : decode cX6_kind 60 = .ok (.iload 6, 2) := by decide +kernel
theorem dX6_kind_62 : decode cX6_kind 62 = .ok (.putfield 139, 3) := by decide +kernel
theorem dX6_kind_65 : decode cX6_kind 65 = .ok (.aload_n 0, 1) := by decide +kernel
theorem dX6_kind_66 : decode cX6_kind 66 = .ok (.getfield 16, 3) := by decide +kernel
theorem dX6_kind_69 : decode cX6_kind 69 = .ok (.iload_n 2, 1) := by decide +kernel
theorem dX6_kind_70 : decode cX6_kind 70 = .ok (.invokevirtual 157, 3) := by decide +kernel
theorem dX6_kind_73 : decode cX6_kind 73 = .ok (.aload 7, 2) := by decide +kernel
theorem dX6_kind_75 : decode cX6_kind 75 = .ok (.getfield 178, 3) := by decide +kernel
theorem dX6_kind_78 : decode cX6_kind 78 = .ok (.iload 4, 2) := by decide +kernel
theorem dX6_kind_80 : decode cX6_kind 80 = .ok (.if_icmp .gt 23, 3) := by decide +kernel
theorem dX6_kind_83 : decode cX6_kind 83 = .ok (.aload 7, 2) := by decide +kernel
theorem dX6_kind_85 : decode cX6_kind 85 = .ok (.getfield 178, 3) := by decide +kernel
theorem dX6_kind_88 : decode cX6_kind 88 = .ok (.iload 4, 2) := by decide +kernel
theorem dX6_kind_90 : decode cX6_kind 90 = .ok (.if_icmp .ne 30, 3) := by decide +kernel
theorem dX6_kind_93 : decode cX6_kind 93 = .ok (.aload 7, 2) := by decide +kernel
theorem dX6_kind_95 : decode cX6_kind 95 = .ok (.getfield 146, 3) := by decide +kernel
theorem dX6_kind_98 : decode cX6_kind 98 = .ok (.iload 5, 2) := by decide +kernel
theorem dX6_kind_100 : decode cX6_kind 100 = .ok (.if_icmp .ge 20, 3) := by decide +kernel
theorem dX6_kind_103 : decode cX6_kind 103 = .ok (.iload 6, 2) := by decide +kernel
theorem dX6_kind_105 : decode cX6_kind 105 = .ok (.istore_n 3, 1) := by decide +kernel
theorem dX6_kind_106 : decode cX6_kind 106 = .ok (.aload 7, 2) := by decide +kernel
theorem dX6_kind_108 : decode cX6_kind 108 = .ok (.getfield 178, 3) := by decide +kernel
theorem dX6_kind_111 : decode cX6_kind 111 = .ok (.istore 4, 2) := by decide +kernel
theorem dX6_kind_113 : decode cX6_kind 113 = .ok (.aload 7, 2) := by decide +kernel
theorem dX6_kind_115 : decode cX6_kind 115 = .ok (.getfield 146, 3) := by decide +kernel
theorem dX6_kind_118 : decode cX6_kind 118 = .ok (.istore 5, 2) := by decide +kernel
theorem dX6_kind_120 : decode cX6_kind 120 = .ok (.iinc 6 1, 3) := by decide +kernel
theorem dX6_kind_123 : decode cX6_kind 123 = .ok (.goto (-87), 3) := by decide +kernel
theorem dX6_kind_126 : decode cX6_kind 126 = .ok (.iload_n 3, 1) := by decide +kernel
theorem dX6_kind_127 : decode cX6_kind 127 = .ok (.ireturn, 1) := by decide +kernel
theorem dX6_clocks_0 : decode cX6_clocks 0 = .ok (.aload_n 0, 1) := by decide +kernel
theorem dX6_clocks_1 : decode cX6_clocks 1 = .ok (.iload_n 1, 1) := by decide +kernel
theorem dX6_clocks_2 : decode cX6_clocks 2 = .ok (.invokevirtual 90, 3) := by decide +kernel
theorem dX6_clocks_5 : decode cX6_clocks 5 = .ok (.ifCond .eq 13, 3) := by decide +kernel
theorem dX6_clocks_8 : decode cX6_clocks 8 = .ok (.iload_n 2, 1) := by decide +kernel
theorem dX6_clocks_9 : decode cX6_clocks 9 = .ok (.iconst 0, 1) := by decide +kernel
theorem dX6_clocks_10 : decode cX6_clocks 10 = .ok (.bipush 100, 2) := by decide +kernel
theorem dX6_clocks_12 : decode cX6_clocks 12 = .ok (.invokestatic 66, 3) := by decide +kernel
theorem dX6_clocks_15 : decode cX6_clocks 15 = .ok (.ifCond .ne 10, 3) := by decide +kernel
theorem dX6_clocks_18 : decode cX6_clocks 18 = .ok (.aload_n 0, 1) := by decide +kernel
theorem dX6_clocks_19 : decode cX6_clocks 19 = .ok (.ldc 50, 2) := by decide +kernel
theorem dX6_clocks_21 : decode cX6_clocks 21 = .ok (.invokevirtual 51, 3) := by decide +kernel
theorem dX6_clocks_24 : decode cX6_clocks 24 = .ok (.ireturn, 1) := by decide +kernel
theorem dX6_clocks_25 : decode cX6_clocks 25 = .ok (.aload_n 0, 1) := by decide +kernel
theorem dX6_clocks_26 : decode cX6_clocks 26 = .ok (.iload_n 1, 1) := by decide +kernel
theorem dX6_clocks_27 : decode cX6_clocks 27 = .ok (.iload_n 2, 1) := by decide +kernel
theorem dX6_clocks_28 : decode cX6_clocks 28 = .ok (.invokevirtual 191, 3) := by decide +kernel
theorem dX6_clocks_31 : decode cX6_clocks 31 = .ok (.ireturn, 1) := by decide +kernel
theorem dX6_covers_0 : decode cX6_covers 0 = .ok (.aload_n 0, 1) := by decide +kernel
theorem dX6_covers_1 : decode cX6_covers 1 = .ok (.iload_n 1, 1) := by decide +kernel
theorem dX6_covers_2 : decode cX6_covers 2 = .ok (.invokevirtual 90, 3) := by decide +kernel
theorem dX6_covers_5 : decode cX6_covers 5 = .ok (.ifCond .eq 13, 3) := by decide +kernel
theorem dX6_covers_8 : decode cX6_covers 8 = .ok (.iload_n 2, 1) := by decide +kernel
theorem dX6_covers_9 : decode cX6_covers 9 = .ok (.iconst 0, 1) := by decide +kernel
theorem dX6_covers_10 : decode cX6_covers 10 = .ok (.bipush 100, 2) := by decide +kernel
theorem dX6_covers_12 : decode cX6_covers 12 = .ok (.invokestatic 66, 3) := by decide +kernel
theorem dX6_covers_15 : decode cX6_covers 15 = .ok (.ifCond .ne 10, 3) := by decide +kernel
theorem dX6_covers_18 : decode cX6_covers 18 = .ok (.aload_n 0, 1) := by decide +kernel
theorem dX6_covers_19 : decode cX6_covers 19 = .ok (.ldc 50, 2) := by decide +kernel
theorem dX6_covers_21 : decode cX6_covers 21 = .ok (.invokevirtual 51, 3) := by decide +kernel
theorem dX6_covers_24 : decode cX6_covers 24 = .ok (.ireturn, 1) := by decide +kernel
theorem dX6_covers_25 : decode cX6_covers 25 = .ok (.aload_n 0, 1) := by decide +kernel
theorem dX6_covers_26 : decode cX6_covers 26 = .ok (.iload_n 1, 1) := by decide +kernel
theorem dX6_covers_27 : decode cX6_covers 27 = .ok (.iload_n 2, 1) := by decide +kernel
theorem dX6_covers_28 : decode cX6_covers 28 = .ok (.invokevirtual 191, 3) := by decide +kernel
theorem dX6_covers_31 : decode cX6_covers 31 = .ok (.istore_n 3, 1) := by decide +kernel
theorem dX6_covers_32 : decode cX6_covers 32 = .ok (.iload_n 3, 1) := by decide +kernel
theorem dX6_covers_33 : decode cX6_covers 33 = .ok (.iload_n 3, 1) := by decide +kernel
theorem dX6_covers_34 : decode cX6_covers 34 = .ok (.invokestatic 194, 3) := by decide +kernel
theorem dX6_covers_37 : decode cX6_covers 37 = .ok (.invokestatic 197, 3) := by decide +kernel
theorem dX6_covers_40 : decode cX6_covers 40 = .ok (.ireturn, 1) := by decide +kernel
theorem dX6_from_0 : decode cX6_from 0 = .ok (.aload_n 0, 1) := by decide +kernel
theorem dX6_from_1 : decode cX6_from 1 = .ok (.iload_n 1, 1) := by decide +kernel
theorem dX6_from_2 : decode cX6_from 2 = .ok (.invokevirtual 90, 3) := by decide +kernel
theorem dX6_from_5 : decode cX6_from 5 = .ok (.ifCond .eq 13, 3) := by decide +kernel
theorem dX6_from_8 : decode cX6_from 8 = .ok (.iload_n 2, 1) := by decide +kernel
theorem dX6_from_9 : decode cX6_from 9 = .ok (.iconst 0, 1) := by decide +kernel
theorem dX6_from_10 : decode cX6_from 10 = .ok (.bipush 100, 2) := by decide +kernel
theorem dX6_from_12 : decode cX6_from 12 = .ok (.invokestatic 66, 3) := by decide +kernel
theorem dX6_from_15 : decode cX6_from 15 = .ok (.ifCond .ne 10, 3) := by decide +kernel
theorem dX6_from_18 : decode cX6_from 18 = .ok (.aload_n 0, 1) := by decide +kernel
theorem dX6_from_19 : decode cX6_from 19 = .ok (.ldc 50, 2) := by decide +kernel
theorem dX6_from_21 : decode cX6_from 21 = .ok (.invokevirtual 51, 3) := by decide +kernel
theorem dX6_from_24 : decode cX6_from 24 = .ok (.ireturn, 1) := by decide +kernel
theorem dX6_from_25 : decode cX6_from 25 = .ok (.aload_n 0, 1) := by decide +kernel
theorem dX6_from_26 : decode cX6_from 26 = .ok (.iload_n 1, 1) := by decide +kernel
theorem dX6_from_27 : decode cX6_from 27 = .ok (.iload_n 2, 1) := by decide +kernel
theorem dX6_from_28 : decode cX6_from 28 = .ok (.invokevirtual 191, 3) := by decide +kernel
theorem dX6_from_31 : decode cX6_from 31 = .ok (.invokestatic 194, 3) := by decide +kernel
theorem dX6_from_34 : decode cX6_from 34 = .ok (.ireturn, 1) := by decide +kernel
theorem dX6_strays_0 : decode cX6_strays 0 = .ok (.iload_n 1, 1) := by decide +kernel
theorem dX6_strays_1 : decode cX6_strays 1 = .ok (.iconst 0, 1) := by decide +kernel
theorem dX6_strays_2 : decode cX6_strays 2 = .ok (.bipush 100, 2) := by decide +kernel
theorem dX6_strays_4 : decode cX6_strays 4 = .ok (.invokestatic 66, 3) := by decide +kernel
theorem dX6_strays_7 : decode cX6_strays 7 = .ok (.ifCond .ne 10, 3) := by decide +kernel
theorem dX6_strays_10 : decode cX6_strays 10 = .ok (.aload_n 0, 1) := by decide +kernel
theorem dX6_strays_11 : decode cX6_strays 11 = .ok (.ldc 50, 2) := by decide +kernel
theorem dX6_strays_13 : decode cX6_strays 13 = .ok (.invokevirtual 51, 3) := by decide +kernel
theorem dX6_strays_16 : decode cX6_strays 16 = .ok (.ireturn, 1) := by decide +kernel
theorem dX6_strays_17 : decode cX6_strays 17 = .ok (.aload_n 0, 1) := by decide +kernel
theorem dX6_strays_18 : decode cX6_strays 18 = .ok (.invokevirtual 175, 3) := by decide +kernel
theorem dX6_strays_21 : decode cX6_strays 21 = .ok (.aload_n 0, 1) := by decide +kernel
theorem dX6_strays_22 : decode cX6_strays 22 = .ok (.getfield 16, 3) := by decide +kernel
theorem dX6_strays_25 : decode cX6_strays 25 = .ok (.iload_n 1, 1) := by decide +kernel
theorem dX6_strays_26 : decode cX6_strays 26 = .ok (.invokevirtual 157, 3) := by decide +kernel
theorem dX6_strays_29 : decode cX6_strays 29 = .ok (.aload_n 0, 1) := by decide +kernel
theorem dX6_strays_30 : decode cX6_strays 30 = .ok (.getfield 16, 3) := by decide +kernel
theorem dX6_strays_33 : decode cX6_strays 33 = .ok (.getfield 169, 3) := by decide +kernel
theorem dX6_strays_36 : decode cX6_strays 36 = .ok (.ireturn, 1) := by decide +kernel
theorem dX6_fork_0 : decode cX6_fork 0 = .ok (.aload_n 0, 1) := by decide +kernel
theorem dX6_fork_1 : decode cX6_fork 1 = .ok (.iload_n 1, 1) := by decide +kernel
theorem dX6_fork_2 : decode cX6_fork 2 = .ok (.invokevirtual 90, 3) := by decide +kernel
theorem dX6_fork_5 : decode cX6_fork 5 = .ok (.ifCond .eq 12, 3) := by decide +kernel
theorem dX6_fork_8 : decode cX6_fork 8 = .ok (.iload_n 2, 1) := by decide +kernel
theorem dX6_fork_9 : decode cX6_fork 9 = .ok (.iconst 0, 1) := by decide +kernel
theorem dX6_fork_10 : decode cX6_fork 10 = .ok (.iconst 1, 1) := by decide +kernel
theorem dX6_fork_11 : decode cX6_fork 11 = .ok (.invokestatic 66, 3) := by decide +kernel
theorem dX6_fork_14 : decode cX6_fork 14 = .ok (.ifCond .ne 10, 3) := by decide +kernel
theorem dX6_fork_17 : decode cX6_fork 17 = .ok (.aload_n 0, 1) := by decide +kernel
theorem dX6_fork_18 : decode cX6_fork 18 = .ok (.ldc 50, 2) := by decide +kernel
theorem dX6_fork_20 : decode cX6_fork 20 = .ok (.invokevirtual 51, 3) := by decide +kernel
theorem dX6_fork_23 : decode cX6_fork 23 = .ok (.ireturn, 1) := by decide +kernel
theorem dX6_fork_24 : decode cX6_fork 24 = .ok (.aload_n 0, 1) := by decide +kernel
theorem dX6_fork_25 : decode cX6_fork 25 = .ok (.getfield 10, 3) := by decide +kernel
theorem dX6_fork_28 : decode cX6_fork 28 = .ok (.invokevirtual 200, 3) := by decide +kernel
theorem dX6_fork_31 : decode cX6_fork 31 = .ok (.istore_n 3, 1) := by decide +kernel
theorem dX6_fork_32 : decode cX6_fork 32 = .ok (.aload_n 0, 1) := by decide +kernel
theorem dX6_fork_33 : decode cX6_fork 33 = .ok (.getfield 10, 3) := by decide +kernel
theorem dX6_fork_36 : decode cX6_fork 36 = .ok (.iload_n 1, 1) := by decide +kernel
theorem dX6_fork_37 : decode cX6_fork 37 = .ok (.invokevirtual 203, 3) := by decide +kernel
theorem dX6_fork_40 : decode cX6_fork 40 = .ok (.istore 4, 2) := by decide +kernel
theorem dX6_fork_42 : decode cX6_fork 42 = .ok (.iload 4, 2) := by decide +kernel
theorem dX6_fork_44 : decode cX6_fork 44 = .ok (.iload_n 3, 1) := by decide +kernel
theorem dX6_fork_45 : decode cX6_fork 45 = .ok (.invokestatic 206, 3) := by decide +kernel
theorem dX6_fork_48 : decode cX6_fork 48 = .ok (.istore 5, 2) := by decide +kernel
theorem dX6_fork_50 : decode cX6_fork 50 = .ok (.iload 4, 2) := by decide +kernel
theorem dX6_fork_52 : decode cX6_fork 52 = .ok (.ifCond .eq 8, 3) := by decide +kernel
theorem dX6_fork_55 : decode cX6_fork 55 = .ok (.iload 5, 2) := by decide +kernel
theorem dX6_fork_57 : decode cX6_fork 57 = .ok (.ifCond .ne 13, 3) := by decide +kernel
theorem dX6_fork_60 : decode cX6_fork 60 = .ok (.iload_n 2, 1) := by decide +kernel
theorem dX6_fork_61 : decode cX6_fork 61 = .ok (.ifCond .ne 7, 3) := by decide +kernel
theorem dX6_fork_64 : decode cX6_fork 64 = .ok (.iconst 0, 1) := by decide +kernel
theorem dX6_fork_65 : decode cX6_fork 65 = .ok (.goto 4, 3) := by decide +kernel
theorem dX6_fork_68 : decode cX6_fork 68 = .ok (.iconst 1, 1) := by decide +kernel
theorem dX6_fork_69 : decode cX6_fork 69 = .ok (.ireturn, 1) := by decide +kernel
theorem dX6_fork_70 : decode cX6_fork 70 = .ok (.iload_n 2, 1) := by decide +kernel
theorem dX6_fork_71 : decode cX6_fork 71 = .ok (.ifCond .ne 11, 3) := by decide +kernel
theorem dX6_fork_74 : decode cX6_fork 74 = .ok (.iload 4, 2) := by decide +kernel
theorem dX6_fork_76 : decode cX6_fork 76 = .ok (.iload 5, 2) := by decide +kernel
theorem dX6_fork_78 : decode cX6_fork 78 = .ok (.idiv, 1) := by decide +kernel
theorem dX6_fork_79 : decode cX6_fork 79 = .ok (.goto 7, 3) := by decide +kernel
theorem dX6_fork_82 : decode cX6_fork 82 = .ok (.iload_n 3, 1) := by decide +kernel
theorem dX6_fork_83 : decode cX6_fork 83 = .ok (.iload 5, 2) := by decide +kernel
theorem dX6_fork_85 : decode cX6_fork 85 = .ok (.idiv, 1) := by decide +kernel
theorem dX6_fork_86 : decode cX6_fork 86 = .ok (.ireturn, 1) := by decide +kernel
theorem dX6_share_0 : decode cX6_share 0 = .ok (.aload_n 0, 1) := by decide +kernel
theorem dX6_share_1 : decode cX6_share 1 = .ok (.iload_n 1, 1) := by decide +kernel
theorem dX6_share_2 : decode cX6_share 2 = .ok (.invokevirtual 90, 3) := by decide +kernel
theorem dX6_share_5 : decode cX6_share 5 = .ok (.ifCond .ne 10, 3) := by decide +kernel
theorem dX6_share_8 : decode cX6_share 8 = .ok (.aload_n 0, 1) := by decide +kernel
theorem dX6_share_9 : decode cX6_share 9 = .ok (.ldc 50, 2) := by decide +kernel
theorem dX6_share_11 : decode cX6_share 11 = .ok (.invokevirtual 51, 3) := by decide +kernel
theorem dX6_share_14 : decode cX6_share 14 = .ok (.ireturn, 1) := by decide +kernel
theorem dX6_share_15 : decode cX6_share 15 = .ok (.aload_n 0, 1) := by decide +kernel
theorem dX6_share_16 : decode cX6_share 16 = .ok (.getfield 10, 3) := by decide +kernel
theorem dX6_share_19 : decode cX6_share 19 = .ok (.invokevirtual 200, 3) := by decide +kernel
theorem dX6_share_22 : decode cX6_share 22 = .ok (.istore_n 2, 1) := by decide +kernel
theorem dX6_share_23 : decode cX6_share 23 = .ok (.iload_n 2, 1) := by decide +kernel
theorem dX6_share_24 : decode cX6_share 24 = .ok (.ifCond .ne 5, 3) := by decide +kernel
theorem dX6_share_27 : decode cX6_share 27 = .ok (.iconst 0, 1) := by decide +kernel
theorem dX6_share_28 : decode cX6_share 28 = .ok (.ireturn, 1) := by decide +kernel
theorem dX6_share_29 : decode cX6_share 29 = .ok (.aload_n 0, 1) := by decide +kernel
theorem dX6_share_30 : decode cX6_share 30 = .ok (.getfield 10, 3) := by decide +kernel
theorem dX6_share_33 : decode cX6_share 33 = .ok (.getfield 55, 3) := by decide +kernel
theorem dX6_share_36 : decode cX6_share 36 = .ok (.getfield 105, 3) := by decide +kernel
theorem dX6_share_39 : decode cX6_share 39 = .ok (.istore_n 3, 1) := by decide +kernel
theorem dX6_share_40 : decode cX6_share 40 = .ok (.iconst 0, 1) := by decide +kernel
theorem dX6_share_41 : decode cX6_share 41 = .ok (.istore 4, 2) := by decide +kernel
theorem dX6_share_43 : decode cX6_share 43 = .ok (.aload_n 0, 1) := by decide +kernel
theorem dX6_share_44 : decode cX6_share 44 = .ok (.getfield 10, 3) := by decide +kernel
theorem dX6_share_47 : decode cX6_share 47 = .ok (.iload_n 1, 1) := by decide +kernel
theorem dX6_share_48 : decode cX6_share 48 = .ok (.invokevirtual 203, 3) := by decide +kernel
theorem dX6_share_51 : decode cX6_share 51 = .ok (.iload_n 2, 1) := by decide +kernel
theorem dX6_share_52 : decode cX6_share 52 = .ok (.irem, 1) := by decide +kernel
theorem dX6_share_53 : decode cX6_share 53 = .ok (.istore 5, 2) := by decide +kernel
theorem dX6_share_55 : decode cX6_share 55 = .ok (.iconst 0, 1) := by decide +kernel
theorem dX6_share_56 : decode cX6_share 56 = .ok (.istore 6, 2) := by decide +kernel
theorem dX6_share_58 : decode cX6_share 58 = .ok (.iload 6, 2) := by decide +kernel
theorem dX6_share_60 : decode cX6_share 60 = .ok (.aload_n 0, 1) := by decide +kernel
theorem dX6_share_61 : decode cX6_share 61 = .ok (.getfield 10, 3) := by decide +kernel
theorem dX6_share_64 : decode cX6_share 64 = .ok (.getfield 86, 3) := by decide +kernel
theorem dX6_share_67 : decode cX6_share 67 = .ok (.if_icmp .ge 59, 3) := by decide +kernel
theorem dX6_share_70 : decode cX6_share 70 = .ok (.iload_n 3, 1) := by decide +kernel
theorem dX6_share_71 : decode cX6_share 71 = .ok (.aload_n 0, 1) := by decide +kernel
theorem dX6_share_72 : decode cX6_share 72 = .ok (.getfield 10, 3) := by decide +kernel
theorem dX6_share_75 : decode cX6_share 75 = .ok (.iload 6, 2) := by decide +kernel
theorem dX6_share_77 : decode cX6_share 77 = .ok (.invokevirtual 203, 3) := by decide +kernel
theorem dX6_share_80 : decode cX6_share 80 = .ok (.iload_n 2, 1) := by decide +kernel
theorem dX6_share_81 : decode cX6_share 81 = .ok (.idiv, 1) := by decide +kernel
theorem dX6_share_82 : decode cX6_share 82 = .ok (.isub, 1) := by decide +kernel
theorem dX6_share_83 : decode cX6_share 83 = .ok (.istore_n 3, 1) := by decide +kernel
theorem dX6_share_84 : decode cX6_share 84 = .ok (.aload_n 0, 1) := by decide +kernel
theorem dX6_share_85 : decode cX6_share 85 = .ok (.getfield 10, 3) := by decide +kernel
theorem dX6_share_88 : decode cX6_share 88 = .ok (.iload 6, 2) := by decide +kernel
theorem dX6_share_90 : decode cX6_share 90 = .ok (.invokevirtual 203, 3) := by decide +kernel
theorem dX6_share_93 : decode cX6_share 93 = .ok (.iload_n 2, 1) := by decide +kernel
theorem dX6_share_94 : decode cX6_share 94 = .ok (.irem, 1) := by decide +kernel
theorem dX6_share_95 : decode cX6_share 95 = .ok (.istore 7, 2) := by decide +kernel
theorem dX6_share_97 : decode cX6_share 97 = .ok (.iload 7, 2) := by decide +kernel
theorem dX6_share_99 : decode cX6_share 99 = .ok (.iload 5, 2) := by decide +kernel
theorem dX6_share_101 : decode cX6_share 101 = .ok (.if_icmp .gt 16, 3) := by decide +kernel
theorem dX6_share_104 : decode cX6_share 104 = .ok (.iload 7, 2) := by decide +kernel
theorem dX6_share_106 : decode cX6_share 106 = .ok (.iload 5, 2) := by decide +kernel
theorem dX6_share_108 : decode cX6_share 108 = .ok (.if_icmp .ne 12, 3) := by decide +kernel
theorem dX6_share_111 : decode cX6_share 111 = .ok (.iload 6, 2) := by decide +kernel
theorem dX6_share_113 : decode cX6_share 113 = .ok (.iload_n 1, 1) := by decide +kernel
theorem dX6_share_114 : decode cX6_share 114 = .ok (.if_icmp .ge 6, 3) := by decide +kernel
theorem dX6_share_117 : decode cX6_share 117 = .ok (.iinc 4 1, 3) := by decide +kernel
theorem dX6_share_120 : decode cX6_share 120 = .ok (.iinc 6 1, 3) := by decide +kernel
theorem dX6_share_123 : decode cX6_share 123 = .ok (.goto (-65), 3) := by decide +kernel
theorem dX6_share_126 : decode cX6_share 126 = .ok (.aload_n 0, 1) := by decide +kernel
theorem dX6_share_127 : decode cX6_share 127 = .ok (.getfield 10, 3) := by decide +kernel
theorem dX6_share_130 : decode cX6_share 130 = .ok (.iload_n 1, 1) := by decide +kernel
theorem dX6_share_131 : decode cX6_share 131 = .ok (.invokevirtual 203, 3) := by decide +kernel
theorem dX6_share_134 : decode cX6_share 134 = .ok (.iload_n 2, 1) := by decide +kernel
theorem dX6_share_135 : decode cX6_share 135 = .ok (.idiv, 1) := by decide +kernel
theorem dX6_share_136 : decode cX6_share 136 = .ok (.iload 4, 2) := by decide +kernel
theorem dX6_share_138 : decode cX6_share 138 = .ok (.iload_n 3, 1) := by decide +kernel
theorem dX6_share_139 : decode cX6_share 139 = .ok (.if_icmp .ge 7, 3) := by decide +kernel
theorem dX6_share_142 : decode cX6_share 142 = .ok (.iconst 1, 1) := by decide +kernel
theorem dX6_share_143 : decode cX6_share 143 = .ok (.goto 4, 3) := by decide +kernel
theorem dX6_share_146 : decode cX6_share 146 = .ok (.iconst 0, 1) := by decide +kernel
theorem dX6_share_147 : decode cX6_share 147 = .ok (.iadd, 1) := by decide +kernel
theorem dX6_share_148 : decode cX6_share 148 = .ok (.ireturn, 1) := by decide +kernel
theorem dX6_feed_0 : decode cX6_feed 0 = .ok (.iload_n 2, 1) := by decide +kernel
theorem dX6_feed_1 : decode cX6_feed 1 = .ok (.iconst 1, 1) := by decide +kernel
theorem dX6_feed_2 : decode cX6_feed 2 = .ok (.iconst 4, 1) := by decide +kernel
theorem dX6_feed_3 : decode cX6_feed 3 = .ok (.invokestatic 66, 3) := by decide +kernel
theorem dX6_feed_6 : decode cX6_feed 6 = .ok (.ifCond .ne 10, 3) := by decide +kernel
theorem dX6_feed_9 : decode cX6_feed 9 = .ok (.aload_n 0, 1) := by decide +kernel
theorem dX6_feed_10 : decode cX6_feed 10 = .ok (.ldc 50, 2) := by decide +kernel
theorem dX6_feed_12 : decode cX6_feed 12 = .ok (.invokevirtual 51, 3) := by decide +kernel
theorem dX6_feed_15 : decode cX6_feed 15 = .ok (.ireturn, 1) := by decide +kernel
theorem dX6_feed_16 : decode cX6_feed 16 = .ok (.aload_n 0, 1) := by decide +kernel
theorem dX6_feed_17 : decode cX6_feed 17 = .ok (.getfield 29, 3) := by decide +kernel
theorem dX6_feed_20 : decode cX6_feed 20 = .ok (.getfield 209, 3) := by decide +kernel
theorem dX6_feed_23 : decode cX6_feed 23 = .ok (.getfield 213, 3) := by decide +kernel
theorem dX6_feed_26 : decode cX6_feed 26 = .ok (.iload_n 2, 1) := by decide +kernel
theorem dX6_feed_27 : decode cX6_feed 27 = .ok (.iadd, 1) := by decide +kernel
theorem dX6_feed_28 : decode cX6_feed 28 = .ok (.bipush 120, 2) := by decide +kernel
theorem dX6_feed_30 : decode cX6_feed 30 = .ok (.if_icmp .le 10, 3) := by decide +kernel
theorem dX6_feed_33 : decode cX6_feed 33 = .ok (.aload_n 0, 1) := by decide +kernel
theorem dX6_feed_34 : decode cX6_feed 34 = .ok (.ldc 81, 2) := by decide +kernel
theorem dX6_feed_36 : decode cX6_feed 36 = .ok (.invokevirtual 51, 3) := by decide +kernel
theorem dX6_feed_39 : decode cX6_feed 39 = .ok (.ireturn, 1) := by decide +kernel
theorem dX6_feed_40 : decode cX6_feed 40 = .ok (.iload_n 2, 1) := by decide +kernel
theorem dX6_feed_41 : decode cX6_feed 41 = .ok (.iconst 1, 1) := by decide +kernel
theorem dX6_feed_42 : decode cX6_feed 42 = .ok (.isub, 1) := by decide +kernel
theorem dX6_feed_43 : decode cX6_feed 43 = .ok (.istore_n 3, 1) := by decide +kernel
theorem dX6_feed_44 : decode cX6_feed 44 = .ok (.iload_n 3, 1) := by decide +kernel
theorem dX6_feed_45 : decode cX6_feed 45 = .ok (.ifCond .lt 29, 3) := by decide +kernel
theorem dX6_feed_48 : decode cX6_feed 48 = .ok (.aload_n 0, 1) := by decide +kernel
theorem dX6_feed_49 : decode cX6_feed 49 = .ok (.getfield 29, 3) := by decide +kernel
theorem dX6_feed_52 : decode cX6_feed 52 = .ok (.getfield 209, 3) := by decide +kernel
theorem dX6_feed_55 : decode cX6_feed 55 = .ok (.iload_n 1, 1) := by decide +kernel
theorem dX6_feed_56 : decode cX6_feed 56 = .ok (.bipush 8, 2) := by decide +kernel
theorem dX6_feed_58 : decode cX6_feed 58 = .ok (.iload_n 3, 1) := by decide +kernel
theorem dX6_feed_59 : decode cX6_feed 59 = .ok (.imul, 1) := by decide +kernel
theorem dX6_feed_60 : decode cX6_feed 60 = .ok (.iushr, 1) := by decide +kernel
theorem dX6_feed_61 : decode cX6_feed 61 = .ok (.sipush 255, 3) := by decide +kernel
theorem dX6_feed_64 : decode cX6_feed 64 = .ok (.iand, 1) := by decide +kernel
theorem dX6_feed_65 : decode cX6_feed 65 = .ok (.invokevirtual 218, 3) := by decide +kernel
theorem dX6_feed_68 : decode cX6_feed 68 = .ok (.iinc 3 (-1), 3) := by decide +kernel
theorem dX6_feed_71 : decode cX6_feed 71 = .ok (.goto (-27), 3) := by decide +kernel
theorem dX6_feed_74 : decode cX6_feed 74 = .ok (.aload_n 0, 1) := by decide +kernel
theorem dX6_feed_75 : decode cX6_feed 75 = .ok (.getfield 29, 3) := by decide +kernel
theorem dX6_feed_78 : decode cX6_feed 78 = .ok (.getfield 209, 3) := by decide +kernel
theorem dX6_feed_81 : decode cX6_feed 81 = .ok (.getfield 213, 3) := by decide +kernel
theorem dX6_feed_84 : decode cX6_feed 84 = .ok (.ireturn, 1) := by decide +kernel
theorem dX6_wipe_0 : decode cX6_wipe 0 = .ok (.aload_n 0, 1) := by decide +kernel
theorem dX6_wipe_1 : decode cX6_wipe 1 = .ok (.getfield 29, 3) := by decide +kernel
theorem dX6_wipe_4 : decode cX6_wipe 4 = .ok (.getfield 209, 3) := by decide +kernel
theorem dX6_wipe_7 : decode cX6_wipe 7 = .ok (.getfield 213, 3) := by decide +kernel
theorem dX6_wipe_10 : decode cX6_wipe 10 = .ok (.istore_n 1, 1) := by decide +kernel
theorem dX6_wipe_11 : decode cX6_wipe 11 = .ok (.aload_n 0, 1) := by decide +kernel
theorem dX6_wipe_12 : decode cX6_wipe 12 = .ok (.getfield 29, 3) := by decide +kernel
theorem dX6_wipe_15 : decode cX6_wipe 15 = .ok (.getfield 209, 3) := by decide +kernel
theorem dX6_wipe_18 : decode cX6_wipe 18 = .ok (.iconst 0, 1) := by decide +kernel
theorem dX6_wipe_19 : decode cX6_wipe 19 = .ok (.putfield 213, 3) := by decide +kernel
theorem dX6_wipe_22 : decode cX6_wipe 22 = .ok (.iload_n 1, 1) := by decide +kernel
theorem dX6_wipe_23 : decode cX6_wipe 23 = .ok (.ireturn, 1) := by decide +kernel
theorem dX6_plain_0 : decode cX6_plain 0 = .ok (.aload_n 0, 1) := by decide +kernel
theorem dX6_plain_1 : decode cX6_plain 1 = .ok (.invokevirtual 175, 3) := by decide +kernel
theorem dX6_plain_4 : decode cX6_plain 4 = .ok (.aload_n 0, 1) := by decide +kernel
theorem dX6_plain_5 : decode cX6_plain 5 = .ok (.getfield 29, 3) := by decide +kernel
theorem dX6_plain_8 : decode cX6_plain 8 = .ok (.aload_n 0, 1) := by decide +kernel
theorem dX6_plain_9 : decode cX6_plain 9 = .ok (.getfield 16, 3) := by decide +kernel
theorem dX6_plain_12 : decode cX6_plain 12 = .ok (.invokevirtual 220, 3) := by decide +kernel
theorem dX6_plain_15 : decode cX6_plain 15 = .ok (.istore_n 1, 1) := by decide +kernel
theorem dX6_plain_16 : decode cX6_plain 16 = .ok (.iload_n 1, 1) := by decide +kernel
theorem dX6_plain_17 : decode cX6_plain 17 = .ok (.ifCond .lt 14, 3) := by decide +kernel
theorem dX6_plain_20 : decode cX6_plain 20 = .ok (.aload_n 0, 1) := by decide +kernel
theorem dX6_plain_21 : decode cX6_plain 21 = .ok (.getfield 10, 3) := by decide +kernel
theorem dX6_plain_24 : decode cX6_plain 24 = .ok (.aload_n 0, 1) := by decide +kernel
theorem dX6_plain_25 : decode cX6_plain 25 = .ok (.getfield 16, 3) := by decide +kernel
theorem dX6_plain_28 : decode cX6_plain 28 = .ok (.invokevirtual 224, 3) := by decide +kernel
theorem dX6_plain_31 : decode cX6_plain 31 = .ok (.aload_n 0, 1) := by decide +kernel
theorem dX6_plain_32 : decode cX6_plain 32 = .ok (.getfield 29, 3) := by decide +kernel
theorem dX6_plain_35 : decode cX6_plain 35 = .ok (.getfield 209, 3) := by decide +kernel
theorem dX6_plain_38 : decode cX6_plain 38 = .ok (.iconst 0, 1) := by decide +kernel
theorem dX6_plain_39 : decode cX6_plain 39 = .ok (.putfield 213, 3) := by decide +kernel
theorem dX6_plain_42 : decode cX6_plain 42 = .ok (.iload_n 1, 1) := by decide +kernel
theorem dX6_plain_43 : decode cX6_plain 43 = .ok (.ireturn, 1) := by decide +kernel
theorem dX6_sheet_0 : decode cX6_sheet 0 = .ok (.iload_n 1, 1) := by decide +kernel
theorem dX6_sheet_1 : decode cX6_sheet 1 = .ok (.invokestatic 228, 3) := by decide +kernel
theorem dX6_sheet_4 : decode cX6_sheet 4 = .ok (.ifCond .eq 10, 3) := by decide +kernel
theorem dX6_sheet_7 : decode cX6_sheet 7 = .ok (.iload_n 2, 1) := by decide +kernel
theorem dX6_sheet_8 : decode cX6_sheet 8 = .ok (.invokestatic 231, 3) := by decide +kernel
theorem dX6_sheet_11 : decode cX6_sheet 11 = .ok (.ifCond .ne 10, 3) := by decide +kernel
theorem dX6_sheet_14 : decode cX6_sheet 14 = .ok (.aload_n 0, 1) := by decide +kernel
theorem dX6_sheet_15 : decode cX6_sheet 15 = .ok (.ldc 50, 2) := by decide +kernel
theorem dX6_sheet_17 : decode cX6_sheet 17 = .ok (.invokevirtual 51, 3) := by decide +kernel
theorem dX6_sheet_20 : decode cX6_sheet 20 = .ok (.ireturn, 1) := by decide +kernel
theorem dX6_sheet_21 : decode cX6_sheet 21 = .ok (.iload_n 3, 1) := by decide +kernel
theorem dX6_sheet_22 : decode cX6_sheet 22 = .ok (.ifCond .ge 10, 3) := by decide +kernel
theorem dX6_sheet_25 : decode cX6_sheet 25 = .ok (.aload_n 0, 1) := by decide +kernel
theorem dX6_sheet_26 : decode cX6_sheet 26 = .ok (.ldc 234, 2) := by decide +kernel
theorem dX6_sheet_28 : decode cX6_sheet 28 = .ok (.invokevirtual 51, 3) := by decide +kernel
theorem dX6_sheet_31 : decode cX6_sheet 31 = .ok (.ireturn, 1) := by decide +kernel
theorem dX6_sheet_32 : decode cX6_sheet 32 = .ok (.iload_n 3, 1) := by decide +kernel
theorem dX6_sheet_33 : decode cX6_sheet 33 = .ok (.bipush 40, 2) := by decide +kernel
theorem dX6_sheet_35 : decode cX6_sheet 35 = .ok (.if_icmp .le 10, 3) := by decide +kernel
theorem dX6_sheet_38 : decode cX6_sheet 38 = .ok (.aload_n 0, 1) := by decide +kernel
theorem dX6_sheet_39 : decode cX6_sheet 39 = .ok (.ldc 50, 2) := by decide +kernel
theorem dX6_sheet_41 : decode cX6_sheet 41 = .ok (.invokevirtual 51, 3) := by decide +kernel
theorem dX6_sheet_44 : decode cX6_sheet 44 = .ok (.ireturn, 1) := by decide +kernel
theorem dX6_sheet_45 : decode cX6_sheet 45 = .ok (.aload_n 0, 1) := by decide +kernel
theorem dX6_sheet_46 : decode cX6_sheet 46 = .ok (.getfield 35, 3) := by decide +kernel
theorem dX6_sheet_49 : decode cX6_sheet 49 = .ok (.iload_n 1, 1) := by decide +kernel
theorem dX6_sheet_50 : decode cX6_sheet 50 = .ok (.aaload, 1) := by decide +kernel
theorem dX6_sheet_51 : decode cX6_sheet 51 = .ok (.iload_n 2, 1) := by decide +kernel
theorem dX6_sheet_52 : decode cX6_sheet 52 = .ok (.iload_n 3, 1) := by decide +kernel
theorem dX6_sheet_53 : decode cX6_sheet 53 = .ok (.invokevirtual 235, 3) := by decide +kernel
theorem dX6_sheet_56 : decode cX6_sheet 56 = .ok (.aload_n 0, 1) := by decide +kernel
theorem dX6_sheet_57 : decode cX6_sheet 57 = .ok (.getfield 35, 3) := by decide +kernel
theorem dX6_sheet_60 : decode cX6_sheet 60 = .ok (.iload_n 1, 1) := by decide +kernel
theorem dX6_sheet_61 : decode cX6_sheet 61 = .ok (.aaload, 1) := by decide +kernel
theorem dX6_sheet_62 : decode cX6_sheet 62 = .ok (.getfield 238, 3) := by decide +kernel
theorem dX6_sheet_65 : decode cX6_sheet 65 = .ok (.ireturn, 1) := by decide +kernel
theorem dX6_write_0 : decode cX6_write 0 = .ok (.aload_n 0, 1) := by decide +kernel
theorem dX6_write_1 : decode cX6_write 1 = .ok (.iload_n 1, 1) := by decide +kernel
theorem dX6_write_2 : decode cX6_write 2 = .ok (.invokevirtual 239, 3) := by decide +kernel
theorem dX6_write_5 : decode cX6_write 5 = .ok (.istore 5, 2) := by decide +kernel
theorem dX6_write_7 : decode cX6_write 7 = .ok (.iload 5, 2) := by decide +kernel
theorem dX6_write_9 : decode cX6_write 9 = .ok (.ifCond .eq 11, 3) := by decide +kernel
theorem dX6_write_12 : decode cX6_write 12 = .ok (.aload_n 0, 1) := by decide +kernel
theorem dX6_write_13 : decode cX6_write 13 = .ok (.iload 5, 2) := by decide +kernel
theorem dX6_write_15 : decode cX6_write 15 = .ok (.invokevirtual 51, 3) := by decide +kernel
theorem dX6_write_18 : decode cX6_write 18 = .ok (.i2l, 1) := by decide +kernel
theorem dX6_write_19 : decode cX6_write 19 = .ok (.lreturn, 1) := by decide +kernel
theorem dX6_write_20 : decode cX6_write 20 = .ok (.iload_n 2, 1) := by decide +kernel
theorem dX6_write_21 : decode cX6_write 21 = .ok (.iconst 0, 1) := by decide +kernel
theorem dX6_write_22 : decode cX6_write 22 = .ok (.aload_n 0, 1) := by decide +kernel
theorem dX6_write_23 : decode cX6_write 23 = .ok (.getfield 35, 3) := by decide +kernel
theorem dX6_write_26 : decode cX6_write 26 = .ok (.iload_n 1, 1) := by decide +kernel
theorem dX6_write_27 : decode cX6_write 27 = .ok (.aaload, 1) := by decide +kernel
theorem dX6_write_28 : decode cX6_write 28 = .ok (.getfield 238, 3) := by decide +kernel
theorem dX6_write_31 : decode cX6_write 31 = .ok (.iconst 1, 1) := by decide +kernel
theorem dX6_write_32 : decode cX6_write 32 = .ok (.isub, 1) := by decide +kernel
theorem dX6_write_33 : decode cX6_write 33 = .ok (.invokestatic 66, 3) := by decide +kernel
theorem dX6_write_36 : decode cX6_write 36 = .ok (.ifCond .ne 11, 3) := by decide +kernel
theorem dX6_write_39 : decode cX6_write 39 = .ok (.aload_n 0, 1) := by decide +kernel
theorem dX6_write_40 : decode cX6_write 40 = .ok (.ldc 50, 2) := by decide +kernel
theorem dX6_write_42 : decode cX6_write 42 = .ok (.invokevirtual 51, 3) := by decide +kernel
theorem dX6_write_45 : decode cX6_write 45 = .ok (.i2l, 1) := by decide +kernel
theorem dX6_write_46 : decode cX6_write 46 = .ok (.lreturn, 1) := by decide +kernel
theorem dX6_write_47 : decode cX6_write 47 = .ok (.aload_n 0, 1) := by decide +kernel
theorem dX6_write_48 : decode cX6_write 48 = .ok (.getfield 35, 3) := by decide +kernel
theorem dX6_write_51 : decode cX6_write 51 = .ok (.iload_n 1, 1) := by decide +kernel
theorem dX6_write_52 : decode cX6_write 52 = .ok (.aaload, 1) := by decide +kernel
theorem dX6_write_53 : decode cX6_write 53 = .ok (.getfield 242, 3) := by decide +kernel
theorem dX6_write_56 : decode cX6_write 56 = .ok (.iload_n 2, 1) := by decide +kernel
theorem dX6_write_57 : decode cX6_write 57 = .ok (.laload, 1) := by decide +kernel
theorem dX6_write_58 : decode cX6_write 58 = .ok (.lstore 6, 2) := by decide +kernel
theorem dX6_write_60 : decode cX6_write 60 = .ok (.aload_n 0, 1) := by decide +kernel
theorem dX6_write_61 : decode cX6_write 61 = .ok (.getfield 35, 3) := by decide +kernel
theorem dX6_write_64 : decode cX6_write 64 = .ok (.iload_n 1, 1) := by decide +kernel
theorem dX6_write_65 : decode cX6_write 65 = .ok (.aaload, 1) := by decide +kernel
theorem dX6_write_66 : decode cX6_write 66 = .ok (.iload_n 2, 1) := by decide +kernel
theorem dX6_write_67 : decode cX6_write 67 = .ok (.lload_n 3, 1) := by decide +kernel
theorem dX6_write_68 : decode cX6_write 68 = .ok (.invokevirtual 246, 3) := by decide +kernel
theorem dX6_write_71 : decode cX6_write 71 = .ok (.lload 6, 2) := by decide +kernel
theorem dX6_write_73 : decode cX6_write 73 = .ok (.lreturn, 1) := by decide +kernel
theorem dX6_copy_0 : decode cX6_copy 0 = .ok (.iload_n 1, 1) := by decide +kernel
theorem dX6_copy_1 : decode cX6_copy 1 = .ok (.invokestatic 228, 3) := by decide +kernel
theorem dX6_copy_4 : decode cX6_copy 4 = .ok (.ifCond .eq 10, 3) := by decide +kernel
theorem dX6_copy_7 : decode cX6_copy 7 = .ok (.iload_n 3, 1) := by decide +kernel
theorem dX6_copy_8 : decode cX6_copy 8 = .ok (.invokestatic 228, 3) := by decide +kernel
theorem dX6_copy_11 : decode cX6_copy 11 = .ok (.ifCond .ne 10, 3) := by decide +kernel
theorem dX6_copy_14 : decode cX6_copy 14 = .ok (.aload_n 0, 1) := by decide +kernel
theorem dX6_copy_15 : decode cX6_copy 15 = .ok (.ldc 50, 2) := by decide +kernel
theorem dX6_copy_17 : decode cX6_copy 17 = .ok (.invokevirtual 51, 3) := by decide +kernel
theorem dX6_copy_20 : decode cX6_copy 20 = .ok (.ireturn, 1) := by decide +kernel
theorem dX6_copy_21 : decode cX6_copy 21 = .ok (.aload_n 0, 1) := by decide +kernel
theorem dX6_copy_22 : decode cX6_copy 22 = .ok (.getfield 35, 3) := by decide +kernel
theorem dX6_copy_25 : decode cX6_copy 25 = .ok (.iload_n 1, 1) := by decide +kernel
theorem dX6_copy_26 : decode cX6_copy 26 = .ok (.aaload, 1) := by decide +kernel
theorem dX6_copy_27 : decode cX6_copy 27 = .ok (.invokevirtual 250, 3) := by decide +kernel
theorem dX6_copy_30 : decode cX6_copy 30 = .ok (.ifCond .ne 15, 3) := by decide +kernel
theorem dX6_copy_33 : decode cX6_copy 33 = .ok (.aload_n 0, 1) := by decide +kernel
theorem dX6_copy_34 : decode cX6_copy 34 = .ok (.getfield 35, 3) := by decide +kernel
theorem dX6_copy_37 : decode cX6_copy 37 = .ok (.iload_n 3, 1) := by decide +kernel
theorem dX6_copy_38 : decode cX6_copy 38 = .ok (.aaload, 1) := by decide +kernel
theorem dX6_copy_39 : decode cX6_copy 39 = .ok (.invokevirtual 250, 3) := by decide +kernel
theorem dX6_copy_42 : decode cX6_copy 42 = .ok (.ifCond .eq 10, 3) := by decide +kernel
theorem dX6_copy_45 : decode cX6_copy 45 = .ok (.aload_n 0, 1) := by decide +kernel
theorem dX6_copy_46 : decode cX6_copy 46 = .ok (.ldc 253, 2) := by decide +kernel
theorem dX6_copy_48 : decode cX6_copy 48 = .ok (.invokevirtual 51, 3) := by decide +kernel
theorem dX6_copy_51 : decode cX6_copy 51 = .ok (.ireturn, 1) := by decide +kernel
theorem dX6_copy_52 : decode cX6_copy 52 = .ok (.aload_n 0, 1) := by decide +kernel
theorem dX6_copy_53 : decode cX6_copy 53 = .ok (.getfield 35, 3) := by decide +kernel
theorem dX6_copy_56 : decode cX6_copy 56 = .ok (.iload_n 1, 1) := by decide +kernel
theorem dX6_copy_57 : decode cX6_copy 57 = .ok (.aaload, 1) := by decide +kernel
theorem dX6_copy_58 : decode cX6_copy 58 = .ok (.getfield 254, 3) := by decide +kernel
theorem dX6_copy_61 : decode cX6_copy 61 = .ok (.aload_n 0, 1) := by decide +kernel
theorem dX6_copy_62 : decode cX6_copy 62 = .ok (.getfield 35, 3) := by decide +kernel
theorem dX6_copy_65 : decode cX6_copy 65 = .ok (.iload_n 3, 1) := by decide +kernel
theorem dX6_copy_66 : decode cX6_copy 66 = .ok (.aaload, 1) := by decide +kernel
theorem dX6_copy_67 : decode cX6_copy 67 = .ok (.getfield 254, 3) := by decide +kernel
theorem dX6_copy_70 : decode cX6_copy 70 = .ok (.if_icmp .eq 10, 3) := by decide +kernel
theorem dX6_copy_73 : decode cX6_copy 73 = .ok (.aload_n 0, 1) := by decide +kernel
theorem dX6_copy_74 : decode cX6_copy 74 = .ok (.ldc 145, 2) := by decide +kernel
theorem dX6_copy_76 : decode cX6_copy 76 = .ok (.invokevirtual 51, 3) := by decide +kernel
theorem dX6_copy_79 : decode cX6_copy 79 = .ok (.ireturn, 1) := by decide +kernel
theorem dX6_copy_80 : decode cX6_copy 80 = .ok (.aload_n 0, 1) := by decide +kernel
theorem dX6_copy_81 : decode cX6_copy 81 = .ok (.getfield 35, 3) := by decide +kernel
theorem dX6_copy_84 : decode cX6_copy 84 = .ok (.iload_n 1, 1) := by decide +kernel
theorem dX6_copy_85 : decode cX6_copy 85 = .ok (.aaload, 1) := by decide +kernel
theorem dX6_copy_86 : decode cX6_copy 86 = .ok (.iload_n 2, 1) := by decide +kernel
theorem dX6_copy_87 : decode cX6_copy 87 = .ok (.iload 5, 2) := by decide +kernel
theorem dX6_copy_89 : decode cX6_copy 89 = .ok (.invokevirtual 257, 3) := by decide +kernel
theorem dX6_copy_92 : decode cX6_copy 92 = .ok (.ifCond .eq 19, 3) := by decide +kernel
theorem dX6_copy_95 : decode cX6_copy 95 = .ok (.aload_n 0, 1) := by decide +kernel
theorem dX6_copy_96 : decode cX6_copy 96 = .ok (.getfield 35, 3) := by decide +kernel
theorem dX6_copy_99 : decode cX6_copy 99 = .ok (.iload_n 3, 1) := by decide +kernel
theorem dX6_copy_100 : decode cX6_copy 100 = .ok (.aaload, 1) := by decide +kernel
theorem dX6_copy_101 : decode cX6_copy 101 = .ok (.iload 4, 2) := by decide +kernel
theorem dX6_copy_103 : decode cX6_copy 103 = .ok (.iload 5, 2) := by decide +kernel
theorem dX6_copy_105 : decode cX6_copy 105 = .ok (.invokevirtual 257, 3) := by decide +kernel
theorem dX6_copy_108 : decode cX6_copy 108 = .ok (.ifCond .ne 10, 3) := by decide +kernel
theorem dX6_copy_111 : decode cX6_copy 111 = .ok (.aload_n 0, 1) := by decide +kernel
theorem dX6_copy_112 : decode cX6_copy 112 = .ok (.ldc 50, 2) := by decide +kernel
theorem dX6_copy_114 : decode cX6_copy 114 = .ok (.invokevirtual 51, 3) := by decide +kernel
theorem dX6_copy_117 : decode cX6_copy 117 = .ok (.ireturn, 1) := by decide +kernel
theorem dX6_copy_118 : decode cX6_copy 118 = .ok (.aload_n 0, 1) := by decide +kernel
theorem dX6_copy_119 : decode cX6_copy 119 = .ok (.getfield 35, 3) := by decide +kernel
theorem dX6_copy_122 : decode cX6_copy 122 = .ok (.iload_n 1, 1) := by decide +kernel
theorem dX6_copy_123 : decode cX6_copy 123 = .ok (.aaload, 1) := by decide +kernel
theorem dX6_copy_124 : decode cX6_copy 124 = .ok (.getfield 242, 3) := by decide +kernel
theorem dX6_copy_127 : decode cX6_copy 127 = .ok (.iload_n 2, 1) := by decide +kernel
theorem dX6_copy_128 : decode cX6_copy 128 = .ok (.aload_n 0, 1) := by decide +kernel
theorem dX6_copy_129 : decode cX6_copy 129 = .ok (.getfield 35, 3) := by decide +kernel
theorem dX6_copy_132 : decode cX6_copy 132 = .ok (.iload_n 3, 1) := by decide +kernel
theorem dX6_copy_133 : decode cX6_copy 133 = .ok (.aaload, 1) := by decide +kernel
theorem dX6_copy_134 : decode cX6_copy 134 = .ok (.getfield 242, 3) := by decide +kernel
theorem dX6_copy_137 : decode cX6_copy 137 = .ok (.iload 4, 2) := by decide +kernel
theorem dX6_copy_139 : decode cX6_copy 139 = .ok (.iload 5, 2) := by decide +kernel
theorem dX6_copy_141 : decode cX6_copy 141 = .ok (.invokestatic 260, 3) := by decide +kernel
theorem dX6_copy_144 : decode cX6_copy 144 = .ok (.iload 5, 2) := by decide +kernel
theorem dX6_copy_146 : decode cX6_copy 146 = .ok (.ireturn, 1) := by decide +kernel
theorem dX6_lays_0 : decode cX6_lays 0 = .ok (.aload_n 0, 1) := by decide +kernel
theorem dX6_lays_1 : decode cX6_lays 1 = .ok (.iload_n 1, 1) := by decide +kernel
theorem dX6_lays_2 : decode cX6_lays 2 = .ok (.invokevirtual 239, 3) := by decide +kernel
theorem dX6_lays_5 : decode cX6_lays 5 = .ok (.istore_n 2, 1) := by decide +kernel
theorem dX6_lays_6 : decode cX6_lays 6 = .ok (.iload_n 2, 1) := by decide +kernel
theorem dX6_lays_7 : decode cX6_lays 7 = .ok (.ifCond .eq 9, 3) := by decide +kernel
theorem dX6_lays_10 : decode cX6_lays 10 = .ok (.aload_n 0, 1) := by decide +kernel
theorem dX6_lays_11 : decode cX6_lays 11 = .ok (.iload_n 2, 1) := by decide +kernel
theorem dX6_lays_12 : decode cX6_lays 12 = .ok (.invokevirtual 51, 3) := by decide +kernel
theorem dX6_lays_15 : decode cX6_lays 15 = .ok (.ireturn, 1) := by decide +kernel
theorem dX6_lays_16 : decode cX6_lays 16 = .ok (.iconst 0, 1) := by decide +kernel
theorem dX6_lays_17 : decode cX6_lays 17 = .ok (.istore_n 3, 1) := by decide +kernel
theorem dX6_lays_18 : decode cX6_lays 18 = .ok (.aload_n 0, 1) := by decide +kernel
theorem dX6_lays_19 : decode cX6_lays 19 = .ok (.getfield 35, 3) := by decide +kernel
theorem dX6_lays_22 : decode cX6_lays 22 = .ok (.iload_n 1, 1) := by decide +kernel
theorem dX6_lays_23 : decode cX6_lays 23 = .ok (.aaload, 1) := by decide +kernel
theorem dX6_lays_24 : decode cX6_lays 24 = .ok (.getfield 238, 3) := by decide +kernel
theorem dX6_lays_27 : decode cX6_lays 27 = .ok (.aload_n 0, 1) := by decide +kernel
theorem dX6_lays_28 : decode cX6_lays 28 = .ok (.getfield 10, 3) := by decide +kernel
theorem dX6_lays_31 : decode cX6_lays 31 = .ok (.getfield 86, 3) := by decide +kernel
theorem dX6_lays_34 : decode cX6_lays 34 = .ok (.invokestatic 266, 3) := by decide +kernel
theorem dX6_lays_37 : decode cX6_lays 37 = .ok (.istore 4, 2) := by decide +kernel
theorem dX6_lays_39 : decode cX6_lays 39 = .ok (.iconst 0, 1) := by decide +kernel
theorem dX6_lays_40 : decode cX6_lays 40 = .ok (.istore 5, 2) := by decide +kernel
theorem dX6_lays_42 : decode cX6_lays 42 = .ok (.iload 5, 2) := by decide +kernel
theorem dX6_lays_44 : decode cX6_lays 44 = .ok (.iload 4, 2) := by decide +kernel
theorem dX6_lays_46 : decode cX6_lays 46 = .ok (.if_icmp .ge 58, 3) := by decide +kernel
theorem dX6_lays_49 : decode cX6_lays 49 = .ok (.aload_n 0, 1) := by decide +kernel
theorem dX6_lays_50 : decode cX6_lays 50 = .ok (.getfield 35, 3) := by decide +kernel
theorem dX6_lays_53 : decode cX6_lays 53 = .ok (.iload_n 1, 1) := by decide +kernel
theorem dX6_lays_54 : decode cX6_lays 54 = .ok (.aaload, 1) := by decide +kernel
theorem dX6_lays_55 : decode cX6_lays 55 = .ok (.getfield 242, 3) := by decide +kernel
theorem dX6_lays_58 : decode cX6_lays 58 = .ok (.iload 5, 2) := by decide +kernel
theorem dX6_lays_60 : decode cX6_lays 60 = .ok (.laload, 1) := by decide +kernel
theorem dX6_lays_61 : decode cX6_lays 61 = .ok (.lstore 6, 2) := by decide +kernel
theorem dX6_lays_63 : decode cX6_lays 63 = .ok (.lload 6, 2) := by decide +kernel
theorem dX6_lays_65 : decode cX6_lays 65 = .ok (.lconst 0, 1) := by decide +kernel
theorem dX6_lays_66 : decode cX6_lays 66 = .ok (.lcmp, 1) := by decide +kernel
theorem dX6_lays_67 : decode cX6_lays 67 = .ok (.ifCond .lt 31, 3) := by decide +kernel
theorem dX6_lays_70 : decode cX6_lays 70 = .ok (.lload 6, 2) := by decide +kernel
theorem dX6_lays_72 : decode cX6_lays 72 = .ok (.ldc2_w 271, 3) := by decide +kernel
theorem dX6_lays_75 : decode cX6_lays 75 = .ok (.lcmp, 1) := by decide +kernel
theorem dX6_lays_76 : decode cX6_lays 76 = .ok (.ifCond .gt 22, 3) := by decide +kernel
theorem dX6_lays_79 : decode cX6_lays 79 = .ok (.aload_n 0, 1) := by decide +kernel
theorem dX6_lays_80 : decode cX6_lays 80 = .ok (.getfield 10, 3) := by decide +kernel
theorem dX6_lays_83 : decode cX6_lays 83 = .ok (.getfield 93, 3) := by decide +kernel
theorem dX6_lays_86 : decode cX6_lays 86 = .ok (.iload 5, 2) := by decide +kernel
theorem dX6_lays_88 : decode cX6_lays 88 = .ok (.aaload, 1) := by decide +kernel
theorem dX6_lays_89 : decode cX6_lays 89 = .ok (.lload 6, 2) := by decide +kernel
theorem dX6_lays_91 : decode cX6_lays 91 = .ok (.l2i, 1) := by decide +kernel
theorem dX6_lays_92 : decode cX6_lays 92 = .ok (.putfield 124, 3) := by decide +kernel
theorem dX6_lays_95 : decode cX6_lays 95 = .ok (.iinc 3 1, 3) := by decide +kernel
theorem dX6_lays_98 : decode cX6_lays 98 = .ok (.iinc 5 1, 3) := by decide +kernel
theorem dX6_lays_101 : decode cX6_lays 101 = .ok (.goto (-59), 3) := by decide +kernel
theorem dX6_lays_104 : decode cX6_lays 104 = .ok (.iload_n 3, 1) := by decide +kernel
theorem dX6_lays_105 : decode cX6_lays 105 = .ok (.ireturn, 1) := by decide +kernel
theorem dX6_book_0 : decode cX6_book 0 = .ok (.aload_n 0, 1) := by decide +kernel
theorem dX6_book_1 : decode cX6_book 1 = .ok (.iload_n 1, 1) := by decide +kernel
theorem dX6_book_2 : decode cX6_book 2 = .ok (.iload_n 2, 1) := by decide +kernel
theorem dX6_book_3 : decode cX6_book 3 = .ok (.invokevirtual 273, 3) := by decide +kernel
theorem dX6_book_6 : decode cX6_book 6 = .ok (.istore_n 3, 1) := by decide +kernel
theorem dX6_book_7 : decode cX6_book 7 = .ok (.iload_n 3, 1) := by decide +kernel
theorem dX6_book_8 : decode cX6_book 8 = .ok (.ifCond .eq 9, 3) := by decide +kernel
theorem dX6_book_11 : decode cX6_book 11 = .ok (.aload_n 0, 1) := by decide +kernel
theorem dX6_book_12 : decode cX6_book 12 = .ok (.iload_n 3, 1) := by decide +kernel
theorem dX6_book_13 : decode cX6_book 13 = .ok (.invokevirtual 51, 3) := by decide +kernel
theorem dX6_book_16 : decode cX6_book 16 = .ok (.ireturn, 1) := by decide +kernel
theorem dX6_book_17 : decode cX6_book 17 = .ok (.aload_n 0, 1) := by decide +kernel
theorem dX6_book_18 : decode cX6_book 18 = .ok (.invokevirtual 175, 3) := by decide +kernel
theorem dX6_book_21 : decode cX6_book 21 = .ok (.aload_n 0, 1) := by decide +kernel
theorem dX6_book_22 : decode cX6_book 22 = .ok (.getfield 16, 3) := by decide +kernel
theorem dX6_book_25 : decode cX6_book 25 = .ok (.invokevirtual 276, 3) := by decide +kernel
theorem dX6_book_28 : decode cX6_book 28 = .ok (.iconst 0, 1) := by decide +kernel
theorem dX6_book_29 : decode cX6_book 29 = .ok (.istore 4, 2) := by decide +kernel
theorem dX6_book_31 : decode cX6_book 31 = .ok (.iload 4, 2) := by decide +kernel
theorem dX6_book_33 : decode cX6_book 33 = .ok (.aload_n 0, 1) := by decide +kernel
theorem dX6_book_34 : decode cX6_book 34 = .ok (.getfield 35, 3) := by decide +kernel
theorem dX6_book_37 : decode cX6_book 37 = .ok (.iload_n 1, 1) := by decide +kernel
theorem dX6_book_38 : decode cX6_book 38 = .ok (.aaload, 1) := by decide +kernel
theorem dX6_book_39 : decode cX6_book 39 = .ok (.getfield 238, 3) := by decide +kernel
theorem dX6_book_42 : decode cX6_book 42 = .ok (.if_icmp .ge 40, 3) := by decide +kernel
theorem dX6_book_45 : decode cX6_book 45 = .ok (.aload_n 0, 1) := by decide +kernel
theorem dX6_book_46 : decode cX6_book 46 = .ok (.getfield 35, 3) := by decide +kernel
theorem dX6_book_49 : decode cX6_book 49 = .ok (.iload_n 1, 1) := by decide +kernel
theorem dX6_book_50 : decode cX6_book 50 = .ok (.aaload, 1) := by decide +kernel
theorem dX6_book_51 : decode cX6_book 51 = .ok (.iload 4, 2) := by decide +kernel
theorem dX6_book_53 : decode cX6_book 53 = .ok (.aload_n 0, 1) := by decide +kernel
theorem dX6_book_54 : decode cX6_book 54 = .ok (.getfield 16, 3) := by decide +kernel
theorem dX6_book_57 : decode cX6_book 57 = .ok (.getfield 93, 3) := by decide +kernel
theorem dX6_book_60 : decode cX6_book 60 = .ok (.iload_n 2, 1) := by decide +kernel
theorem dX6_book_61 : decode cX6_book 61 = .ok (.aaload, 1) := by decide +kernel
theorem dX6_book_62 : decode cX6_book 62 = .ok (.getfield 178, 3) := by decide +kernel
theorem dX6_book_65 : decode cX6_book 65 = .ok (.i2l, 1) := by decide +kernel
theorem dX6_book_66 : decode cX6_book 66 = .ok (.invokevirtual 246, 3) := by decide +kernel
theorem dX6_book_69 : decode cX6_book 69 = .ok (.aload_n 0, 1) := by decide +kernel
theorem dX6_book_70 : decode cX6_book 70 = .ok (.getfield 16, 3) := by decide +kernel
theorem dX6_book_73 : decode cX6_book 73 = .ok (.invokevirtual 279, 3) := by decide +kernel
theorem dX6_book_76 : decode cX6_book 76 = .ok (.iinc 4 1, 3) := by decide +kernel
theorem dX6_book_79 : decode cX6_book 79 = .ok (.goto (-48), 3) := by decide +kernel
theorem dX6_book_82 : decode cX6_book 82 = .ok (.aload_n 0, 1) := by decide +kernel
theorem dX6_book_83 : decode cX6_book 83 = .ok (.getfield 35, 3) := by decide +kernel
theorem dX6_book_86 : decode cX6_book 86 = .ok (.iload_n 1, 1) := by decide +kernel
theorem dX6_book_87 : decode cX6_book 87 = .ok (.aaload, 1) := by decide +kernel
theorem dX6_book_88 : decode cX6_book 88 = .ok (.getfield 238, 3) := by decide +kernel
theorem dX6_book_91 : decode cX6_book 91 = .ok (.ireturn, 1) := by decide +kernel
theorem dX6_read_0 : decode cX6_read 0 = .ok (.aload_n 0, 1) := by decide +kernel
theorem dX6_read_1 : decode cX6_read 1 = .ok (.iload_n 1, 1) := by decide +kernel
theorem dX6_read_2 : decode cX6_read 2 = .ok (.iload_n 2, 1) := by decide +kernel
theorem dX6_read_3 : decode cX6_read 3 = .ok (.invokevirtual 273, 3) := by decide +kernel
theorem dX6_read_6 : decode cX6_read 6 = .ok (.istore_n 3, 1) := by decide +kernel
theorem dX6_read_7 : decode cX6_read 7 = .ok (.iload_n 3, 1) := by decide +kernel
theorem dX6_read_8 : decode cX6_read 8 = .ok (.ifCond .eq 9, 3) := by decide +kernel
theorem dX6_read_11 : decode cX6_read 11 = .ok (.aload_n 0, 1) := by decide +kernel
theorem dX6_read_12 : decode cX6_read 12 = .ok (.iload_n 3, 1) := by decide +kernel
theorem dX6_read_13 : decode cX6_read 13 = .ok (.invokevirtual 51, 3) := by decide +kernel
theorem dX6_read_16 : decode cX6_read 16 = .ok (.ireturn, 1) := by decide +kernel
theorem dX6_read_17 : decode cX6_read 17 = .ok (.aload_n 0, 1) := by decide +kernel
theorem dX6_read_18 : decode cX6_read 18 = .ok (.invokevirtual 175, 3) := by decide +kernel
theorem dX6_read_21 : decode cX6_read 21 = .ok (.aload_n 0, 1) := by decide +kernel
theorem dX6_read_22 : decode cX6_read 22 = .ok (.getfield 16, 3) := by decide +kernel
theorem dX6_read_25 : decode cX6_read 25 = .ok (.invokevirtual 276, 3) := by decide +kernel
theorem dX6_read_28 : decode cX6_read 28 = .ok (.iconst 0, 1) := by decide +kernel
theorem dX6_read_29 : decode cX6_read 29 = .ok (.istore 4, 2) := by decide +kernel
theorem dX6_read_31 : decode cX6_read 31 = .ok (.iconst 0, 1) := by decide +kernel
theorem dX6_read_32 : decode cX6_read 32 = .ok (.istore 5, 2) := by decide +kernel
theorem dX6_read_34 : decode cX6_read 34 = .ok (.iload 5, 2) := by decide +kernel
theorem dX6_read_36 : decode cX6_read 36 = .ok (.bipush 99, 2) := by decide +kernel
theorem dX6_read_38 : decode cX6_read 38 = .ok (.if_icmp .gt 90, 3) := by decide +kernel
theorem dX6_read_41 : decode cX6_read 41 = .ok (.iconst 0, 1) := by decide +kernel
theorem dX6_read_42 : decode cX6_read 42 = .ok (.istore 6, 2) := by decide +kernel
theorem dX6_read_44 : decode cX6_read 44 = .ok (.iload 6, 2) := by decide +kernel
theorem dX6_read_46 : decode cX6_read 46 = .ok (.bipush 16, 2) := by decide +kernel
theorem dX6_read_48 : decode cX6_read 48 = .ok (.if_icmp .ge 74, 3) := by decide +kernel
theorem dX6_read_51 : decode cX6_read 51 = .ok (.aload_n 0, 1) := by decide +kernel
theorem dX6_read_52 : decode cX6_read 52 = .ok (.getfield 16, 3) := by decide +kernel
theorem dX6_read_55 : decode cX6_read 55 = .ok (.getfield 55, 3) := by decide +kernel
theorem dX6_read_58 : decode cX6_read 58 = .ok (.aload_n 0, 1) := by decide +kernel
theorem dX6_read_59 : decode cX6_read 59 = .ok (.getfield 10, 3) := by decide +kernel
theorem dX6_read_62 : decode cX6_read 62 = .ok (.getfield 55, 3) := by decide +kernel
theorem dX6_read_65 : decode cX6_read 65 = .ok (.invokevirtual 282, 3) := by decide +kernel
theorem dX6_read_68 : decode cX6_read 68 = .ok (.aload_n 0, 1) := by decide +kernel
theorem dX6_read_69 : decode cX6_read 69 = .ok (.getfield 16, 3) := by decide +kernel
theorem dX6_read_72 : decode cX6_read 72 = .ok (.getfield 55, 3) := by decide +kernel
theorem dX6_read_75 : decode cX6_read 75 = .ok (.iload 5, 2) := by decide +kernel
theorem dX6_read_77 : decode cX6_read 77 = .ok (.putfield 105, 3) := by decide +kernel
theorem dX6_read_80 : decode cX6_read 80 = .ok (.aload_n 0, 1) := by decide +kernel
theorem dX6_read_81 : decode cX6_read 81 = .ok (.getfield 16, 3) := by decide +kernel
theorem dX6_read_84 : decode cX6_read 84 = .ok (.getfield 55, 3) := by decide +kernel
theorem dX6_read_87 : decode cX6_read 87 = .ok (.iload 6, 2) := by decide +kernel
theorem dX6_read_89 : decode cX6_read 89 = .ok (.putfield 97, 3) := by decide +kernel
theorem dX6_read_92 : decode cX6_read 92 = .ok (.iload 4, 2) := by decide +kernel
theorem dX6_read_94 : decode cX6_read 94 = .ok (.aload_n 0, 1) := by decide +kernel
theorem dX6_read_95 : decode cX6_read 95 = .ok (.aload_n 0, 1) := by decide +kernel
theorem dX6_read_96 : decode cX6_read 96 = .ok (.getfield 35, 3) := by decide +kernel
theorem dX6_read_99 : decode cX6_read 99 = .ok (.iload_n 1, 1) := by decide +kernel
theorem dX6_read_100 : decode cX6_read 100 = .ok (.aaload, 1) := by decide +kernel
theorem dX6_read_101 : decode cX6_read 101 = .ok (.iload_n 2, 1) := by decide +kernel
theorem dX6_read_102 : decode cX6_read 102 = .ok (.invokevirtual 285, 3) := by decide +kernel
theorem dX6_read_105 : decode cX6_read 105 = .ok (.ifCond .eq 7, 3) := by decide +kernel
theorem dX6_read_108 : decode cX6_read 108 = .ok (.iconst 1, 1) := by decide +kernel
theorem dX6_read_109 : decode cX6_read 109 = .ok (.goto 4, 3) := by decide +kernel
theorem dX6_read_112 : decode cX6_read 112 = .ok (.iconst 0, 1) := by decide +kernel
theorem dX6_read_113 : decode cX6_read 113 = .ok (.iadd, 1) := by decide +kernel
theorem dX6_read_114 : decode cX6_read 114 = .ok (.istore 4, 2) := by decide +kernel
theorem dX6_read_116 : decode cX6_read 116 = .ok (.iinc 6 1, 3) := by decide +kernel
theorem dX6_read_119 : decode cX6_read 119 = .ok (.goto (-75), 3) := by decide +kernel
theorem dX6_read_122 : decode cX6_read 122 = .ok (.iinc 5 1, 3) := by decide +kernel
theorem dX6_read_125 : decode cX6_read 125 = .ok (.goto (-91), 3) := by decide +kernel
theorem dX6_read_128 : decode cX6_read 128 = .ok (.iload 4, 2) := by decide +kernel
theorem dX6_read_130 : decode cX6_read 130 = .ok (.ireturn, 1) := by decide +kernel
theorem dX6_image_0 : decode cX6_image 0 = .ok (.aload_n 0, 1) := by decide +kernel
theorem dX6_image_1 : decode cX6_image 1 = .ok (.getfield 19, 3) := by decide +kernel
theorem dX6_image_4 : decode cX6_image 4 = .ok (.aload_n 0, 1) := by decide +kernel
theorem dX6_image_5 : decode cX6_image 5 = .ok (.getfield 10, 3) := by decide +kernel
theorem dX6_image_8 : decode cX6_image 8 = .ok (.invokevirtual 224, 3) := by decide +kernel
theorem dX6_image_11 : decode cX6_image 11 = .ok (.aload_n 0, 1) := by decide +kernel
theorem dX6_image_12 : decode cX6_image 12 = .ok (.iconst 1, 1) := by decide +kernel
theorem dX6_image_13 : decode cX6_image 13 = .ok (.putfield 22, 3) := by decide +kernel
theorem dX6_image_16 : decode cX6_image 16 = .ok (.iconst 1, 1) := by decide +kernel
theorem dX6_image_17 : decode cX6_image 17 = .ok (.ireturn, 1) := by decide +kernel
theorem dX6_undo_0 : decode cX6_undo 0 = .ok (.aload_n 0, 1) := by decide +kernel
theorem dX6_undo_1 : decode cX6_undo 1 = .ok (.getfield 22, 3) := by decide +kernel
theorem dX6_undo_4 : decode cX6_undo 4 = .ok (.ifCond .ne 10, 3) := by decide +kernel
theorem dX6_undo_7 : decode cX6_undo 7 = .ok (.aload_n 0, 1) := by decide +kernel
theorem dX6_undo_8 : decode cX6_undo 8 = .ok (.ldc 184, 2) := by decide +kernel
theorem dX6_undo_10 : decode cX6_undo 10 = .ok (.invokevirtual 51, 3) := by decide +kernel
theorem dX6_undo_13 : decode cX6_undo 13 = .ok (.ireturn, 1) := by decide +kernel
theorem dX6_undo_14 : decode cX6_undo 14 = .ok (.aload_n 0, 1) := by decide +kernel
theorem dX6_undo_15 : decode cX6_undo 15 = .ok (.getfield 10, 3) := by decide +kernel
theorem dX6_undo_18 : decode cX6_undo 18 = .ok (.aload_n 0, 1) := by decide +kernel
theorem dX6_undo_19 : decode cX6_undo 19 = .ok (.getfield 19, 3) := by decide +kernel
theorem dX6_undo_22 : decode cX6_undo 22 = .ok (.invokevirtual 224, 3) := by decide +kernel
theorem dX6_undo_25 : decode cX6_undo 25 = .ok (.aload_n 0, 1) := by decide +kernel
theorem dX6_undo_26 : decode cX6_undo 26 = .ok (.getfield 10, 3) := by decide +kernel
theorem dX6_undo_29 : decode cX6_undo 29 = .ok (.getfield 86, 3) := by decide +kernel
theorem dX6_undo_32 : decode cX6_undo 32 = .ok (.ireturn, 1) := by decide +kernel
theorem dX6_tear_0 : decode cX6_tear 0 = .ok (.aload_n 0, 1) := by decide +kernel
theorem dX6_tear_1 : decode cX6_tear 1 = .ok (.getfield 22, 3) := by decide +kernel
theorem dX6_tear_4 : decode cX6_tear 4 = .ok (.ifCond .eq 7, 3) := by decide +kernel
theorem dX6_tear_7 : decode cX6_tear 7 = .ok (.iconst 1, 1) := by decide +kernel
theorem dX6_tear_8 : decode cX6_tear 8 = .ok (.goto 4, 3) := by decide +kernel
theorem dX6_tear_11 : decode cX6_tear 11 = .ok (.iconst 0, 1) := by decide +kernel
theorem dX6_tear_12 : decode cX6_tear 12 = .ok (.istore_n 1, 1) := by decide +kernel
theorem dX6_tear_13 : decode cX6_tear 13 = .ok (.aload_n 0, 1) := by decide +kernel
theorem dX6_tear_14 : decode cX6_tear 14 = .ok (.iconst 0, 1) := by decide +kernel
theorem dX6_tear_15 : decode cX6_tear 15 = .ok (.putfield 22, 3) := by decide +kernel
theorem dX6_tear_18 : decode cX6_tear 18 = .ok (.iload_n 1, 1) := by decide +kernel
theorem dX6_tear_19 : decode cX6_tear 19 = .ok (.ireturn, 1) := by decide +kernel
theorem dX6_count_0 : decode cX6_count 0 = .ok (.iload_n 1, 1) := by decide +kernel
theorem dX6_count_1 : decode cX6_count 1 = .ok (.tableswitch 67 0 3 #[31, 39, 50, 59], 31) := by decide +kernel
theorem dX6_count_32 : decode cX6_count 32 = .ok (.aload_n 0, 1) := by decide +kernel
theorem dX6_count_33 : decode cX6_count 33 = .ok (.getfield 10, 3) := by decide +kernel
theorem dX6_count_36 : decode cX6_count 36 = .ok (.getfield 86, 3) := by decide +kernel
theorem dX6_count_39 : decode cX6_count 39 = .ok (.ireturn, 1) := by decide +kernel
theorem dX6_count_40 : decode cX6_count 40 = .ok (.aload_n 0, 1) := by decide +kernel
theorem dX6_count_41 : decode cX6_count 41 = .ok (.getfield 29, 3) := by decide +kernel
theorem dX6_count_44 : decode cX6_count 44 = .ok (.getfield 209, 3) := by decide +kernel
theorem dX6_count_47 : decode cX6_count 47 = .ok (.getfield 213, 3) := by decide +kernel
theorem dX6_count_50 : decode cX6_count 50 = .ok (.ireturn, 1) := by decide +kernel
theorem dX6_count_51 : decode cX6_count 51 = .ok (.aload_n 0, 1) := by decide +kernel
theorem dX6_count_52 : decode cX6_count 52 = .ok (.getfield 10, 3) := by decide +kernel
theorem dX6_count_55 : decode cX6_count 55 = .ok (.iconst 2, 1) := by decide +kernel
theorem dX6_count_56 : decode cX6_count 56 = .ok (.invokevirtual 160, 3) := by decide +kernel
theorem dX6_count_59 : decode cX6_count 59 = .ok (.ireturn, 1) := by decide +kernel
theorem dX6_count_60 : decode cX6_count 60 = .ok (.aload_n 0, 1) := by decide +kernel
theorem dX6_count_61 : decode cX6_count 61 = .ok (.getfield 10, 3) := by decide +kernel
theorem dX6_count_64 : decode cX6_count 64 = .ok (.invokevirtual 289, 3) := by decide +kernel
theorem dX6_count_67 : decode cX6_count 67 = .ok (.ireturn, 1) := by decide +kernel
theorem dX6_count_68 : decode cX6_count 68 = .ok (.aload_n 0, 1) := by decide +kernel
theorem dX6_count_69 : decode cX6_count 69 = .ok (.ldc 50, 2) := by decide +kernel
theorem dX6_count_71 : decode cX6_count 71 = .ok (.invokevirtual 51, 3) := by decide +kernel
theorem dX6_count_74 : decode cX6_count 74 = .ok (.ireturn, 1) := by decide +kernel
theorem dX6_status_0 : decode cX6_status 0 = .ok (.iload_n 1, 1) := by decide +kernel
theorem dX6_status_1 : decode cX6_status 1 = .ok (.iconst (-1), 1) := by decide +kernel
theorem dX6_status_2 : decode cX6_status 2 = .ok (.bipush 6, 2) := by decide +kernel
theorem dX6_status_4 : decode cX6_status 4 = .ok (.invokestatic 66, 3) := by decide +kernel
theorem dX6_status_7 : decode cX6_status 7 = .ok (.ifCond .ne 10, 3) := by decide +kernel
theorem dX6_status_10 : decode cX6_status 10 = .ok (.aload_n 0, 1) := by decide +kernel
theorem dX6_status_11 : decode cX6_status 11 = .ok (.ldc 50, 2) := by decide +kernel
theorem dX6_status_13 : decode cX6_status 13 = .ok (.invokevirtual 51, 3) := by decide +kernel
theorem dX6_status_16 : decode cX6_status 16 = .ok (.ireturn, 1) := by decide +kernel
theorem dX6_status_17 : decode cX6_status 17 = .ok (.iload_n 1, 1) := by decide +kernel
theorem dX6_status_18 : decode cX6_status 18 = .ok (.ifCond .lt 10, 3) := by decide +kernel
theorem dX6_status_21 : decode cX6_status 21 = .ok (.aload_n 0, 1) := by decide +kernel
theorem dX6_status_22 : decode cX6_status 22 = .ok (.getfield 40, 3) := by decide +kernel
theorem dX6_status_25 : decode cX6_status 25 = .ok (.iload_n 1, 1) := by decide +kernel
theorem dX6_status_26 : decode cX6_status 26 = .ok (.iaload, 1) := by decide +kernel
theorem dX6_status_27 : decode cX6_status 27 = .ok (.ireturn, 1) := by decide +kernel
theorem dX6_status_28 : decode cX6_status 28 = .ok (.iconst 0, 1) := by decide +kernel
theorem dX6_status_29 : decode cX6_status 29 = .ok (.istore_n 2, 1) := by decide +kernel
theorem dX6_status_30 : decode cX6_status 30 = .ok (.iconst 0, 1) := by decide +kernel
theorem dX6_status_31 : decode cX6_status 31 = .ok (.istore_n 3, 1) := by decide +kernel
theorem dX6_status_32 : decode cX6_status 32 = .ok (.iload_n 3, 1) := by decide +kernel
theorem dX6_status_33 : decode cX6_status 33 = .ok (.bipush 7, 2) := by decide +kernel
theorem dX6_status_35 : decode cX6_status 35 = .ok (.if_icmp .ge 18, 3) := by decide +kernel
theorem dX6_status_38 : decode cX6_status 38 = .ok (.iload_n 2, 1) := by decide +kernel
theorem dX6_status_39 : decode cX6_status 39 = .ok (.aload_n 0, 1) := by decide +kernel
theorem dX6_status_40 : decode cX6_status 40 = .ok (.getfield 40, 3) := by decide +kernel
theorem dX6_status_43 : decode cX6_status 43 = .ok (.iload_n 3, 1) := by decide +kernel
theorem dX6_status_44 : decode cX6_status 44 = .ok (.iaload, 1) := by decide +kernel
theorem dX6_status_45 : decode cX6_status 45 = .ok (.iadd, 1) := by decide +kernel
theorem dX6_status_46 : decode cX6_status 46 = .ok (.istore_n 2, 1) := by decide +kernel
theorem dX6_status_47 : decode cX6_status 47 = .ok (.iinc 3 1, 3) := by decide +kernel
theorem dX6_status_50 : decode cX6_status 50 = .ok (.goto (-18), 3) := by decide +kernel
theorem dX6_status_53 : decode cX6_status 53 = .ok (.iload_n 2, 1) := by decide +kernel
theorem dX6_status_54 : decode cX6_status 54 = .ok (.ireturn, 1) := by decide +kernel
theorem dX6_tell_0 : decode cX6_tell 0 = .ok (.ldc 50, 2) := by decide +kernel
theorem dX6_tell_2 : decode cX6_tell 2 = .ok (.iload_n 1, 1) := by decide +kernel
theorem dX6_tell_3 : decode cX6_tell 3 = .ok (.isub, 1) := by decide +kernel
theorem dX6_tell_4 : decode cX6_tell 4 = .ok (.istore_n 2, 1) := by decide +kernel
theorem dX6_tell_5 : decode cX6_tell 5 = .ok (.iload_n 2, 1) := by decide +kernel
theorem dX6_tell_6 : decode cX6_tell 6 = .ok (.iconst 0, 1) := by decide +kernel
theorem dX6_tell_7 : decode cX6_tell 7 = .ok (.bipush 6, 2) := by decide +kernel
theorem dX6_tell_9 : decode cX6_tell 9 = .ok (.invokestatic 66, 3) := by decide +kernel
theorem dX6_tell_12 : decode cX6_tell 12 = .ok (.ifCond .eq 13, 3) := by decide +kernel
theorem dX6_tell_15 : decode cX6_tell 15 = .ok (.aload_n 0, 1) := by decide +kernel
theorem dX6_tell_16 : decode cX6_tell 16 = .ok (.getfield 40, 3) := by decide +kernel
theorem dX6_tell_19 : decode cX6_tell 19 = .ok (.iload_n 2, 1) := by decide +kernel
theorem dX6_tell_20 : decode cX6_tell 20 = .ok (.dup2, 1) := by decide +kernel
theorem dX6_tell_21 : decode cX6_tell 21 = .ok (.iaload, 1) := by decide +kernel
theorem dX6_tell_22 : decode cX6_tell 22 = .ok (.iconst 1, 1) := by decide +kernel
theorem dX6_tell_23 : decode cX6_tell 23 = .ok (.iadd, 1) := by decide +kernel
theorem dX6_tell_24 : decode cX6_tell 24 = .ok (.iastore, 1) := by decide +kernel
theorem dX6_tell_25 : decode cX6_tell 25 = .ok (.iload_n 1, 1) := by decide +kernel
theorem dX6_tell_26 : decode cX6_tell 26 = .ok (.ireturn, 1) := by decide +kernel
theorem dX6_isWithin_0 : decode cX6_isWithin 0 = .ok (.iload_n 0, 1) := by decide +kernel
theorem dX6_isWithin_1 : decode cX6_isWithin 1 = .ok (.iload_n 1, 1) := by decide +kernel
theorem dX6_isWithin_2 : decode cX6_isWithin 2 = .ok (.if_icmp .lt 12, 3) := by decide +kernel
theorem dX6_isWithin_5 : decode cX6_isWithin 5 = .ok (.iload_n 0, 1) := by decide +kernel
theorem dX6_isWithin_6 : decode cX6_isWithin 6 = .ok (.iload_n 2, 1) := by decide +kernel
theorem dX6_isWithin_7 : decode cX6_isWithin 7 = .ok (.if_icmp .gt 7, 3) := by decide +kernel
theorem dX6_isWithin_10 : decode cX6_isWithin 10 = .ok (.iconst 1, 1) := by decide +kernel
theorem dX6_isWithin_11 : decode cX6_isWithin 11 = .ok (.goto 4, 3) := by decide +kernel
theorem dX6_isWithin_14 : decode cX6_isWithin 14 = .ok (.iconst 0, 1) := by decide +kernel
theorem dX6_isWithin_15 : decode cX6_isWithin 15 = .ok (.ireturn, 1) := by decide +kernel
theorem dX6_isRod_0 : decode cX6_isRod 0 = .ok (.iload_n 1, 1) := by decide +kernel
theorem dX6_isRod_1 : decode cX6_isRod 1 = .ok (.iconst 0, 1) := by decide +kernel
theorem dX6_isRod_2 : decode cX6_isRod 2 = .ok (.aload_n 0, 1) := by decide +kernel
theorem dX6_isRod_3 : decode cX6_isRod 3 = .ok (.getfield 10, 3) := by decide +kernel
theorem dX6_isRod_6 : decode cX6_isRod 6 = .ok (.getfield 86, 3) := by decide +kernel
theorem dX6_isRod_9 : decode cX6_isRod 9 = .ok (.iconst 1, 1) := by decide +kernel
theorem dX6_isRod_10 : decode cX6_isRod 10 = .ok (.isub, 1) := by decide +kernel
theorem dX6_isRod_11 : decode cX6_isRod 11 = .ok (.invokestatic 66, 3) := by decide +kernel
theorem dX6_isRod_14 : decode cX6_isRod 14 = .ok (.ireturn, 1) := by decide +kernel
theorem dX6_isKind_0 : decode cX6_isKind 0 = .ok (.iload_n 0, 1) := by decide +kernel
theorem dX6_isKind_1 : decode cX6_isKind 1 = .ok (.iconst 0, 1) := by decide +kernel
theorem dX6_isKind_2 : decode cX6_isKind 2 = .ok (.iconst 5, 1) := by decide +kernel
theorem dX6_isKind_3 : decode cX6_isKind 3 = .ok (.invokestatic 66, 3) := by decide +kernel
theorem dX6_isKind_6 : decode cX6_isKind 6 = .ok (.ireturn, 1) := by decide +kernel
theorem dX6_isPlace_0 : decode cX6_isPlace 0 = .ok (.iload_n 0, 1) := by decide +kernel
theorem dX6_isPlace_1 : decode cX6_isPlace 1 = .ok (.iconst 0, 1) := by decide +kernel
theorem dX6_isPlace_2 : decode cX6_isPlace 2 = .ok (.bipush 15, 2) := by decide +kernel
theorem dX6_isPlace_4 : decode cX6_isPlace 4 = .ok (.invokestatic 66, 3) := by decide +kernel
theorem dX6_isPlace_7 : decode cX6_isPlace 7 = .ok (.ireturn, 1) := by decide +kernel
theorem dX6_isHeight_0 : decode cX6_isHeight 0 = .ok (.iload_n 0, 1) := by decide +kernel
theorem dX6_isHeight_1 : decode cX6_isHeight 1 = .ok (.iconst 0, 1) := by decide +kernel
theorem dX6_isHeight_2 : decode cX6_isHeight 2 = .ok (.bipush 60, 2) := by decide +kernel
theorem dX6_isHeight_4 : decode cX6_isHeight 4 = .ok (.invokestatic 66, 3) := by decide +kernel
theorem dX6_isHeight_7 : decode cX6_isHeight 7 = .ok (.ireturn, 1) := by decide +kernel
theorem dX6_isClock_0 : decode cX6_isClock 0 = .ok (.iload_n 0, 1) := by decide +kernel
theorem dX6_isClock_1 : decode cX6_isClock 1 = .ok (.iconst 0, 1) := by decide +kernel
theorem dX6_isClock_2 : decode cX6_isClock 2 = .ok (.bipush 23, 2) := by decide +kernel
theorem dX6_isClock_4 : decode cX6_isClock 4 = .ok (.invokestatic 66, 3) := by decide +kernel
theorem dX6_isClock_7 : decode cX6_isClock 7 = .ok (.ireturn, 1) := by decide +kernel
theorem dX6_isSheet_0 : decode cX6_isSheet 0 = .ok (.iload_n 0, 1) := by decide +kernel
theorem dX6_isSheet_1 : decode cX6_isSheet 1 = .ok (.iconst 0, 1) := by decide +kernel
theorem dX6_isSheet_2 : decode cX6_isSheet 2 = .ok (.iconst 3, 1) := by decide +kernel
theorem dX6_isSheet_3 : decode cX6_isSheet 3 = .ok (.invokestatic 66, 3) := by decide +kernel
theorem dX6_isSheet_6 : decode cX6_isSheet 6 = .ok (.ireturn, 1) := by decide +kernel
theorem dX6_findingOfSheet_0 : decode cX6_findingOfSheet 0 = .ok (.iload_n 1, 1) := by decide +kernel
theorem dX6_findingOfSheet_1 : decode cX6_findingOfSheet 1 = .ok (.invokestatic 228, 3) := by decide +kernel
theorem dX6_findingOfSheet_4 : decode cX6_findingOfSheet 4 = .ok (.ifCond .ne 6, 3) := by decide +kernel
theorem dX6_findingOfSheet_7 : decode cX6_findingOfSheet 7 = .ok (.ldc 50, 2) := by decide +kernel
theorem dX6_findingOfSheet_9 : decode cX6_findingOfSheet 9 = .ok (.ireturn, 1) := by decide +kernel
theorem dX6_findingOfSheet_10 : decode cX6_findingOfSheet 10 = .ok (.aload_n 0, 1) := by decide +kernel
theorem dX6_findingOfSheet_11 : decode cX6_findingOfSheet 11 = .ok (.getfield 35, 3) := by decide +kernel
theorem dX6_findingOfSheet_14 : decode cX6_findingOfSheet 14 = .ok (.iload_n 1, 1) := by decide +kernel
theorem dX6_findingOfSheet_15 : decode cX6_findingOfSheet 15 = .ok (.aaload, 1) := by decide +kernel
theorem dX6_findingOfSheet_16 : decode cX6_findingOfSheet 16 = .ok (.invokevirtual 250, 3) := by decide +kernel
theorem dX6_findingOfSheet_19 : decode cX6_findingOfSheet 19 = .ok (.ifCond .eq 8, 3) := by decide +kernel
theorem dX6_findingOfSheet_22 : decode cX6_findingOfSheet 22 = .ok (.ldc 253, 2) := by decide +kernel
theorem dX6_findingOfSheet_24 : decode cX6_findingOfSheet 24 = .ok (.goto 4, 3) := by decide +kernel
theorem dX6_findingOfSheet_27 : decode cX6_findingOfSheet 27 = .ok (.iconst 0, 1) := by decide +kernel
theorem dX6_findingOfSheet_28 : decode cX6_findingOfSheet 28 = .ok (.ireturn, 1) := by decide +kernel
theorem dX6_findingOfBook_0 : decode cX6_findingOfBook 0 = .ok (.aload_n 0, 1) := by decide +kernel
theorem dX6_findingOfBook_1 : decode cX6_findingOfBook 1 = .ok (.iload_n 1, 1) := by decide +kernel
theorem dX6_findingOfBook_2 : decode cX6_findingOfBook 2 = .ok (.invokevirtual 239, 3) := by decide +kernel
theorem dX6_findingOfBook_5 : decode cX6_findingOfBook 5 = .ok (.istore_n 3, 1) := by decide +kernel
theorem dX6_findingOfBook_6 : decode cX6_findingOfBook 6 = .ok (.iload_n 3, 1) := by decide +kernel
theorem dX6_findingOfBook_7 : decode cX6_findingOfBook 7 = .ok (.ifCond .ne 14, 3) := by decide +kernel
theorem dX6_findingOfBook_10 : decode cX6_findingOfBook 10 = .ok (.aload_n 0, 1) := by decide +kernel
theorem dX6_findingOfBook_11 : decode cX6_findingOfBook 11 = .ok (.iload_n 2, 1) := by decide +kernel
theorem dX6_findingOfBook_12 : decode cX6_findingOfBook 12 = .ok (.invokevirtual 90, 3) := by decide +kernel
theorem dX6_findingOfBook_15 : decode cX6_findingOfBook 15 = .ok (.ifCond .ne 6, 3) := by decide +kernel
theorem dX6_findingOfBook_18 : decode cX6_findingOfBook 18 = .ok (.ldc 50, 2) := by decide +kernel
theorem dX6_findingOfBook_20 : decode cX6_findingOfBook 20 = .ok (.ireturn, 1) := by decide +kernel
theorem dX6_findingOfBook_21 : decode cX6_findingOfBook 21 = .ok (.iload_n 3, 1) := by decide +kernel
theorem dX6_findingOfBook_22 : decode cX6_findingOfBook 22 = .ok (.ireturn, 1) := by decide +kernel
theorem dX6_raiseGhost_0 : decode cX6_raiseGhost 0 = .ok (.aload_n 0, 1) := by decide +kernel
theorem dX6_raiseGhost_1 : decode cX6_raiseGhost 1 = .ok (.getfield 16, 3) := by decide +kernel
theorem dX6_raiseGhost_4 : decode cX6_raiseGhost 4 = .ok (.aload_n 0, 1) := by decide +kernel
theorem dX6_raiseGhost_5 : decode cX6_raiseGhost 5 = .ok (.getfield 10, 3) := by decide +kernel
theorem dX6_raiseGhost_8 : decode cX6_raiseGhost 8 = .ok (.invokevirtual 224, 3) := by decide +kernel
theorem dX6_raiseGhost_11 : decode cX6_raiseGhost 11 = .ok (.return_, 1) := by decide +kernel
theorem dX6_leadGhostToBolt_0 : decode cX6_leadGhostToBolt 0 = .ok (.aload_n 0, 1) := by decide +kernel
theorem dX6_leadGhostToBolt_1 : decode cX6_leadGhostToBolt 1 = .ok (.invokevirtual 175, 3) := by decide +kernel
theorem dX6_leadGhostToBolt_4 : decode cX6_leadGhostToBolt 4 = .ok (.iconst 0, 1) := by decide +kernel
theorem dX6_leadGhostToBolt_5 : decode cX6_leadGhostToBolt 5 = .ok (.istore_n 1, 1) := by decide +kernel
theorem dX6_leadGhostToBolt_6 : decode cX6_leadGhostToBolt 6 = .ok (.iload_n 1, 1) := by decide +kernel
theorem dX6_leadGhostToBolt_7 : decode cX6_leadGhostToBolt 7 = .ok (.bipush 100, 2) := by decide +kernel
theorem dX6_leadGhostToBolt_9 : decode cX6_leadGhostToBolt 9 = .ok (.if_icmp .ge 34, 3) := by decide +kernel
theorem dX6_leadGhostToBolt_12 : decode cX6_leadGhostToBolt 12 = .ok (.aload_n 0, 1) := by decide +kernel
theorem dX6_leadGhostToBolt_13 : decode cX6_leadGhostToBolt 13 = .ok (.getfield 16, 3) := by decide +kernel
theorem dX6_leadGhostToBolt_16 : decode cX6_leadGhostToBolt 16 = .ok (.getfield 55, 3) := by decide +kernel
theorem dX6_leadGhostToBolt_19 : decode cX6_leadGhostToBolt 19 = .ok (.invokevirtual 292, 3) := by decide +kernel
theorem dX6_leadGhostToBolt_22 : decode cX6_leadGhostToBolt 22 = .ok (.ifCond .eq 5, 3) := by decide +kernel
theorem dX6_leadGhostToBolt_25 : decode cX6_leadGhostToBolt 25 = .ok (.iload_n 1, 1) := by decide +kernel
theorem dX6_leadGhostToBolt_26 : decode cX6_leadGhostToBolt 26 = .ok (.ireturn, 1) := by decide +kernel
theorem dX6_leadGhostToBolt_27 : decode cX6_leadGhostToBolt 27 = .ok (.aload_n 0, 1) := by decide +kernel
theorem dX6_leadGhostToBolt_28 : decode cX6_leadGhostToBolt 28 = .ok (.getfield 16, 3) := by decide +kernel
theorem dX6_leadGhostToBolt_31 : decode cX6_leadGhostToBolt 31 = .ok (.getfield 55, 3) := by decide +kernel
theorem dX6_leadGhostToBolt_34 : decode cX6_leadGhostToBolt 34 = .ok (.invokevirtual 295, 3) := by decide +kernel
theorem dX6_leadGhostToBolt_37 : decode cX6_leadGhostToBolt 37 = .ok (.iinc 1 1, 3) := by decide +kernel
theorem dX6_leadGhostToBolt_40 : decode cX6_leadGhostToBolt 40 = .ok (.goto (-34), 3) := by decide +kernel
theorem dX6_leadGhostToBolt_43 : decode cX6_leadGhostToBolt 43 = .ok (.iconst (-1), 1) := by decide +kernel
theorem dX6_leadGhostToBolt_44 : decode cX6_leadGhostToBolt 44 = .ok (.ireturn, 1) := by decide +kernel
theorem dX6_isGhostStruck_0 : decode cX6_isGhostStruck 0 = .ok (.aload_n 0, 1) := by decide +kernel
theorem dX6_isGhostStruck_1 : decode cX6_isGhostStruck 1 = .ok (.getfield 16, 3) := by decide +kernel
theorem dX6_isGhostStruck_4 : decode cX6_isGhostStruck 4 = .ok (.getfield 93, 3) := by decide +kernel
theorem dX6_isGhostStruck_7 : decode cX6_isGhostStruck 7 = .ok (.iload_n 1, 1) := by decide +kernel
theorem dX6_isGhostStruck_8 : decode cX6_isGhostStruck 8 = .ok (.aaload, 1) := by decide +kernel
theorem dX6_isGhostStruck_9 : decode cX6_isGhostStruck 9 = .ok (.iload_n 2, 1) := by decide +kernel
theorem dX6_isGhostStruck_10 : decode cX6_isGhostStruck 10 = .ok (.putfield 124, 3) := by decide +kernel
theorem dX6_isGhostStruck_13 : decode cX6_isGhostStruck 13 = .ok (.aload_n 0, 1) := by decide +kernel
theorem dX6_isGhostStruck_14 : decode cX6_isGhostStruck 14 = .ok (.getfield 16, 3) := by decide +kernel
theorem dX6_isGhostStruck_17 : decode cX6_isGhostStruck 17 = .ok (.aload_n 0, 1) := by decide +kernel
theorem dX6_isGhostStruck_18 : decode cX6_isGhostStruck 18 = .ok (.getfield 16, 3) := by decide +kernel
theorem dX6_isGhostStruck_21 : decode cX6_isGhostStruck 21 = .ok (.getfield 55, 3) := by decide +kernel
theorem dX6_isGhostStruck_24 : decode cX6_isGhostStruck 24 = .ok (.getfield 97, 3) := by decide +kernel
theorem dX6_isGhostStruck_27 : decode cX6_isGhostStruck 27 = .ok (.invokevirtual 185, 3) := by decide +kernel
theorem dX6_isGhostStruck_30 : decode cX6_isGhostStruck 30 = .ok (.iload_n 1, 1) := by decide +kernel
theorem dX6_isGhostStruck_31 : decode cX6_isGhostStruck 31 = .ok (.if_icmp .ne 7, 3) := by decide +kernel
theorem dX6_isGhostStruck_34 : decode cX6_isGhostStruck 34 = .ok (.iconst 1, 1) := by decide +kernel
theorem dX6_isGhostStruck_35 : decode cX6_isGhostStruck 35 = .ok (.goto 4, 3) := by decide +kernel
theorem dX6_isGhostStruck_38 : decode cX6_isGhostStruck 38 = .ok (.iconst 0, 1) := by decide +kernel
theorem dX6_isGhostStruck_39 : decode cX6_isGhostStruck 39 = .ok (.ireturn, 1) := by decide +kernel
theorem dX6_clocksOfBolts_0 : decode cX6_clocksOfBolts 0 = .ok (.aload_n 0, 1) := by decide +kernel
theorem dX6_clocksOfBolts_1 : decode cX6_clocksOfBolts 1 = .ok (.invokevirtual 175, 3) := by decide +kernel
theorem dX6_clocksOfBolts_4 : decode cX6_clocksOfBolts 4 = .ok (.aload_n 0, 1) := by decide +kernel
theorem dX6_clocksOfBolts_5 : decode cX6_clocksOfBolts 5 = .ok (.getfield 16, 3) := by decide +kernel
theorem dX6_clocksOfBolts_8 : decode cX6_clocksOfBolts 8 = .ok (.invokevirtual 276, 3) := by decide +kernel
theorem dX6_clocksOfBolts_11 : decode cX6_clocksOfBolts 11 = .ok (.iconst 0, 1) := by decide +kernel
theorem dX6_clocksOfBolts_12 : decode cX6_clocksOfBolts 12 = .ok (.istore_n 3, 1) := by decide +kernel

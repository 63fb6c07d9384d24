theorem dX7_init_0 : decode cX7_init 0 = .ok (.aload_n 0, 1) := by decide +kernel
theorem dX7_init_1 : decode cX7_init 1 = .ok (.invokespecial 1, 3) := by decide +kernel
theorem dX7_init_4 : decode cX7_init 4 = .ok (.aload_n 0, 1) := by decide +kernel
theorem dX7_init_5 : decode cX7_init 5 = .ok (.bipush 65, 2) := by decide +kernel
theorem dX7_init_7 : decode cX7_init 7 = .ok (.newarray .int, 2) := by decide +kernel
theorem dX7_init_9 : decode cX7_init 9 = .ok (.putfield 7, 3) := by decide +kernel
theorem dX7_init_12 : decode cX7_init 12 = .ok (.aload_n 0, 1) := by decide +kernel
theorem dX7_init_13 : decode cX7_init 13 = .ok (.bipush 7, 2) := by decide +kernel
theorem dX7_init_15 : decode cX7_init 15 = .ok (.newarray .int, 2) := by decide +kernel
theorem dX7_init_17 : decode cX7_init 17 = .ok (.putfield 13, 3) := by decide +kernel
theorem dX7_init_20 : decode cX7_init 20 = .ok (.aload_n 0, 1) := by decide +kernel
theorem dX7_init_21 : decode cX7_init 21 = .ok (.bipush 65, 2) := by decide +kernel
theorem dX7_init_23 : decode cX7_init 23 = .ok (.newarray .int, 2) := by decide +kernel
theorem dX7_init_25 : decode cX7_init 25 = .ok (.putfield 16, 3) := by decide +kernel
theorem dX7_init_28 : decode cX7_init 28 = .ok (.aload_n 0, 1) := by decide +kernel
theorem dX7_init_29 : decode cX7_init 29 = .ok (.bipush 65, 2) := by decide +kernel
theorem dX7_init_31 : decode cX7_init 31 = .ok (.newarray .int, 2) := by decide +kernel
theorem dX7_init_33 : decode cX7_init 33 = .ok (.putfield 19, 3) := by decide +kernel
theorem dX7_init_36 : decode cX7_init 36 = .ok (.aload_n 0, 1) := by decide +kernel
theorem dX7_init_37 : decode cX7_init 37 = .ok (.bipush 120, 2) := by decide +kernel
theorem dX7_init_39 : decode cX7_init 39 = .ok (.newarray .int, 2) := by decide +kernel
theorem dX7_init_41 : decode cX7_init 41 = .ok (.putfield 22, 3) := by decide +kernel
theorem dX7_init_44 : decode cX7_init 44 = .ok (.aload_n 0, 1) := by decide +kernel
theorem dX7_init_45 : decode cX7_init 45 = .ok (.iconst 4, 1) := by decide +kernel
theorem dX7_init_46 : decode cX7_init 46 = .ok (.newarray .int, 2) := by decide +kernel
theorem dX7_init_48 : decode cX7_init 48 = .ok (.putfield 25, 3) := by decide +kernel
theorem dX7_init_51 : decode cX7_init 51 = .ok (.aload_n 0, 1) := by decide +kernel
theorem dX7_init_52 : decode cX7_init 52 = .ok (.iconst 4, 1) := by decide +kernel
theorem dX7_init_53 : decode cX7_init 53 = .ok (.newarray .int, 2) := by decide +kernel
theorem dX7_init_55 : decode cX7_init 55 = .ok (.putfield 28, 3) := by decide +kernel
theorem dX7_init_58 : decode cX7_init 58 = .ok (.aload_n 0, 1) := by decide +kernel
theorem dX7_init_59 : decode cX7_init 59 = .ok (.sipush 160, 3) := by decide +kernel
theorem dX7_init_62 : decode cX7_init 62 = .ok (.newarray .long, 2) := by decide +kernel
theorem dX7_init_64 : decode cX7_init 64 = .ok (.putfield 31, 3) := by decide +kernel
theorem dX7_init_67 : decode cX7_init 67 = .ok (.aload_n 0, 1) := by decide +kernel
theorem dX7_init_68 : decode cX7_init 68 = .ok (.bipush 40, 2) := by decide +kernel
theorem dX7_init_70 : decode cX7_init 70 = .ok (.newarray .long, 2) := by decide +kernel
theorem dX7_init_72 : decode cX7_init 72 = .ok (.putfield 35, 3) := by decide +kernel
theorem dX7_init_75 : decode cX7_init 75 = .ok (.aload_n 0, 1) := by decide +kernel
theorem dX7_init_76 : decode cX7_init 76 = .ok (.bipush 65, 2) := by decide +kernel
theorem dX7_init_78 : decode cX7_init 78 = .ok (.newarray .int, 2) := by decide +kernel
theorem dX7_init_80 : decode cX7_init 80 = .ok (.putfield 38, 3) := by decide +kernel
theorem dX7_init_83 : decode cX7_init 83 = .ok (.aload_n 0, 1) := by decide +kernel
theorem dX7_init_84 : decode cX7_init 84 = .ok (.bipush 65, 2) := by decide +kernel
theorem dX7_init_86 : decode cX7_init 86 = .ok (.newarray .int, 2) := by decide +kernel
theorem dX7_init_88 : decode cX7_init 88 = .ok (.putfield 41, 3) := by decide +kernel
theorem dX7_init_91 : decode cX7_init 91 = .ok (.aload_n 0, 1) := by decide +kernel
theorem dX7_init_92 : decode cX7_init 92 = .ok (.getfield 7, 3) := by decide +kernel
theorem dX7_init_95 : decode cX7_init 95 = .ok (.iconst 2, 1) := by decide +kernel
theorem dX7_init_96 : decode cX7_init 96 = .ok (.iconst 1, 1) := by decide +kernel
theorem dX7_init_97 : decode cX7_init 97 = .ok (.iastore, 1) := by decide +kernel
theorem dX7_init_98 : decode cX7_init 98 = .ok (.aload_n 0, 1) := by decide +kernel
theorem dX7_init_99 : decode cX7_init 99 = .ok (.getfield 7, 3) := by decide +kernel
theorem dX7_init_102 : decode cX7_init 102 = .ok (.iconst 3, 1) := by decide +kernel
theorem dX7_init_103 : decode cX7_init 103 = .ok (.bipush 20, 2) := by decide +kernel
theorem dX7_init_105 : decode cX7_init 105 = .ok (.iastore, 1) := by decide +kernel
theorem dX7_init_106 : decode cX7_init 106 = .ok (.aload_n 0, 1) := by decide +kernel
theorem dX7_init_107 : decode cX7_init 107 = .ok (.getfield 7, 3) := by decide +kernel
theorem dX7_init_110 : decode cX7_init 110 = .ok (.iconst 4, 1) := by decide +kernel
theorem dX7_init_111 : decode cX7_init 111 = .ok (.bipush 60, 2) := by decide +kernel
theorem dX7_init_113 : decode cX7_init 113 = .ok (.iastore, 1) := by decide +kernel
theorem dX7_init_114 : decode cX7_init 114 = .ok (.aload_n 0, 1) := by decide +kernel
theorem dX7_init_115 : decode cX7_init 115 = .ok (.getfield 7, 3) := by decide +kernel
theorem dX7_init_118 : decode cX7_init 118 = .ok (.bipush 7, 2) := by decide +kernel
theorem dX7_init_120 : decode cX7_init 120 = .ok (.iconst 1, 1) := by decide +kernel
theorem dX7_init_121 : decode cX7_init 121 = .ok (.iastore, 1) := by decide +kernel
theorem dX7_init_122 : decode cX7_init 122 = .ok (.return_, 1) := by decide +kernel
theorem dX7_in_0 : decode cX7_in 0 = .ok (.iload_n 0, 1) := by decide +kernel
theorem dX7_in_1 : decode cX7_in 1 = .ok (.iload_n 1, 1) := by decide +kernel
theorem dX7_in_2 : decode cX7_in 2 = .ok (.if_icmp .lt 12, 3) := by decide +kernel
theorem dX7_in_5 : decode cX7_in 5 = .ok (.iload_n 0, 1) := by decide +kernel
theorem dX7_in_6 : decode cX7_in 6 = .ok (.iload_n 2, 1) := by decide +kernel
theorem dX7_in_7 : decode cX7_in 7 = .ok (.if_icmp .gt 7, 3) := by decide +kernel
theorem dX7_in_10 : decode cX7_in 10 = .ok (.iconst 1, 1) := by decide +kernel
theorem dX7_in_11 : decode cX7_in 11 = .ok (.goto 4, 3) := by decide +kernel
theorem dX7_in_14 : decode cX7_in 14 = .ok (.iconst 0, 1) := by decide +kernel
theorem dX7_in_15 : decode cX7_in 15 = .ok (.ireturn, 1) := by decide +kernel
theorem dX7_finds_0 : decode cX7_finds 0 = .ok (.aload_n 0, 1) := by decide +kernel
theorem dX7_finds_1 : decode cX7_finds 1 = .ok (.getfield 13, 3) := by decide +kernel
theorem dX7_finds_4 : decode cX7_finds 4 = .ok (.ldc 44, 2) := by decide +kernel
theorem dX7_finds_6 : decode cX7_finds 6 = .ok (.iload_n 1, 1) := by decide +kernel
theorem dX7_finds_7 : decode cX7_finds 7 = .ok (.isub, 1) := by decide +kernel
theorem dX7_finds_8 : decode cX7_finds 8 = .ok (.dup2, 1) := by decide +kernel
theorem dX7_finds_9 : decode cX7_finds 9 = .ok (.iaload, 1) := by decide +kernel
theorem dX7_finds_10 : decode cX7_finds 10 = .ok (.iconst 1, 1) := by decide +kernel
theorem dX7_finds_11 : decode cX7_finds 11 = .ok (.iadd, 1) := by decide +kernel
theorem dX7_finds_12 : decode cX7_finds 12 = .ok (.iastore, 1) := by decide +kernel
theorem dX7_finds_13 : decode cX7_finds 13 = .ok (.iload_n 1, 1) := by decide +kernel
theorem dX7_finds_14 : decode cX7_finds 14 = .ok (.ireturn, 1) := by decide +kernel
theorem dX7_held_0 : decode cX7_held 0 = .ok (.iload_n 0, 1) := by decide +kernel
theorem dX7_held_1 : decode cX7_held 1 = .ok (.iload_n 1, 1) := by decide +kernel
theorem dX7_held_2 : decode cX7_held 2 = .ok (.if_icmp .ge 7, 3) := by decide +kernel
theorem dX7_held_5 : decode cX7_held 5 = .ok (.iload_n 1, 1) := by decide +kernel
theorem dX7_held_6 : decode cX7_held 6 = .ok (.goto 13, 3) := by decide +kernel
theorem dX7_held_9 : decode cX7_held 9 = .ok (.iload_n 0, 1) := by decide +kernel
theorem dX7_held_10 : decode cX7_held 10 = .ok (.iload_n 2, 1) := by decide +kernel
theorem dX7_held_11 : decode cX7_held 11 = .ok (.if_icmp .le 7, 3) := by decide +kernel
theorem dX7_held_14 : decode cX7_held 14 = .ok (.iload_n 2, 1) := by decide +kernel
theorem dX7_held_15 : decode cX7_held 15 = .ok (.goto 4, 3) := by decide +kernel
theorem dX7_held_18 : decode cX7_held 18 = .ok (.iload_n 0, 1) := by decide +kernel
theorem dX7_held_19 : decode cX7_held 19 = .ok (.ireturn, 1) := by decide +kernel
theorem dX7_its_0 : decode cX7_its 0 = .ok (.aload_n 0, 1) := by decide +kernel
theorem dX7_its_1 : decode cX7_its 1 = .ok (.getfield 7, 3) := by decide +kernel
theorem dX7_its_4 : decode cX7_its 4 = .ok (.bipush 9, 2) := by decide +kernel
theorem dX7_its_6 : decode cX7_its 6 = .ok (.bipush 7, 2) := by decide +kernel
theorem dX7_its_8 : decode cX7_its 8 = .ok (.iload_n 1, 1) := by decide +kernel
theorem dX7_its_9 : decode cX7_its 9 = .ok (.imul, 1) := by decide +kernel
theorem dX7_its_10 : decode cX7_its 10 = .ok (.iadd, 1) := by decide +kernel
theorem dX7_its_11 : decode cX7_its 11 = .ok (.iload_n 2, 1) := by decide +kernel
theorem dX7_its_12 : decode cX7_its 12 = .ok (.iadd, 1) := by decide +kernel
theorem dX7_its_13 : decode cX7_its 13 = .ok (.iaload, 1) := by decide +kernel
theorem dX7_its_14 : decode cX7_its 14 = .ok (.ireturn, 1) := by decide +kernel
theorem dX7_puts_0 : decode cX7_puts 0 = .ok (.aload_n 0, 1) := by decide +kernel
theorem dX7_puts_1 : decode cX7_puts 1 = .ok (.getfield 7, 3) := by decide +kernel
theorem dX7_puts_4 : decode cX7_puts 4 = .ok (.bipush 9, 2) := by decide +kernel
theorem dX7_puts_6 : decode cX7_puts 6 = .ok (.bipush 7, 2) := by decide +kernel
theorem dX7_puts_8 : decode cX7_puts 8 = .ok (.iload_n 1, 1) := by decide +kernel
theorem dX7_puts_9 : decode cX7_puts 9 = .ok (.imul, 1) := by decide +kernel
theorem dX7_puts_10 : decode cX7_puts 10 = .ok (.iadd, 1) := by decide +kernel
theorem dX7_puts_11 : decode cX7_puts 11 = .ok (.iload_n 2, 1) := by decide +kernel
theorem dX7_puts_12 : decode cX7_puts 12 = .ok (.iadd, 1) := by decide +kernel
theorem dX7_puts_13 : decode cX7_puts 13 = .ok (.iload_n 3, 1) := by decide +kernel
theorem dX7_puts_14 : decode cX7_puts 14 = .ok (.iastore, 1) := by decide +kernel
theorem dX7_puts_15 : decode cX7_puts 15 = .ok (.return_, 1) := by decide +kernel
theorem dX7_isRod_0 : decode cX7_isRod 0 = .ok (.iload_n 1, 1) := by decide +kernel
theorem dX7_isRod_1 : decode cX7_isRod 1 = .ok (.iconst 0, 1) := by decide +kernel
theorem dX7_isRod_2 : decode cX7_isRod 2 = .ok (.aload_n 0, 1) := by decide +kernel
theorem dX7_isRod_3 : decode cX7_isRod 3 = .ok (.getfield 7, 3) := by decide +kernel
theorem dX7_isRod_6 : decode cX7_isRod 6 = .ok (.bipush 8, 2) := by decide +kernel
theorem dX7_isRod_8 : decode cX7_isRod 8 = .ok (.iaload, 1) := by decide +kernel
theorem dX7_isRod_9 : decode cX7_isRod 9 = .ok (.iconst 1, 1) := by decide +kernel
theorem dX7_isRod_10 : decode cX7_isRod 10 = .ok (.isub, 1) := by decide +kernel
theorem dX7_isRod_11 : decode cX7_isRod 11 = .ok (.invokestatic 45, 3) := by decide +kernel
theorem dX7_isRod_14 : decode cX7_isRod 14 = .ok (.ireturn, 1) := by decide +kernel
theorem dX7_isPlace_0 : decode cX7_isPlace 0 = .ok (.iload_n 0, 1) := by decide +kernel
theorem dX7_isPlace_1 : decode cX7_isPlace 1 = .ok (.iconst 0, 1) := by decide +kernel
theorem dX7_isPlace_2 : decode cX7_isPlace 2 = .ok (.bipush 15, 2) := by decide +kernel
theorem dX7_isPlace_4 : decode cX7_isPlace 4 = .ok (.invokestatic 45, 3) := by decide +kernel
theorem dX7_isPlace_7 : decode cX7_isPlace 7 = .ok (.ireturn, 1) := by decide +kernel
theorem dX7_isKind_0 : decode cX7_isKind 0 = .ok (.iload_n 0, 1) := by decide +kernel
theorem dX7_isKind_1 : decode cX7_isKind 1 = .ok (.iconst 0, 1) := by decide +kernel
theorem dX7_isKind_2 : decode cX7_isKind 2 = .ok (.iconst 5, 1) := by decide +kernel
theorem dX7_isKind_3 : decode cX7_isKind 3 = .ok (.invokestatic 45, 3) := by decide +kernel
theorem dX7_isKind_6 : decode cX7_isKind 6 = .ok (.ireturn, 1) := by decide +kernel
theorem dX7_cloud_0 : decode cX7_cloud 0 = .ok (.iload_n 1, 1) := by decide +kernel
theorem dX7_cloud_1 : decode cX7_cloud 1 = .ok (.ifCond .ne 10, 3) := by decide +kernel
theorem dX7_cloud_4 : decode cX7_cloud 4 = .ok (.iload_n 2, 1) := by decide +kernel
theorem dX7_cloud_5 : decode cX7_cloud 5 = .ok (.invokestatic 49, 3) := by decide +kernel
theorem dX7_cloud_8 : decode cX7_cloud 8 = .ok (.goto 68, 3) := by decide +kernel
theorem dX7_cloud_11 : decode cX7_cloud 11 = .ok (.iload_n 1, 1) := by decide +kernel
theorem dX7_cloud_12 : decode cX7_cloud 12 = .ok (.iconst 1, 1) := by decide +kernel
theorem dX7_cloud_13 : decode cX7_cloud 13 = .ok (.if_icmp .ne 13, 3) := by decide +kernel
theorem dX7_cloud_16 : decode cX7_cloud 16 = .ok (.iload_n 2, 1) := by decide +kernel
theorem dX7_cloud_17 : decode cX7_cloud 17 = .ok (.iconst 0, 1) := by decide +kernel
theorem dX7_cloud_18 : decode cX7_cloud 18 = .ok (.bipush 99, 2) := by decide +kernel
theorem dX7_cloud_20 : decode cX7_cloud 20 = .ok (.invokestatic 45, 3) := by decide +kernel
theorem dX7_cloud_23 : decode cX7_cloud 23 = .ok (.goto 53, 3) := by decide +kernel
theorem dX7_cloud_26 : decode cX7_cloud 26 = .ok (.iload_n 1, 1) := by decide +kernel
theorem dX7_cloud_27 : decode cX7_cloud 27 = .ok (.iconst 2, 1) := by decide +kernel
theorem dX7_cloud_28 : decode cX7_cloud 28 = .ok (.if_icmp .ne 12, 3) := by decide +kernel
theorem dX7_cloud_31 : decode cX7_cloud 31 = .ok (.iload_n 2, 1) := by decide +kernel
theorem dX7_cloud_32 : decode cX7_cloud 32 = .ok (.iconst (-1), 1) := by decide +kernel
theorem dX7_cloud_33 : decode cX7_cloud 33 = .ok (.iconst 1, 1) := by decide +kernel
theorem dX7_cloud_34 : decode cX7_cloud 34 = .ok (.invokestatic 45, 3) := by decide +kernel
theorem dX7_cloud_37 : decode cX7_cloud 37 = .ok (.goto 39, 3) := by decide +kernel
theorem dX7_cloud_40 : decode cX7_cloud 40 = .ok (.iload_n 1, 1) := by decide +kernel
theorem dX7_cloud_41 : decode cX7_cloud 41 = .ok (.iconst 3, 1) := by decide +kernel
theorem dX7_cloud_42 : decode cX7_cloud 42 = .ok (.if_icmp .ne 13, 3) := by decide +kernel
theorem dX7_cloud_45 : decode cX7_cloud 45 = .ok (.iload_n 2, 1) := by decide +kernel
theorem dX7_cloud_46 : decode cX7_cloud 46 = .ok (.iconst 0, 1) := by decide +kernel
theorem dX7_cloud_47 : decode cX7_cloud 47 = .ok (.bipush 50, 2) := by decide +kernel
theorem dX7_cloud_49 : decode cX7_cloud 49 = .ok (.invokestatic 45, 3) := by decide +kernel
theorem dX7_cloud_52 : decode cX7_cloud 52 = .ok (.goto 24, 3) := by decide +kernel
theorem dX7_cloud_55 : decode cX7_cloud 55 = .ok (.iload_n 1, 1) := by decide +kernel
theorem dX7_cloud_56 : decode cX7_cloud 56 = .ok (.iconst 4, 1) := by decide +kernel
theorem dX7_cloud_57 : decode cX7_cloud 57 = .ok (.if_icmp .ne 18, 3) := by decide +kernel
theorem dX7_cloud_60 : decode cX7_cloud 60 = .ok (.iload_n 2, 1) := by decide +kernel
theorem dX7_cloud_61 : decode cX7_cloud 61 = .ok (.bipush 20, 2) := by decide +kernel
theorem dX7_cloud_63 : decode cX7_cloud 63 = .ok (.bipush 99, 2) := by decide +kernel
theorem dX7_cloud_65 : decode cX7_cloud 65 = .ok (.invokestatic 45, 3) := by decide +kernel
theorem dX7_cloud_68 : decode cX7_cloud 68 = .ok (.ifCond .eq 7, 3) := by decide +kernel
theorem dX7_cloud_71 : decode cX7_cloud 71 = .ok (.iconst 1, 1) := by decide +kernel
theorem dX7_cloud_72 : decode cX7_cloud 72 = .ok (.goto 4, 3) := by decide +kernel
theorem dX7_cloud_75 : decode cX7_cloud 75 = .ok (.iconst 0, 1) := by decide +kernel
theorem dX7_cloud_76 : decode cX7_cloud 76 = .ok (.istore_n 3, 1) := by decide +kernel
theorem dX7_cloud_77 : decode cX7_cloud 77 = .ok (.iload_n 3, 1) := by decide +kernel
theorem dX7_cloud_78 : decode cX7_cloud 78 = .ok (.ifCond .ne 10, 3) := by decide +kernel
theorem dX7_cloud_81 : decode cX7_cloud 81 = .ok (.aload_n 0, 1) := by decide +kernel
theorem dX7_cloud_82 : decode cX7_cloud 82 = .ok (.ldc 44, 2) := by decide +kernel
theorem dX7_cloud_84 : decode cX7_cloud 84 = .ok (.invokevirtual 53, 3) := by decide +kernel
theorem dX7_cloud_87 : decode cX7_cloud 87 = .ok (.ireturn, 1) := by decide +kernel
theorem dX7_cloud_88 : decode cX7_cloud 88 = .ok (.aload_n 0, 1) := by decide +kernel
theorem dX7_cloud_89 : decode cX7_cloud 89 = .ok (.getfield 7, 3) := by decide +kernel
theorem dX7_cloud_92 : decode cX7_cloud 92 = .ok (.iload_n 1, 1) := by decide +kernel
theorem dX7_cloud_93 : decode cX7_cloud 93 = .ok (.iaload, 1) := by decide +kernel
theorem dX7_cloud_94 : decode cX7_cloud 94 = .ok (.istore 4, 2) := by decide +kernel
theorem dX7_cloud_96 : decode cX7_cloud 96 = .ok (.aload_n 0, 1) := by decide +kernel
theorem dX7_cloud_97 : decode cX7_cloud 97 = .ok (.getfield 7, 3) := by decide +kernel
theorem dX7_cloud_100 : decode cX7_cloud 100 = .ok (.iload_n 1, 1) := by decide +kernel
theorem dX7_cloud_101 : decode cX7_cloud 101 = .ok (.iload_n 2, 1) := by decide +kernel
theorem dX7_cloud_102 : decode cX7_cloud 102 = .ok (.iastore, 1) := by decide +kernel
theorem dX7_cloud_103 : decode cX7_cloud 103 = .ok (.iload 4, 2) := by decide +kernel
theorem dX7_cloud_105 : decode cX7_cloud 105 = .ok (.ireturn, 1) := by decide +kernel
theorem dX7_cloudOf_0 : decode cX7_cloudOf 0 = .ok (.iload_n 1, 1) := by decide +kernel
theorem dX7_cloudOf_1 : decode cX7_cloudOf 1 = .ok (.iconst 0, 1) := by decide +kernel
theorem dX7_cloudOf_2 : decode cX7_cloudOf 2 = .ok (.iconst 4, 1) := by decide +kernel
theorem dX7_cloudOf_3 : decode cX7_cloudOf 3 = .ok (.invokestatic 45, 3) := by decide +kernel
theorem dX7_cloudOf_6 : decode cX7_cloudOf 6 = .ok (.ifCond .eq 12, 3) := by decide +kernel
theorem dX7_cloudOf_9 : decode cX7_cloudOf 9 = .ok (.aload_n 0, 1) := by decide +kernel
theorem dX7_cloudOf_10 : decode cX7_cloudOf 10 = .ok (.getfield 7, 3) := by decide +kernel
theorem dX7_cloudOf_13 : decode cX7_cloudOf 13 = .ok (.iload_n 1, 1) := by decide +kernel
theorem dX7_cloudOf_14 : decode cX7_cloudOf 14 = .ok (.iaload, 1) := by decide +kernel
theorem dX7_cloudOf_15 : decode cX7_cloudOf 15 = .ok (.goto 9, 3) := by decide +kernel
theorem dX7_cloudOf_18 : decode cX7_cloudOf 18 = .ok (.aload_n 0, 1) := by decide +kernel
theorem dX7_cloudOf_19 : decode cX7_cloudOf 19 = .ok (.ldc 44, 2) := by decide +kernel
theorem dX7_cloudOf_21 : decode cX7_cloudOf 21 = .ok (.invokevirtual 53, 3) := by decide +kernel
theorem dX7_cloudOf_24 : decode cX7_cloudOf 24 = .ok (.ireturn, 1) := by decide +kernel
theorem dX7_addRod_0 : decode cX7_addRod 0 = .ok (.aload_n 0, 1) := by decide +kernel
theorem dX7_addRod_1 : decode cX7_addRod 1 = .ok (.getfield 7, 3) := by decide +kernel
theorem dX7_addRod_4 : decode cX7_addRod 4 = .ok (.bipush 8, 2) := by decide +kernel
theorem dX7_addRod_6 : decode cX7_addRod 6 = .ok (.iaload, 1) := by decide +kernel
theorem dX7_addRod_7 : decode cX7_addRod 7 = .ok (.istore 6, 2) := by decide +kernel
theorem dX7_addRod_9 : decode cX7_addRod 9 = .ok (.aload_n 0, 1) := by decide +kernel
theorem dX7_addRod_10 : decode cX7_addRod 10 = .ok (.iload 6, 2) := by decide +kernel
theorem dX7_addRod_12 : decode cX7_addRod 12 = .ok (.iconst 0, 1) := by decide +kernel
theorem dX7_addRod_13 : decode cX7_addRod 13 = .ok (.iload_n 1, 1) := by decide +kernel
theorem dX7_addRod_14 : decode cX7_addRod 14 = .ok (.invokevirtual 57, 3) := by decide +kernel
theorem dX7_addRod_17 : decode cX7_addRod 17 = .ok (.aload_n 0, 1) := by decide +kernel
theorem dX7_addRod_18 : decode cX7_addRod 18 = .ok (.iload 6, 2) := by decide +kernel
theorem dX7_addRod_20 : decode cX7_addRod 20 = .ok (.iconst 1, 1) := by decide +kernel
theorem dX7_addRod_21 : decode cX7_addRod 21 = .ok (.iload_n 2, 1) := by decide +kernel
theorem dX7_addRod_22 : decode cX7_addRod 22 = .ok (.invokevirtual 57, 3) := by decide +kernel
theorem dX7_addRod_25 : decode cX7_addRod 25 = .ok (.aload_n 0, 1) := by decide +kernel
theorem dX7_addRod_26 : decode cX7_addRod 26 = .ok (.iload 6, 2) := by decide +kernel
theorem dX7_addRod_28 : decode cX7_addRod 28 = .ok (.iconst 2, 1) := by decide +kernel
theorem dX7_addRod_29 : decode cX7_addRod 29 = .ok (.iload_n 3, 1) := by decide +kernel
theorem dX7_addRod_30 : decode cX7_addRod 30 = .ok (.invokevirtual 57, 3) := by decide +kernel
theorem dX7_addRod_33 : decode cX7_addRod 33 = .ok (.aload_n 0, 1) := by decide +kernel
theorem dX7_addRod_34 : decode cX7_addRod 34 = .ok (.iload 6, 2) := by decide +kernel
theorem dX7_addRod_36 : decode cX7_addRod 36 = .ok (.iconst 3, 1) := by decide +kernel
theorem dX7_addRod_37 : decode cX7_addRod 37 = .ok (.iload 4, 2) := by decide +kernel
theorem dX7_addRod_39 : decode cX7_addRod 39 = .ok (.invokevirtual 57, 3) := by decide +kernel
theorem dX7_addRod_42 : decode cX7_addRod 42 = .ok (.aload_n 0, 1) := by decide +kernel
theorem dX7_addRod_43 : decode cX7_addRod 43 = .ok (.iload 6, 2) := by decide +kernel
theorem dX7_addRod_45 : decode cX7_addRod 45 = .ok (.iconst 4, 1) := by decide +kernel
theorem dX7_addRod_46 : decode cX7_addRod 46 = .ok (.iload 5, 2) := by decide +kernel
theorem dX7_addRod_48 : decode cX7_addRod 48 = .ok (.invokevirtual 57, 3) := by decide +kernel
theorem dX7_addRod_51 : decode cX7_addRod 51 = .ok (.aload_n 0, 1) := by decide +kernel
theorem dX7_addRod_52 : decode cX7_addRod 52 = .ok (.iload 6, 2) := by decide +kernel
theorem dX7_addRod_54 : decode cX7_addRod 54 = .ok (.iconst 5, 1) := by decide +kernel
theorem dX7_addRod_55 : decode cX7_addRod 55 = .ok (.iconst 0, 1) := by decide +kernel
theorem dX7_addRod_56 : decode cX7_addRod 56 = .ok (.invokevirtual 57, 3) := by decide +kernel
theorem dX7_addRod_59 : decode cX7_addRod 59 = .ok (.aload_n 0, 1) := by decide +kernel
theorem dX7_addRod_60 : decode cX7_addRod 60 = .ok (.iload 6, 2) := by decide +kernel
theorem dX7_addRod_62 : decode cX7_addRod 62 = .ok (.bipush 6, 2) := by decide +kernel
theorem dX7_addRod_64 : decode cX7_addRod 64 = .ok (.iconst 0, 1) := by decide +kernel
theorem dX7_addRod_65 : decode cX7_addRod 65 = .ok (.invokevirtual 57, 3) := by decide +kernel
theorem dX7_addRod_68 : decode cX7_addRod 68 = .ok (.aload_n 0, 1) := by decide +kernel
theorem dX7_addRod_69 : decode cX7_addRod 69 = .ok (.getfield 7, 3) := by decide +kernel
theorem dX7_addRod_72 : decode cX7_addRod 72 = .ok (.bipush 8, 2) := by decide +kernel
theorem dX7_addRod_74 : decode cX7_addRod 74 = .ok (.dup2, 1) := by decide +kernel
theorem dX7_addRod_75 : decode cX7_addRod 75 = .ok (.iaload, 1) := by decide +kernel
theorem dX7_addRod_76 : decode cX7_addRod 76 = .ok (.iconst 1, 1) := by decide +kernel
theorem dX7_addRod_77 : decode cX7_addRod 77 = .ok (.iadd, 1) := by decide +kernel
theorem dX7_addRod_78 : decode cX7_addRod 78 = .ok (.iastore, 1) := by decide +kernel
theorem dX7_addRod_79 : decode cX7_addRod 79 = .ok (.return_, 1) := by decide +kernel
theorem dX7_rod_0 : decode cX7_rod 0 = .ok (.iload_n 1, 1) := by decide +kernel
theorem dX7_rod_1 : decode cX7_rod 1 = .ok (.invokestatic 61, 3) := by decide +kernel
theorem dX7_rod_4 : decode cX7_rod 4 = .ok (.ifCond .eq 10, 3) := by decide +kernel
theorem dX7_rod_7 : decode cX7_rod 7 = .ok (.iload_n 2, 1) := by decide +kernel
theorem dX7_rod_8 : decode cX7_rod 8 = .ok (.invokestatic 49, 3) := by decide +kernel
theorem dX7_rod_11 : decode cX7_rod 11 = .ok (.ifCond .ne 10, 3) := by decide +kernel
theorem dX7_rod_14 : decode cX7_rod 14 = .ok (.aload_n 0, 1) := by decide +kernel
theorem dX7_rod_15 : decode cX7_rod 15 = .ok (.ldc 44, 2) := by decide +kernel
theorem dX7_rod_17 : decode cX7_rod 17 = .ok (.invokevirtual 53, 3) := by decide +kernel
theorem dX7_rod_20 : decode cX7_rod 20 = .ok (.ireturn, 1) := by decide +kernel
theorem dX7_rod_21 : decode cX7_rod 21 = .ok (.aload_n 0, 1) := by decide +kernel
theorem dX7_rod_22 : decode cX7_rod 22 = .ok (.getfield 7, 3) := by decide +kernel
theorem dX7_rod_25 : decode cX7_rod 25 = .ok (.bipush 8, 2) := by decide +kernel
theorem dX7_rod_27 : decode cX7_rod 27 = .ok (.iaload, 1) := by decide +kernel
theorem dX7_rod_28 : decode cX7_rod 28 = .ok (.bipush 8, 2) := by decide +kernel
theorem dX7_rod_30 : decode cX7_rod 30 = .ok (.if_icmp .ne 10, 3) := by decide +kernel
theorem dX7_rod_33 : decode cX7_rod 33 = .ok (.aload_n 0, 1) := by decide +kernel
theorem dX7_rod_34 : decode cX7_rod 34 = .ok (.ldc 64, 2) := by decide +kernel
theorem dX7_rod_36 : decode cX7_rod 36 = .ok (.invokevirtual 53, 3) := by decide +kernel
theorem dX7_rod_39 : decode cX7_rod 39 = .ok (.ireturn, 1) := by decide +kernel
theorem dX7_rod_40 : decode cX7_rod 40 = .ok (.aload_n 0, 1) := by decide +kernel
theorem dX7_rod_41 : decode cX7_rod 41 = .ok (.iload_n 1, 1) := by decide +kernel
theorem dX7_rod_42 : decode cX7_rod 42 = .ok (.iload_n 2, 1) := by decide +kernel
theorem dX7_rod_43 : decode cX7_rod 43 = .ok (.bipush 10, 2) := by decide +kernel
theorem dX7_rod_45 : decode cX7_rod 45 = .ok (.iconst 0, 1) := by decide +kernel
theorem dX7_rod_46 : decode cX7_rod 46 = .ok (.iconst 0, 1) := by decide +kernel
theorem dX7_rod_47 : decode cX7_rod 47 = .ok (.invokevirtual 65, 3) := by decide +kernel
theorem dX7_rod_50 : decode cX7_rod 50 = .ok (.aload_n 0, 1) := by decide +kernel
theorem dX7_rod_51 : decode cX7_rod 51 = .ok (.getfield 7, 3) := by decide +kernel
theorem dX7_rod_54 : decode cX7_rod 54 = .ok (.bipush 8, 2) := by decide +kernel
theorem dX7_rod_56 : decode cX7_rod 56 = .ok (.iaload, 1) := by decide +kernel
theorem dX7_rod_57 : decode cX7_rod 57 = .ok (.iconst 1, 1) := by decide +kernel
theorem dX7_rod_58 : decode cX7_rod 58 = .ok (.isub, 1) := by decide +kernel
theorem dX7_rod_59 : decode cX7_rod 59 = .ok (.ireturn, 1) := by decide +kernel
theorem dX7_draws_0 : decode cX7_draws 0 = .ok (.aload_n 0, 1) := by decide +kernel
theorem dX7_draws_1 : decode cX7_draws 1 = .ok (.iload_n 1, 1) := by decide +kernel
theorem dX7_draws_2 : decode cX7_draws 2 = .ok (.iconst 1, 1) := by decide +kernel
theorem dX7_draws_3 : decode cX7_draws 3 = .ok (.invokevirtual 69, 3) := by decide +kernel
theorem dX7_draws_6 : decode cX7_draws 6 = .ok (.iload_n 2, 1) := by decide +kernel
theorem dX7_draws_7 : decode cX7_draws 7 = .ok (.if_icmp .ge 14, 3) := by decide +kernel
theorem dX7_draws_10 : decode cX7_draws 10 = .ok (.iload_n 2, 1) := by decide +kernel
theorem dX7_draws_11 : decode cX7_draws 11 = .ok (.aload_n 0, 1) := by decide +kernel
theorem dX7_draws_12 : decode cX7_draws 12 = .ok (.iload_n 1, 1) := by decide +kernel
theorem dX7_draws_13 : decode cX7_draws 13 = .ok (.iconst 1, 1) := by decide +kernel
theorem dX7_draws_14 : decode cX7_draws 14 = .ok (.invokevirtual 69, 3) := by decide +kernel
theorem dX7_draws_17 : decode cX7_draws 17 = .ok (.isub, 1) := by decide +kernel
theorem dX7_draws_18 : decode cX7_draws 18 = .ok (.goto 11, 3) := by decide +kernel
theorem dX7_draws_21 : decode cX7_draws 21 = .ok (.aload_n 0, 1) := by decide +kernel
theorem dX7_draws_22 : decode cX7_draws 22 = .ok (.iload_n 1, 1) := by decide +kernel
theorem dX7_draws_23 : decode cX7_draws 23 = .ok (.iconst 1, 1) := by decide +kernel
theorem dX7_draws_24 : decode cX7_draws 24 = .ok (.invokevirtual 69, 3) := by decide +kernel
theorem dX7_draws_27 : decode cX7_draws 27 = .ok (.iload_n 2, 1) := by decide +kernel
theorem dX7_draws_28 : decode cX7_draws 28 = .ok (.isub, 1) := by decide +kernel
theorem dX7_draws_29 : decode cX7_draws 29 = .ok (.istore_n 3, 1) := by decide +kernel
theorem dX7_draws_30 : decode cX7_draws 30 = .ok (.aload_n 0, 1) := by decide +kernel
theorem dX7_draws_31 : decode cX7_draws 31 = .ok (.iload_n 1, 1) := by decide +kernel
theorem dX7_draws_32 : decode cX7_draws 32 = .ok (.iconst 2, 1) := by decide +kernel
theorem dX7_draws_33 : decode cX7_draws 33 = .ok (.invokevirtual 69, 3) := by decide +kernel
theorem dX7_draws_36 : decode cX7_draws 36 = .ok (.istore 4, 2) := by decide +kernel
theorem dX7_draws_38 : decode cX7_draws 38 = .ok (.iload 4, 2) := by decide +kernel
theorem dX7_draws_40 : decode cX7_draws 40 = .ok (.iconst 4, 1) := by decide +kernel
theorem dX7_draws_41 : decode cX7_draws 41 = .ok (.iload_n 3, 1) := by decide +kernel
theorem dX7_draws_42 : decode cX7_draws 42 = .ok (.imul, 1) := by decide +kernel
theorem dX7_draws_43 : decode cX7_draws 43 = .ok (.isub, 1) := by decide +kernel
theorem dX7_draws_44 : decode cX7_draws 44 = .ok (.iconst 0, 1) := by decide +kernel
theorem dX7_draws_45 : decode cX7_draws 45 = .ok (.bipush 60, 2) := by decide +kernel
theorem dX7_draws_47 : decode cX7_draws 47 = .ok (.invokestatic 73, 3) := by decide +kernel
theorem dX7_draws_50 : decode cX7_draws 50 = .ok (.istore 5, 2) := by decide +kernel
theorem dX7_draws_52 : decode cX7_draws 52 = .ok (.aload_n 0, 1) := by decide +kernel
theorem dX7_draws_53 : decode cX7_draws 53 = .ok (.iload_n 1, 1) := by decide +kernel
theorem dX7_draws_54 : decode cX7_draws 54 = .ok (.iconst 0, 1) := by decide +kernel
theorem dX7_draws_55 : decode cX7_draws 55 = .ok (.invokevirtual 69, 3) := by decide +kernel
theorem dX7_draws_58 : decode cX7_draws 58 = .ok (.tableswitch 90 1 5 #[34, 40, 46, 61, 67], 34) := by decide +kernel
theorem dX7_draws_92 : decode cX7_draws 92 = .ok (.iload 5, 2) := by decide +kernel
theorem dX7_draws_94 : decode cX7_draws 94 = .ok (.bipush 8, 2) := by decide +kernel
theorem dX7_draws_96 : decode cX7_draws 96 = .ok (.iadd, 1) := by decide +kernel
theorem dX7_draws_97 : decode cX7_draws 97 = .ok (.ireturn, 1) := by decide +kernel
theorem dX7_draws_98 : decode cX7_draws 98 = .ok (.iload 5, 2) := by decide +kernel
theorem dX7_draws_100 : decode cX7_draws 100 = .ok (.iload 4, 2) := by decide +kernel
theorem dX7_draws_102 : decode cX7_draws 102 = .ok (.iadd, 1) := by decide +kernel
theorem dX7_draws_103 : decode cX7_draws 103 = .ok (.ireturn, 1) := by decide +kernel
theorem dX7_draws_104 : decode cX7_draws 104 = .ok (.iload 5, 2) := by decide +kernel
theorem dX7_draws_106 : decode cX7_draws 106 = .ok (.iconst 3, 1) := by decide +kernel
theorem dX7_draws_107 : decode cX7_draws 107 = .ok (.if_icmp .ge 7, 3) := by decide +kernel
theorem dX7_draws_110 : decode cX7_draws 110 = .ok (.iconst 0, 1) := by decide +kernel
theorem dX7_draws_111 : decode cX7_draws 111 = .ok (.goto 7, 3) := by decide +kernel
theorem dX7_draws_114 : decode cX7_draws 114 = .ok (.iload 5, 2) := by decide +kernel
theorem dX7_draws_116 : decode cX7_draws 116 = .ok (.iconst 3, 1) := by decide +kernel
theorem dX7_draws_117 : decode cX7_draws 117 = .ok (.isub, 1) := by decide +kernel
theorem dX7_draws_118 : decode cX7_draws 118 = .ok (.ireturn, 1) := by decide +kernel
theorem dX7_draws_119 : decode cX7_draws 119 = .ok (.iload 5, 2) := by decide +kernel
theorem dX7_draws_121 : decode cX7_draws 121 = .ok (.bipush 28, 2) := by decide +kernel
theorem dX7_draws_123 : decode cX7_draws 123 = .ok (.iadd, 1) := by decide +kernel
theorem dX7_draws_124 : decode cX7_draws 124 = .ok (.ireturn, 1) := by decide +kernel
theorem dX7_draws_125 : decode cX7_draws 125 = .ok (.iload 5, 2) := by decide +kernel
theorem dX7_draws_127 : decode cX7_draws 127 = .ok (.iload 4, 2) := by decide +kernel
theorem dX7_draws_129 : decode cX7_draws 129 = .ok (.iadd, 1) := by decide +kernel
theorem dX7_draws_130 : decode cX7_draws 130 = .ok (.bipush 10, 2) := by decide +kernel
theorem dX7_draws_132 : decode cX7_draws 132 = .ok (.if_icmp .ge 7, 3) := by decide +kernel
theorem dX7_draws_135 : decode cX7_draws 135 = .ok (.iconst 0, 1) := by decide +kernel
theorem dX7_draws_136 : decode cX7_draws 136 = .ok (.goto 11, 3) := by decide +kernel
theorem dX7_draws_139 : decode cX7_draws 139 = .ok (.iload 5, 2) := by decide +kernel
theorem dX7_draws_141 : decode cX7_draws 141 = .ok (.iload 4, 2) := by decide +kernel
theorem dX7_draws_143 : decode cX7_draws 143 = .ok (.iadd, 1) := by decide +kernel
theorem dX7_draws_144 : decode cX7_draws 144 = .ok (.bipush 10, 2) := by decide +kernel
theorem dX7_draws_146 : decode cX7_draws 146 = .ok (.isub, 1) := by decide +kernel
theorem dX7_draws_147 : decode cX7_draws 147 = .ok (.ireturn, 1) := by decide +kernel
theorem dX7_draws_148 : decode cX7_draws 148 = .ok (.iload 5, 2) := by decide +kernel
theorem dX7_draws_150 : decode cX7_draws 150 = .ok (.ireturn, 1) := by decide +kernel
theorem dX7_clock_0 : decode cX7_clock 0 = .ok (.aload_n 0, 1) := by decide +kernel
theorem dX7_clock_1 : decode cX7_clock 1 = .ok (.getfield 7, 3) := by decide +kernel
theorem dX7_clock_4 : decode cX7_clock 4 = .ok (.iconst 5, 1) := by decide +kernel
theorem dX7_clock_5 : decode cX7_clock 5 = .ok (.iaload, 1) := by decide +kernel
theorem dX7_clock_6 : decode cX7_clock 6 = .ok (.bipush 24, 2) := by decide +kernel
theorem dX7_clock_8 : decode cX7_clock 8 = .ok (.irem, 1) := by decide +kernel
theorem dX7_clock_9 : decode cX7_clock 9 = .ok (.ireturn, 1) := by decide +kernel
theorem dX7_paidMany_0 : decode cX7_paidMany 0 = .ok (.aload_n 0, 1) := by decide +kernel
theorem dX7_paidMany_1 : decode cX7_paidMany 1 = .ok (.iload_n 1, 1) := by decide +kernel
theorem dX7_paidMany_2 : decode cX7_paidMany 2 = .ok (.iconst 4, 1) := by decide +kernel
theorem dX7_paidMany_3 : decode cX7_paidMany 3 = .ok (.invokevirtual 69, 3) := by decide +kernel
theorem dX7_paidMany_6 : decode cX7_paidMany 6 = .ok (.aload_n 0, 1) := by decide +kernel
theorem dX7_paidMany_7 : decode cX7_paidMany 7 = .ok (.iload_n 1, 1) := by decide +kernel
theorem dX7_paidMany_8 : decode cX7_paidMany 8 = .ok (.iconst 3, 1) := by decide +kernel
theorem dX7_paidMany_9 : decode cX7_paidMany 9 = .ok (.invokevirtual 69, 3) := by decide +kernel
theorem dX7_paidMany_12 : decode cX7_paidMany 12 = .ok (.isub, 1) := by decide +kernel
theorem dX7_paidMany_13 : decode cX7_paidMany 13 = .ok (.bipush 24, 2) := by decide +kernel
theorem dX7_paidMany_15 : decode cX7_paidMany 15 = .ok (.iadd, 1) := by decide +kernel
theorem dX7_paidMany_16 : decode cX7_paidMany 16 = .ok (.bipush 24, 2) := by decide +kernel
theorem dX7_paidMany_18 : decode cX7_paidMany 18 = .ok (.irem, 1) := by decide +kernel
theorem dX7_paidMany_19 : decode cX7_paidMany 19 = .ok (.ireturn, 1) := by decide +kernel
theorem dX7_isPaid_0 : decode cX7_isPaid 0 = .ok (.aload_n 0, 1) := by decide +kernel
theorem dX7_isPaid_1 : decode cX7_isPaid 1 = .ok (.invokevirtual 77, 3) := by decide +kernel
theorem dX7_isPaid_4 : decode cX7_isPaid 4 = .ok (.aload_n 0, 1) := by decide +kernel
theorem dX7_isPaid_5 : decode cX7_isPaid 5 = .ok (.iload_n 1, 1) := by decide +kernel
theorem dX7_isPaid_6 : decode cX7_isPaid 6 = .ok (.iconst 3, 1) := by decide +kernel
theorem dX7_isPaid_7 : decode cX7_isPaid 7 = .ok (.invokevirtual 69, 3) := by decide +kernel
theorem dX7_isPaid_10 : decode cX7_isPaid 10 = .ok (.isub, 1) := by decide +kernel
theorem dX7_isPaid_11 : decode cX7_isPaid 11 = .ok (.bipush 24, 2) := by decide +kernel
theorem dX7_isPaid_13 : decode cX7_isPaid 13 = .ok (.iadd, 1) := by decide +kernel
theorem dX7_isPaid_14 : decode cX7_isPaid 14 = .ok (.bipush 24, 2) := by decide +kernel
theorem dX7_isPaid_16 : decode cX7_isPaid 16 = .ok (.irem, 1) := by decide +kernel
theorem dX7_isPaid_17 : decode cX7_isPaid 17 = .ok (.aload_n 0, 1) := by decide +kernel
theorem dX7_isPaid_18 : decode cX7_isPaid 18 = .ok (.iload_n 1, 1) := by decide +kernel
theorem dX7_isPaid_19 : decode cX7_isPaid 19 = .ok (.invokevirtual 81, 3) := by decide +kernel
theorem dX7_isPaid_22 : decode cX7_isPaid 22 = .ok (.if_icmp .ge 7, 3) := by decide +kernel
theorem dX7_isPaid_25 : decode cX7_isPaid 25 = .ok (.iconst 1, 1) := by decide +kernel
theorem dX7_isPaid_26 : decode cX7_isPaid 26 = .ok (.goto 4, 3) := by decide +kernel
theorem dX7_isPaid_29 : decode cX7_isPaid 29 = .ok (.iconst 0, 1) := by decide +kernel
theorem dX7_isPaid_30 : decode cX7_isPaid 30 = .ok (.ireturn, 1) := by decide +kernel
theorem dX7_owes_0 : decode cX7_owes 0 = .ok (.aload_n 0, 1) := by decide +kernel
theorem dX7_owes_1 : decode cX7_owes 1 = .ok (.iload_n 1, 1) := by decide +kernel
theorem dX7_owes_2 : decode cX7_owes 2 = .ok (.invokevirtual 84, 3) := by decide +kernel
theorem dX7_owes_5 : decode cX7_owes 5 = .ok (.ifCond .eq 7, 3) := by decide +kernel
theorem dX7_owes_8 : decode cX7_owes 8 = .ok (.iload_n 2, 1) := by decide +kernel
theorem dX7_owes_9 : decode cX7_owes 9 = .ok (.goto 4, 3) := by decide +kernel
theorem dX7_owes_12 : decode cX7_owes 12 = .ok (.iconst 0, 1) := by decide +kernel
theorem dX7_owes_13 : decode cX7_owes 13 = .ok (.istore_n 3, 1) := by decide +kernel
theorem dX7_owes_14 : decode cX7_owes 14 = .ok (.aload_n 0, 1) := by decide +kernel
theorem dX7_owes_15 : decode cX7_owes 15 = .ok (.iload_n 1, 1) := by decide +kernel
theorem dX7_owes_16 : decode cX7_owes 16 = .ok (.iconst 0, 1) := by decide +kernel
theorem dX7_owes_17 : decode cX7_owes 17 = .ok (.invokevirtual 69, 3) := by decide +kernel
theorem dX7_owes_20 : decode cX7_owes 20 = .ok (.tableswitch 54 1 5 #[36, 54, 52, 43, 52], 36) := by decide +kernel
theorem dX7_owes_56 : decode cX7_owes 56 = .ok (.iload_n 3, 1) := by decide +kernel
theorem dX7_owes_57 : decode cX7_owes 57 = .ok (.iload_n 3, 1) := by decide +kernel
theorem dX7_owes_58 : decode cX7_owes 58 = .ok (.bipush 10, 2) := by decide +kernel
theorem dX7_owes_60 : decode cX7_owes 60 = .ok (.idiv, 1) := by decide +kernel
theorem dX7_owes_61 : decode cX7_owes 61 = .ok (.isub, 1) := by decide +kernel
theorem dX7_owes_62 : decode cX7_owes 62 = .ok (.ireturn, 1) := by decide +kernel
theorem dX7_owes_63 : decode cX7_owes 63 = .ok (.iload_n 3, 1) := by decide +kernel
theorem dX7_owes_64 : decode cX7_owes 64 = .ok (.iload_n 3, 1) := by decide +kernel
theorem dX7_owes_65 : decode cX7_owes 65 = .ok (.bipush 10, 2) := by decide +kernel
theorem dX7_owes_67 : decode cX7_owes 67 = .ok (.idiv, 1) := by decide +kernel
theorem dX7_owes_68 : decode cX7_owes 68 = .ok (.isub, 1) := by decide +kernel
theorem dX7_owes_69 : decode cX7_owes 69 = .ok (.iconst 2, 1) := by decide +kernel
theorem dX7_owes_70 : decode cX7_owes 70 = .ok (.idiv, 1) := by decide +kernel
theorem dX7_owes_71 : decode cX7_owes 71 = .ok (.ireturn, 1) := by decide +kernel
theorem dX7_owes_72 : decode cX7_owes 72 = .ok (.iconst 0, 1) := by decide +kernel
theorem dX7_owes_73 : decode cX7_owes 73 = .ok (.ireturn, 1) := by decide +kernel
theorem dX7_owes_74 : decode cX7_owes 74 = .ok (.iload_n 3, 1) := by decide +kernel
theorem dX7_owes_75 : decode cX7_owes 75 = .ok (.ireturn, 1) := by decide +kernel
theorem dX7_of_0 : decode cX7_of 0 = .ok (.aload_n 0, 1) := by decide +kernel
theorem dX7_of_1 : decode cX7_of 1 = .ok (.iload_n 1, 1) := by decide +kernel
theorem dX7_of_2 : decode cX7_of 2 = .ok (.invokevirtual 87, 3) := by decide +kernel
theorem dX7_of_5 : decode cX7_of 5 = .ok (.ifCond .eq 13, 3) := by decide +kernel
theorem dX7_of_8 : decode cX7_of 8 = .ok (.iload_n 2, 1) := by decide +kernel
theorem dX7_of_9 : decode cX7_of 9 = .ok (.iconst 0, 1) := by decide +kernel
theorem dX7_of_10 : decode cX7_of 10 = .ok (.bipush 9, 2) := by decide +kernel
theorem dX7_of_12 : decode cX7_of 12 = .ok (.invokestatic 45, 3) := by decide +kernel
theorem dX7_of_15 : decode cX7_of 15 = .ok (.ifCond .ne 10, 3) := by decide +kernel
theorem dX7_of_18 : decode cX7_of 18 = .ok (.aload_n 0, 1) := by decide +kernel
theorem dX7_of_19 : decode cX7_of 19 = .ok (.ldc 44, 2) := by decide +kernel
theorem dX7_of_21 : decode cX7_of 21 = .ok (.invokevirtual 53, 3) := by decide +kernel
theorem dX7_of_24 : decode cX7_of 24 = .ok (.ireturn, 1) := by decide +kernel
theorem dX7_of_25 : decode cX7_of 25 = .ok (.iload_n 2, 1) := by decide +kernel
theorem dX7_of_26 : decode cX7_of 26 = .ok (.tableswitch 64 7 9 #[26, 38, 50], 26) := by decide +kernel
theorem dX7_of_52 : decode cX7_of 52 = .ok (.aload_n 0, 1) := by decide +kernel
theorem dX7_of_53 : decode cX7_of 53 = .ok (.iload_n 1, 1) := by decide +kernel
theorem dX7_of_54 : decode cX7_of 54 = .ok (.aload_n 0, 1) := by decide +kernel
theorem dX7_of_55 : decode cX7_of 55 = .ok (.getfield 7, 3) := by decide +kernel
theorem dX7_of_58 : decode cX7_of 58 = .ok (.iconst 0, 1) := by decide +kernel
theorem dX7_of_59 : decode cX7_of 59 = .ok (.iaload, 1) := by decide +kernel
theorem dX7_of_60 : decode cX7_of 60 = .ok (.invokevirtual 90, 3) := by decide +kernel
theorem dX7_of_63 : decode cX7_of 63 = .ok (.ireturn, 1) := by decide +kernel
theorem dX7_of_64 : decode cX7_of 64 = .ok (.aload_n 0, 1) := by decide +kernel
theorem dX7_of_65 : decode cX7_of 65 = .ok (.iload_n 1, 1) := by decide +kernel
theorem dX7_of_66 : decode cX7_of 66 = .ok (.aload_n 0, 1) := by decide +kernel
theorem dX7_of_67 : decode cX7_of 67 = .ok (.getfield 7, 3) := by decide +kernel
theorem dX7_of_70 : decode cX7_of 70 = .ok (.iconst 1, 1) := by decide +kernel
theorem dX7_of_71 : decode cX7_of 71 = .ok (.iaload, 1) := by decide +kernel
theorem dX7_of_72 : decode cX7_of 72 = .ok (.invokevirtual 93, 3) := by decide +kernel
theorem dX7_of_75 : decode cX7_of 75 = .ok (.ireturn, 1) := by decide +kernel
theorem dX7_of_76 : decode cX7_of 76 = .ok (.aload_n 0, 1) := by decide +kernel
theorem dX7_of_77 : decode cX7_of 77 = .ok (.iload_n 1, 1) := by decide +kernel
theorem dX7_of_78 : decode cX7_of 78 = .ok (.invokevirtual 84, 3) := by decide +kernel
theorem dX7_of_81 : decode cX7_of 81 = .ok (.ifCond .eq 7, 3) := by decide +kernel
theorem dX7_of_84 : decode cX7_of 84 = .ok (.iconst 1, 1) := by decide +kernel
theorem dX7_of_85 : decode cX7_of 85 = .ok (.goto 4, 3) := by decide +kernel
theorem dX7_of_88 : decode cX7_of 88 = .ok (.iconst 0, 1) := by decide +kernel
theorem dX7_of_89 : decode cX7_of 89 = .ok (.ireturn, 1) := by decide +kernel
theorem dX7_of_90 : decode cX7_of 90 = .ok (.aload_n 0, 1) := by decide +kernel
theorem dX7_of_91 : decode cX7_of 91 = .ok (.iload_n 1, 1) := by decide +kernel
theorem dX7_of_92 : decode cX7_of 92 = .ok (.iload_n 2, 1) := by decide +kernel
theorem dX7_of_93 : decode cX7_of 93 = .ok (.invokevirtual 69, 3) := by decide +kernel
theorem dX7_of_96 : decode cX7_of 96 = .ok (.ireturn, 1) := by decide +kernel
theorem dX7_set_0 : decode cX7_set 0 = .ok (.iload_n 2, 1) := by decide +kernel
theorem dX7_set_1 : decode cX7_set 1 = .ok (.iconst 1, 1) := by decide +kernel
theorem dX7_set_2 : decode cX7_set 2 = .ok (.if_icmp .ne 10, 3) := by decide +kernel
theorem dX7_set_5 : decode cX7_set 5 = .ok (.iload_n 3, 1) := by decide +kernel
theorem dX7_set_6 : decode cX7_set 6 = .ok (.invokestatic 49, 3) := by decide +kernel
theorem dX7_set_9 : decode cX7_set 9 = .ok (.goto 23, 3) := by decide +kernel
theorem dX7_set_12 : decode cX7_set 12 = .ok (.iload_n 2, 1) := by decide +kernel
theorem dX7_set_13 : decode cX7_set 13 = .ok (.iconst 2, 1) := by decide +kernel
theorem dX7_set_14 : decode cX7_set 14 = .ok (.if_icmp .ne 17, 3) := by decide +kernel
theorem dX7_set_17 : decode cX7_set 17 = .ok (.iload_n 3, 1) := by decide +kernel
theorem dX7_set_18 : decode cX7_set 18 = .ok (.iconst 0, 1) := by decide +kernel
theorem dX7_set_19 : decode cX7_set 19 = .ok (.bipush 60, 2) := by decide +kernel
theorem dX7_set_21 : decode cX7_set 21 = .ok (.invokestatic 45, 3) := by decide +kernel
theorem dX7_set_24 : decode cX7_set 24 = .ok (.ifCond .eq 7, 3) := by decide +kernel
theorem dX7_set_27 : decode cX7_set 27 = .ok (.iconst 1, 1) := by decide +kernel
theorem dX7_set_28 : decode cX7_set 28 = .ok (.goto 4, 3) := by decide +kernel
theorem dX7_set_31 : decode cX7_set 31 = .ok (.iconst 0, 1) := by decide +kernel
theorem dX7_set_32 : decode cX7_set 32 = .ok (.istore 4, 2) := by decide +kernel
theorem dX7_set_34 : decode cX7_set 34 = .ok (.aload_n 0, 1) := by decide +kernel
theorem dX7_set_35 : decode cX7_set 35 = .ok (.iload_n 1, 1) := by decide +kernel
theorem dX7_set_36 : decode cX7_set 36 = .ok (.invokevirtual 87, 3) := by decide +kernel
theorem dX7_set_39 : decode cX7_set 39 = .ok (.ifCond .eq 8, 3) := by decide +kernel
theorem dX7_set_42 : decode cX7_set 42 = .ok (.iload 4, 2) := by decide +kernel
theorem dX7_set_44 : decode cX7_set 44 = .ok (.ifCond .ne 10, 3) := by decide +kernel
theorem dX7_set_47 : decode cX7_set 47 = .ok (.aload_n 0, 1) := by decide +kernel
theorem dX7_set_48 : decode cX7_set 48 = .ok (.ldc 44, 2) := by decide +kernel
theorem dX7_set_50 : decode cX7_set 50 = .ok (.invokevirtual 53, 3) := by decide +kernel
theorem dX7_set_53 : decode cX7_set 53 = .ok (.ireturn, 1) := by decide +kernel
theorem dX7_set_54 : decode cX7_set 54 = .ok (.aload_n 0, 1) := by decide +kernel
theorem dX7_set_55 : decode cX7_set 55 = .ok (.iload_n 1, 1) := by decide +kernel
theorem dX7_set_56 : decode cX7_set 56 = .ok (.iload_n 2, 1) := by decide +kernel
theorem dX7_set_57 : decode cX7_set 57 = .ok (.invokevirtual 69, 3) := by decide +kernel
theorem dX7_set_60 : decode cX7_set 60 = .ok (.istore 5, 2) := by decide +kernel
theorem dX7_set_62 : decode cX7_set 62 = .ok (.aload_n 0, 1) := by decide +kernel
theorem dX7_set_63 : decode cX7_set 63 = .ok (.iload_n 1, 1) := by decide +kernel
theorem dX7_set_64 : decode cX7_set 64 = .ok (.iload_n 2, 1) := by decide +kernel
theorem dX7_set_65 : decode cX7_set 65 = .ok (.iload_n 3, 1) := by decide +kernel
theorem dX7_set_66 : decode cX7_set 66 = .ok (.invokevirtual 57, 3) := by decide +kernel
theorem dX7_set_69 : decode cX7_set 69 = .ok (.iload 5, 2) := by decide +kernel
theorem dX7_set_71 : decode cX7_set 71 = .ok (.ireturn, 1) := by decide +kernel
theorem dX7_pays_0 : decode cX7_pays 0 = .ok (.aload_n 0, 1) := by decide +kernel
theorem dX7_pays_1 : decode cX7_pays 1 = .ok (.iload_n 1, 1) := by decide +kernel
theorem dX7_pays_2 : decode cX7_pays 2 = .ok (.invokevirtual 87, 3) := by decide +kernel
theorem dX7_pays_5 : decode cX7_pays 5 = .ok (.ifCond .eq 23, 3) := by decide +kernel
theorem dX7_pays_8 : decode cX7_pays 8 = .ok (.iload_n 2, 1) := by decide +kernel
theorem dX7_pays_9 : decode cX7_pays 9 = .ok (.iconst 0, 1) := by decide +kernel
theorem dX7_pays_10 : decode cX7_pays 10 = .ok (.bipush 23, 2) := by decide +kernel
theorem dX7_pays_12 : decode cX7_pays 12 = .ok (.invokestatic 45, 3) := by decide +kernel
theorem dX7_pays_15 : decode cX7_pays 15 = .ok (.ifCond .eq 13, 3) := by decide +kernel
theorem dX7_pays_18 : decode cX7_pays 18 = .ok (.iload_n 3, 1) := by decide +kernel
theorem dX7_pays_19 : decode cX7_pays 19 = .ok (.iconst 0, 1) := by decide +kernel
theorem dX7_pays_20 : decode cX7_pays 20 = .ok (.bipush 23, 2) := by decide +kernel
theorem dX7_pays_22 : decode cX7_pays 22 = .ok (.invokestatic 45, 3) := by decide +kernel
theorem dX7_pays_25 : decode cX7_pays 25 = .ok (.ifCond .ne 10, 3) := by decide +kernel
theorem dX7_pays_28 : decode cX7_pays 28 = .ok (.aload_n 0, 1) := by decide +kernel
theorem dX7_pays_29 : decode cX7_pays 29 = .ok (.ldc 44, 2) := by decide +kernel
theorem dX7_pays_31 : decode cX7_pays 31 = .ok (.invokevirtual 53, 3) := by decide +kernel
theorem dX7_pays_34 : decode cX7_pays 34 = .ok (.ireturn, 1) := by decide +kernel
theorem dX7_pays_35 : decode cX7_pays 35 = .ok (.aload_n 0, 1) := by decide +kernel
theorem dX7_pays_36 : decode cX7_pays 36 = .ok (.iload_n 1, 1) := by decide +kernel
theorem dX7_pays_37 : decode cX7_pays 37 = .ok (.iconst 3, 1) := by decide +kernel
theorem dX7_pays_38 : decode cX7_pays 38 = .ok (.iload_n 2, 1) := by decide +kernel
theorem dX7_pays_39 : decode cX7_pays 39 = .ok (.invokevirtual 57, 3) := by decide +kernel
theorem dX7_pays_42 : decode cX7_pays 42 = .ok (.aload_n 0, 1) := by decide +kernel
theorem dX7_pays_43 : decode cX7_pays 43 = .ok (.iload_n 1, 1) := by decide +kernel
theorem dX7_pays_44 : decode cX7_pays 44 = .ok (.iconst 4, 1) := by decide +kernel
theorem dX7_pays_45 : decode cX7_pays 45 = .ok (.iload_n 3, 1) := by decide +kernel
theorem dX7_pays_46 : decode cX7_pays 46 = .ok (.invokevirtual 57, 3) := by decide +kernel
theorem dX7_pays_49 : decode cX7_pays 49 = .ok (.aload_n 0, 1) := by decide +kernel
theorem dX7_pays_50 : decode cX7_pays 50 = .ok (.iload_n 1, 1) := by decide +kernel
theorem dX7_pays_51 : decode cX7_pays 51 = .ok (.invokevirtual 81, 3) := by decide +kernel
theorem dX7_pays_54 : decode cX7_pays 54 = .ok (.ireturn, 1) := by decide +kernel
theorem dX7_turn_0 : decode cX7_turn 0 = .ok (.aload_n 0, 1) := by decide +kernel
theorem dX7_turn_1 : decode cX7_turn 1 = .ok (.iload_n 1, 1) := by decide +kernel
theorem dX7_turn_2 : decode cX7_turn 2 = .ok (.invokevirtual 87, 3) := by decide +kernel
theorem dX7_turn_5 : decode cX7_turn 5 = .ok (.ifCond .eq 10, 3) := by decide +kernel
theorem dX7_turn_8 : decode cX7_turn 8 = .ok (.iload_n 2, 1) := by decide +kernel
theorem dX7_turn_9 : decode cX7_turn 9 = .ok (.invokestatic 61, 3) := by decide +kernel
theorem dX7_turn_12 : decode cX7_turn 12 = .ok (.ifCond .ne 10, 3) := by decide +kernel
theorem dX7_turn_15 : decode cX7_turn 15 = .ok (.aload_n 0, 1) := by decide +kernel
theorem dX7_turn_16 : decode cX7_turn 16 = .ok (.ldc 44, 2) := by decide +kernel
theorem dX7_turn_18 : decode cX7_turn 18 = .ok (.invokevirtual 53, 3) := by decide +kernel
theorem dX7_turn_21 : decode cX7_turn 21 = .ok (.ireturn, 1) := by decide +kernel
theorem dX7_turn_22 : decode cX7_turn 22 = .ok (.aload_n 0, 1) := by decide +kernel
theorem dX7_turn_23 : decode cX7_turn 23 = .ok (.iload_n 1, 1) := by decide +kernel
theorem dX7_turn_24 : decode cX7_turn 24 = .ok (.iconst 0, 1) := by decide +kernel
theorem dX7_turn_25 : decode cX7_turn 25 = .ok (.invokevirtual 69, 3) := by decide +kernel
theorem dX7_turn_28 : decode cX7_turn 28 = .ok (.istore_n 3, 1) := by decide +kernel
theorem dX7_turn_29 : decode cX7_turn 29 = .ok (.aload_n 0, 1) := by decide +kernel
theorem dX7_turn_30 : decode cX7_turn 30 = .ok (.iload_n 1, 1) := by decide +kernel
theorem dX7_turn_31 : decode cX7_turn 31 = .ok (.iconst 0, 1) := by decide +kernel
theorem dX7_turn_32 : decode cX7_turn 32 = .ok (.iload_n 2, 1) := by decide +kernel
theorem dX7_turn_33 : decode cX7_turn 33 = .ok (.invokevirtual 57, 3) := by decide +kernel
theorem dX7_turn_36 : decode cX7_turn 36 = .ok (.iload_n 3, 1) := by decide +kernel
theorem dX7_turn_37 : decode cX7_turn 37 = .ok (.ireturn, 1) := by decide +kernel
theorem dX7_as_0 : decode cX7_as 0 = .ok (.aload_n 0, 1) := by decide +kernel
theorem dX7_as_1 : decode cX7_as 1 = .ok (.iload_n 1, 1) := by decide +kernel
theorem dX7_as_2 : decode cX7_as 2 = .ok (.invokevirtual 87, 3) := by decide +kernel
theorem dX7_as_5 : decode cX7_as 5 = .ok (.ifCond .eq 10, 3) := by decide +kernel
theorem dX7_as_8 : decode cX7_as 8 = .ok (.iload_n 2, 1) := by decide +kernel
theorem dX7_as_9 : decode cX7_as 9 = .ok (.invokestatic 61, 3) := by decide +kernel
theorem dX7_as_12 : decode cX7_as 12 = .ok (.ifCond .ne 10, 3) := by decide +kernel
theorem dX7_as_15 : decode cX7_as 15 = .ok (.aload_n 0, 1) := by decide +kernel
theorem dX7_as_16 : decode cX7_as 16 = .ok (.ldc 44, 2) := by decide +kernel
theorem dX7_as_18 : decode cX7_as 18 = .ok (.invokevirtual 53, 3) := by decide +kernel
theorem dX7_as_21 : decode cX7_as 21 = .ok (.ireturn, 1) := by decide +kernel
theorem dX7_as_22 : decode cX7_as 22 = .ok (.aload_n 0, 1) := by decide +kernel
theorem dX7_as_23 : decode cX7_as 23 = .ok (.iload_n 1, 1) := by decide +kernel
theorem dX7_as_24 : decode cX7_as 24 = .ok (.iconst 0, 1) := by decide +kernel
theorem dX7_as_25 : decode cX7_as 25 = .ok (.invokevirtual 69, 3) := by decide +kernel
theorem dX7_as_28 : decode cX7_as 28 = .ok (.istore_n 3, 1) := by decide +kernel
theorem dX7_as_29 : decode cX7_as 29 = .ok (.iload_n 2, 1) := by decide +kernel
theorem dX7_as_30 : decode cX7_as 30 = .ok (.ifCond .eq 28, 3) := by decide +kernel
theorem dX7_as_33 : decode cX7_as 33 = .ok (.iload_n 2, 1) := by decide +kernel
theorem dX7_as_34 : decode cX7_as 34 = .ok (.iload_n 3, 1) := by decide +kernel
theorem dX7_as_35 : decode cX7_as 35 = .ok (.if_icmp .eq 23, 3) := by decide +kernel
theorem dX7_as_38 : decode cX7_as 38 = .ok (.iload_n 2, 1) := by decide +kernel
theorem dX7_as_39 : decode cX7_as 39 = .ok (.iconst 1, 1) := by decide +kernel
theorem dX7_as_40 : decode cX7_as 40 = .ok (.if_icmp .ne 8, 3) := by decide +kernel
theorem dX7_as_43 : decode cX7_as 43 = .ok (.iload_n 3, 1) := by decide +kernel
theorem dX7_as_44 : decode cX7_as 44 = .ok (.iconst 4, 1) := by decide +kernel
theorem dX7_as_45 : decode cX7_as 45 = .ok (.if_icmp .eq 13, 3) := by decide +kernel
theorem dX7_as_48 : decode cX7_as 48 = .ok (.iload_n 2, 1) := by decide +kernel
theorem dX7_as_49 : decode cX7_as 49 = .ok (.iconst 2, 1) := by decide +kernel
theorem dX7_as_50 : decode cX7_as 50 = .ok (.if_icmp .ne 12, 3) := by decide +kernel
theorem dX7_as_53 : decode cX7_as 53 = .ok (.iload_n 3, 1) := by decide +kernel
theorem dX7_as_54 : decode cX7_as 54 = .ok (.iconst 5, 1) := by decide +kernel
theorem dX7_as_55 : decode cX7_as 55 = .ok (.if_icmp .ne 7, 3) := by decide +kernel
theorem dX7_as_58 : decode cX7_as 58 = .ok (.iconst 1, 1) := by decide +kernel
theorem dX7_as_59 : decode cX7_as 59 = .ok (.goto 4, 3) := by decide +kernel
theorem dX7_as_62 : decode cX7_as 62 = .ok (.iconst 0, 1) := by decide +kernel
theorem dX7_as_63 : decode cX7_as 63 = .ok (.istore 4, 2) := by decide +kernel
theorem dX7_as_65 : decode cX7_as 65 = .ok (.iload 4, 2) := by decide +kernel
theorem dX7_as_67 : decode cX7_as 67 = .ok (.ifCond .eq 12, 3) := by decide +kernel
theorem dX7_as_70 : decode cX7_as 70 = .ok (.aload_n 0, 1) := by decide +kernel
theorem dX7_as_71 : decode cX7_as 71 = .ok (.iload_n 1, 1) := by decide +kernel
theorem dX7_as_72 : decode cX7_as 72 = .ok (.iconst 2, 1) := by decide +kernel
theorem dX7_as_73 : decode cX7_as 73 = .ok (.invokevirtual 69, 3) := by decide +kernel
theorem dX7_as_76 : decode cX7_as 76 = .ok (.goto 9, 3) := by decide +kernel
theorem dX7_as_79 : decode cX7_as 79 = .ok (.aload_n 0, 1) := by decide +kernel
theorem dX7_as_80 : decode cX7_as 80 = .ok (.ldc 96, 2) := by decide +kernel
theorem dX7_as_82 : decode cX7_as 82 = .ok (.invokevirtual 53, 3) := by decide +kernel
theorem dX7_as_85 : decode cX7_as 85 = .ok (.ireturn, 1) := by decide +kernel
theorem dX7_comesDown_0 : decode cX7_comesDown 0 = .ok (.bipush 9, 2) := by decide +kernel
theorem dX7_comesDown_2 : decode cX7_comesDown 2 = .ok (.bipush 7, 2) := by decide +kernel
theorem dX7_comesDown_4 : decode cX7_comesDown 4 = .ok (.iload_n 1, 1) := by decide +kernel
theorem dX7_comesDown_5 : decode cX7_comesDown 5 = .ok (.imul, 1) := by decide +kernel
theorem dX7_comesDown_6 : decode cX7_comesDown 6 = .ok (.iadd, 1) := by decide +kernel
theorem dX7_comesDown_7 : decode cX7_comesDown 7 = .ok (.istore_n 2, 1) := by decide +kernel
theorem dX7_comesDown_8 : decode cX7_comesDown 8 = .ok (.iload_n 2, 1) := by decide +kernel
theorem dX7_comesDown_9 : decode cX7_comesDown 9 = .ok (.bipush 9, 2) := by decide +kernel
theorem dX7_comesDown_11 : decode cX7_comesDown 11 = .ok (.bipush 7, 2) := by decide +kernel
theorem dX7_comesDown_13 : decode cX7_comesDown 13 = .ok (.aload_n 0, 1) := by decide +kernel
theorem dX7_comesDown_14 : decode cX7_comesDown 14 = .ok (.getfield 7, 3) := by decide +kernel
theorem dX7_comesDown_17 : decode cX7_comesDown 17 = .ok (.bipush 8, 2) := by decide +kernel
theorem dX7_comesDown_19 : decode cX7_comesDown 19 = .ok (.iaload, 1) := by decide +kernel
theorem dX7_comesDown_20 : decode cX7_comesDown 20 = .ok (.iconst 1, 1) := by decide +kernel
theorem dX7_comesDown_21 : decode cX7_comesDown 21 = .ok (.isub, 1) := by decide +kernel
theorem dX7_comesDown_22 : decode cX7_comesDown 22 = .ok (.imul, 1) := by decide +kernel
theorem dX7_comesDown_23 : decode cX7_comesDown 23 = .ok (.iadd, 1) := by decide +kernel
theorem dX7_comesDown_24 : decode cX7_comesDown 24 = .ok (.if_icmp .ge 24, 3) := by decide +kernel
theorem dX7_comesDown_27 : decode cX7_comesDown 27 = .ok (.aload_n 0, 1) := by decide +kernel
theorem dX7_comesDown_28 : decode cX7_comesDown 28 = .ok (.getfield 7, 3) := by decide +kernel
theorem dX7_comesDown_31 : decode cX7_comesDown 31 = .ok (.iload_n 2, 1) := by decide +kernel
theorem dX7_comesDown_32 : decode cX7_comesDown 32 = .ok (.aload_n 0, 1) := by decide +kernel
theorem dX7_comesDown_33 : decode cX7_comesDown 33 = .ok (.getfield 7, 3) := by decide +kernel
theorem dX7_comesDown_36 : decode cX7_comesDown 36 = .ok (.iload_n 2, 1) := by decide +kernel
theorem dX7_comesDown_37 : decode cX7_comesDown 37 = .ok (.bipush 7, 2) := by decide +kernel
theorem dX7_comesDown_39 : decode cX7_comesDown 39 = .ok (.iadd, 1) := by decide +kernel
theorem dX7_comesDown_40 : decode cX7_comesDown 40 = .ok (.iaload, 1) := by decide +kernel
theorem dX7_comesDown_41 : decode cX7_comesDown 41 = .ok (.iastore, 1) := by decide +kernel
theorem dX7_comesDown_42 : decode cX7_comesDown 42 = .ok (.iinc 2 1, 3) := by decide +kernel
theorem dX7_comesDown_45 : decode cX7_comesDown 45 = .ok (.goto (-37), 3) := by decide +kernel
theorem dX7_comesDown_48 : decode cX7_comesDown 48 = .ok (.aload_n 0, 1) := by decide +kernel
theorem dX7_comesDown_49 : decode cX7_comesDown 49 = .ok (.getfield 7, 3) := by decide +kernel
theorem dX7_comesDown_52 : decode cX7_comesDown 52 = .ok (.bipush 8, 2) := by decide +kernel
theorem dX7_comesDown_54 : decode cX7_comesDown 54 = .ok (.dup2, 1) := by decide +kernel
theorem dX7_comesDown_55 : decode cX7_comesDown 55 = .ok (.iaload, 1) := by decide +kernel
theorem dX7_comesDown_56 : decode cX7_comesDown 56 = .ok (.iconst 1, 1) := by decide +kernel
theorem dX7_comesDown_57 : decode cX7_comesDown 57 = .ok (.isub, 1) := by decide +kernel
theorem dX7_comesDown_58 : decode cX7_comesDown 58 = .ok (.iastore, 1) := by decide +kernel
theorem dX7_comesDown_59 : decode cX7_comesDown 59 = .ok (.return_, 1) := by decide +kernel
theorem dX7_down_0 : decode cX7_down 0 = .ok (.aload_n 0, 1) := by decide +kernel
theorem dX7_down_1 : decode cX7_down 1 = .ok (.iload_n 1, 1) := by decide +kernel
theorem dX7_down_2 : decode cX7_down 2 = .ok (.invokevirtual 87, 3) := by decide +kernel
theorem dX7_down_5 : decode cX7_down 5 = .ok (.ifCond .ne 10, 3) := by decide +kernel
theorem dX7_down_8 : decode cX7_down 8 = .ok (.aload_n 0, 1) := by decide +kernel
theorem dX7_down_9 : decode cX7_down 9 = .ok (.ldc 44, 2) := by decide +kernel
theorem dX7_down_11 : decode cX7_down 11 = .ok (.invokevirtual 53, 3) := by decide +kernel
theorem dX7_down_14 : decode cX7_down 14 = .ok (.ireturn, 1) := by decide +kernel
theorem dX7_down_15 : decode cX7_down 15 = .ok (.aload_n 0, 1) := by decide +kernel
theorem dX7_down_16 : decode cX7_down 16 = .ok (.iload_n 1, 1) := by decide +kernel
theorem dX7_down_17 : decode cX7_down 17 = .ok (.iconst 5, 1) := by decide +kernel
theorem dX7_down_18 : decode cX7_down 18 = .ok (.invokevirtual 69, 3) := by decide +kernel
theorem dX7_down_21 : decode cX7_down 21 = .ok (.istore_n 2, 1) := by decide +kernel
theorem dX7_down_22 : decode cX7_down 22 = .ok (.aload_n 0, 1) := by decide +kernel
theorem dX7_down_23 : decode cX7_down 23 = .ok (.iload_n 1, 1) := by decide +kernel
theorem dX7_down_24 : decode cX7_down 24 = .ok (.invokevirtual 97, 3) := by decide +kernel
theorem dX7_down_27 : decode cX7_down 27 = .ok (.iload_n 2, 1) := by decide +kernel
theorem dX7_down_28 : decode cX7_down 28 = .ok (.ireturn, 1) := by decide +kernel
theorem dX7_settle_0 : decode cX7_settle 0 = .ok (.aload_n 0, 1) := by decide +kernel
theorem dX7_settle_1 : decode cX7_settle 1 = .ok (.iload_n 1, 1) := by decide +kernel
theorem dX7_settle_2 : decode cX7_settle 2 = .ok (.invokevirtual 87, 3) := by decide +kernel
theorem dX7_settle_5 : decode cX7_settle 5 = .ok (.ifCond .ne 10, 3) := by decide +kernel
theorem dX7_settle_8 : decode cX7_settle 8 = .ok (.aload_n 0, 1) := by decide +kernel
theorem dX7_settle_9 : decode cX7_settle 9 = .ok (.ldc 44, 2) := by decide +kernel
theorem dX7_settle_11 : decode cX7_settle 11 = .ok (.invokevirtual 53, 3) := by decide +kernel
theorem dX7_settle_14 : decode cX7_settle 14 = .ok (.ireturn, 1) := by decide +kernel
theorem dX7_settle_15 : decode cX7_settle 15 = .ok (.aload_n 0, 1) := by decide +kernel
theorem dX7_settle_16 : decode cX7_settle 16 = .ok (.iload_n 1, 1) := by decide +kernel
theorem dX7_settle_17 : decode cX7_settle 17 = .ok (.iconst 5, 1) := by decide +kernel
theorem dX7_settle_18 : decode cX7_settle 18 = .ok (.invokevirtual 69, 3) := by decide +kernel
theorem dX7_settle_21 : decode cX7_settle 21 = .ok (.istore_n 2, 1) := by decide +kernel
theorem dX7_settle_22 : decode cX7_settle 22 = .ok (.aload_n 0, 1) := by decide +kernel
theorem dX7_settle_23 : decode cX7_settle 23 = .ok (.iload_n 1, 1) := by decide +kernel
theorem dX7_settle_24 : decode cX7_settle 24 = .ok (.iconst 5, 1) := by decide +kernel
theorem dX7_settle_25 : decode cX7_settle 25 = .ok (.iconst 0, 1) := by decide +kernel
theorem dX7_settle_26 : decode cX7_settle 26 = .ok (.invokevirtual 57, 3) := by decide +kernel
theorem dX7_settle_29 : decode cX7_settle 29 = .ok (.iload_n 2, 1) := by decide +kernel
theorem dX7_settle_30 : decode cX7_settle 30 = .ok (.ireturn, 1) := by decide +kernel
theorem dX7_struckAt_0 : decode cX7_struckAt 0 = .ok (.iconst (-1), 1) := by decide +kernel
theorem dX7_struckAt_1 : decode cX7_struckAt 1 = .ok (.istore_n 2, 1) := by decide +kernel
theorem dX7_struckAt_2 : decode cX7_struckAt 2 = .ok (.iconst 0, 1) := by decide +kernel
theorem dX7_struckAt_3 : decode cX7_struckAt 3 = .ok (.istore_n 3, 1) := by decide +kernel
theorem dX7_struckAt_4 : decode cX7_struckAt 4 = .ok (.iconst 0, 1) := by decide +kernel
theorem dX7_struckAt_5 : decode cX7_struckAt 5 = .ok (.istore 4, 2) := by decide +kernel
theorem dX7_struckAt_7 : decode cX7_struckAt 7 = .ok (.iload 4, 2) := by decide +kernel
theorem dX7_struckAt_9 : decode cX7_struckAt 9 = .ok (.aload_n 0, 1) := by decide +kernel
theorem dX7_struckAt_10 : decode cX7_struckAt 10 = .ok (.getfield 7, 3) := by decide +kernel
theorem dX7_struckAt_13 : decode cX7_struckAt 13 = .ok (.bipush 8, 2) := by decide +kernel
theorem dX7_struckAt_15 : decode cX7_struckAt 15 = .ok (.iaload, 1) := by decide +kernel
theorem dX7_struckAt_16 : decode cX7_struckAt 16 = .ok (.if_icmp .ge 44, 3) := by decide +kernel
theorem dX7_struckAt_19 : decode cX7_struckAt 19 = .ok (.aload_n 0, 1) := by decide +kernel
theorem dX7_struckAt_20 : decode cX7_struckAt 20 = .ok (.iload 4, 2) := by decide +kernel
theorem dX7_struckAt_22 : decode cX7_struckAt 22 = .ok (.iload_n 1, 1) := by decide +kernel
theorem dX7_struckAt_23 : decode cX7_struckAt 23 = .ok (.invokevirtual 90, 3) := by decide +kernel
theorem dX7_struckAt_26 : decode cX7_struckAt 26 = .ok (.istore 5, 2) := by decide +kernel
theorem dX7_struckAt_28 : decode cX7_struckAt 28 = .ok (.iload 5, 2) := by decide +kernel
theorem dX7_struckAt_30 : decode cX7_struckAt 30 = .ok (.iload_n 3, 1) := by decide +kernel
theorem dX7_struckAt_31 : decode cX7_struckAt 31 = .ok (.if_icmp .le 8, 3) := by decide +kernel
theorem dX7_struckAt_34 : decode cX7_struckAt 34 = .ok (.iload 4, 2) := by decide +kernel
theorem dX7_struckAt_36 : decode cX7_struckAt 36 = .ok (.goto 4, 3) := by decide +kernel
theorem dX7_struckAt_39 : decode cX7_struckAt 39 = .ok (.iload_n 2, 1) := by decide +kernel
theorem dX7_struckAt_40 : decode cX7_struckAt 40 = .ok (.istore_n 2, 1) := by decide +kernel
theorem dX7_struckAt_41 : decode cX7_struckAt 41 = .ok (.iload 5, 2) := by decide +kernel
theorem dX7_struckAt_43 : decode cX7_struckAt 43 = .ok (.iload_n 3, 1) := by decide +kernel
theorem dX7_struckAt_44 : decode cX7_struckAt 44 = .ok (.if_icmp .le 8, 3) := by decide +kernel
theorem dX7_struckAt_47 : decode cX7_struckAt 47 = .ok (.iload 5, 2) := by decide +kernel
theorem dX7_struckAt_49 : decode cX7_struckAt 49 = .ok (.goto 4, 3) := by decide +kernel
theorem dX7_struckAt_52 : decode cX7_struckAt 52 = .ok (.iload_n 3, 1) := by decide +kernel
theorem dX7_struckAt_53 : decode cX7_struckAt 53 = .ok (.istore_n 3, 1) := by decide +kernel
theorem dX7_struckAt_54 : decode cX7_struckAt 54 = .ok (.iinc 4 1, 3) := by decide +kernel
theorem dX7_struckAt_57 : decode cX7_struckAt 57 = .ok (.goto (-50), 3) := by decide +kernel
theorem dX7_struckAt_60 : decode cX7_struckAt 60 = .ok (.iload_n 2, 1) := by decide +kernel
theorem dX7_struckAt_61 : decode cX7_struckAt 61 = .ok (.ireturn, 1) := by decide +kernel
theorem dX7_doesBreak_0 : decode cX7_doesBreak 0 = .ok (.aload_n 0, 1) := by decide +kernel
theorem dX7_doesBreak_1 : decode cX7_doesBreak 1 = .ok (.getfield 7, 3) := by decide +kernel
theorem dX7_doesBreak_4 : decode cX7_doesBreak 4 = .ok (.iconst 1, 1) := by decide +kernel
theorem dX7_doesBreak_5 : decode cX7_doesBreak 5 = .ok (.iaload, 1) := by decide +kernel
theorem dX7_doesBreak_6 : decode cX7_doesBreak 6 = .ok (.aload_n 0, 1) := by decide +kernel
theorem dX7_doesBreak_7 : decode cX7_doesBreak 7 = .ok (.getfield 7, 3) := by decide +kernel
theorem dX7_doesBreak_10 : decode cX7_doesBreak 10 = .ok (.iconst 4, 1) := by decide +kernel
theorem dX7_doesBreak_11 : decode cX7_doesBreak 11 = .ok (.iaload, 1) := by decide +kernel
theorem dX7_doesBreak_12 : decode cX7_doesBreak 12 = .ok (.if_icmp .lt 7, 3) := by decide +kernel
theorem dX7_doesBreak_15 : decode cX7_doesBreak 15 = .ok (.iconst 1, 1) := by decide +kernel
theorem dX7_doesBreak_16 : decode cX7_doesBreak 16 = .ok (.goto 4, 3) := by decide +kernel
theorem dX7_doesBreak_19 : decode cX7_doesBreak 19 = .ok (.iconst 0, 1) := by decide +kernel
theorem dX7_doesBreak_20 : decode cX7_doesBreak 20 = .ok (.ireturn, 1) := by decide +kernel
theorem dX7_bolt_0 : decode cX7_bolt 0 = .ok (.aload_n 0, 1) := by decide +kernel
theorem dX7_bolt_1 : decode cX7_bolt 1 = .ok (.aload_n 0, 1) := by decide +kernel
theorem dX7_bolt_2 : decode cX7_bolt 2 = .ok (.getfield 7, 3) := by decide +kernel
theorem dX7_bolt_5 : decode cX7_bolt 5 = .ok (.iconst 0, 1) := by decide +kernel
theorem dX7_bolt_6 : decode cX7_bolt 6 = .ok (.iaload, 1) := by decide +kernel
theorem dX7_bolt_7 : decode cX7_bolt 7 = .ok (.invokevirtual 101, 3) := by decide +kernel
theorem dX7_bolt_10 : decode cX7_bolt 10 = .ok (.istore_n 1, 1) := by decide +kernel
theorem dX7_bolt_11 : decode cX7_bolt 11 = .ok (.iload_n 1, 1) := by decide +kernel
theorem dX7_bolt_12 : decode cX7_bolt 12 = .ok (.ifCond .ge 7, 3) := by decide +kernel
theorem dX7_bolt_15 : decode cX7_bolt 15 = .ok (.iconst 0, 1) := by decide +kernel
theorem dX7_bolt_16 : decode cX7_bolt 16 = .ok (.goto 14, 3) := by decide +kernel
theorem dX7_bolt_19 : decode cX7_bolt 19 = .ok (.aload_n 0, 1) := by decide +kernel
theorem dX7_bolt_20 : decode cX7_bolt 20 = .ok (.iload_n 1, 1) := by decide +kernel
theorem dX7_bolt_21 : decode cX7_bolt 21 = .ok (.aload_n 0, 1) := by decide +kernel
theorem dX7_bolt_22 : decode cX7_bolt 22 = .ok (.getfield 7, 3) := by decide +kernel
theorem dX7_bolt_25 : decode cX7_bolt 25 = .ok (.iconst 1, 1) := by decide +kernel
theorem dX7_bolt_26 : decode cX7_bolt 26 = .ok (.iaload, 1) := by decide +kernel
theorem dX7_bolt_27 : decode cX7_bolt 27 = .ok (.invokevirtual 93, 3) := by decide +kernel
theorem dX7_bolt_30 : decode cX7_bolt 30 = .ok (.istore_n 2, 1) := by decide +kernel
theorem dX7_bolt_31 : decode cX7_bolt 31 = .ok (.iload_n 1, 1) := by decide +kernel
theorem dX7_bolt_32 : decode cX7_bolt 32 = .ok (.ifCond .lt 45, 3) := by decide +kernel
theorem dX7_bolt_35 : decode cX7_bolt 35 = .ok (.aload_n 0, 1) := by decide +kernel
theorem dX7_bolt_36 : decode cX7_bolt 36 = .ok (.iload_n 1, 1) := by decide +kernel
theorem dX7_bolt_37 : decode cX7_bolt 37 = .ok (.bipush 6, 2) := by decide +kernel
theorem dX7_bolt_39 : decode cX7_bolt 39 = .ok (.aload_n 0, 1) := by decide +kernel
theorem dX7_bolt_40 : decode cX7_bolt 40 = .ok (.iload_n 1, 1) := by decide +kernel
theorem dX7_bolt_41 : decode cX7_bolt 41 = .ok (.bipush 6, 2) := by decide +kernel
theorem dX7_bolt_43 : decode cX7_bolt 43 = .ok (.invokevirtual 69, 3) := by decide +kernel
theorem dX7_bolt_46 : decode cX7_bolt 46 = .ok (.iconst 1, 1) := by decide +kernel
theorem dX7_bolt_47 : decode cX7_bolt 47 = .ok (.iadd, 1) := by decide +kernel
theorem dX7_bolt_48 : decode cX7_bolt 48 = .ok (.iconst 0, 1) := by decide +kernel
theorem dX7_bolt_49 : decode cX7_bolt 49 = .ok (.ldc 104, 2) := by decide +kernel
theorem dX7_bolt_51 : decode cX7_bolt 51 = .ok (.invokestatic 73, 3) := by decide +kernel
theorem dX7_bolt_54 : decode cX7_bolt 54 = .ok (.invokevirtual 57, 3) := by decide +kernel
theorem dX7_bolt_57 : decode cX7_bolt 57 = .ok (.aload_n 0, 1) := by decide +kernel
theorem dX7_bolt_58 : decode cX7_bolt 58 = .ok (.iload_n 1, 1) := by decide +kernel
theorem dX7_bolt_59 : decode cX7_bolt 59 = .ok (.iconst 5, 1) := by decide +kernel
theorem dX7_bolt_60 : decode cX7_bolt 60 = .ok (.aload_n 0, 1) := by decide +kernel
theorem dX7_bolt_61 : decode cX7_bolt 61 = .ok (.iload_n 1, 1) := by decide +kernel
theorem dX7_bolt_62 : decode cX7_bolt 62 = .ok (.iconst 5, 1) := by decide +kernel
theorem dX7_bolt_63 : decode cX7_bolt 63 = .ok (.invokevirtual 69, 3) := by decide +kernel
theorem dX7_bolt_66 : decode cX7_bolt 66 = .ok (.iload_n 2, 1) := by decide +kernel
theorem dX7_bolt_67 : decode cX7_bolt 67 = .ok (.iadd, 1) := by decide +kernel
theorem dX7_bolt_68 : decode cX7_bolt 68 = .ok (.iconst 0, 1) := by decide +kernel
theorem dX7_bolt_69 : decode cX7_bolt 69 = .ok (.ldc 104, 2) := by decide +kernel
theorem dX7_bolt_71 : decode cX7_bolt 71 = .ok (.invokestatic 73, 3) := by decide +kernel
theorem dX7_bolt_74 : decode cX7_bolt 74 = .ok (.invokevirtual 57, 3) := by decide +kernel
theorem dX7_bolt_77 : decode cX7_bolt 77 = .ok (.iload_n 2, 1) := by decide +kernel
theorem dX7_bolt_78 : decode cX7_bolt 78 = .ok (.ifCond .ne 30, 3) := by decide +kernel
theorem dX7_bolt_81 : decode cX7_bolt 81 = .ok (.aload_n 0, 1) := by decide +kernel
theorem dX7_bolt_82 : decode cX7_bolt 82 = .ok (.getfield 7, 3) := by decide +kernel
theorem dX7_bolt_85 : decode cX7_bolt 85 = .ok (.bipush 6, 2) := by decide +kernel
theorem dX7_bolt_87 : decode cX7_bolt 87 = .ok (.aload_n 0, 1) := by decide +kernel
theorem dX7_bolt_88 : decode cX7_bolt 88 = .ok (.getfield 7, 3) := by decide +kernel
theorem dX7_bolt_91 : decode cX7_bolt 91 = .ok (.bipush 6, 2) := by decide +kernel
theorem dX7_bolt_93 : decode cX7_bolt 93 = .ok (.iaload, 1) := by decide +kernel
theorem dX7_bolt_94 : decode cX7_bolt 94 = .ok (.aload_n 0, 1) := by decide +kernel
theorem dX7_bolt_95 : decode cX7_bolt 95 = .ok (.getfield 7, 3) := by decide +kernel
theorem dX7_bolt_98 : decode cX7_bolt 98 = .ok (.iconst 1, 1) := by decide +kernel
theorem dX7_bolt_99 : decode cX7_bolt 99 = .ok (.iaload, 1) := by decide +kernel
theorem dX7_bolt_100 : decode cX7_bolt 100 = .ok (.iadd, 1) := by decide +kernel
theorem dX7_bolt_101 : decode cX7_bolt 101 = .ok (.iconst 0, 1) := by decide +kernel
theorem dX7_bolt_102 : decode cX7_bolt 102 = .ok (.ldc 104, 2) := by decide +kernel
theorem dX7_bolt_104 : decode cX7_bolt 104 = .ok (.invokestatic 73, 3) := by decide +kernel
theorem dX7_bolt_107 : decode cX7_bolt 107 = .ok (.iastore, 1) := by decide +kernel
theorem dX7_bolt_108 : decode cX7_bolt 108 = .ok (.aload_n 0, 1) := by decide +kernel
theorem dX7_bolt_109 : decode cX7_bolt 109 = .ok (.getfield 7, 3) := by decide +kernel
theorem dX7_bolt_112 : decode cX7_bolt 112 = .ok (.iconst 1, 1) := by decide +kernel
theorem dX7_bolt_113 : decode cX7_bolt 113 = .ok (.iconst 0, 1) := by decide +kernel
theorem dX7_bolt_114 : decode cX7_bolt 114 = .ok (.iastore, 1) := by decide +kernel
theorem dX7_bolt_115 : decode cX7_bolt 115 = .ok (.return_, 1) := by decide +kernel
theorem dX7_oneHour_0 : decode cX7_oneHour 0 = .ok (.aload_n 0, 1) := by decide +kernel
theorem dX7_oneHour_1 : decode cX7_oneHour 1 = .ok (.invokevirtual 105, 3) := by decide +kernel
theorem dX7_oneHour_4 : decode cX7_oneHour 4 = .ok (.ifCond .eq 7, 3) := by decide +kernel
theorem dX7_oneHour_7 : decode cX7_oneHour 7 = .ok (.aload_n 0, 1) := by decide +kernel
theorem dX7_oneHour_8 : decode cX7_oneHour 8 = .ok (.invokevirtual 109, 3) := by decide +kernel
theorem dX7_oneHour_11 : decode cX7_oneHour 11 = .ok (.aload_n 0, 1) := by decide +kernel
theorem dX7_oneHour_12 : decode cX7_oneHour 12 = .ok (.getfield 7, 3) := by decide +kernel
theorem dX7_oneHour_15 : decode cX7_oneHour 15 = .ok (.iconst 0, 1) := by decide +kernel
theorem dX7_oneHour_16 : decode cX7_oneHour 16 = .ok (.iaload, 1) := by decide +kernel
theorem dX7_oneHour_17 : decode cX7_oneHour 17 = .ok (.aload_n 0, 1) := by decide +kernel
theorem dX7_oneHour_18 : decode cX7_oneHour 18 = .ok (.getfield 7, 3) := by decide +kernel
theorem dX7_oneHour_21 : decode cX7_oneHour 21 = .ok (.iconst 2, 1) := by decide +kernel
theorem dX7_oneHour_22 : decode cX7_oneHour 22 = .ok (.iaload, 1) := by decide +kernel
theorem dX7_oneHour_23 : decode cX7_oneHour 23 = .ok (.iadd, 1) := by decide +kernel
theorem dX7_oneHour_24 : decode cX7_oneHour 24 = .ok (.invokestatic 49, 3) := by decide +kernel
theorem dX7_oneHour_27 : decode cX7_oneHour 27 = .ok (.ifCond .eq 21, 3) := by decide +kernel
theorem dX7_oneHour_30 : decode cX7_oneHour 30 = .ok (.aload_n 0, 1) := by decide +kernel
theorem dX7_oneHour_31 : decode cX7_oneHour 31 = .ok (.getfield 7, 3) := by decide +kernel
theorem dX7_oneHour_34 : decode cX7_oneHour 34 = .ok (.iconst 0, 1) := by decide +kernel
theorem dX7_oneHour_35 : decode cX7_oneHour 35 = .ok (.dup2, 1) := by decide +kernel
theorem dX7_oneHour_36 : decode cX7_oneHour 36 = .ok (.iaload, 1) := by decide +kernel
theorem dX7_oneHour_37 : decode cX7_oneHour 37 = .ok (.aload_n 0, 1) := by decide +kernel
theorem dX7_oneHour_38 : decode cX7_oneHour 38 = .ok (.getfield 7, 3) := by decide +kernel
theorem dX7_oneHour_41 : decode cX7_oneHour 41 = .ok (.iconst 2, 1) := by decide +kernel
theorem dX7_oneHour_42 : decode cX7_oneHour 42 = .ok (.iaload, 1) := by decide +kernel
theorem dX7_oneHour_43 : decode cX7_oneHour 43 = .ok (.iadd, 1) := by decide +kernel
theorem dX7_oneHour_44 : decode cX7_oneHour 44 = .ok (.iastore, 1) := by decide +kernel
theorem dX7_oneHour_45 : decode cX7_oneHour 45 = .ok (.goto 16, 3) := by decide +kernel
theorem dX7_oneHour_48 : decode cX7_oneHour 48 = .ok (.aload_n 0, 1) := by decide +kernel
theorem dX7_oneHour_49 : decode cX7_oneHour 49 = .ok (.getfield 7, 3) := by decide +kernel
theorem dX7_oneHour_52 : decode cX7_oneHour 52 = .ok (.iconst 2, 1) := by decide +kernel
theorem dX7_oneHour_53 : decode cX7_oneHour 53 = .ok (.aload_n 0, 1) := by decide +kernel
theorem dX7_oneHour_54 : decode cX7_oneHour 54 = .ok (.getfield 7, 3) := by decide +kernel
theorem dX7_oneHour_57 : decode cX7_oneHour 57 = .ok (.iconst 2, 1) := by decide +kernel
theorem dX7_oneHour_58 : decode cX7_oneHour 58 = .ok (.iaload, 1) := by decide +kernel
theorem dX7_oneHour_59 : decode cX7_oneHour 59 = .ok (.ineg, 1) := by decide +kernel
theorem dX7_oneHour_60 : decode cX7_oneHour 60 = .ok (.iastore, 1) := by decide +kernel
theorem dX7_oneHour_61 : decode cX7_oneHour 61 = .ok (.aload_n 0, 1) := by decide +kernel
theorem dX7_oneHour_62 : decode cX7_oneHour 62 = .ok (.getfield 7, 3) := by decide +kernel
theorem dX7_oneHour_65 : decode cX7_oneHour 65 = .ok (.iconst 1, 1) := by decide +kernel
theorem dX7_oneHour_66 : decode cX7_oneHour 66 = .ok (.aload_n 0, 1) := by decide +kernel
theorem dX7_oneHour_67 : decode cX7_oneHour 67 = .ok (.getfield 7, 3) := by decide +kernel
theorem dX7_oneHour_70 : decode cX7_oneHour 70 = .ok (.iconst 1, 1) := by decide +kernel
theorem dX7_oneHour_71 : decode cX7_oneHour 71 = .ok (.iaload, 1) := by decide +kernel
theorem dX7_oneHour_72 : decode cX7_oneHour 72 = .ok (.aload_n 0, 1) := by decide +kernel
theorem dX7_oneHour_73 : decode cX7_oneHour 73 = .ok (.getfield 7, 3) := by decide +kernel
theorem dX7_oneHour_76 : decode cX7_oneHour 76 = .ok (.iconst 3, 1) := by decide +kernel
theorem dX7_oneHour_77 : decode cX7_oneHour 77 = .ok (.iaload, 1) := by decide +kernel
theorem dX7_oneHour_78 : decode cX7_oneHour 78 = .ok (.iadd, 1) := by decide +kernel
theorem dX7_oneHour_79 : decode cX7_oneHour 79 = .ok (.iconst 0, 1) := by decide +kernel
theorem dX7_oneHour_80 : decode cX7_oneHour 80 = .ok (.bipush 99, 2) := by decide +kernel
theorem dX7_oneHour_82 : decode cX7_oneHour 82 = .ok (.invokestatic 73, 3) := by decide +kernel
theorem dX7_oneHour_85 : decode cX7_oneHour 85 = .ok (.iastore, 1) := by decide +kernel
theorem dX7_oneHour_86 : decode cX7_oneHour 86 = .ok (.aload_n 0, 1) := by decide +kernel
theorem dX7_oneHour_87 : decode cX7_oneHour 87 = .ok (.getfield 7, 3) := by decide +kernel
theorem dX7_oneHour_90 : decode cX7_oneHour 90 = .ok (.iconst 5, 1) := by decide +kernel
theorem dX7_oneHour_91 : decode cX7_oneHour 91 = .ok (.dup2, 1) := by decide +kernel
theorem dX7_oneHour_92 : decode cX7_oneHour 92 = .ok (.iaload, 1) := by decide +kernel
theorem dX7_oneHour_93 : decode cX7_oneHour 93 = .ok (.iconst 1, 1) := by decide +kernel
theorem dX7_oneHour_94 : decode cX7_oneHour 94 = .ok (.iadd, 1) := by decide +kernel
theorem dX7_oneHour_95 : decode cX7_oneHour 95 = .ok (.iastore, 1) := by decide +kernel
theorem dX7_oneHour_96 : decode cX7_oneHour 96 = .ok (.return_, 1) := by decide +kernel
theorem dX7_passes_0 : decode cX7_passes 0 = .ok (.iconst 0, 1) := by decide +kernel
theorem dX7_passes_1 : decode cX7_passes 1 = .ok (.istore_n 2, 1) := by decide +kernel
theorem dX7_passes_2 : decode cX7_passes 2 = .ok (.iload_n 2, 1) := by decide +kernel
theorem dX7_passes_3 : decode cX7_passes 3 = .ok (.iload_n 1, 1) := by decide +kernel
theorem dX7_passes_4 : decode cX7_passes 4 = .ok (.if_icmp .ge 13, 3) := by decide +kernel
theorem dX7_passes_7 : decode cX7_passes 7 = .ok (.aload_n 0, 1) := by decide +kernel
theorem dX7_passes_8 : decode cX7_passes 8 = .ok (.invokevirtual 112, 3) := by decide +kernel
theorem dX7_passes_11 : decode cX7_passes 11 = .ok (.iinc 2 1, 3) := by decide +kernel
theorem dX7_passes_14 : decode cX7_passes 14 = .ok (.goto (-12), 3) := by decide +kernel
theorem dX7_passes_17 : decode cX7_passes 17 = .ok (.return_, 1) := by decide +kernel
theorem dX7_sumOf_0 : decode cX7_sumOf 0 = .ok (.iconst 0, 1) := by decide +kernel
theorem dX7_sumOf_1 : decode cX7_sumOf 1 = .ok (.istore_n 2, 1) := by decide +kernel
theorem dX7_sumOf_2 : decode cX7_sumOf 2 = .ok (.iconst 0, 1) := by decide +kernel
theorem dX7_sumOf_3 : decode cX7_sumOf 3 = .ok (.istore_n 3, 1) := by decide +kernel
theorem dX7_sumOf_4 : decode cX7_sumOf 4 = .ok (.iload_n 3, 1) := by decide +kernel
theorem dX7_sumOf_5 : decode cX7_sumOf 5 = .ok (.aload_n 0, 1) := by decide +kernel
theorem dX7_sumOf_6 : decode cX7_sumOf 6 = .ok (.getfield 7, 3) := by decide +kernel
theorem dX7_sumOf_9 : decode cX7_sumOf 9 = .ok (.bipush 8, 2) := by decide +kernel
theorem dX7_sumOf_11 : decode cX7_sumOf 11 = .ok (.iaload, 1) := by decide +kernel
theorem dX7_sumOf_12 : decode cX7_sumOf 12 = .ok (.if_icmp .ge 18, 3) := by decide +kernel
theorem dX7_sumOf_15 : decode cX7_sumOf 15 = .ok (.iload_n 2, 1) := by decide +kernel
theorem dX7_sumOf_16 : decode cX7_sumOf 16 = .ok (.aload_n 0, 1) := by decide +kernel
theorem dX7_sumOf_17 : decode cX7_sumOf 17 = .ok (.iload_n 3, 1) := by decide +kernel
theorem dX7_sumOf_18 : decode cX7_sumOf 18 = .ok (.iload_n 1, 1) := by decide +kernel
theorem dX7_sumOf_19 : decode cX7_sumOf 19 = .ok (.invokevirtual 69, 3) := by decide +kernel
theorem dX7_sumOf_22 : decode cX7_sumOf 22 = .ok (.iadd, 1) := by decide +kernel
theorem dX7_sumOf_23 : decode cX7_sumOf 23 = .ok (.istore_n 2, 1) := by decide +kernel
theorem dX7_sumOf_24 : decode cX7_sumOf 24 = .ok (.iinc 3 1, 3) := by decide +kernel
theorem dX7_sumOf_27 : decode cX7_sumOf 27 = .ok (.goto (-23), 3) := by decide +kernel
theorem dX7_sumOf_30 : decode cX7_sumOf 30 = .ok (.iload_n 2, 1) := by decide +kernel
theorem dX7_sumOf_31 : decode cX7_sumOf 31 = .ok (.ireturn, 1) := by decide +kernel
theorem dX7_hours_0 : decode cX7_hours 0 = .ok (.iload_n 1, 1) := by decide +kernel
theorem dX7_hours_1 : decode cX7_hours 1 = .ok (.iconst 1, 1) := by decide +kernel
theorem dX7_hours_2 : decode cX7_hours 2 = .ok (.bipush 100, 2) := by decide +kernel
theorem dX7_hours_4 : decode cX7_hours 4 = .ok (.invokestatic 45, 3) := by decide +kernel
theorem dX7_hours_7 : decode cX7_hours 7 = .ok (.ifCond .ne 10, 3) := by decide +kernel
theorem dX7_hours_10 : decode cX7_hours 10 = .ok (.aload_n 0, 1) := by decide +kernel
theorem dX7_hours_11 : decode cX7_hours 11 = .ok (.ldc 44, 2) := by decide +kernel
theorem dX7_hours_13 : decode cX7_hours 13 = .ok (.invokevirtual 53, 3) := by decide +kernel
theorem dX7_hours_16 : decode cX7_hours 16 = .ok (.ireturn, 1) := by decide +kernel
theorem dX7_hours_17 : decode cX7_hours 17 = .ok (.aload_n 0, 1) := by decide +kernel
theorem dX7_hours_18 : decode cX7_hours 18 = .ok (.getfield 7, 3) := by decide +kernel
theorem dX7_hours_21 : decode cX7_hours 21 = .ok (.iconst 5, 1) := by decide +kernel
theorem dX7_hours_22 : decode cX7_hours 22 = .ok (.iaload, 1) := by decide +kernel
theorem dX7_hours_23 : decode cX7_hours 23 = .ok (.iload_n 1, 1) := by decide +kernel
theorem dX7_hours_24 : decode cX7_hours 24 = .ok (.iadd, 1) := by decide +kernel
theorem dX7_hours_25 : decode cX7_hours 25 = .ok (.sipush 9999, 3) := by decide +kernel
theorem dX7_hours_28 : decode cX7_hours 28 = .ok (.if_icmp .le 10, 3) := by decide +kernel
theorem dX7_hours_31 : decode cX7_hours 31 = .ok (.aload_n 0, 1) := by decide +kernel
theorem dX7_hours_32 : decode cX7_hours 32 = .ok (.ldc 115, 2) := by decide +kernel
theorem dX7_hours_34 : decode cX7_hours 34 = .ok (.invokevirtual 53, 3) := by decide +kernel
theorem dX7_hours_37 : decode cX7_hours 37 = .ok (.ireturn, 1) := by decide +kernel
theorem dX7_hours_38 : decode cX7_hours 38 = .ok (.aload_n 0, 1) := by decide +kernel
theorem dX7_hours_39 : decode cX7_hours 39 = .ok (.iload_n 1, 1) := by decide +kernel
theorem dX7_hours_40 : decode cX7_hours 40 = .ok (.invokevirtual 116, 3) := by decide +kernel
theorem dX7_hours_43 : decode cX7_hours 43 = .ok (.aload_n 0, 1) := by decide +kernel
theorem dX7_hours_44 : decode cX7_hours 44 = .ok (.iconst 5, 1) := by decide +kernel
theorem dX7_hours_45 : decode cX7_hours 45 = .ok (.invokevirtual 119, 3) := by decide +kernel
theorem dX7_hours_48 : decode cX7_hours 48 = .ok (.ireturn, 1) := by decide +kernel
theorem dX7_days_0 : decode cX7_days 0 = .ok (.iload_n 1, 1) := by decide +kernel
theorem dX7_days_1 : decode cX7_days 1 = .ok (.iconst 1, 1) := by decide +kernel
theorem dX7_days_2 : decode cX7_days 2 = .ok (.iconst 4, 1) := by decide +kernel
theorem dX7_days_3 : decode cX7_days 3 = .ok (.invokestatic 45, 3) := by decide +kernel
theorem dX7_days_6 : decode cX7_days 6 = .ok (.ifCond .ne 10, 3) := by decide +kernel
theorem dX7_days_9 : decode cX7_days 9 = .ok (.aload_n 0, 1) := by decide +kernel
theorem dX7_days_10 : decode cX7_days 10 = .ok (.ldc 44, 2) := by decide +kernel
theorem dX7_days_12 : decode cX7_days 12 = .ok (.invokevirtual 53, 3) := by decide +kernel
theorem dX7_days_15 : decode cX7_days 15 = .ok (.ireturn, 1) := by decide +kernel
theorem dX7_days_16 : decode cX7_days 16 = .ok (.aload_n 0, 1) := by decide +kernel
theorem dX7_days_17 : decode cX7_days 17 = .ok (.getfield 7, 3) := by decide +kernel
theorem dX7_days_20 : decode cX7_days 20 = .ok (.iconst 5, 1) := by decide +kernel
theorem dX7_days_21 : decode cX7_days 21 = .ok (.iaload, 1) := by decide +kernel
theorem dX7_days_22 : decode cX7_days 22 = .ok (.bipush 24, 2) := by decide +kernel
theorem dX7_days_24 : decode cX7_days 24 = .ok (.iload_n 1, 1) := by decide +kernel
theorem dX7_days_25 : decode cX7_days 25 = .ok (.imul, 1) := by decide +kernel
theorem dX7_days_26 : decode cX7_days 26 = .ok (.iadd, 1) := by decide +kernel
theorem dX7_days_27 : decode cX7_days 27 = .ok (.sipush 9999, 3) := by decide +kernel
theorem dX7_days_30 : decode cX7_days 30 = .ok (.if_icmp .le 10, 3) := by decide +kernel
theorem dX7_days_33 : decode cX7_days 33 = .ok (.aload_n 0, 1) := by decide +kernel
theorem dX7_days_34 : decode cX7_days 34 = .ok (.ldc 115, 2) := by decide +kernel
theorem dX7_days_36 : decode cX7_days 36 = .ok (.invokevirtual 53, 3) := by decide +kernel
theorem dX7_days_39 : decode cX7_days 39 = .ok (.ireturn, 1) := by decide +kernel
theorem dX7_days_40 : decode cX7_days 40 = .ok (.iconst 0, 1) := by decide +kernel
theorem dX7_days_41 : decode cX7_days 41 = .ok (.istore_n 2, 1) := by decide +kernel
theorem dX7_days_42 : decode cX7_days 42 = .ok (.iload_n 2, 1) := by decide +kernel
theorem dX7_days_43 : decode cX7_days 43 = .ok (.iload_n 1, 1) := by decide +kernel
theorem dX7_days_44 : decode cX7_days 44 = .ok (.if_icmp .ge 56, 3) := by decide +kernel
theorem dX7_days_47 : decode cX7_days 47 = .ok (.aload_n 0, 1) := by decide +kernel
theorem dX7_days_48 : decode cX7_days 48 = .ok (.getfield 7, 3) := by decide +kernel
theorem dX7_days_51 : decode cX7_days 51 = .ok (.bipush 7, 2) := by decide +kernel
theorem dX7_days_53 : decode cX7_days 53 = .ok (.aload_n 0, 1) := by decide +kernel
theorem dX7_days_54 : decode cX7_days 54 = .ok (.getfield 7, 3) := by decide +kernel
theorem dX7_days_57 : decode cX7_days 57 = .ok (.bipush 7, 2) := by decide +kernel
theorem dX7_days_59 : decode cX7_days 59 = .ok (.iaload, 1) := by decide +kernel
theorem dX7_days_60 : decode cX7_days 60 = .ok (.ldc 122, 2) := by decide +kernel
theorem dX7_days_62 : decode cX7_days 62 = .ok (.imul, 1) := by decide +kernel
theorem dX7_days_63 : decode cX7_days 63 = .ok (.sipush 12345, 3) := by decide +kernel
theorem dX7_days_66 : decode cX7_days 66 = .ok (.iadd, 1) := by decide +kernel
theorem dX7_days_67 : decode cX7_days 67 = .ok (.iastore, 1) := by decide +kernel
theorem dX7_days_68 : decode cX7_days 68 = .ok (.aload_n 0, 1) := by decide +kernel
theorem dX7_days_69 : decode cX7_days 69 = .ok (.getfield 7, 3) := by decide +kernel
theorem dX7_days_72 : decode cX7_days 72 = .ok (.iconst 2, 1) := by decide +kernel
theorem dX7_days_73 : decode cX7_days 73 = .ok (.aload_n 0, 1) := by decide +kernel
theorem dX7_days_74 : decode cX7_days 74 = .ok (.getfield 7, 3) := by decide +kernel
theorem dX7_days_77 : decode cX7_days 77 = .ok (.bipush 7, 2) := by decide +kernel
theorem dX7_days_79 : decode cX7_days 79 = .ok (.iaload, 1) := by decide +kernel
theorem dX7_days_80 : decode cX7_days 80 = .ok (.bipush 8, 2) := by decide +kernel
theorem dX7_days_82 : decode cX7_days 82 = .ok (.iushr, 1) := by decide +kernel
theorem dX7_days_83 : decode cX7_days 83 = .ok (.iconst 3, 1) := by decide +kernel
theorem dX7_days_84 : decode cX7_days 84 = .ok (.irem, 1) := by decide +kernel
theorem dX7_days_85 : decode cX7_days 85 = .ok (.iconst 1, 1) := by decide +kernel
theorem dX7_days_86 : decode cX7_days 86 = .ok (.isub, 1) := by decide +kernel
theorem dX7_days_87 : decode cX7_days 87 = .ok (.iastore, 1) := by decide +kernel
theorem dX7_days_88 : decode cX7_days 88 = .ok (.aload_n 0, 1) := by decide +kernel
theorem dX7_days_89 : decode cX7_days 89 = .ok (.bipush 24, 2) := by decide +kernel
theorem dX7_days_91 : decode cX7_days 91 = .ok (.invokevirtual 116, 3) := by decide +kernel
theorem dX7_days_94 : decode cX7_days 94 = .ok (.iinc 2 1, 3) := by decide +kernel
theorem dX7_days_97 : decode cX7_days 97 = .ok (.goto (-55), 3) := by decide +kernel
theorem dX7_days_100 : decode cX7_days 100 = .ok (.aload_n 0, 1) := by decide +kernel
theorem dX7_days_101 : decode cX7_days 101 = .ok (.iconst 5, 1) := by decide +kernel
theorem dX7_days_102 : decode cX7_days 102 = .ok (.invokevirtual 119, 3) := by decide +kernel
theorem dX7_days_105 : decode cX7_days 105 = .ok (.ireturn, 1) := by decide +kernel
theorem dX7_seed_0 : decode cX7_seed 0 = .ok (.aload_n 0, 1) := by decide +kernel
theorem dX7_seed_1 : decode cX7_seed 1 = .ok (.getfield 7, 3) := by decide +kernel
theorem dX7_seed_4 : decode cX7_seed 4 = .ok (.bipush 7, 2) := by decide +kernel
theorem dX7_seed_6 : decode cX7_seed 6 = .ok (.iaload, 1) := by decide +kernel
theorem dX7_seed_7 : decode cX7_seed 7 = .ok (.istore_n 2, 1) := by decide +kernel
theorem dX7_seed_8 : decode cX7_seed 8 = .ok (.aload_n 0, 1) := by decide +kernel
theorem dX7_seed_9 : decode cX7_seed 9 = .ok (.getfield 7, 3) := by decide +kernel
theorem dX7_seed_12 : decode cX7_seed 12 = .ok (.bipush 7, 2) := by decide +kernel
theorem dX7_seed_14 : decode cX7_seed 14 = .ok (.iload_n 1, 1) := by decide +kernel
theorem dX7_seed_15 : decode cX7_seed 15 = .ok (.iastore, 1) := by decide +kernel
theorem dX7_seed_16 : decode cX7_seed 16 = .ok (.iload_n 2, 1) := by decide +kernel
theorem dX7_seed_17 : decode cX7_seed 17 = .ok (.ireturn, 1) := by decide +kernel
theorem dX7_paidOnes_0 : decode cX7_paidOnes 0 = .ok (.iconst 0, 1) := by decide +kernel
theorem dX7_paidOnes_1 : decode cX7_paidOnes 1 = .ok (.istore_n 1, 1) := by decide +kernel
theorem dX7_paidOnes_2 : decode cX7_paidOnes 2 = .ok (.iconst 0, 1) := by decide +kernel
theorem dX7_paidOnes_3 : decode cX7_paidOnes 3 = .ok (.istore_n 2, 1) := by decide +kernel
theorem dX7_paidOnes_4 : decode cX7_paidOnes 4 = .ok (.iload_n 2, 1) := by decide +kernel
theorem dX7_paidOnes_5 : decode cX7_paidOnes 5 = .ok (.aload_n 0, 1) := by decide +kernel
theorem dX7_paidOnes_6 : decode cX7_paidOnes 6 = .ok (.getfield 7, 3) := by decide +kernel
theorem dX7_paidOnes_9 : decode cX7_paidOnes 9 = .ok (.bipush 8, 2) := by decide +kernel
theorem dX7_paidOnes_11 : decode cX7_paidOnes 11 = .ok (.iaload, 1) := by decide +kernel
theorem dX7_paidOnes_12 : decode cX7_paidOnes 12 = .ok (.if_icmp .ge 27, 3) := by decide +kernel
theorem dX7_paidOnes_15 : decode cX7_paidOnes 15 = .ok (.iload_n 1, 1) := by decide +kernel
theorem dX7_paidOnes_16 : decode cX7_paidOnes 16 = .ok (.aload_n 0, 1) := by decide +kernel
theorem dX7_paidOnes_17 : decode cX7_paidOnes 17 = .ok (.iload_n 2, 1) := by decide +kernel
theorem dX7_paidOnes_18 : decode cX7_paidOnes 18 = .ok (.invokevirtual 84, 3) := by decide +kernel
theorem dX7_paidOnes_21 : decode cX7_paidOnes 21 = .ok (.ifCond .eq 9, 3) := by decide +kernel
theorem dX7_paidOnes_24 : decode cX7_paidOnes 24 = .ok (.iconst 1, 1) := by decide +kernel
theorem dX7_paidOnes_25 : decode cX7_paidOnes 25 = .ok (.iload_n 2, 1) := by decide +kernel
theorem dX7_paidOnes_26 : decode cX7_paidOnes 26 = .ok (.ishl, 1) := by decide +kernel
theorem dX7_paidOnes_27 : decode cX7_paidOnes 27 = .ok (.goto 4, 3) := by decide +kernel
theorem dX7_paidOnes_30 : decode cX7_paidOnes 30 = .ok (.iconst 0, 1) := by decide +kernel
theorem dX7_paidOnes_31 : decode cX7_paidOnes 31 = .ok (.ior, 1) := by decide +kernel
theorem dX7_paidOnes_32 : decode cX7_paidOnes 32 = .ok (.istore_n 1, 1) := by decide +kernel
theorem dX7_paidOnes_33 : decode cX7_paidOnes 33 = .ok (.iinc 2 1, 3) := by decide +kernel
theorem dX7_paidOnes_36 : decode cX7_paidOnes 36 = .ok (.goto (-32), 3) := by decide +kernel
theorem dX7_paidOnes_39 : decode cX7_paidOnes 39 = .ok (.iload_n 1, 1) := by decide +kernel
theorem dX7_paidOnes_40 : decode cX7_paidOnes 40 = .ok (.ireturn, 1) := by decide +kernel
theorem dX7_now_0 : decode cX7_now 0 = .ok (.iload_n 1, 1) := by decide +kernel
theorem dX7_now_1 : decode cX7_now 1 = .ok (.tableswitch 77 0 5 #[39, 46, 51, 57, 64, 72], 39) := by decide +kernel
theorem dX7_now_40 : decode cX7_now 40 = .ok (.aload_n 0, 1) := by decide +kernel
theorem dX7_now_41 : decode cX7_now 41 = .ok (.getfield 7, 3) := by decide +kernel
theorem dX7_now_44 : decode cX7_now 44 = .ok (.iconst 5, 1) := by decide +kernel
theorem dX7_now_45 : decode cX7_now 45 = .ok (.iaload, 1) := by decide +kernel
theorem dX7_now_46 : decode cX7_now 46 = .ok (.ireturn, 1) := by decide +kernel
theorem dX7_now_47 : decode cX7_now 47 = .ok (.aload_n 0, 1) := by decide +kernel
theorem dX7_now_48 : decode cX7_now 48 = .ok (.invokevirtual 77, 3) := by decide +kernel
theorem dX7_now_51 : decode cX7_now 51 = .ok (.ireturn, 1) := by decide +kernel
theorem dX7_now_52 : decode cX7_now 52 = .ok (.aload_n 0, 1) := by decide +kernel
theorem dX7_now_53 : decode cX7_now 53 = .ok (.iconst 5, 1) := by decide +kernel
theorem dX7_now_54 : decode cX7_now 54 = .ok (.invokevirtual 119, 3) := by decide +kernel
theorem dX7_now_57 : decode cX7_now 57 = .ok (.ireturn, 1) := by decide +kernel
theorem dX7_now_58 : decode cX7_now 58 = .ok (.aload_n 0, 1) := by decide +kernel
theorem dX7_now_59 : decode cX7_now 59 = .ok (.bipush 6, 2) := by decide +kernel
theorem dX7_now_61 : decode cX7_now 61 = .ok (.invokevirtual 119, 3) := by decide +kernel
theorem dX7_now_64 : decode cX7_now 64 = .ok (.ireturn, 1) := by decide +kernel
theorem dX7_now_65 : decode cX7_now 65 = .ok (.aload_n 0, 1) := by decide +kernel
theorem dX7_now_66 : decode cX7_now 66 = .ok (.getfield 7, 3) := by decide +kernel
theorem dX7_now_69 : decode cX7_now 69 = .ok (.bipush 6, 2) := by decide +kernel
theorem dX7_now_71 : decode cX7_now 71 = .ok (.iaload, 1) := by decide +kernel
theorem dX7_now_72 : decode cX7_now 72 = .ok (.ireturn, 1) := by decide +kernel
theorem dX7_now_73 : decode cX7_now 73 = .ok (.aload_n 0, 1) := by decide +kernel
theorem dX7_now_74 : decode cX7_now 74 = .ok (.invokevirtual 123, 3) := by decide +kernel
theorem dX7_now_77 : decode cX7_now 77 = .ok (.ireturn, 1) := by decide +kernel
theorem dX7_now_78 : decode cX7_now 78 = .ok (.aload_n 0, 1) := by decide +kernel
theorem dX7_now_79 : decode cX7_now 79 = .ok (.ldc 44, 2) := by decide +kernel
theorem dX7_now_81 : decode cX7_now 81 = .ok (.invokevirtual 53, 3) := by decide +kernel
theorem dX7_now_84 : decode cX7_now 84 = .ok (.ireturn, 1) := by decide +kernel
theorem dX7_onOf_0 : decode cX7_onOf 0 = .ok (.aload_n 0, 1) := by decide +kernel
theorem dX7_onOf_1 : decode cX7_onOf 1 = .ok (.iconst 1, 1) := by decide +kernel
theorem dX7_onOf_2 : decode cX7_onOf 2 = .ok (.aload_n 0, 1) := by decide +kernel
theorem dX7_onOf_3 : decode cX7_onOf 3 = .ok (.getfield 16, 3) := by decide +kernel
theorem dX7_onOf_6 : decode cX7_onOf 6 = .ok (.invokevirtual 126, 3) := by decide +kernel
theorem dX7_onOf_9 : decode cX7_onOf 9 = .ok (.aload_n 0, 1) := by decide +kernel
theorem dX7_onOf_10 : decode cX7_onOf 10 = .ok (.iload_n 2, 1) := by decide +kernel
theorem dX7_onOf_11 : decode cX7_onOf 11 = .ok (.invokevirtual 116, 3) := by decide +kernel
theorem dX7_onOf_14 : decode cX7_onOf 14 = .ok (.aload_n 0, 1) := by decide +kernel
theorem dX7_onOf_15 : decode cX7_onOf 15 = .ok (.iload_n 1, 1) := by decide +kernel
theorem dX7_onOf_16 : decode cX7_onOf 16 = .ok (.iload_n 3, 1) := by decide +kernel
theorem dX7_onOf_17 : decode cX7_onOf 17 = .ok (.invokevirtual 69, 3) := by decide +kernel
theorem dX7_onOf_20 : decode cX7_onOf 20 = .ok (.istore 4, 2) := by decide +kernel
theorem dX7_onOf_22 : decode cX7_onOf 22 = .ok (.aload_n 0, 1) := by decide +kernel
theorem dX7_onOf_23 : decode cX7_onOf 23 = .ok (.iconst 0, 1) := by decide +kernel
theorem dX7_onOf_24 : decode cX7_onOf 24 = .ok (.aload_n 0, 1) := by decide +kernel
theorem dX7_onOf_25 : decode cX7_onOf 25 = .ok (.getfield 16, 3) := by decide +kernel
theorem dX7_onOf_28 : decode cX7_onOf 28 = .ok (.invokevirtual 126, 3) := by decide +kernel
theorem dX7_onOf_31 : decode cX7_onOf 31 = .ok (.iload 4, 2) := by decide +kernel
theorem dX7_onOf_33 : decode cX7_onOf 33 = .ok (.ireturn, 1) := by decide +kernel
theorem dX7_on_0 : decode cX7_on 0 = .ok (.aload_n 0, 1) := by decide +kernel
theorem dX7_on_1 : decode cX7_on 1 = .ok (.iload_n 1, 1) := by decide +kernel
theorem dX7_on_2 : decode cX7_on 2 = .ok (.invokevirtual 87, 3) := by decide +kernel
theorem dX7_on_5 : decode cX7_on 5 = .ok (.ifCond .eq 22, 3) := by decide +kernel
theorem dX7_on_8 : decode cX7_on 8 = .ok (.iload_n 2, 1) := by decide +kernel
theorem dX7_on_9 : decode cX7_on 9 = .ok (.iconst 0, 1) := by decide +kernel
theorem dX7_on_10 : decode cX7_on 10 = .ok (.bipush 100, 2) := by decide +kernel
theorem dX7_on_12 : decode cX7_on 12 = .ok (.invokestatic 45, 3) := by decide +kernel
theorem dX7_on_15 : decode cX7_on 15 = .ok (.ifCond .eq 12, 3) := by decide +kernel
theorem dX7_on_18 : decode cX7_on 18 = .ok (.iload_n 3, 1) := by decide +kernel
theorem dX7_on_19 : decode cX7_on 19 = .ok (.iconst 0, 1) := by decide +kernel
theorem dX7_on_20 : decode cX7_on 20 = .ok (.iconst 1, 1) := by decide +kernel
theorem dX7_on_21 : decode cX7_on 21 = .ok (.invokestatic 45, 3) := by decide +kernel
theorem dX7_on_24 : decode cX7_on 24 = .ok (.ifCond .ne 10, 3) := by decide +kernel
theorem dX7_on_27 : decode cX7_on 27 = .ok (.aload_n 0, 1) := by decide +kernel
theorem dX7_on_28 : decode cX7_on 28 = .ok (.ldc 44, 2) := by decide +kernel
theorem dX7_on_30 : decode cX7_on 30 = .ok (.invokevirtual 53, 3) := by decide +kernel
theorem dX7_on_33 : decode cX7_on 33 = .ok (.ireturn, 1) := by decide +kernel
theorem dX7_on_34 : decode cX7_on 34 = .ok (.aload_n 0, 1) := by decide +kernel
theorem dX7_on_35 : decode cX7_on 35 = .ok (.iload_n 1, 1) := by decide +kernel
theorem dX7_on_36 : decode cX7_on 36 = .ok (.iload_n 2, 1) := by decide +kernel
theorem dX7_on_37 : decode cX7_on 37 = .ok (.iload_n 3, 1) := by decide +kernel
theorem dX7_on_38 : decode cX7_on 38 = .ok (.ifCond .ne 7, 3) := by decide +kernel
theorem dX7_on_41 : decode cX7_on 41 = .ok (.iconst 5, 1) := by decide +kernel
theorem dX7_on_42 : decode cX7_on 42 = .ok (.goto 5, 3) := by decide +kernel
theorem dX7_on_45 : decode cX7_on 45 = .ok (.bipush 6, 2) := by decide +kernel
theorem dX7_on_47 : decode cX7_on 47 = .ok (.invokevirtual 130, 3) := by decide +kernel
theorem dX7_on_50 : decode cX7_on 50 = .ok (.ireturn, 1) := by decide +kernel
theorem dX7_findNext_0 : decode cX7_findNext 0 = .ok (.aload_n 0, 1) := by decide +kernel
theorem dX7_findNext_1 : decode cX7_findNext 1 = .ok (.iconst 1, 1) := by decide +kernel
theorem dX7_findNext_2 : decode cX7_findNext 2 = .ok (.aload_n 0, 1) := by decide +kernel
theorem dX7_findNext_3 : decode cX7_findNext 3 = .ok (.getfield 16, 3) := by decide +kernel
theorem dX7_findNext_6 : decode cX7_findNext 6 = .ok (.invokevirtual 126, 3) := by decide +kernel
theorem dX7_findNext_9 : decode cX7_findNext 9 = .ok (.aload_n 0, 1) := by decide +kernel
theorem dX7_findNext_10 : decode cX7_findNext 10 = .ok (.iconst 0, 1) := by decide +kernel
theorem dX7_findNext_11 : decode cX7_findNext 11 = .ok (.putfield 133, 3) := by decide +kernel
theorem dX7_findNext_14 : decode cX7_findNext 14 = .ok (.aload_n 0, 1) := by decide +kernel
theorem dX7_findNext_15 : decode cX7_findNext 15 = .ok (.getfield 133, 3) := by decide +kernel
theorem dX7_findNext_18 : decode cX7_findNext 18 = .ok (.bipush 100, 2) := by decide +kernel
theorem dX7_findNext_20 : decode cX7_findNext 20 = .ok (.if_icmp .ge 27, 3) := by decide +kernel
theorem dX7_findNext_23 : decode cX7_findNext 23 = .ok (.aload_n 0, 1) := by decide +kernel
theorem dX7_findNext_24 : decode cX7_findNext 24 = .ok (.invokevirtual 105, 3) := by decide +kernel
theorem dX7_findNext_27 : decode cX7_findNext 27 = .ok (.ifCond .ne 20, 3) := by decide +kernel
theorem dX7_findNext_30 : decode cX7_findNext 30 = .ok (.aload_n 0, 1) := by decide +kernel
theorem dX7_findNext_31 : decode cX7_findNext 31 = .ok (.invokevirtual 112, 3) := by decide +kernel
theorem dX7_findNext_34 : decode cX7_findNext 34 = .ok (.aload_n 0, 1) := by decide +kernel
theorem dX7_findNext_35 : decode cX7_findNext 35 = .ok (.dup, 1) := by decide +kernel
theorem dX7_findNext_36 : decode cX7_findNext 36 = .ok (.getfield 133, 3) := by decide +kernel
theorem dX7_findNext_39 : decode cX7_findNext 39 = .ok (.iconst 1, 1) := by decide +kernel
theorem dX7_findNext_40 : decode cX7_findNext 40 = .ok (.iadd, 1) := by decide +kernel
theorem dX7_findNext_41 : decode cX7_findNext 41 = .ok (.putfield 133, 3) := by decide +kernel
theorem dX7_findNext_44 : decode cX7_findNext 44 = .ok (.goto (-30), 3) := by decide +kernel
theorem dX7_findNext_47 : decode cX7_findNext 47 = .ok (.aload_n 0, 1) := by decide +kernel
theorem dX7_findNext_48 : decode cX7_findNext 48 = .ok (.aload_n 0, 1) := by decide +kernel
theorem dX7_findNext_49 : decode cX7_findNext 49 = .ok (.aload_n 0, 1) := by decide +kernel
theorem dX7_findNext_50 : decode cX7_findNext 50 = .ok (.getfield 7, 3) := by decide +kernel
theorem dX7_findNext_53 : decode cX7_findNext 53 = .ok (.iconst 0, 1) := by decide +kernel
theorem dX7_findNext_54 : decode cX7_findNext 54 = .ok (.iaload, 1) := by decide +kernel
theorem dX7_findNext_55 : decode cX7_findNext 55 = .ok (.invokevirtual 101, 3) := by decide +kernel
theorem dX7_findNext_58 : decode cX7_findNext 58 = .ok (.putfield 137, 3) := by decide +kernel
theorem dX7_findNext_61 : decode cX7_findNext 61 = .ok (.aload_n 0, 1) := by decide +kernel
theorem dX7_findNext_62 : decode cX7_findNext 62 = .ok (.aload_n 0, 1) := by decide +kernel
theorem dX7_findNext_63 : decode cX7_findNext 63 = .ok (.getfield 7, 3) := by decide +kernel
theorem dX7_findNext_66 : decode cX7_findNext 66 = .ok (.iconst 1, 1) := by decide +kernel
theorem dX7_findNext_67 : decode cX7_findNext 67 = .ok (.iaload, 1) := by decide +kernel
theorem dX7_findNext_68 : decode cX7_findNext 68 = .ok (.putfield 140, 3) := by decide +kernel
theorem dX7_findNext_71 : decode cX7_findNext 71 = .ok (.aload_n 0, 1) := by decide +kernel
theorem dX7_findNext_72 : decode cX7_findNext 72 = .ok (.aload_n 0, 1) := by decide +kernel
theorem dX7_findNext_73 : decode cX7_findNext 73 = .ok (.getfield 7, 3) := by decide +kernel
theorem dX7_findNext_76 : decode cX7_findNext 76 = .ok (.iconst 0, 1) := by decide +kernel
theorem dX7_findNext_77 : decode cX7_findNext 77 = .ok (.iaload, 1) := by decide +kernel
theorem dX7_findNext_78 : decode cX7_findNext 78 = .ok (.putfield 143, 3) := by decide +kernel
theorem dX7_findNext_81 : decode cX7_findNext 81 = .ok (.aload_n 0, 1) := by decide +kernel
theorem dX7_findNext_82 : decode cX7_findNext 82 = .ok (.iconst 0, 1) := by decide +kernel
theorem dX7_findNext_83 : decode cX7_findNext 83 = .ok (.aload_n 0, 1) := by decide +kernel
theorem dX7_findNext_84 : decode cX7_findNext 84 = .ok (.getfield 16, 3) := by decide +kernel
theorem dX7_findNext_87 : decode cX7_findNext 87 = .ok (.invokevirtual 126, 3) := by decide +kernel
theorem dX7_findNext_90 : decode cX7_findNext 90 = .ok (.aload_n 0, 1) := by decide +kernel
theorem dX7_findNext_91 : decode cX7_findNext 91 = .ok (.getfield 133, 3) := by decide +kernel
theorem dX7_findNext_94 : decode cX7_findNext 94 = .ok (.bipush 100, 2) := by decide +kernel
theorem dX7_findNext_96 : decode cX7_findNext 96 = .ok (.if_icmp .ge 7, 3) := by decide +kernel
theorem dX7_findNext_99 : decode cX7_findNext 99 = .ok (.iconst 1, 1) := by decide +kernel
theorem dX7_findNext_100 : decode cX7_findNext 100 = .ok (.goto 4, 3) := by decide +kernel
theorem dX7_findNext_103 : decode cX7_findNext 103 = .ok (.iconst 0, 1) := by decide +kernel
theorem dX7_findNext_104 : decode cX7_findNext 104 = .ok (.ireturn, 1) := by decide +kernel
theorem dX7_next_0 : decode cX7_next 0 = .ok (.iload_n 1, 1) := by decide +kernel
theorem dX7_next_1 : decode cX7_next 1 = .ok (.iconst 0, 1) := by decide +kernel
theorem dX7_next_2 : decode cX7_next 2 = .ok (.iconst 3, 1) := by decide +kernel
theorem dX7_next_3 : decode cX7_next 3 = .ok (.invokestatic 45, 3) := by decide +kernel
theorem dX7_next_6 : decode cX7_next 6 = .ok (.ifCond .ne 10, 3) := by decide +kernel
theorem dX7_next_9 : decode cX7_next 9 = .ok (.aload_n 0, 1) := by decide +kernel
theorem dX7_next_10 : decode cX7_next 10 = .ok (.ldc 44, 2) := by decide +kernel
theorem dX7_next_12 : decode cX7_next 12 = .ok (.invokevirtual 53, 3) := by decide +kernel
theorem dX7_next_15 : decode cX7_next 15 = .ok (.ireturn, 1) := by decide +kernel
theorem dX7_next_16 : decode cX7_next 16 = .ok (.aload_n 0, 1) := by decide +kernel
theorem dX7_next_17 : decode cX7_next 17 = .ok (.invokevirtual 146, 3) := by decide +kernel
theorem dX7_next_20 : decode cX7_next 20 = .ok (.ifCond .ne 10, 3) := by decide +kernel
theorem dX7_next_23 : decode cX7_next 23 = .ok (.aload_n 0, 1) := by decide +kernel
theorem dX7_next_24 : decode cX7_next 24 = .ok (.ldc 149, 2) := by decide +kernel
theorem dX7_next_26 : decode cX7_next 26 = .ok (.invokevirtual 53, 3) := by decide +kernel
theorem dX7_next_29 : decode cX7_next 29 = .ok (.ireturn, 1) := by decide +kernel
theorem dX7_next_30 : decode cX7_next 30 = .ok (.iload_n 1, 1) := by decide +kernel
theorem dX7_next_31 : decode cX7_next 31 = .ok (.ifCond .ne 10, 3) := by decide +kernel
theorem dX7_next_34 : decode cX7_next 34 = .ok (.aload_n 0, 1) := by decide +kernel
theorem dX7_next_35 : decode cX7_next 35 = .ok (.getfield 133, 3) := by decide +kernel
theorem dX7_next_38 : decode cX7_next 38 = .ok (.goto 31, 3) := by decide +kernel
theorem dX7_next_41 : decode cX7_next 41 = .ok (.iload_n 1, 1) := by decide +kernel
theorem dX7_next_42 : decode cX7_next 42 = .ok (.iconst 1, 1) := by decide +kernel
theorem dX7_next_43 : decode cX7_next 43 = .ok (.if_icmp .ne 10, 3) := by decide +kernel
theorem dX7_next_46 : decode cX7_next 46 = .ok (.aload_n 0, 1) := by decide +kernel
theorem dX7_next_47 : decode cX7_next 47 = .ok (.getfield 137, 3) := by decide +kernel
theorem dX7_next_50 : decode cX7_next 50 = .ok (.goto 19, 3) := by decide +kernel
theorem dX7_next_53 : decode cX7_next 53 = .ok (.iload_n 1, 1) := by decide +kernel
theorem dX7_next_54 : decode cX7_next 54 = .ok (.iconst 2, 1) := by decide +kernel
theorem dX7_next_55 : decode cX7_next 55 = .ok (.if_icmp .ne 10, 3) := by decide +kernel
theorem dX7_next_58 : decode cX7_next 58 = .ok (.aload_n 0, 1) := by decide +kernel
theorem dX7_next_59 : decode cX7_next 59 = .ok (.getfield 140, 3) := by decide +kernel
theorem dX7_next_62 : decode cX7_next 62 = .ok (.goto 7, 3) := by decide +kernel
theorem dX7_next_65 : decode cX7_next 65 = .ok (.aload_n 0, 1) := by decide +kernel
theorem dX7_next_66 : decode cX7_next 66 = .ok (.getfield 143, 3) := by decide +kernel
theorem dX7_next_69 : decode cX7_next 69 = .ok (.ireturn, 1) := by decide +kernel
theorem dX7_struck_0 : decode cX7_struck 0 = .ok (.iload_n 1, 1) := by decide +kernel
theorem dX7_struck_1 : decode cX7_struck 1 = .ok (.invokestatic 49, 3) := by decide +kernel
theorem dX7_struck_4 : decode cX7_struck 4 = .ok (.ifCond .eq 11, 3) := by decide +kernel
theorem dX7_struck_7 : decode cX7_struck 7 = .ok (.aload_n 0, 1) := by decide +kernel
theorem dX7_struck_8 : decode cX7_struck 8 = .ok (.iload_n 1, 1) := by decide +kernel
theorem dX7_struck_9 : decode cX7_struck 9 = .ok (.invokevirtual 101, 3) := by decide +kernel
theorem dX7_struck_12 : decode cX7_struck 12 = .ok (.goto 9, 3) := by decide +kernel
theorem dX7_struck_15 : decode cX7_struck 15 = .ok (.aload_n 0, 1) := by decide +kernel
theorem dX7_struck_16 : decode cX7_struck 16 = .ok (.ldc 44, 2) := by decide +kernel
theorem dX7_struck_18 : decode cX7_struck 18 = .ok (.invokevirtual 53, 3) := by decide +kernel
theorem dX7_struck_21 : decode cX7_struck 21 = .ok (.ireturn, 1) := by decide +kernel
theorem dX7_reach_0 : decode cX7_reach 0 = .ok (.aload_n 0, 1) := by decide +kernel
theorem dX7_reach_1 : decode cX7_reach 1 = .ok (.iload_n 1, 1) := by decide +kernel
theorem dX7_reach_2 : decode cX7_reach 2 = .ok (.invokevirtual 87, 3) := by decide +kernel
theorem dX7_reach_5 : decode cX7_reach 5 = .ok (.ifCond .ne 10, 3) := by decide +kernel
theorem dX7_reach_8 : decode cX7_reach 8 = .ok (.aload_n 0, 1) := by decide +kernel
theorem dX7_reach_9 : decode cX7_reach 9 = .ok (.ldc 44, 2) := by decide +kernel
theorem dX7_reach_11 : decode cX7_reach 11 = .ok (.invokevirtual 53, 3) := by decide +kernel
theorem dX7_reach_14 : decode cX7_reach 14 = .ok (.ireturn, 1) := by decide +kernel
theorem dX7_reach_15 : decode cX7_reach 15 = .ok (.iconst 0, 1) := by decide +kernel
theorem dX7_reach_16 : decode cX7_reach 16 = .ok (.istore_n 2, 1) := by decide +kernel
theorem dX7_reach_17 : decode cX7_reach 17 = .ok (.iconst 0, 1) := by decide +kernel
theorem dX7_reach_18 : decode cX7_reach 18 = .ok (.istore_n 3, 1) := by decide +kernel
theorem dX7_reach_19 : decode cX7_reach 19 = .ok (.iload_n 3, 1) := by decide +kernel
theorem dX7_reach_20 : decode cX7_reach 20 = .ok (.bipush 16, 2) := by decide +kernel
theorem dX7_reach_22 : decode cX7_reach 22 = .ok (.if_icmp .ge 28, 3) := by decide +kernel
theorem dX7_reach_25 : decode cX7_reach 25 = .ok (.iload_n 2, 1) := by decide +kernel
theorem dX7_reach_26 : decode cX7_reach 26 = .ok (.aload_n 0, 1) := by decide +kernel
theorem dX7_reach_27 : decode cX7_reach 27 = .ok (.iload_n 3, 1) := by decide +kernel
theorem dX7_reach_28 : decode cX7_reach 28 = .ok (.invokevirtual 101, 3) := by decide +kernel
theorem dX7_reach_31 : decode cX7_reach 31 = .ok (.iload_n 1, 1) := by decide +kernel
theorem dX7_reach_32 : decode cX7_reach 32 = .ok (.if_icmp .ne 9, 3) := by decide +kernel
theorem dX7_reach_35 : decode cX7_reach 35 = .ok (.iconst 1, 1) := by decide +kernel
theorem dX7_reach_36 : decode cX7_reach 36 = .ok (.iload_n 3, 1) := by decide +kernel
theorem dX7_reach_37 : decode cX7_reach 37 = .ok (.ishl, 1) := by decide +kernel
theorem dX7_reach_38 : decode cX7_reach 38 = .ok (.goto 4, 3) := by decide +kernel
theorem dX7_reach_41 : decode cX7_reach 41 = .ok (.iconst 0, 1) := by decide +kernel
theorem dX7_reach_42 : decode cX7_reach 42 = .ok (.ior, 1) := by decide +kernel
theorem dX7_reach_43 : decode cX7_reach 43 = .ok (.istore_n 2, 1) := by decide +kernel
theorem dX7_reach_44 : decode cX7_reach 44 = .ok (.iinc 3 1, 3) := by decide +kernel
theorem dX7_reach_47 : decode cX7_reach 47 = .ok (.goto (-28), 3) := by decide +kernel
theorem dX7_reach_50 : decode cX7_reach 50 = .ok (.iload_n 2, 1) := by decide +kernel
theorem dX7_reach_51 : decode cX7_reach 51 = .ok (.ireturn, 1) := by decide +kernel
theorem dX7_isStruckBy_0 : decode cX7_isStruckBy 0 = .ok (.aload_n 0, 1) := by decide +kernel
theorem dX7_isStruckBy_1 : decode cX7_isStruckBy 1 = .ok (.iload_n 1, 1) := by decide +kernel
theorem dX7_isStruckBy_2 : decode cX7_isStruckBy 2 = .ok (.iconst 2, 1) := by decide +kernel
theorem dX7_isStruckBy_3 : decode cX7_isStruckBy 3 = .ok (.invokevirtual 69, 3) := by decide +kernel
theorem dX7_isStruckBy_6 : decode cX7_isStruckBy 6 = .ok (.istore_n 3, 1) := by decide +kernel
theorem dX7_isStruckBy_7 : decode cX7_isStruckBy 7 = .ok (.aload_n 0, 1) := by decide +kernel
theorem dX7_isStruckBy_8 : decode cX7_isStruckBy 8 = .ok (.iload_n 1, 1) := by decide +kernel
theorem dX7_isStruckBy_9 : decode cX7_isStruckBy 9 = .ok (.iconst 2, 1) := by decide +kernel
theorem dX7_isStruckBy_10 : decode cX7_isStruckBy 10 = .ok (.iload_n 2, 1) := by decide +kernel
theorem dX7_isStruckBy_11 : decode cX7_isStruckBy 11 = .ok (.invokevirtual 57, 3) := by decide +kernel
theorem dX7_isStruckBy_14 : decode cX7_isStruckBy 14 = .ok (.aload_n 0, 1) := by decide +kernel
theorem dX7_isStruckBy_15 : decode cX7_isStruckBy 15 = .ok (.invokevirtual 146, 3) := by decide +kernel
theorem dX7_isStruckBy_18 : decode cX7_isStruckBy 18 = .ok (.ifCond .eq 15, 3) := by decide +kernel
theorem dX7_isStruckBy_21 : decode cX7_isStruckBy 21 = .ok (.aload_n 0, 1) := by decide +kernel
theorem dX7_isStruckBy_22 : decode cX7_isStruckBy 22 = .ok (.getfield 137, 3) := by decide +kernel
theorem dX7_isStruckBy_25 : decode cX7_isStruckBy 25 = .ok (.iload_n 1, 1) := by decide +kernel
theorem dX7_isStruckBy_26 : decode cX7_isStruckBy 26 = .ok (.if_icmp .ne 7, 3) := by decide +kernel
theorem dX7_isStruckBy_29 : decode cX7_isStruckBy 29 = .ok (.iconst 1, 1) := by decide +kernel
theorem dX7_isStruckBy_30 : decode cX7_isStruckBy 30 = .ok (.goto 4, 3) := by decide +kernel
theorem dX7_isStruckBy_33 : decode cX7_isStruckBy 33 = .ok (.iconst 0, 1) := by decide +kernel
theorem dX7_isStruckBy_34 : decode cX7_isStruckBy 34 = .ok (.istore 4, 2) := by decide +kernel
theorem dX7_isStruckBy_36 : decode cX7_isStruckBy 36 = .ok (.aload_n 0, 1) := by decide +kernel
theorem dX7_isStruckBy_37 : decode cX7_isStruckBy 37 = .ok (.iload_n 1, 1) := by decide +kernel
theorem dX7_isStruckBy_38 : decode cX7_isStruckBy 38 = .ok (.iconst 2, 1) := by decide +kernel
theorem dX7_isStruckBy_39 : decode cX7_isStruckBy 39 = .ok (.iload_n 3, 1) := by decide +kernel
theorem dX7_isStruckBy_40 : decode cX7_isStruckBy 40 = .ok (.invokevirtual 57, 3) := by decide +kernel
theorem dX7_isStruckBy_43 : decode cX7_isStruckBy 43 = .ok (.iload 4, 2) := by decide +kernel
theorem dX7_isStruckBy_45 : decode cX7_isStruckBy 45 = .ok (.ireturn, 1) := by decide +kernel
theorem dX7_steals_0 : decode cX7_steals 0 = .ok (.aload_n 0, 1) := by decide +kernel
theorem dX7_steals_1 : decode cX7_steals 1 = .ok (.iload_n 1, 1) := by decide +kernel
theorem dX7_steals_2 : decode cX7_steals 2 = .ok (.invokevirtual 87, 3) := by decide +kernel
theorem dX7_steals_5 : decode cX7_steals 5 = .ok (.ifCond .ne 10, 3) := by decide +kernel
theorem dX7_steals_8 : decode cX7_steals 8 = .ok (.aload_n 0, 1) := by decide +kernel
theorem dX7_steals_9 : decode cX7_steals 9 = .ok (.ldc 44, 2) := by decide +kernel
theorem dX7_steals_11 : decode cX7_steals 11 = .ok (.invokevirtual 53, 3) := by decide +kernel
theorem dX7_steals_14 : decode cX7_steals 14 = .ok (.ireturn, 1) := by decide +kernel
theorem dX7_steals_15 : decode cX7_steals 15 = .ok (.iconst 0, 1) := by decide +kernel
theorem dX7_steals_16 : decode cX7_steals 16 = .ok (.istore_n 2, 1) := by decide +kernel
theorem dX7_steals_17 : decode cX7_steals 17 = .ok (.iload_n 2, 1) := by decide +kernel
theorem dX7_steals_18 : decode cX7_steals 18 = .ok (.bipush 60, 2) := by decide +kernel
theorem dX7_steals_20 : decode cX7_steals 20 = .ok (.if_icmp .gt 18, 3) := by decide +kernel
theorem dX7_steals_23 : decode cX7_steals 23 = .ok (.aload_n 0, 1) := by decide +kernel
theorem dX7_steals_24 : decode cX7_steals 24 = .ok (.iload_n 1, 1) := by decide +kernel
theorem dX7_steals_25 : decode cX7_steals 25 = .ok (.iload_n 2, 1) := by decide +kernel
theorem dX7_steals_26 : decode cX7_steals 26 = .ok (.invokevirtual 150, 3) := by decide +kernel
theorem dX7_steals_29 : decode cX7_steals 29 = .ok (.ifCond .ne 9, 3) := by decide +kernel
theorem dX7_steals_32 : decode cX7_steals 32 = .ok (.iinc 2 1, 3) := by decide +kernel
theorem dX7_steals_35 : decode cX7_steals 35 = .ok (.goto (-18), 3) := by decide +kernel
theorem dX7_steals_38 : decode cX7_steals 38 = .ok (.iload_n 2, 1) := by decide +kernel
theorem dX7_steals_39 : decode cX7_steals 39 = .ok (.bipush 60, 2) := by decide +kernel
theorem dX7_steals_41 : decode cX7_steals 41 = .ok (.if_icmp .le 12, 3) := by decide +kernel
theorem dX7_steals_44 : decode cX7_steals 44 = .ok (.aload_n 0, 1) := by decide +kernel
theorem dX7_steals_45 : decode cX7_steals 45 = .ok (.ldc 149, 2) := by decide +kernel
theorem dX7_steals_47 : decode cX7_steals 47 = .ok (.invokevirtual 53, 3) := by decide +kernel
theorem dX7_steals_50 : decode cX7_steals 50 = .ok (.goto 4, 3) := by decide +kernel
theorem dX7_steals_53 : decode cX7_steals 53 = .ok (.iload_n 2, 1) := by decide +kernel
theorem dX7_steals_54 : decode cX7_steals 54 = .ok (.ireturn, 1) := by decide +kernel
theorem dX7_ducks_0 : decode cX7_ducks 0 = .ok (.aload_n 0, 1) := by decide +kernel
theorem dX7_ducks_1 : decode cX7_ducks 1 = .ok (.iload_n 1, 1) := by decide +kernel
theorem dX7_ducks_2 : decode cX7_ducks 2 = .ok (.invokevirtual 87, 3) := by decide +kernel
theorem dX7_ducks_5 : decode cX7_ducks 5 = .ok (.ifCond .ne 10, 3) := by decide +kernel
theorem dX7_ducks_8 : decode cX7_ducks 8 = .ok (.aload_n 0, 1) := by decide +kernel
theorem dX7_ducks_9 : decode cX7_ducks 9 = .ok (.ldc 44, 2) := by decide +kernel
theorem dX7_ducks_11 : decode cX7_ducks 11 = .ok (.invokevirtual 53, 3) := by decide +kernel
theorem dX7_ducks_14 : decode cX7_ducks 14 = .ok (.ireturn, 1) := by decide +kernel
theorem dX7_ducks_15 : decode cX7_ducks 15 = .ok (.bipush 60, 2) := by decide +kernel
theorem dX7_ducks_17 : decode cX7_ducks 17 = .ok (.istore_n 2, 1) := by decide +kernel
theorem dX7_ducks_18 : decode cX7_ducks 18 = .ok (.iload_n 2, 1) := by decide +kernel
theorem dX7_ducks_19 : decode cX7_ducks 19 = .ok (.ifCond .lt 18, 3) := by decide +kernel
theorem dX7_ducks_22 : decode cX7_ducks 22 = .ok (.aload_n 0, 1) := by decide +kernel
theorem dX7_ducks_23 : decode cX7_ducks 23 = .ok (.iload_n 1, 1) := by decide +kernel
theorem dX7_ducks_24 : decode cX7_ducks 24 = .ok (.iload_n 2, 1) := by decide +kernel
theorem dX7_ducks_25 : decode cX7_ducks 25 = .ok (.invokevirtual 150, 3) := by decide +kernel
theorem dX7_ducks_28 : decode cX7_ducks 28 = .ok (.ifCond .eq 9, 3) := by decide +kernel
theorem dX7_ducks_31 : decode cX7_ducks 31 = .ok (.iinc 2 (-1), 3) := by decide +kernel
theorem dX7_ducks_34 : decode cX7_ducks 34 = .ok (.goto (-16), 3) := by decide +kernel
theorem dX7_ducks_37 : decode cX7_ducks 37 = .ok (.iload_n 2, 1) := by decide +kernel
theorem dX7_ducks_38 : decode cX7_ducks 38 = .ok (.ifCond .ge 12, 3) := by decide +kernel
theorem dX7_ducks_41 : decode cX7_ducks 41 = .ok (.aload_n 0, 1) := by decide +kernel
theorem dX7_ducks_42 : decode cX7_ducks 42 = .ok (.ldc 149, 2) := by decide +kernel
theorem dX7_ducks_44 : decode cX7_ducks 44 = .ok (.invokevirtual 53, 3) := by decide +kernel
theorem dX7_ducks_47 : decode cX7_ducks 47 = .ok (.goto 4, 3) := by decide +kernel
theorem dX7_ducks_50 : decode cX7_ducks 50 = .ok (.iload_n 2, 1) := by decide +kernel
theorem dX7_ducks_51 : decode cX7_ducks 51 = .ok (.ireturn, 1) := by decide +kernel
theorem dX7_place_0 : decode cX7_place 0 = .ok (.aload_n 0, 1) := by decide +kernel
theorem dX7_place_1 : decode cX7_place 1 = .ok (.iload_n 1, 1) := by decide +kernel
theorem dX7_place_2 : decode cX7_place 2 = .ok (.invokevirtual 87, 3) := by decide +kernel
theorem dX7_place_5 : decode cX7_place 5 = .ok (.ifCond .eq 13, 3) := by decide +kernel
theorem dX7_place_8 : decode cX7_place 8 = .ok (.iload_n 2, 1) := by decide +kernel
theorem dX7_place_9 : decode cX7_place 9 = .ok (.iconst 0, 1) := by decide +kernel
theorem dX7_place_10 : decode cX7_place 10 = .ok (.bipush 100, 2) := by decide +kernel
theorem dX7_place_12 : decode cX7_place 12 = .ok (.invokestatic 45, 3) := by decide +kernel
theorem dX7_place_15 : decode cX7_place 15 = .ok (.ifCond .ne 10, 3) := by decide +kernel
theorem dX7_place_18 : decode cX7_place 18 = .ok (.aload_n 0, 1) := by decide +kernel
theorem dX7_place_19 : decode cX7_place 19 = .ok (.ldc 44, 2) := by decide +kernel
theorem dX7_place_21 : decode cX7_place 21 = .ok (.invokevirtual 53, 3) := by decide +kernel
theorem dX7_place_24 : decode cX7_place 24 = .ok (.ireturn, 1) := by decide +kernel
theorem dX7_place_25 : decode cX7_place 25 = .ok (.aload_n 0, 1) := by decide +kernel
theorem dX7_place_26 : decode cX7_place 26 = .ok (.iload_n 1, 1) := by decide +kernel
theorem dX7_place_27 : decode cX7_place 27 = .ok (.iconst 1, 1) := by decide +kernel
theorem dX7_place_28 : decode cX7_place 28 = .ok (.invokevirtual 69, 3) := by decide +kernel
theorem dX7_place_31 : decode cX7_place 31 = .ok (.istore_n 3, 1) := by decide +kernel
theorem dX7_place_32 : decode cX7_place 32 = .ok (.iconst 0, 1) := by decide +kernel
theorem dX7_place_33 : decode cX7_place 33 = .ok (.istore 4, 2) := by decide +kernel
theorem dX7_place_35 : decode cX7_place 35 = .ok (.iconst (-1), 1) := by decide +kernel
theorem dX7_place_36 : decode cX7_place 36 = .ok (.istore 5, 2) := by decide +kernel
theorem dX7_place_38 : decode cX7_place 38 = .ok (.iconst 0, 1) := by decide +kernel
theorem dX7_place_39 : decode cX7_place 39 = .ok (.istore 6, 2) := by decide +kernel
theorem dX7_place_41 : decode cX7_place 41 = .ok (.iload 6, 2) := by decide +kernel
theorem dX7_place_43 : decode cX7_place 43 = .ok (.bipush 16, 2) := by decide +kernel
theorem dX7_place_45 : decode cX7_place 45 = .ok (.if_icmp .ge 59, 3) := by decide +kernel
theorem dX7_place_48 : decode cX7_place 48 = .ok (.aload_n 0, 1) := by decide +kernel
theorem dX7_place_49 : decode cX7_place 49 = .ok (.iload_n 1, 1) := by decide +kernel
theorem dX7_place_50 : decode cX7_place 50 = .ok (.iconst 1, 1) := by decide +kernel
theorem dX7_place_51 : decode cX7_place 51 = .ok (.iload 6, 2) := by decide +kernel
theorem dX7_place_53 : decode cX7_place 53 = .ok (.invokevirtual 57, 3) := by decide +kernel
theorem dX7_place_56 : decode cX7_place 56 = .ok (.aload_n 0, 1) := by decide +kernel
theorem dX7_place_57 : decode cX7_place 57 = .ok (.iload_n 1, 1) := by decide +kernel
theorem dX7_place_58 : decode cX7_place 58 = .ok (.iload_n 2, 1) := by decide +kernel
theorem dX7_place_59 : decode cX7_place 59 = .ok (.bipush 6, 2) := by decide +kernel
theorem dX7_place_61 : decode cX7_place 61 = .ok (.invokevirtual 130, 3) := by decide +kernel
theorem dX7_place_64 : decode cX7_place 64 = .ok (.istore 7, 2) := by decide +kernel
theorem dX7_place_66 : decode cX7_place 66 = .ok (.iload 7, 2) := by decide +kernel
theorem dX7_place_68 : decode cX7_place 68 = .ok (.iload 5, 2) := by decide +kernel
theorem dX7_place_70 : decode cX7_place 70 = .ok (.if_icmp .le 8, 3) := by decide +kernel
theorem dX7_place_73 : decode cX7_place 73 = .ok (.iload 6, 2) := by decide +kernel
theorem dX7_place_75 : decode cX7_place 75 = .ok (.goto 5, 3) := by decide +kernel
theorem dX7_place_78 : decode cX7_place 78 = .ok (.iload 4, 2) := by decide +kernel
theorem dX7_place_80 : decode cX7_place 80 = .ok (.istore 4, 2) := by decide +kernel
theorem dX7_place_82 : decode cX7_place 82 = .ok (.iload 7, 2) := by decide +kernel
theorem dX7_place_84 : decode cX7_place 84 = .ok (.iload 5, 2) := by decide +kernel
theorem dX7_place_86 : decode cX7_place 86 = .ok (.if_icmp .le 8, 3) := by decide +kernel
theorem dX7_place_89 : decode cX7_place 89 = .ok (.iload 7, 2) := by decide +kernel
theorem dX7_place_91 : decode cX7_place 91 = .ok (.goto 5, 3) := by decide +kernel
theorem dX7_place_94 : decode cX7_place 94 = .ok (.iload 5, 2) := by decide +kernel
theorem dX7_place_96 : decode cX7_place 96 = .ok (.istore 5, 2) := by decide +kernel
theorem dX7_place_98 : decode cX7_place 98 = .ok (.iinc 6 1, 3) := by decide +kernel
theorem dX7_place_101 : decode cX7_place 101 = .ok (.goto (-60), 3) := by decide +kernel
theorem dX7_place_104 : decode cX7_place 104 = .ok (.aload_n 0, 1) := by decide +kernel
theorem dX7_place_105 : decode cX7_place 105 = .ok (.iload_n 1, 1) := by decide +kernel
theorem dX7_place_106 : decode cX7_place 106 = .ok (.iconst 1, 1) := by decide +kernel
theorem dX7_place_107 : decode cX7_place 107 = .ok (.iload_n 3, 1) := by decide +kernel
theorem dX7_place_108 : decode cX7_place 108 = .ok (.invokevirtual 57, 3) := by decide +kernel
theorem dX7_place_111 : decode cX7_place 111 = .ok (.iload 4, 2) := by decide +kernel
theorem dX7_place_113 : decode cX7_place 113 = .ok (.ireturn, 1) := by decide +kernel
theorem dX7_thief_0 : decode cX7_thief 0 = .ok (.aload_n 0, 1) := by decide +kernel
theorem dX7_thief_1 : decode cX7_thief 1 = .ok (.iload_n 1, 1) := by decide +kernel
theorem dX7_thief_2 : decode cX7_thief 2 = .ok (.invokevirtual 87, 3) := by decide +kernel
theorem dX7_thief_5 : decode cX7_thief 5 = .ok (.ifCond .eq 13, 3) := by decide +kernel
theorem dX7_thief_8 : decode cX7_thief 8 = .ok (.iload_n 2, 1) := by decide +kernel
theorem dX7_thief_9 : decode cX7_thief 9 = .ok (.iconst 0, 1) := by decide +kernel
theorem dX7_thief_10 : decode cX7_thief 10 = .ok (.bipush 60, 2) := by decide +kernel
theorem dX7_thief_12 : decode cX7_thief 12 = .ok (.invokestatic 45, 3) := by decide +kernel
theorem dX7_thief_15 : decode cX7_thief 15 = .ok (.ifCond .ne 10, 3) := by decide +kernel
theorem dX7_thief_18 : decode cX7_thief 18 = .ok (.aload_n 0, 1) := by decide +kernel
theorem dX7_thief_19 : decode cX7_thief 19 = .ok (.ldc 44, 2) := by decide +kernel
theorem dX7_thief_21 : decode cX7_thief 21 = .ok (.invokevirtual 53, 3) := by decide +kernel
theorem dX7_thief_24 : decode cX7_thief 24 = .ok (.ireturn, 1) := by decide +kernel
theorem dX7_thief_25 : decode cX7_thief 25 = .ok (.iconst (-1), 1) := by decide +kernel
theorem dX7_thief_26 : decode cX7_thief 26 = .ok (.istore_n 3, 1) := by decide +kernel
theorem dX7_thief_27 : decode cX7_thief 27 = .ok (.aload_n 0, 1) := by decide +kernel
theorem dX7_thief_28 : decode cX7_thief 28 = .ok (.iload_n 1, 1) := by decide +kernel
theorem dX7_thief_29 : decode cX7_thief 29 = .ok (.iload_n 2, 1) := by decide +kernel
theorem dX7_thief_30 : decode cX7_thief 30 = .ok (.bipush 6, 2) := by decide +kernel
theorem dX7_thief_32 : decode cX7_thief 32 = .ok (.invokevirtual 130, 3) := by decide +kernel
theorem dX7_thief_35 : decode cX7_thief 35 = .ok (.istore 4, 2) := by decide +kernel
theorem dX7_thief_37 : decode cX7_thief 37 = .ok (.aload_n 0, 1) := by decide +kernel
theorem dX7_thief_38 : decode cX7_thief 38 = .ok (.iconst 1, 1) := by decide +kernel
theorem dX7_thief_39 : decode cX7_thief 39 = .ok (.aload_n 0, 1) := by decide +kernel
theorem dX7_thief_40 : decode cX7_thief 40 = .ok (.getfield 19, 3) := by decide +kernel
theorem dX7_thief_43 : decode cX7_thief 43 = .ok (.invokevirtual 126, 3) := by decide +kernel
theorem dX7_thief_46 : decode cX7_thief 46 = .ok (.aload_n 0, 1) := by decide +kernel
theorem dX7_thief_47 : decode cX7_thief 47 = .ok (.getfield 7, 3) := by decide +kernel
theorem dX7_thief_50 : decode cX7_thief 50 = .ok (.bipush 8, 2) := by decide +kernel
theorem dX7_thief_52 : decode cX7_thief 52 = .ok (.iaload, 1) := by decide +kernel
theorem dX7_thief_53 : decode cX7_thief 53 = .ok (.istore 5, 2) := by decide +kernel
theorem dX7_thief_55 : decode cX7_thief 55 = .ok (.iconst 0, 1) := by decide +kernel
theorem dX7_thief_56 : decode cX7_thief 56 = .ok (.istore 6, 2) := by decide +kernel
theorem dX7_thief_58 : decode cX7_thief 58 = .ok (.iload 6, 2) := by decide +kernel
theorem dX7_thief_60 : decode cX7_thief 60 = .ok (.iload 5, 2) := by decide +kernel
theorem dX7_thief_62 : decode cX7_thief 62 = .ok (.if_icmp .ge 82, 3) := by decide +kernel
theorem dX7_thief_65 : decode cX7_thief 65 = .ok (.iload 6, 2) := by decide +kernel
theorem dX7_thief_67 : decode cX7_thief 67 = .ok (.iload_n 1, 1) := by decide +kernel
theorem dX7_thief_68 : decode cX7_thief 68 = .ok (.if_icmp .eq 70, 3) := by decide +kernel
theorem dX7_thief_71 : decode cX7_thief 71 = .ok (.aload_n 0, 1) := by decide +kernel
theorem dX7_thief_72 : decode cX7_thief 72 = .ok (.iload 6, 2) := by decide +kernel
theorem dX7_thief_74 : decode cX7_thief 74 = .ok (.invokevirtual 97, 3) := by decide +kernel
theorem dX7_thief_77 : decode cX7_thief 77 = .ok (.aload_n 0, 1) := by decide +kernel
theorem dX7_thief_78 : decode cX7_thief 78 = .ok (.iload 6, 2) := by decide +kernel
theorem dX7_thief_80 : decode cX7_thief 80 = .ok (.iload_n 1, 1) := by decide +kernel
theorem dX7_thief_81 : decode cX7_thief 81 = .ok (.if_icmp .ge 9, 3) := by decide +kernel
theorem dX7_thief_84 : decode cX7_thief 84 = .ok (.iload_n 1, 1) := by decide +kernel
theorem dX7_thief_85 : decode cX7_thief 85 = .ok (.iconst 1, 1) := by decide +kernel
theorem dX7_thief_86 : decode cX7_thief 86 = .ok (.isub, 1) := by decide +kernel
theorem dX7_thief_87 : decode cX7_thief 87 = .ok (.goto 4, 3) := by decide +kernel
theorem dX7_thief_90 : decode cX7_thief 90 = .ok (.iload_n 1, 1) := by decide +kernel
theorem dX7_thief_91 : decode cX7_thief 91 = .ok (.iload_n 2, 1) := by decide +kernel
theorem dX7_thief_92 : decode cX7_thief 92 = .ok (.bipush 6, 2) := by decide +kernel
theorem dX7_thief_94 : decode cX7_thief 94 = .ok (.invokevirtual 130, 3) := by decide +kernel
theorem dX7_thief_97 : decode cX7_thief 97 = .ok (.istore 7, 2) := by decide +kernel
theorem dX7_thief_99 : decode cX7_thief 99 = .ok (.iload 7, 2) := by decide +kernel
theorem dX7_thief_101 : decode cX7_thief 101 = .ok (.iload 4, 2) := by decide +kernel
theorem dX7_thief_103 : decode cX7_thief 103 = .ok (.if_icmp .le 8, 3) := by decide +kernel
theorem dX7_thief_106 : decode cX7_thief 106 = .ok (.iload 6, 2) := by decide +kernel
theorem dX7_thief_108 : decode cX7_thief 108 = .ok (.goto 4, 3) := by decide +kernel
theorem dX7_thief_111 : decode cX7_thief 111 = .ok (.iload_n 3, 1) := by decide +kernel
theorem dX7_thief_112 : decode cX7_thief 112 = .ok (.istore_n 3, 1) := by decide +kernel
theorem dX7_thief_113 : decode cX7_thief 113 = .ok (.iload 7, 2) := by decide +kernel
theorem dX7_thief_115 : decode cX7_thief 115 = .ok (.iload 4, 2) := by decide +kernel
theorem dX7_thief_117 : decode cX7_thief 117 = .ok (.if_icmp .le 8, 3) := by decide +kernel
theorem dX7_thief_120 : decode cX7_thief 120 = .ok (.iload 7, 2) := by decide +kernel
theorem dX7_thief_122 : decode cX7_thief 122 = .ok (.goto 5, 3) := by decide +kernel
theorem dX7_thief_125 : decode cX7_thief 125 = .ok (.iload 4, 2) := by decide +kernel
theorem dX7_thief_127 : decode cX7_thief 127 = .ok (.istore 4, 2) := by decide +kernel
theorem dX7_thief_129 : decode cX7_thief 129 = .ok (.aload_n 0, 1) := by decide +kernel
theorem dX7_thief_130 : decode cX7_thief 130 = .ok (.iconst 0, 1) := by decide +kernel
theorem dX7_thief_131 : decode cX7_thief 131 = .ok (.aload_n 0, 1) := by decide +kernel
theorem dX7_thief_132 : decode cX7_thief 132 = .ok (.getfield 19, 3) := by decide +kernel
theorem dX7_thief_135 : decode cX7_thief 135 = .ok (.invokevirtual 126, 3) := by decide +kernel
theorem dX7_thief_138 : decode cX7_thief 138 = .ok (.iinc 6 1, 3) := by decide +kernel
theorem dX7_thief_141 : decode cX7_thief 141 = .ok (.goto (-83), 3) := by decide +kernel
theorem dX7_thief_144 : decode cX7_thief 144 = .ok (.iload_n 3, 1) := by decide +kernel
theorem dX7_thief_145 : decode cX7_thief 145 = .ok (.ifCond .ge 12, 3) := by decide +kernel
theorem dX7_thief_148 : decode cX7_thief 148 = .ok (.aload_n 0, 1) := by decide +kernel
theorem dX7_thief_149 : decode cX7_thief 149 = .ok (.ldc 149, 2) := by decide +kernel
theorem dX7_thief_151 : decode cX7_thief 151 = .ok (.invokevirtual 53, 3) := by decide +kernel
theorem dX7_thief_154 : decode cX7_thief 154 = .ok (.goto 4, 3) := by decide +kernel
theorem dX7_thief_157 : decode cX7_thief 157 = .ok (.iload_n 3, 1) := by decide +kernel
theorem dX7_thief_158 : decode cX7_thief 158 = .ok (.ireturn, 1) := by decide +kernel
theorem dX7_kind_0 : decode cX7_kind 0 = .ok (.aload_n 0, 1) := by decide +kernel
theorem dX7_kind_1 : decode cX7_kind 1 = .ok (.iload_n 1, 1) := by decide +kernel
theorem dX7_kind_2 : decode cX7_kind 2 = .ok (.invokevirtual 87, 3) := by decide +kernel
theorem dX7_kind_5 : decode cX7_kind 5 = .ok (.ifCond .eq 13, 3) := by decide +kernel
theorem dX7_kind_8 : decode cX7_kind 8 = .ok (.iload_n 2, 1) := by decide +kernel
theorem dX7_kind_9 : decode cX7_kind 9 = .ok (.iconst 0, 1) := by decide +kernel
theorem dX7_kind_10 : decode cX7_kind 10 = .ok (.bipush 60, 2) := by decide +kernel
theorem dX7_kind_12 : decode cX7_kind 12 = .ok (.invokestatic 45, 3) := by decide +kernel
theorem dX7_kind_15 : decode cX7_kind 15 = .ok (.ifCond .ne 10, 3) := by decide +kernel
theorem dX7_kind_18 : decode cX7_kind 18 = .ok (.aload_n 0, 1) := by decide +kernel
theorem dX7_kind_19 : decode cX7_kind 19 = .ok (.ldc 44, 2) := by decide +kernel
theorem dX7_kind_21 : decode cX7_kind 21 = .ok (.invokevirtual 53, 3) := by decide +kernel
theorem dX7_kind_24 : decode cX7_kind 24 = .ok (.ireturn, 1) := by decide +kernel
theorem dX7_kind_25 : decode cX7_kind 25 = .ok (.aload_n 0, 1) := by decide +kernel
theorem dX7_kind_26 : decode cX7_kind 26 = .ok (.iload_n 1, 1) := by decide +kernel
theorem dX7_kind_27 : decode cX7_kind 27 = .ok (.iconst 0, 1) := by decide +kernel
theorem dX7_kind_28 : decode cX7_kind 28 = .ok (.invokevirtual 69, 3) := by decide +kernel
theorem dX7_kind_31 : decode cX7_kind 31 = .ok (.istore_n 3, 1) := by decide +kernel
theorem dX7_kind_32 : decode cX7_kind 32 = .ok (.iconst (-1), 1) := by decide +kernel
theorem dX7_kind_33 : decode cX7_kind 33 = .ok (.istore 4, 2) := by decide +kernel
theorem dX7_kind_35 : decode cX7_kind 35 = .ok (.iconst 0, 1) := by decide +kernel
theorem dX7_kind_36 : decode cX7_kind 36 = .ok (.istore 5, 2) := by decide +kernel
theorem dX7_kind_38 : decode cX7_kind 38 = .ok (.iconst 0, 1) := by decide +kernel
theorem dX7_kind_39 : decode cX7_kind 39 = .ok (.istore 6, 2) := by decide +kernel
theorem dX7_kind_41 : decode cX7_kind 41 = .ok (.iconst 0, 1) := by decide +kernel
theorem dX7_kind_42 : decode cX7_kind 42 = .ok (.istore 7, 2) := by decide +kernel
theorem dX7_kind_44 : decode cX7_kind 44 = .ok (.iload 7, 2) := by decide +kernel
theorem dX7_kind_46 : decode cX7_kind 46 = .ok (.iconst 5, 1) := by decide +kernel
theorem dX7_kind_47 : decode cX7_kind 47 = .ok (.if_icmp .gt 111, 3) := by decide +kernel
theorem dX7_kind_50 : decode cX7_kind 50 = .ok (.aload_n 0, 1) := by decide +kernel
theorem dX7_kind_51 : decode cX7_kind 51 = .ok (.iload_n 1, 1) := by decide +kernel
theorem dX7_kind_52 : decode cX7_kind 52 = .ok (.iconst 0, 1) := by decide +kernel
theorem dX7_kind_53 : decode cX7_kind 53 = .ok (.iload 7, 2) := by decide +kernel
theorem dX7_kind_55 : decode cX7_kind 55 = .ok (.invokevirtual 57, 3) := by decide +kernel
theorem dX7_kind_58 : decode cX7_kind 58 = .ok (.aload_n 0, 1) := by decide +kernel
theorem dX7_kind_59 : decode cX7_kind 59 = .ok (.iload_n 1, 1) := by decide +kernel
theorem dX7_kind_60 : decode cX7_kind 60 = .ok (.iload_n 2, 1) := by decide +kernel
theorem dX7_kind_61 : decode cX7_kind 61 = .ok (.bipush 6, 2) := by decide +kernel
theorem dX7_kind_63 : decode cX7_kind 63 = .ok (.invokevirtual 130, 3) := by decide +kernel
theorem dX7_kind_66 : decode cX7_kind 66 = .ok (.istore 8, 2) := by decide +kernel
theorem dX7_kind_68 : decode cX7_kind 68 = .ok (.aload_n 0, 1) := by decide +kernel
theorem dX7_kind_69 : decode cX7_kind 69 = .ok (.iload_n 1, 1) := by decide +kernel
theorem dX7_kind_70 : decode cX7_kind 70 = .ok (.iload_n 2, 1) := by decide +kernel
theorem dX7_kind_71 : decode cX7_kind 71 = .ok (.iconst 5, 1) := by decide +kernel
theorem dX7_kind_72 : decode cX7_kind 72 = .ok (.invokevirtual 130, 3) := by decide +kernel
theorem dX7_kind_75 : decode cX7_kind 75 = .ok (.istore 9, 2) := by decide +kernel
theorem dX7_kind_77 : decode cX7_kind 77 = .ok (.iload 4, 2) := by decide +kernel
theorem dX7_kind_79 : decode cX7_kind 79 = .ok (.ifCond .lt 24, 3) := by decide +kernel
theorem dX7_kind_82 : decode cX7_kind 82 = .ok (.iload 8, 2) := by decide +kernel
theorem dX7_kind_84 : decode cX7_kind 84 = .ok (.iload 5, 2) := by decide +kernel
theorem dX7_kind_86 : decode cX7_kind 86 = .ok (.if_icmp .gt 17, 3) := by decide +kernel
theorem dX7_kind_89 : decode cX7_kind 89 = .ok (.iload 8, 2) := by decide +kernel
theorem dX7_kind_91 : decode cX7_kind 91 = .ok (.iload 5, 2) := by decide +kernel
theorem dX7_kind_93 : decode cX7_kind 93 = .ok (.if_icmp .ne 14, 3) := by decide +kernel
theorem dX7_kind_96 : decode cX7_kind 96 = .ok (.iload 9, 2) := by decide +kernel
theorem dX7_kind_98 : decode cX7_kind 98 = .ok (.iload 6, 2) := by decide +kernel
theorem dX7_kind_100 : decode cX7_kind 100 = .ok (.if_icmp .ge 7, 3) := by decide +kernel
theorem dX7_kind_103 : decode cX7_kind 103 = .ok (.iconst 1, 1) := by decide +kernel
theorem dX7_kind_104 : decode cX7_kind 104 = .ok (.goto 4, 3) := by decide +kernel
theorem dX7_kind_107 : decode cX7_kind 107 = .ok (.iconst 0, 1) := by decide +kernel
theorem dX7_kind_108 : decode cX7_kind 108 = .ok (.istore 10, 2) := by decide +kernel
theorem dX7_kind_110 : decode cX7_kind 110 = .ok (.iload 10, 2) := by decide +kernel
theorem dX7_kind_112 : decode cX7_kind 112 = .ok (.ifCond .eq 8, 3) := by decide +kernel
theorem dX7_kind_115 : decode cX7_kind 115 = .ok (.iload 7, 2) := by decide +kernel
theorem dX7_kind_117 : decode cX7_kind 117 = .ok (.goto 5, 3) := by decide +kernel
theorem dX7_kind_120 : decode cX7_kind 120 = .ok (.iload 4, 2) := by decide +kernel
theorem dX7_kind_122 : decode cX7_kind 122 = .ok (.istore 4, 2) := by decide +kernel
theorem dX7_kind_124 : decode cX7_kind 124 = .ok (.iload 10, 2) := by decide +kernel
theorem dX7_kind_126 : decode cX7_kind 126 = .ok (.ifCond .eq 8, 3) := by decide +kernel
theorem dX7_kind_129 : decode cX7_kind 129 = .ok (.iload 8, 2) := by decide +kernel
theorem dX7_kind_131 : decode cX7_kind 131 = .ok (.goto 5, 3) := by decide +kernel
theorem dX7_kind_134 : decode cX7_kind 134 = .ok (.iload 5, 2) := by decide +kernel
theorem dX7_kind_136 : decode cX7_kind 136 = .ok (.istore 5, 2) := by decide +kernel
theorem dX7_kind_138 : decode cX7_kind 138 = .ok (.iload 10, 2) := by decide +kernel
theorem dX7_kind_140 : decode cX7_kind 140 = .ok (.ifCond .eq 8, 3) := by decide +kernel
theorem dX7_kind_143 : decode cX7_kind 143 = .ok (.iload 9, 2) := by decide +kernel
theorem dX7_kind_145 : decode cX7_kind 145 = .ok (.goto 5, 3) := by decide +kernel
theorem dX7_kind_148 : decode cX7_kind 148 = .ok (.iload 6, 2) := by decide +kernel
theorem dX7_kind_150 : decode cX7_kind 150 = .ok (.istore 6, 2) := by decide +kernel
theorem dX7_kind_152 : decode cX7_kind 152 = .ok (.iinc 7 1, 3) := by decide +kernel
theorem dX7_kind_155 : decode cX7_kind 155 = .ok (.goto (-111), 3) := by decide +kernel
theorem dX7_kind_158 : decode cX7_kind 158 = .ok (.aload_n 0, 1) := by decide +kernel
theorem dX7_kind_159 : decode cX7_kind 159 = .ok (.iload_n 1, 1) := by decide +kernel
theorem dX7_kind_160 : decode cX7_kind 160 = .ok (.iconst 0, 1) := by decide +kernel
theorem dX7_kind_161 : decode cX7_kind 161 = .ok (.iload_n 3, 1) := by decide +kernel
theorem dX7_kind_162 : decode cX7_kind 162 = .ok (.invokevirtual 57, 3) := by decide +kernel
theorem dX7_kind_165 : decode cX7_kind 165 = .ok (.iload 4, 2) := by decide +kernel
theorem dX7_kind_167 : decode cX7_kind 167 = .ok (.ireturn, 1) := by decide +kernel
theorem dX7_clocksOf_0 : decode cX7_clocksOf 0 = .ok (.aload_n 0, 1) := by decide +kernel
theorem dX7_clocksOf_1 : decode cX7_clocksOf 1 = .ok (.iconst 1, 1) := by decide +kernel
theorem dX7_clocksOf_2 : decode cX7_clocksOf 2 = .ok (.aload_n 0, 1) := by decide +kernel
theorem dX7_clocksOf_3 : decode cX7_clocksOf 3 = .ok (.getfield 16, 3) := by decide +kernel
theorem dX7_clocksOf_6 : decode cX7_clocksOf 6 = .ok (.invokevirtual 126, 3) := by decide +kernel
theorem dX7_clocksOf_9 : decode cX7_clocksOf 9 = .ok (.iconst 0, 1) := by decide +kernel
theorem dX7_clocksOf_10 : decode cX7_clocksOf 10 = .ok (.istore_n 3, 1) := by decide +kernel
theorem dX7_clocksOf_11 : decode cX7_clocksOf 11 = .ok (.iconst 0, 1) := by decide +kernel
theorem dX7_clocksOf_12 : decode cX7_clocksOf 12 = .ok (.istore 4, 2) := by decide +kernel
theorem dX7_clocksOf_14 : decode cX7_clocksOf 14 = .ok (.iload 4, 2) := by decide +kernel
theorem dX7_clocksOf_16 : decode cX7_clocksOf 16 = .ok (.iload_n 2, 1) := by decide +kernel
theorem dX7_clocksOf_17 : decode cX7_clocksOf 17 = .ok (.if_icmp .ge 47, 3) := by decide +kernel
theorem dX7_clocksOf_20 : decode cX7_clocksOf 20 = .ok (.iload_n 3, 1) := by decide +kernel
theorem dX7_clocksOf_21 : decode cX7_clocksOf 21 = .ok (.aload_n 0, 1) := by decide +kernel
theorem dX7_clocksOf_22 : decode cX7_clocksOf 22 = .ok (.invokevirtual 105, 3) := by decide +kernel
theorem dX7_clocksOf_25 : decode cX7_clocksOf 25 = .ok (.ifCond .eq 26, 3) := by decide +kernel
theorem dX7_clocksOf_28 : decode cX7_clocksOf 28 = .ok (.aload_n 0, 1) := by decide +kernel
theorem dX7_clocksOf_29 : decode cX7_clocksOf 29 = .ok (.aload_n 0, 1) := by decide +kernel
theorem dX7_clocksOf_30 : decode cX7_clocksOf 30 = .ok (.getfield 7, 3) := by decide +kernel
theorem dX7_clocksOf_33 : decode cX7_clocksOf 33 = .ok (.iconst 0, 1) := by decide +kernel
theorem dX7_clocksOf_34 : decode cX7_clocksOf 34 = .ok (.iaload, 1) := by decide +kernel
theorem dX7_clocksOf_35 : decode cX7_clocksOf 35 = .ok (.invokevirtual 101, 3) := by decide +kernel
theorem dX7_clocksOf_38 : decode cX7_clocksOf 38 = .ok (.iload_n 1, 1) := by decide +kernel
theorem dX7_clocksOf_39 : decode cX7_clocksOf 39 = .ok (.if_icmp .ne 12, 3) := by decide +kernel
theorem dX7_clocksOf_42 : decode cX7_clocksOf 42 = .ok (.iconst 1, 1) := by decide +kernel
theorem dX7_clocksOf_43 : decode cX7_clocksOf 43 = .ok (.aload_n 0, 1) := by decide +kernel
theorem dX7_clocksOf_44 : decode cX7_clocksOf 44 = .ok (.invokevirtual 77, 3) := by decide +kernel
theorem dX7_clocksOf_47 : decode cX7_clocksOf 47 = .ok (.ishl, 1) := by decide +kernel
theorem dX7_clocksOf_48 : decode cX7_clocksOf 48 = .ok (.goto 4, 3) := by decide +kernel
theorem dX7_clocksOf_51 : decode cX7_clocksOf 51 = .ok (.iconst 0, 1) := by decide +kernel
theorem dX7_clocksOf_52 : decode cX7_clocksOf 52 = .ok (.ior, 1) := by decide +kernel
theorem dX7_clocksOf_53 : decode cX7_clocksOf 53 = .ok (.istore_n 3, 1) := by decide +kernel
theorem dX7_clocksOf_54 : decode cX7_clocksOf 54 = .ok (.aload_n 0, 1) := by decide +kernel
theorem dX7_clocksOf_55 : decode cX7_clocksOf 55 = .ok (.invokevirtual 112, 3) := by decide +kernel
theorem dX7_clocksOf_58 : decode cX7_clocksOf 58 = .ok (.iinc 4 1, 3) := by decide +kernel
theorem dX7_clocksOf_61 : decode cX7_clocksOf 61 = .ok (.goto (-47), 3) := by decide +kernel
theorem dX7_clocksOf_64 : decode cX7_clocksOf 64 = .ok (.aload_n 0, 1) := by decide +kernel
theorem dX7_clocksOf_65 : decode cX7_clocksOf 65 = .ok (.iconst 0, 1) := by decide +kernel
theorem dX7_clocksOf_66 : decode cX7_clocksOf 66 = .ok (.aload_n 0, 1) := by decide +kernel
theorem dX7_clocksOf_67 : decode cX7_clocksOf 67 = .ok (.getfield 16, 3) := by decide +kernel
theorem dX7_clocksOf_70 : decode cX7_clocksOf 70 = .ok (.invokevirtual 126, 3) := by decide +kernel
theorem dX7_clocksOf_73 : decode cX7_clocksOf 73 = .ok (.iload_n 3, 1) := by decide +kernel
theorem dX7_clocksOf_74 : decode cX7_clocksOf 74 = .ok (.ireturn, 1) := by decide +kernel
theorem dX7_clocks_0 : decode cX7_clocks 0 = .ok (.aload_n 0, 1) := by decide +kernel
theorem dX7_clocks_1 : decode cX7_clocks 1 = .ok (.iload_n 1, 1) := by decide +kernel
theorem dX7_clocks_2 : decode cX7_clocks 2 = .ok (.invokevirtual 87, 3) := by decide +kernel
theorem dX7_clocks_5 : decode cX7_clocks 5 = .ok (.ifCond .eq 22, 3) := by decide +kernel
theorem dX7_clocks_8 : decode cX7_clocks 8 = .ok (.iload_n 2, 1) := by decide +kernel
theorem dX7_clocks_9 : decode cX7_clocks 9 = .ok (.iconst 0, 1) := by decide +kernel
theorem dX7_clocks_10 : decode cX7_clocks 10 = .ok (.bipush 100, 2) := by decide +kernel
theorem dX7_clocks_12 : decode cX7_clocks 12 = .ok (.invokestatic 45, 3) := by decide +kernel
theorem dX7_clocks_15 : decode cX7_clocks 15 = .ok (.ifCond .eq 12, 3) := by decide +kernel
theorem dX7_clocks_18 : decode cX7_clocks 18 = .ok (.aload_n 0, 1) := by decide +kernel
theorem dX7_clocks_19 : decode cX7_clocks 19 = .ok (.iload_n 1, 1) := by decide +kernel
theorem dX7_clocks_20 : decode cX7_clocks 20 = .ok (.iload_n 2, 1) := by decide +kernel
theorem dX7_clocks_21 : decode cX7_clocks 21 = .ok (.invokevirtual 154, 3) := by decide +kernel
theorem dX7_clocks_24 : decode cX7_clocks 24 = .ok (.goto 9, 3) := by decide +kernel
theorem dX7_clocks_27 : decode cX7_clocks 27 = .ok (.aload_n 0, 1) := by decide +kernel
theorem dX7_clocks_28 : decode cX7_clocks 28 = .ok (.ldc 44, 2) := by decide +kernel
theorem dX7_clocks_30 : decode cX7_clocks 30 = .ok (.invokevirtual 53, 3) := by decide +kernel
theorem dX7_clocks_33 : decode cX7_clocks 33 = .ok (.ireturn, 1) := by decide +kernel
theorem dX7_doesCover_0 : decode cX7_doesCover 0 = .ok (.iconst 1, 1) := by decide +kernel
theorem dX7_doesCover_1 : decode cX7_doesCover 1 = .ok (.istore_n 3, 1) := by decide +kernel
theorem dX7_doesCover_2 : decode cX7_doesCover 2 = .ok (.iconst 0, 1) := by decide +kernel
theorem dX7_doesCover_3 : decode cX7_doesCover 3 = .ok (.istore 4, 2) := by decide +kernel
theorem dX7_doesCover_5 : decode cX7_doesCover 5 = .ok (.iload 4, 2) := by decide +kernel
theorem dX7_doesCover_7 : decode cX7_doesCover 7 = .ok (.bipush 24, 2) := by decide +kernel
theorem dX7_doesCover_9 : decode cX7_doesCover 9 = .ok (.if_icmp .ge 42, 3) := by decide +kernel
theorem dX7_doesCover_12 : decode cX7_doesCover 12 = .ok (.iload_n 3, 1) := by decide +kernel
theorem dX7_doesCover_13 : decode cX7_doesCover 13 = .ok (.ifCond .eq 30, 3) := by decide +kernel
theorem dX7_doesCover_16 : decode cX7_doesCover 16 = .ok (.iload_n 0, 1) := by decide +kernel
theorem dX7_doesCover_17 : decode cX7_doesCover 17 = .ok (.iload 4, 2) := by decide +kernel
theorem dX7_doesCover_19 : decode cX7_doesCover 19 = .ok (.ishr, 1) := by decide +kernel
theorem dX7_doesCover_20 : decode cX7_doesCover 20 = .ok (.iconst 1, 1) := by decide +kernel
theorem dX7_doesCover_21 : decode cX7_doesCover 21 = .ok (.iand, 1) := by decide +kernel
theorem dX7_doesCover_22 : decode cX7_doesCover 22 = .ok (.ifCond .eq 17, 3) := by decide +kernel
theorem dX7_doesCover_25 : decode cX7_doesCover 25 = .ok (.iload 4, 2) := by decide +kernel
theorem dX7_doesCover_27 : decode cX7_doesCover 27 = .ok (.iload_n 1, 1) := by decide +kernel
theorem dX7_doesCover_28 : decode cX7_doesCover 28 = .ok (.isub, 1) := by decide +kernel
theorem dX7_doesCover_29 : decode cX7_doesCover 29 = .ok (.bipush 24, 2) := by decide +kernel
theorem dX7_doesCover_31 : decode cX7_doesCover 31 = .ok (.iadd, 1) := by decide +kernel
theorem dX7_doesCover_32 : decode cX7_doesCover 32 = .ok (.bipush 24, 2) := by decide +kernel
theorem dX7_doesCover_34 : decode cX7_doesCover 34 = .ok (.irem, 1) := by decide +kernel
theorem dX7_doesCover_35 : decode cX7_doesCover 35 = .ok (.iload_n 2, 1) := by decide +kernel
theorem dX7_doesCover_36 : decode cX7_doesCover 36 = .ok (.if_icmp .ge 7, 3) := by decide +kernel
theorem dX7_doesCover_39 : decode cX7_doesCover 39 = .ok (.iconst 1, 1) := by decide +kernel
theorem dX7_doesCover_40 : decode cX7_doesCover 40 = .ok (.goto 4, 3) := by decide +kernel
theorem dX7_doesCover_43 : decode cX7_doesCover 43 = .ok (.iconst 0, 1) := by decide +kernel
theorem dX7_doesCover_44 : decode cX7_doesCover 44 = .ok (.istore_n 3, 1) := by decide +kernel
theorem dX7_doesCover_45 : decode cX7_doesCover 45 = .ok (.iinc 4 1, 3) := by decide +kernel
theorem dX7_doesCover_48 : decode cX7_doesCover 48 = .ok (.goto (-43), 3) := by decide +kernel
theorem dX7_doesCover_51 : decode cX7_doesCover 51 = .ok (.iload_n 3, 1) := by decide +kernel
theorem dX7_doesCover_52 : decode cX7_doesCover 52 = .ok (.ireturn, 1) := by decide +kernel
theorem dX7_fewest_0 : decode cX7_fewest 0 = .ok (.iconst 0, 1) := by decide +kernel
theorem dX7_fewest_1 : decode cX7_fewest 1 = .ok (.istore_n 2, 1) := by decide +kernel
theorem dX7_fewest_2 : decode cX7_fewest 2 = .ok (.aload_n 0, 1) := by decide +kernel
theorem dX7_fewest_3 : decode cX7_fewest 3 = .ok (.iconst 0, 1) := by decide +kernel
theorem dX7_fewest_4 : decode cX7_fewest 4 = .ok (.putfield 157, 3) := by decide +kernel
theorem dX7_fewest_7 : decode cX7_fewest 7 = .ok (.iload_n 1, 1) := by decide +kernel
theorem dX7_fewest_8 : decode cX7_fewest 8 = .ok (.aload_n 0, 1) := by decide +kernel
theorem dX7_fewest_9 : decode cX7_fewest 9 = .ok (.getfield 157, 3) := by decide +kernel
theorem dX7_fewest_12 : decode cX7_fewest 12 = .ok (.iload_n 2, 1) := by decide +kernel
theorem dX7_fewest_13 : decode cX7_fewest 13 = .ok (.invokestatic 160, 3) := by decide +kernel
theorem dX7_fewest_16 : decode cX7_fewest 16 = .ok (.ifCond .ne 44, 3) := by decide +kernel
theorem dX7_fewest_19 : decode cX7_fewest 19 = .ok (.aload_n 0, 1) := by decide +kernel
theorem dX7_fewest_20 : decode cX7_fewest 20 = .ok (.dup, 1) := by decide +kernel
theorem dX7_fewest_21 : decode cX7_fewest 21 = .ok (.getfield 157, 3) := by decide +kernel
theorem dX7_fewest_24 : decode cX7_fewest 24 = .ok (.iconst 1, 1) := by decide +kernel
theorem dX7_fewest_25 : decode cX7_fewest 25 = .ok (.iadd, 1) := by decide +kernel
theorem dX7_fewest_26 : decode cX7_fewest 26 = .ok (.putfield 157, 3) := by decide +kernel
theorem dX7_fewest_29 : decode cX7_fewest 29 = .ok (.iload_n 2, 1) := by decide +kernel
theorem dX7_fewest_30 : decode cX7_fewest 30 = .ok (.aload_n 0, 1) := by decide +kernel
theorem dX7_fewest_31 : decode cX7_fewest 31 = .ok (.getfield 157, 3) := by decide +kernel
theorem dX7_fewest_34 : decode cX7_fewest 34 = .ok (.bipush 24, 2) := by decide +kernel
theorem dX7_fewest_36 : decode cX7_fewest 36 = .ok (.if_icmp .ne 7, 3) := by decide +kernel
theorem dX7_fewest_39 : decode cX7_fewest 39 = .ok (.iconst 1, 1) := by decide +kernel
theorem dX7_fewest_40 : decode cX7_fewest 40 = .ok (.goto 4, 3) := by decide +kernel
theorem dX7_fewest_43 : decode cX7_fewest 43 = .ok (.iconst 0, 1) := by decide +kernel

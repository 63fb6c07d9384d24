theorem dX0_init_0 : decode cX0_init 0 = .ok (.aload_n 0, 1) := by decide +kernel
theorem dX0_init_1 : decode cX0_init 1 = .ok (.invokespecial 3, 3) := by decide +kernel
theorem dX0_init_4 : decode cX0_init 4 = .ok (.aload_n 0, 1) := by decide +kernel
theorem dX0_init_5 : decode cX0_init 5 = .ok (.iconst 0, 1) := by decide +kernel
theorem dX0_init_6 : decode cX0_init 6 = .ok (.putfield 9, 3) := by decide +kernel
theorem dX0_init_9 : decode cX0_init 9 = .ok (.aload_n 0, 1) := by decide +kernel
theorem dX0_init_10 : decode cX0_init 10 = .ok (.iconst 0, 1) := by decide +kernel
theorem dX0_init_11 : decode cX0_init 11 = .ok (.putfield 15, 3) := by decide +kernel
theorem dX0_init_14 : decode cX0_init 14 = .ok (.aload_n 0, 1) := by decide +kernel
theorem dX0_init_15 : decode cX0_init 15 = .ok (.iconst 1, 1) := by decide +kernel
theorem dX0_init_16 : decode cX0_init 16 = .ok (.putfield 18, 3) := by decide +kernel
theorem dX0_init_19 : decode cX0_init 19 = .ok (.aload_n 0, 1) := by decide +kernel
theorem dX0_init_20 : decode cX0_init 20 = .ok (.bipush 20, 2) := by decide +kernel
theorem dX0_init_22 : decode cX0_init 22 = .ok (.putfield 21, 3) := by decide +kernel
theorem dX0_init_25 : decode cX0_init 25 = .ok (.aload_n 0, 1) := by decide +kernel
theorem dX0_init_26 : decode cX0_init 26 = .ok (.bipush 60, 2) := by decide +kernel
theorem dX0_init_28 : decode cX0_init 28 = .ok (.putfield 24, 3) := by decide +kernel
theorem dX0_init_31 : decode cX0_init 31 = .ok (.return_, 1) := by decide +kernel
theorem dX0_mayBe_0 : decode cX0_mayBe 0 = .ok (.iload_n 0, 1) := by decide +kernel
theorem dX0_mayBe_1 : decode cX0_mayBe 1 = .ok (.iconst 0, 1) := by decide +kernel
theorem dX0_mayBe_2 : decode cX0_mayBe 2 = .ok (.iconst 4, 1) := by decide +kernel
theorem dX0_mayBe_3 : decode cX0_mayBe 3 = .ok (.invokestatic 27, 3) := by decide +kernel
theorem dX0_mayBe_6 : decode cX0_mayBe 6 = .ok (.ifCond .eq 24, 3) := by decide +kernel
theorem dX0_mayBe_9 : decode cX0_mayBe 9 = .ok (.iload_n 1, 1) := by decide +kernel
theorem dX0_mayBe_10 : decode cX0_mayBe 10 = .ok (.getstatic 31, 3) := by decide +kernel
theorem dX0_mayBe_13 : decode cX0_mayBe 13 = .ok (.iload_n 0, 1) := by decide +kernel
theorem dX0_mayBe_14 : decode cX0_mayBe 14 = .ok (.iaload, 1) := by decide +kernel
theorem dX0_mayBe_15 : decode cX0_mayBe 15 = .ok (.getstatic 35, 3) := by decide +kernel
theorem dX0_mayBe_18 : decode cX0_mayBe 18 = .ok (.iload_n 0, 1) := by decide +kernel
theorem dX0_mayBe_19 : decode cX0_mayBe 19 = .ok (.iaload, 1) := by decide +kernel
theorem dX0_mayBe_20 : decode cX0_mayBe 20 = .ok (.invokestatic 27, 3) := by decide +kernel
theorem dX0_mayBe_23 : decode cX0_mayBe 23 = .ok (.ifCond .eq 7, 3) := by decide +kernel
theorem dX0_mayBe_26 : decode cX0_mayBe 26 = .ok (.iconst 1, 1) := by decide +kernel
theorem dX0_mayBe_27 : decode cX0_mayBe 27 = .ok (.goto 4, 3) := by decide +kernel
theorem dX0_mayBe_30 : decode cX0_mayBe 30 = .ok (.iconst 0, 1) := by decide +kernel
theorem dX0_mayBe_31 : decode cX0_mayBe 31 = .ok (.ireturn, 1) := by decide +kernel
theorem dX0_takeFrom_0 : decode cX0_takeFrom 0 = .ok (.aload_n 0, 1) := by decide +kernel
theorem dX0_takeFrom_1 : decode cX0_takeFrom 1 = .ok (.aload_n 1, 1) := by decide +kernel
theorem dX0_takeFrom_2 : decode cX0_takeFrom 2 = .ok (.getfield 9, 3) := by decide +kernel
theorem dX0_takeFrom_5 : decode cX0_takeFrom 5 = .ok (.putfield 9, 3) := by decide +kernel
theorem dX0_takeFrom_8 : decode cX0_takeFrom 8 = .ok (.aload_n 0, 1) := by decide +kernel
theorem dX0_takeFrom_9 : decode cX0_takeFrom 9 = .ok (.aload_n 1, 1) := by decide +kernel
theorem dX0_takeFrom_10 : decode cX0_takeFrom 10 = .ok (.getfield 15, 3) := by decide +kernel
theorem dX0_takeFrom_13 : decode cX0_takeFrom 13 = .ok (.putfield 15, 3) := by decide +kernel
theorem dX0_takeFrom_16 : decode cX0_takeFrom 16 = .ok (.aload_n 0, 1) := by decide +kernel
theorem dX0_takeFrom_17 : decode cX0_takeFrom 17 = .ok (.aload_n 1, 1) := by decide +kernel
theorem dX0_takeFrom_18 : decode cX0_takeFrom 18 = .ok (.getfield 18, 3) := by decide +kernel
theorem dX0_takeFrom_21 : decode cX0_takeFrom 21 = .ok (.putfield 18, 3) := by decide +kernel
theorem dX0_takeFrom_24 : decode cX0_takeFrom 24 = .ok (.aload_n 0, 1) := by decide +kernel
theorem dX0_takeFrom_25 : decode cX0_takeFrom 25 = .ok (.aload_n 1, 1) := by decide +kernel
theorem dX0_takeFrom_26 : decode cX0_takeFrom 26 = .ok (.getfield 21, 3) := by decide +kernel
theorem dX0_takeFrom_29 : decode cX0_takeFrom 29 = .ok (.putfield 21, 3) := by decide +kernel
theorem dX0_takeFrom_32 : decode cX0_takeFrom 32 = .ok (.aload_n 0, 1) := by decide +kernel
theorem dX0_takeFrom_33 : decode cX0_takeFrom 33 = .ok (.aload_n 1, 1) := by decide +kernel
theorem dX0_takeFrom_34 : decode cX0_takeFrom 34 = .ok (.getfield 24, 3) := by decide +kernel
theorem dX0_takeFrom_37 : decode cX0_takeFrom 37 = .ok (.putfield 24, 3) := by decide +kernel
theorem dX0_takeFrom_40 : decode cX0_takeFrom 40 = .ok (.return_, 1) := by decide +kernel
theorem dX0_part_0 : decode cX0_part 0 = .ok (.iload_n 1, 1) := by decide +kernel
theorem dX0_part_1 : decode cX0_part 1 = .ok (.tableswitch 51 0 3 #[31, 36, 41, 46], 31) := by decide +kernel
theorem dX0_part_32 : decode cX0_part 32 = .ok (.aload_n 0, 1) := by decide +kernel
theorem dX0_part_33 : decode cX0_part 33 = .ok (.getfield 9, 3) := by decide +kernel
theorem dX0_part_36 : decode cX0_part 36 = .ok (.ireturn, 1) := by decide +kernel
theorem dX0_part_37 : decode cX0_part 37 = .ok (.aload_n 0, 1) := by decide +kernel
theorem dX0_part_38 : decode cX0_part 38 = .ok (.getfield 15, 3) := by decide +kernel
theorem dX0_part_41 : decode cX0_part 41 = .ok (.ireturn, 1) := by decide +kernel
theorem dX0_part_42 : decode cX0_part 42 = .ok (.aload_n 0, 1) := by decide +kernel
theorem dX0_part_43 : decode cX0_part 43 = .ok (.getfield 18, 3) := by decide +kernel
theorem dX0_part_46 : decode cX0_part 46 = .ok (.ireturn, 1) := by decide +kernel
theorem dX0_part_47 : decode cX0_part 47 = .ok (.aload_n 0, 1) := by decide +kernel
theorem dX0_part_48 : decode cX0_part 48 = .ok (.getfield 21, 3) := by decide +kernel
theorem dX0_part_51 : decode cX0_part 51 = .ok (.ireturn, 1) := by decide +kernel
theorem dX0_part_52 : decode cX0_part 52 = .ok (.aload_n 0, 1) := by decide +kernel
theorem dX0_part_53 : decode cX0_part 53 = .ok (.getfield 24, 3) := by decide +kernel
theorem dX0_part_56 : decode cX0_part 56 = .ok (.ireturn, 1) := by decide +kernel
theorem dX0_setPart_0 : decode cX0_setPart 0 = .ok (.iload_n 1, 1) := by decide +kernel
theorem dX0_setPart_1 : decode cX0_setPart 1 = .ok (.tableswitch 63 0 3 #[31, 39, 47, 55], 31) := by decide +kernel
theorem dX0_setPart_32 : decode cX0_setPart 32 = .ok (.aload_n 0, 1) := by decide +kernel
theorem dX0_setPart_33 : decode cX0_setPart 33 = .ok (.iload_n 2, 1) := by decide +kernel
theorem dX0_setPart_34 : decode cX0_setPart 34 = .ok (.putfield 9, 3) := by decide +kernel
theorem dX0_setPart_37 : decode cX0_setPart 37 = .ok (.goto 32, 3) := by decide +kernel
theorem dX0_setPart_40 : decode cX0_setPart 40 = .ok (.aload_n 0, 1) := by decide +kernel
theorem dX0_setPart_41 : decode cX0_setPart 41 = .ok (.iload_n 2, 1) := by decide +kernel
theorem dX0_setPart_42 : decode cX0_setPart 42 = .ok (.putfield 15, 3) := by decide +kernel
theorem dX0_setPart_45 : decode cX0_setPart 45 = .ok (.goto 24, 3) := by decide +kernel
theorem dX0_setPart_48 : decode cX0_setPart 48 = .ok (.aload_n 0, 1) := by decide +kernel
theorem dX0_setPart_49 : decode cX0_setPart 49 = .ok (.iload_n 2, 1) := by decide +kernel
theorem dX0_setPart_50 : decode cX0_setPart 50 = .ok (.putfield 18, 3) := by decide +kernel
theorem dX0_setPart_53 : decode cX0_setPart 53 = .ok (.goto 16, 3) := by decide +kernel
theorem dX0_setPart_56 : decode cX0_setPart 56 = .ok (.aload_n 0, 1) := by decide +kernel
theorem dX0_setPart_57 : decode cX0_setPart 57 = .ok (.iload_n 2, 1) := by decide +kernel
theorem dX0_setPart_58 : decode cX0_setPart 58 = .ok (.putfield 21, 3) := by decide +kernel
theorem dX0_setPart_61 : decode cX0_setPart 61 = .ok (.goto 8, 3) := by decide +kernel
theorem dX0_setPart_64 : decode cX0_setPart 64 = .ok (.aload_n 0, 1) := by decide +kernel
theorem dX0_setPart_65 : decode cX0_setPart 65 = .ok (.iload_n 2, 1) := by decide +kernel
theorem dX0_setPart_66 : decode cX0_setPart 66 = .ok (.putfield 24, 3) := by decide +kernel
theorem dX0_setPart_69 : decode cX0_setPart 69 = .ok (.return_, 1) := by decide +kernel
theorem dX0_isBreaking_0 : decode cX0_isBreaking 0 = .ok (.aload_n 0, 1) := by decide +kernel
theorem dX0_isBreaking_1 : decode cX0_isBreaking 1 = .ok (.getfield 15, 3) := by decide +kernel
theorem dX0_isBreaking_4 : decode cX0_isBreaking 4 = .ok (.aload_n 0, 1) := by decide +kernel
theorem dX0_isBreaking_5 : decode cX0_isBreaking 5 = .ok (.getfield 24, 3) := by decide +kernel
theorem dX0_isBreaking_8 : decode cX0_isBreaking 8 = .ok (.if_icmp .lt 7, 3) := by decide +kernel
theorem dX0_isBreaking_11 : decode cX0_isBreaking 11 = .ok (.iconst 1, 1) := by decide +kernel
theorem dX0_isBreaking_12 : decode cX0_isBreaking 12 = .ok (.goto 4, 3) := by decide +kernel
theorem dX0_isBreaking_15 : decode cX0_isBreaking 15 = .ok (.iconst 0, 1) := by decide +kernel
theorem dX0_isBreaking_16 : decode cX0_isBreaking 16 = .ok (.ireturn, 1) := by decide +kernel
theorem dX0_passHour_0 : decode cX0_passHour 0 = .ok (.aload_n 0, 1) := by decide +kernel
theorem dX0_passHour_1 : decode cX0_passHour 1 = .ok (.invokevirtual 38, 3) := by decide +kernel
theorem dX0_passHour_4 : decode cX0_passHour 4 = .ok (.ifCond .eq 8, 3) := by decide +kernel
theorem dX0_passHour_7 : decode cX0_passHour 7 = .ok (.aload_n 0, 1) := by decide +kernel
theorem dX0_passHour_8 : decode cX0_passHour 8 = .ok (.iconst 0, 1) := by decide +kernel
theorem dX0_passHour_9 : decode cX0_passHour 9 = .ok (.putfield 15, 3) := by decide +kernel
theorem dX0_passHour_12 : decode cX0_passHour 12 = .ok (.aload_n 0, 1) := by decide +kernel
theorem dX0_passHour_13 : decode cX0_passHour 13 = .ok (.invokevirtual 42, 3) := by decide +kernel
theorem dX0_passHour_16 : decode cX0_passHour 16 = .ok (.return_, 1) := by decide +kernel
theorem dX0_goOn_0 : decode cX0_goOn 0 = .ok (.aload_n 0, 1) := by decide +kernel
theorem dX0_goOn_1 : decode cX0_goOn 1 = .ok (.getfield 9, 3) := by decide +kernel
theorem dX0_goOn_4 : decode cX0_goOn 4 = .ok (.aload_n 0, 1) := by decide +kernel
theorem dX0_goOn_5 : decode cX0_goOn 5 = .ok (.getfield 18, 3) := by decide +kernel
theorem dX0_goOn_8 : decode cX0_goOn 8 = .ok (.iadd, 1) := by decide +kernel
theorem dX0_goOn_9 : decode cX0_goOn 9 = .ok (.istore_n 1, 1) := by decide +kernel
theorem dX0_goOn_10 : decode cX0_goOn 10 = .ok (.iload_n 1, 1) := by decide +kernel
theorem dX0_goOn_11 : decode cX0_goOn 11 = .ok (.invokestatic 45, 3) := by decide +kernel
theorem dX0_goOn_14 : decode cX0_goOn 14 = .ok (.ifCond .eq 11, 3) := by decide +kernel
theorem dX0_goOn_17 : decode cX0_goOn 17 = .ok (.aload_n 0, 1) := by decide +kernel
theorem dX0_goOn_18 : decode cX0_goOn 18 = .ok (.iload_n 1, 1) := by decide +kernel
theorem dX0_goOn_19 : decode cX0_goOn 19 = .ok (.putfield 9, 3) := by decide +kernel
theorem dX0_goOn_22 : decode cX0_goOn 22 = .ok (.goto 12, 3) := by decide +kernel
theorem dX0_goOn_25 : decode cX0_goOn 25 = .ok (.aload_n 0, 1) := by decide +kernel
theorem dX0_goOn_26 : decode cX0_goOn 26 = .ok (.aload_n 0, 1) := by decide +kernel
theorem dX0_goOn_27 : decode cX0_goOn 27 = .ok (.getfield 18, 3) := by decide +kernel
theorem dX0_goOn_30 : decode cX0_goOn 30 = .ok (.ineg, 1) := by decide +kernel
theorem dX0_goOn_31 : decode cX0_goOn 31 = .ok (.putfield 18, 3) := by decide +kernel
theorem dX0_goOn_34 : decode cX0_goOn 34 = .ok (.aload_n 0, 1) := by decide +kernel
theorem dX0_goOn_35 : decode cX0_goOn 35 = .ok (.aload_n 0, 1) := by decide +kernel
theorem dX0_goOn_36 : decode cX0_goOn 36 = .ok (.getfield 15, 3) := by decide +kernel
theorem dX0_goOn_39 : decode cX0_goOn 39 = .ok (.aload_n 0, 1) := by decide +kernel
theorem dX0_goOn_40 : decode cX0_goOn 40 = .ok (.getfield 21, 3) := by decide +kernel
theorem dX0_goOn_43 : decode cX0_goOn 43 = .ok (.iadd, 1) := by decide +kernel
theorem dX0_goOn_44 : decode cX0_goOn 44 = .ok (.bipush 99, 2) := by decide +kernel
theorem dX0_goOn_46 : decode cX0_goOn 46 = .ok (.invokestatic 49, 3) := by decide +kernel
theorem dX0_goOn_49 : decode cX0_goOn 49 = .ok (.putfield 15, 3) := by decide +kernel
theorem dX0_goOn_52 : decode cX0_goOn 52 = .ok (.return_, 1) := by decide +kernel
theorem dX2_init_0 : decode cX2_init 0 = .ok (.aload_n 0, 1) := by decide +kernel
theorem dX2_init_1 : decode cX2_init 1 = .ok (.invokespecial 3, 3) := by decide +kernel
theorem dX2_init_4 : decode cX2_init 4 = .ok (.aload_n 0, 1) := by decide +kernel
theorem dX2_init_5 : decode cX2_init 5 = .ok (.new 9, 3) := by decide +kernel
theorem dX2_init_8 : decode cX2_init 8 = .ok (.dup, 1) := by decide +kernel
theorem dX2_init_9 : decode cX2_init 9 = .ok (.invokespecial 11, 3) := by decide +kernel
theorem dX2_init_12 : decode cX2_init 12 = .ok (.putfield 12, 3) := by decide +kernel
theorem dX2_init_15 : decode cX2_init 15 = .ok (.aload_n 0, 1) := by decide +kernel
theorem dX2_init_16 : decode cX2_init 16 = .ok (.iconst 0, 1) := by decide +kernel
theorem dX2_init_17 : decode cX2_init 17 = .ok (.putfield 18, 3) := by decide +kernel
theorem dX2_init_20 : decode cX2_init 20 = .ok (.aload_n 0, 1) := by decide +kernel
theorem dX2_init_21 : decode cX2_init 21 = .ok (.iconst 0, 1) := by decide +kernel
theorem dX2_init_22 : decode cX2_init 22 = .ok (.putfield 22, 3) := by decide +kernel
theorem dX2_init_25 : decode cX2_init 25 = .ok (.aload_n 0, 1) := by decide +kernel
theorem dX2_init_26 : decode cX2_init 26 = .ok (.iconst 0, 1) := by decide +kernel
theorem dX2_init_27 : decode cX2_init 27 = .ok (.putfield 25, 3) := by decide +kernel
theorem dX2_init_30 : decode cX2_init 30 = .ok (.aload_n 0, 1) := by decide +kernel
theorem dX2_init_31 : decode cX2_init 31 = .ok (.iconst 0, 1) := by decide +kernel
theorem dX2_init_32 : decode cX2_init 32 = .ok (.putfield 28, 3) := by decide +kernel
theorem dX2_init_35 : decode cX2_init 35 = .ok (.return_, 1) := by decide +kernel
theorem dX2_layOut_0 : decode cX2_layOut 0 = .ok (.aload_n 0, 1) := by decide +kernel
theorem dX2_layOut_1 : decode cX2_layOut 1 = .ok (.iconst 0, 1) := by decide +kernel
theorem dX2_layOut_2 : decode cX2_layOut 2 = .ok (.putfield 25, 3) := by decide +kernel
theorem dX2_layOut_5 : decode cX2_layOut 5 = .ok (.aload_n 0, 1) := by decide +kernel
theorem dX2_layOut_6 : decode cX2_layOut 6 = .ok (.invokevirtual 31, 3) := by decide +kernel
theorem dX2_layOut_9 : decode cX2_layOut 9 = .ok (.iconst 1, 1) := by decide +kernel
theorem dX2_layOut_10 : decode cX2_layOut 10 = .ok (.istore_n 2, 1) := by decide +kernel
theorem dX2_layOut_11 : decode cX2_layOut 11 = .ok (.iload_n 2, 1) := by decide +kernel
theorem dX2_layOut_12 : decode cX2_layOut 12 = .ok (.bipush 120, 2) := by decide +kernel
theorem dX2_layOut_14 : decode cX2_layOut 14 = .ok (.if_icmp .gt 52, 3) := by decide +kernel
theorem dX2_layOut_17 : decode cX2_layOut 17 = .ok (.aload_n 0, 1) := by decide +kernel
theorem dX2_layOut_18 : decode cX2_layOut 18 = .ok (.aload_n 1, 1) := by decide +kernel
theorem dX2_layOut_19 : decode cX2_layOut 19 = .ok (.invokevirtual 34, 3) := by decide +kernel
theorem dX2_layOut_22 : decode cX2_layOut 22 = .ok (.ifCond .ne 10, 3) := by decide +kernel
theorem dX2_layOut_25 : decode cX2_layOut 25 = .ok (.iconst (-1), 1) := by decide +kernel
theorem dX2_layOut_26 : decode cX2_layOut 26 = .ok (.aload_n 0, 1) := by decide +kernel
theorem dX2_layOut_27 : decode cX2_layOut 27 = .ok (.getfield 22, 3) := by decide +kernel
theorem dX2_layOut_30 : decode cX2_layOut 30 = .ok (.isub, 1) := by decide +kernel
theorem dX2_layOut_31 : decode cX2_layOut 31 = .ok (.ireturn, 1) := by decide +kernel
theorem dX2_layOut_32 : decode cX2_layOut 32 = .ok (.aload_n 0, 1) := by decide +kernel
theorem dX2_layOut_33 : decode cX2_layOut 33 = .ok (.getfield 18, 3) := by decide +kernel
theorem dX2_layOut_36 : decode cX2_layOut 36 = .ok (.ifCond .ne 5, 3) := by decide +kernel
theorem dX2_layOut_39 : decode cX2_layOut 39 = .ok (.iload_n 2, 1) := by decide +kernel
theorem dX2_layOut_40 : decode cX2_layOut 40 = .ok (.ireturn, 1) := by decide +kernel
theorem dX2_layOut_41 : decode cX2_layOut 41 = .ok (.aload_n 0, 1) := by decide +kernel
theorem dX2_layOut_42 : decode cX2_layOut 42 = .ok (.getfield 18, 3) := by decide +kernel
theorem dX2_layOut_45 : decode cX2_layOut 45 = .ok (.iconst 3, 1) := by decide +kernel
theorem dX2_layOut_46 : decode cX2_layOut 46 = .ok (.if_icmp .eq 10, 3) := by decide +kernel
theorem dX2_layOut_49 : decode cX2_layOut 49 = .ok (.iconst (-1), 1) := by decide +kernel
theorem dX2_layOut_50 : decode cX2_layOut 50 = .ok (.aload_n 0, 1) := by decide +kernel
theorem dX2_layOut_51 : decode cX2_layOut 51 = .ok (.getfield 22, 3) := by decide +kernel
theorem dX2_layOut_54 : decode cX2_layOut 54 = .ok (.isub, 1) := by decide +kernel
theorem dX2_layOut_55 : decode cX2_layOut 55 = .ok (.ireturn, 1) := by decide +kernel
theorem dX2_layOut_56 : decode cX2_layOut 56 = .ok (.aload_n 0, 1) := by decide +kernel
theorem dX2_layOut_57 : decode cX2_layOut 57 = .ok (.invokevirtual 31, 3) := by decide +kernel
theorem dX2_layOut_60 : decode cX2_layOut 60 = .ok (.iinc 2 1, 3) := by decide +kernel
theorem dX2_layOut_63 : decode cX2_layOut 63 = .ok (.goto (-52), 3) := by decide +kernel
theorem dX2_layOut_66 : decode cX2_layOut 66 = .ok (.iconst (-1), 1) := by decide +kernel
theorem dX2_layOut_67 : decode cX2_layOut 67 = .ok (.aload_n 0, 1) := by decide +kernel
theorem dX2_layOut_68 : decode cX2_layOut 68 = .ok (.getfield 22, 3) := by decide +kernel
theorem dX2_layOut_71 : decode cX2_layOut 71 = .ok (.isub, 1) := by decide +kernel
theorem dX2_layOut_72 : decode cX2_layOut 72 = .ok (.ireturn, 1) := by decide +kernel
theorem dX2_layItem_0 : decode cX2_layItem 0 = .ok (.aload_n 0, 1) := by decide +kernel
theorem dX2_layItem_1 : decode cX2_layItem 1 = .ok (.invokevirtual 38, 3) := by decide +kernel
theorem dX2_layItem_4 : decode cX2_layItem 4 = .ok (.istore_n 2, 1) := by decide +kernel
theorem dX2_layItem_5 : decode cX2_layItem 5 = .ok (.iload_n 2, 1) := by decide +kernel
theorem dX2_layItem_6 : decode cX2_layItem 6 = .ok (.invokestatic 42, 3) := by decide +kernel
theorem dX2_layItem_9 : decode cX2_layItem 9 = .ok (.ifCond .eq 10, 3) := by decide +kernel
theorem dX2_layItem_12 : decode cX2_layItem 12 = .ok (.aload_n 0, 1) := by decide +kernel
theorem dX2_layItem_13 : decode cX2_layItem 13 = .ok (.aload_n 1, 1) := by decide +kernel
theorem dX2_layItem_14 : decode cX2_layItem 14 = .ok (.iload_n 2, 1) := by decide +kernel
theorem dX2_layItem_15 : decode cX2_layItem 15 = .ok (.invokevirtual 46, 3) := by decide +kernel
theorem dX2_layItem_18 : decode cX2_layItem 18 = .ok (.ireturn, 1) := by decide +kernel
theorem dX2_layItem_19 : decode cX2_layItem 19 = .ok (.aload_n 0, 1) := by decide +kernel
theorem dX2_layItem_20 : decode cX2_layItem 20 = .ok (.ldc 50, 2) := by decide +kernel
theorem dX2_layItem_22 : decode cX2_layItem 22 = .ok (.invokevirtual 52, 3) := by decide +kernel
theorem dX2_layItem_25 : decode cX2_layItem 25 = .ok (.ifCond .eq 12, 3) := by decide +kernel
theorem dX2_layItem_28 : decode cX2_layItem 28 = .ok (.aload_n 0, 1) := by decide +kernel
theorem dX2_layItem_29 : decode cX2_layItem 29 = .ok (.aload_n 1, 1) := by decide +kernel
theorem dX2_layItem_30 : decode cX2_layItem 30 = .ok (.getfield 56, 3) := by decide +kernel
theorem dX2_layItem_33 : decode cX2_layItem 33 = .ok (.invokevirtual 61, 3) := by decide +kernel
theorem dX2_layItem_36 : decode cX2_layItem 36 = .ok (.ireturn, 1) := by decide +kernel
theorem dX2_layItem_37 : decode cX2_layItem 37 = .ok (.aload_n 0, 1) := by decide +kernel
theorem dX2_layItem_38 : decode cX2_layItem 38 = .ok (.ldc 65, 2) := by decide +kernel
theorem dX2_layItem_40 : decode cX2_layItem 40 = .ok (.invokevirtual 52, 3) := by decide +kernel
theorem dX2_layItem_43 : decode cX2_layItem 43 = .ok (.ifCond .eq 13, 3) := by decide +kernel
theorem dX2_layItem_46 : decode cX2_layItem 46 = .ok (.aload_n 0, 1) := by decide +kernel
theorem dX2_layItem_47 : decode cX2_layItem 47 = .ok (.aload_n 1, 1) := by decide +kernel
theorem dX2_layItem_48 : decode cX2_layItem 48 = .ok (.getfield 56, 3) := by decide +kernel
theorem dX2_layItem_51 : decode cX2_layItem 51 = .ok (.iconst 3, 1) := by decide +kernel
theorem dX2_layItem_52 : decode cX2_layItem 52 = .ok (.invokevirtual 69, 3) := by decide +kernel
theorem dX2_layItem_55 : decode cX2_layItem 55 = .ok (.ireturn, 1) := by decide +kernel
theorem dX2_layItem_56 : decode cX2_layItem 56 = .ok (.aload_n 0, 1) := by decide +kernel
theorem dX2_layItem_57 : decode cX2_layItem 57 = .ok (.ldc 73, 2) := by decide +kernel
theorem dX2_layItem_59 : decode cX2_layItem 59 = .ok (.invokevirtual 52, 3) := by decide +kernel
theorem dX2_layItem_62 : decode cX2_layItem 62 = .ok (.ifCond .eq 13, 3) := by decide +kernel
theorem dX2_layItem_65 : decode cX2_layItem 65 = .ok (.aload_n 0, 1) := by decide +kernel
theorem dX2_layItem_66 : decode cX2_layItem 66 = .ok (.aload_n 1, 1) := by decide +kernel
theorem dX2_layItem_67 : decode cX2_layItem 67 = .ok (.getfield 56, 3) := by decide +kernel
theorem dX2_layItem_70 : decode cX2_layItem 70 = .ok (.iconst 4, 1) := by decide +kernel
theorem dX2_layItem_71 : decode cX2_layItem 71 = .ok (.invokevirtual 69, 3) := by decide +kernel
theorem dX2_layItem_74 : decode cX2_layItem 74 = .ok (.ireturn, 1) := by decide +kernel
theorem dX2_layItem_75 : decode cX2_layItem 75 = .ok (.iconst 0, 1) := by decide +kernel
theorem dX2_layItem_76 : decode cX2_layItem 76 = .ok (.ireturn, 1) := by decide +kernel
theorem dX2_layRod_0 : decode cX2_layRod 0 = .ok (.aload_n 1, 1) := by decide +kernel
theorem dX2_layRod_1 : decode cX2_layRod 1 = .ok (.invokevirtual 75, 3) := by decide +kernel
theorem dX2_layRod_4 : decode cX2_layRod 4 = .ok (.ifCond .eq 5, 3) := by decide +kernel
theorem dX2_layRod_7 : decode cX2_layRod 7 = .ok (.iconst 0, 1) := by decide +kernel
theorem dX2_layRod_8 : decode cX2_layRod 8 = .ok (.ireturn, 1) := by decide +kernel
theorem dX2_layRod_9 : decode cX2_layRod 9 = .ok (.aload_n 0, 1) := by decide +kernel
theorem dX2_layRod_10 : decode cX2_layRod 10 = .ok (.invokevirtual 31, 3) := by decide +kernel
theorem dX2_layRod_13 : decode cX2_layRod 13 = .ok (.aload_n 0, 1) := by decide +kernel
theorem dX2_layRod_14 : decode cX2_layRod 14 = .ok (.ldc 79, 2) := by decide +kernel
theorem dX2_layRod_16 : decode cX2_layRod 16 = .ok (.invokevirtual 52, 3) := by decide +kernel
theorem dX2_layRod_19 : decode cX2_layRod 19 = .ok (.ifCond .eq 13, 3) := by decide +kernel
theorem dX2_layRod_22 : decode cX2_layRod 22 = .ok (.aload_n 0, 1) := by decide +kernel
theorem dX2_layRod_23 : decode cX2_layRod 23 = .ok (.iconst 0, 1) := by decide +kernel
theorem dX2_layRod_24 : decode cX2_layRod 24 = .ok (.bipush 15, 2) := by decide +kernel
theorem dX2_layRod_26 : decode cX2_layRod 26 = .ok (.invokevirtual 81, 3) := by decide +kernel
theorem dX2_layRod_29 : decode cX2_layRod 29 = .ok (.ifCond .ne 5, 3) := by decide +kernel
theorem dX2_layRod_32 : decode cX2_layRod 32 = .ok (.iconst 0, 1) := by decide +kernel
theorem dX2_layRod_33 : decode cX2_layRod 33 = .ok (.ireturn, 1) := by decide +kernel
theorem dX2_layRod_34 : decode cX2_layRod 34 = .ok (.aload_n 1, 1) := by decide +kernel
theorem dX2_layRod_35 : decode cX2_layRod 35 = .ok (.iload_n 2, 1) := by decide +kernel
theorem dX2_layRod_36 : decode cX2_layRod 36 = .ok (.aload_n 0, 1) := by decide +kernel
theorem dX2_layRod_37 : decode cX2_layRod 37 = .ok (.invokevirtual 85, 3) := by decide +kernel
theorem dX2_layRod_40 : decode cX2_layRod 40 = .ok (.invokevirtual 88, 3) := by decide +kernel
theorem dX2_layRod_43 : decode cX2_layRod 43 = .ok (.astore_n 3, 1) := by decide +kernel
theorem dX2_layRod_44 : decode cX2_layRod 44 = .ok (.aload_n 0, 1) := by decide +kernel
theorem dX2_layRod_45 : decode cX2_layRod 45 = .ok (.ldc 92, 2) := by decide +kernel
theorem dX2_layRod_47 : decode cX2_layRod 47 = .ok (.invokevirtual 52, 3) := by decide +kernel
theorem dX2_layRod_50 : decode cX2_layRod 50 = .ok (.ifCond .eq 23, 3) := by decide +kernel
theorem dX2_layRod_53 : decode cX2_layRod 53 = .ok (.aload_n 0, 1) := by decide +kernel
theorem dX2_layRod_54 : decode cX2_layRod 54 = .ok (.iconst 0, 1) := by decide +kernel
theorem dX2_layRod_55 : decode cX2_layRod 55 = .ok (.bipush 60, 2) := by decide +kernel
theorem dX2_layRod_57 : decode cX2_layRod 57 = .ok (.invokevirtual 81, 3) := by decide +kernel
theorem dX2_layRod_60 : decode cX2_layRod 60 = .ok (.ifCond .ne 5, 3) := by decide +kernel
theorem dX2_layRod_63 : decode cX2_layRod 63 = .ok (.iconst 0, 1) := by decide +kernel
theorem dX2_layRod_64 : decode cX2_layRod 64 = .ok (.ireturn, 1) := by decide +kernel
theorem dX2_layRod_65 : decode cX2_layRod 65 = .ok (.aload_n 3, 1) := by decide +kernel
theorem dX2_layRod_66 : decode cX2_layRod 66 = .ok (.aload_n 0, 1) := by decide +kernel
theorem dX2_layRod_67 : decode cX2_layRod 67 = .ok (.invokevirtual 85, 3) := by decide +kernel
theorem dX2_layRod_70 : decode cX2_layRod 70 = .ok (.putfield 94, 3) := by decide +kernel
theorem dX2_layRod_73 : decode cX2_layRod 73 = .ok (.aload_n 0, 1) := by decide +kernel
theorem dX2_layRod_74 : decode cX2_layRod 74 = .ok (.ldc 99, 2) := by decide +kernel
theorem dX2_layRod_76 : decode cX2_layRod 76 = .ok (.invokevirtual 52, 3) := by decide +kernel
theorem dX2_layRod_79 : decode cX2_layRod 79 = .ok (.ifCond .eq 52, 3) := by decide +kernel
theorem dX2_layRod_82 : decode cX2_layRod 82 = .ok (.aload_n 0, 1) := by decide +kernel
theorem dX2_layRod_83 : decode cX2_layRod 83 = .ok (.iconst 0, 1) := by decide +kernel
theorem dX2_layRod_84 : decode cX2_layRod 84 = .ok (.bipush 23, 2) := by decide +kernel
theorem dX2_layRod_86 : decode cX2_layRod 86 = .ok (.invokevirtual 81, 3) := by decide +kernel
theorem dX2_layRod_89 : decode cX2_layRod 89 = .ok (.ifCond .ne 5, 3) := by decide +kernel
theorem dX2_layRod_92 : decode cX2_layRod 92 = .ok (.iconst 0, 1) := by decide +kernel
theorem dX2_layRod_93 : decode cX2_layRod 93 = .ok (.ireturn, 1) := by decide +kernel
theorem dX2_layRod_94 : decode cX2_layRod 94 = .ok (.aload_n 3, 1) := by decide +kernel
theorem dX2_layRod_95 : decode cX2_layRod 95 = .ok (.aload_n 0, 1) := by decide +kernel
theorem dX2_layRod_96 : decode cX2_layRod 96 = .ok (.invokevirtual 85, 3) := by decide +kernel
theorem dX2_layRod_99 : decode cX2_layRod 99 = .ok (.putfield 101, 3) := by decide +kernel
theorem dX2_layRod_102 : decode cX2_layRod 102 = .ok (.aload_n 0, 1) := by decide +kernel
theorem dX2_layRod_103 : decode cX2_layRod 103 = .ok (.ldc 103, 2) := by decide +kernel
theorem dX2_layRod_105 : decode cX2_layRod 105 = .ok (.invokevirtual 52, 3) := by decide +kernel
theorem dX2_layRod_108 : decode cX2_layRod 108 = .ok (.ifCond .eq 13, 3) := by decide +kernel
theorem dX2_layRod_111 : decode cX2_layRod 111 = .ok (.aload_n 0, 1) := by decide +kernel
theorem dX2_layRod_112 : decode cX2_layRod 112 = .ok (.iconst 0, 1) := by decide +kernel
theorem dX2_layRod_113 : decode cX2_layRod 113 = .ok (.bipush 23, 2) := by decide +kernel
theorem dX2_layRod_115 : decode cX2_layRod 115 = .ok (.invokevirtual 81, 3) := by decide +kernel
theorem dX2_layRod_118 : decode cX2_layRod 118 = .ok (.ifCond .ne 5, 3) := by decide +kernel
theorem dX2_layRod_121 : decode cX2_layRod 121 = .ok (.iconst 0, 1) := by decide +kernel
theorem dX2_layRod_122 : decode cX2_layRod 122 = .ok (.ireturn, 1) := by decide +kernel
theorem dX2_layRod_123 : decode cX2_layRod 123 = .ok (.aload_n 3, 1) := by decide +kernel
theorem dX2_layRod_124 : decode cX2_layRod 124 = .ok (.aload_n 0, 1) := by decide +kernel
theorem dX2_layRod_125 : decode cX2_layRod 125 = .ok (.invokevirtual 85, 3) := by decide +kernel
theorem dX2_layRod_128 : decode cX2_layRod 128 = .ok (.putfield 105, 3) := by decide +kernel
theorem dX2_layRod_131 : decode cX2_layRod 131 = .ok (.iconst 1, 1) := by decide +kernel
theorem dX2_layRod_132 : decode cX2_layRod 132 = .ok (.ireturn, 1) := by decide +kernel
theorem dX2_layCloud_0 : decode cX2_layCloud 0 = .ok (.aload_n 0, 1) := by decide +kernel
theorem dX2_layCloud_1 : decode cX2_layCloud 1 = .ok (.aload_n 1, 1) := by decide +kernel
theorem dX2_layCloud_2 : decode cX2_layCloud 2 = .ok (.iconst 0, 1) := by decide +kernel
theorem dX2_layCloud_3 : decode cX2_layCloud 3 = .ok (.invokevirtual 69, 3) := by decide +kernel
theorem dX2_layCloud_6 : decode cX2_layCloud 6 = .ok (.ifCond .ne 5, 3) := by decide +kernel
theorem dX2_layCloud_9 : decode cX2_layCloud 9 = .ok (.iconst 0, 1) := by decide +kernel
theorem dX2_layCloud_10 : decode cX2_layCloud 10 = .ok (.ireturn, 1) := by decide +kernel
theorem dX2_layCloud_11 : decode cX2_layCloud 11 = .ok (.aload_n 0, 1) := by decide +kernel
theorem dX2_layCloud_12 : decode cX2_layCloud 12 = .ok (.ldc 107, 2) := by decide +kernel
theorem dX2_layCloud_14 : decode cX2_layCloud 14 = .ok (.invokevirtual 52, 3) := by decide +kernel
theorem dX2_layCloud_17 : decode cX2_layCloud 17 = .ok (.ifCond .eq 14, 3) := by decide +kernel
theorem dX2_layCloud_20 : decode cX2_layCloud 20 = .ok (.aload_n 0, 1) := by decide +kernel
theorem dX2_layCloud_21 : decode cX2_layCloud 21 = .ok (.aload_n 1, 1) := by decide +kernel
theorem dX2_layCloud_22 : decode cX2_layCloud 22 = .ok (.iconst 1, 1) := by decide +kernel
theorem dX2_layCloud_23 : decode cX2_layCloud 23 = .ok (.invokevirtual 69, 3) := by decide +kernel
theorem dX2_layCloud_26 : decode cX2_layCloud 26 = .ok (.ifCond .ne 5, 3) := by decide +kernel
theorem dX2_layCloud_29 : decode cX2_layCloud 29 = .ok (.iconst 0, 1) := by decide +kernel
theorem dX2_layCloud_30 : decode cX2_layCloud 30 = .ok (.ireturn, 1) := by decide +kernel
theorem dX2_layCloud_31 : decode cX2_layCloud 31 = .ok (.aload_n 0, 1) := by decide +kernel
theorem dX2_layCloud_32 : decode cX2_layCloud 32 = .ok (.ldc 109, 2) := by decide +kernel
theorem dX2_layCloud_34 : decode cX2_layCloud 34 = .ok (.invokevirtual 52, 3) := by decide +kernel
theorem dX2_layCloud_37 : decode cX2_layCloud 37 = .ok (.ifCond .eq 11, 3) := by decide +kernel
theorem dX2_layCloud_40 : decode cX2_layCloud 40 = .ok (.aload_n 1, 1) := by decide +kernel
theorem dX2_layCloud_41 : decode cX2_layCloud 41 = .ok (.iconst (-1), 1) := by decide +kernel
theorem dX2_layCloud_42 : decode cX2_layCloud 42 = .ok (.putfield 111, 3) := by decide +kernel
theorem dX2_layCloud_45 : decode cX2_layCloud 45 = .ok (.goto 34, 3) := by decide +kernel
theorem dX2_layCloud_48 : decode cX2_layCloud 48 = .ok (.aload_n 0, 1) := by decide +kernel
theorem dX2_layCloud_49 : decode cX2_layCloud 49 = .ok (.ldc 114, 2) := by decide +kernel
theorem dX2_layCloud_51 : decode cX2_layCloud 51 = .ok (.invokevirtual 52, 3) := by decide +kernel
theorem dX2_layCloud_54 : decode cX2_layCloud 54 = .ok (.ifCond .eq 11, 3) := by decide +kernel
theorem dX2_layCloud_57 : decode cX2_layCloud 57 = .ok (.aload_n 1, 1) := by decide +kernel
theorem dX2_layCloud_58 : decode cX2_layCloud 58 = .ok (.iconst 1, 1) := by decide +kernel
theorem dX2_layCloud_59 : decode cX2_layCloud 59 = .ok (.putfield 111, 3) := by decide +kernel
theorem dX2_layCloud_62 : decode cX2_layCloud 62 = .ok (.goto 17, 3) := by decide +kernel
theorem dX2_layCloud_65 : decode cX2_layCloud 65 = .ok (.aload_n 0, 1) := by decide +kernel
theorem dX2_layCloud_66 : decode cX2_layCloud 66 = .ok (.ldc 116, 2) := by decide +kernel
theorem dX2_layCloud_68 : decode cX2_layCloud 68 = .ok (.invokevirtual 52, 3) := by decide +kernel
theorem dX2_layCloud_71 : decode cX2_layCloud 71 = .ok (.ifCond .eq 8, 3) := by decide +kernel
theorem dX2_layCloud_74 : decode cX2_layCloud 74 = .ok (.aload_n 1, 1) := by decide +kernel
theorem dX2_layCloud_75 : decode cX2_layCloud 75 = .ok (.iconst 0, 1) := by decide +kernel
theorem dX2_layCloud_76 : decode cX2_layCloud 76 = .ok (.putfield 111, 3) := by decide +kernel
theorem dX2_layCloud_79 : decode cX2_layCloud 79 = .ok (.iconst 1, 1) := by decide +kernel
theorem dX2_layCloud_80 : decode cX2_layCloud 80 = .ok (.ireturn, 1) := by decide +kernel
theorem dX2_takeCloudPart_0 : decode cX2_takeCloudPart 0 = .ok (.aload_n 0, 1) := by decide +kernel
theorem dX2_takeCloudPart_1 : decode cX2_takeCloudPart 1 = .ok (.getfield 18, 3) := by decide +kernel
theorem dX2_takeCloudPart_4 : decode cX2_takeCloudPart 4 = .ok (.iconst 2, 1) := by decide +kernel
theorem dX2_takeCloudPart_5 : decode cX2_takeCloudPart 5 = .ok (.if_icmp .ne 14, 3) := by decide +kernel
theorem dX2_takeCloudPart_8 : decode cX2_takeCloudPart 8 = .ok (.iload_n 2, 1) := by decide +kernel
theorem dX2_takeCloudPart_9 : decode cX2_takeCloudPart 9 = .ok (.aload_n 0, 1) := by decide +kernel
theorem dX2_takeCloudPart_10 : decode cX2_takeCloudPart 10 = .ok (.getfield 28, 3) := by decide +kernel
theorem dX2_takeCloudPart_13 : decode cX2_takeCloudPart 13 = .ok (.invokestatic 118, 3) := by decide +kernel
theorem dX2_takeCloudPart_16 : decode cX2_takeCloudPart 16 = .ok (.ifCond .ne 5, 3) := by decide +kernel
theorem dX2_takeCloudPart_19 : decode cX2_takeCloudPart 19 = .ok (.iconst 0, 1) := by decide +kernel
theorem dX2_takeCloudPart_20 : decode cX2_takeCloudPart 20 = .ok (.ireturn, 1) := by decide +kernel
theorem dX2_takeCloudPart_21 : decode cX2_takeCloudPart 21 = .ok (.aload_n 1, 1) := by decide +kernel
theorem dX2_takeCloudPart_22 : decode cX2_takeCloudPart 22 = .ok (.iload_n 2, 1) := by decide +kernel
theorem dX2_takeCloudPart_23 : decode cX2_takeCloudPart 23 = .ok (.aload_n 0, 1) := by decide +kernel
theorem dX2_takeCloudPart_24 : decode cX2_takeCloudPart 24 = .ok (.getfield 28, 3) := by decide +kernel
theorem dX2_takeCloudPart_27 : decode cX2_takeCloudPart 27 = .ok (.invokevirtual 121, 3) := by decide +kernel
theorem dX2_takeCloudPart_30 : decode cX2_takeCloudPart 30 = .ok (.aload_n 0, 1) := by decide +kernel
theorem dX2_takeCloudPart_31 : decode cX2_takeCloudPart 31 = .ok (.invokevirtual 31, 3) := by decide +kernel
theorem dX2_takeCloudPart_34 : decode cX2_takeCloudPart 34 = .ok (.iconst 1, 1) := by decide +kernel
theorem dX2_takeCloudPart_35 : decode cX2_takeCloudPart 35 = .ok (.ireturn, 1) := by decide +kernel
theorem dX2_kindTold_0 : decode cX2_kindTold 0 = .ok (.aload_n 0, 1) := by decide +kernel
theorem dX2_kindTold_1 : decode cX2_kindTold 1 = .ok (.ldc 125, 2) := by decide +kernel
theorem dX2_kindTold_3 : decode cX2_kindTold 3 = .ok (.invokevirtual 127, 3) := by decide +kernel
theorem dX2_kindTold_6 : decode cX2_kindTold 6 = .ok (.ifCond .eq 5, 3) := by decide +kernel
theorem dX2_kindTold_9 : decode cX2_kindTold 9 = .ok (.iconst 0, 1) := by decide +kernel
theorem dX2_kindTold_10 : decode cX2_kindTold 10 = .ok (.ireturn, 1) := by decide +kernel
theorem dX2_kindTold_11 : decode cX2_kindTold 11 = .ok (.aload_n 0, 1) := by decide +kernel
theorem dX2_kindTold_12 : decode cX2_kindTold 12 = .ok (.ldc 130, 2) := by decide +kernel
theorem dX2_kindTold_14 : decode cX2_kindTold 14 = .ok (.invokevirtual 127, 3) := by decide +kernel
theorem dX2_kindTold_17 : decode cX2_kindTold 17 = .ok (.ifCond .eq 5, 3) := by decide +kernel
theorem dX2_kindTold_20 : decode cX2_kindTold 20 = .ok (.iconst 1, 1) := by decide +kernel
theorem dX2_kindTold_21 : decode cX2_kindTold 21 = .ok (.ireturn, 1) := by decide +kernel
theorem dX2_kindTold_22 : decode cX2_kindTold 22 = .ok (.aload_n 0, 1) := by decide +kernel
theorem dX2_kindTold_23 : decode cX2_kindTold 23 = .ok (.ldc 132, 2) := by decide +kernel
theorem dX2_kindTold_25 : decode cX2_kindTold 25 = .ok (.invokevirtual 127, 3) := by decide +kernel
theorem dX2_kindTold_28 : decode cX2_kindTold 28 = .ok (.ifCond .eq 5, 3) := by decide +kernel
theorem dX2_kindTold_31 : decode cX2_kindTold 31 = .ok (.iconst 2, 1) := by decide +kernel
theorem dX2_kindTold_32 : decode cX2_kindTold 32 = .ok (.ireturn, 1) := by decide +kernel
theorem dX2_kindTold_33 : decode cX2_kindTold 33 = .ok (.aload_n 0, 1) := by decide +kernel
theorem dX2_kindTold_34 : decode cX2_kindTold 34 = .ok (.ldc 134, 2) := by decide +kernel
theorem dX2_kindTold_36 : decode cX2_kindTold 36 = .ok (.invokevirtual 127, 3) := by decide +kernel
theorem dX2_kindTold_39 : decode cX2_kindTold 39 = .ok (.ifCond .eq 5, 3) := by decide +kernel
theorem dX2_kindTold_42 : decode cX2_kindTold 42 = .ok (.iconst 3, 1) := by decide +kernel
theorem dX2_kindTold_43 : decode cX2_kindTold 43 = .ok (.ireturn, 1) := by decide +kernel
theorem dX2_kindTold_44 : decode cX2_kindTold 44 = .ok (.aload_n 0, 1) := by decide +kernel
theorem dX2_kindTold_45 : decode cX2_kindTold 45 = .ok (.ldc 136, 2) := by decide +kernel
theorem dX2_kindTold_47 : decode cX2_kindTold 47 = .ok (.invokevirtual 127, 3) := by decide +kernel
theorem dX2_kindTold_50 : decode cX2_kindTold 50 = .ok (.ifCond .eq 5, 3) := by decide +kernel
theorem dX2_kindTold_53 : decode cX2_kindTold 53 = .ok (.iconst 4, 1) := by decide +kernel
theorem dX2_kindTold_54 : decode cX2_kindTold 54 = .ok (.ireturn, 1) := by decide +kernel
theorem dX2_kindTold_55 : decode cX2_kindTold 55 = .ok (.aload_n 0, 1) := by decide +kernel
theorem dX2_kindTold_56 : decode cX2_kindTold 56 = .ok (.ldc 138, 2) := by decide +kernel
theorem dX2_kindTold_58 : decode cX2_kindTold 58 = .ok (.invokevirtual 127, 3) := by decide +kernel
theorem dX2_kindTold_61 : decode cX2_kindTold 61 = .ok (.ifCond .eq 7, 3) := by decide +kernel
theorem dX2_kindTold_64 : decode cX2_kindTold 64 = .ok (.iconst 5, 1) := by decide +kernel
theorem dX2_kindTold_65 : decode cX2_kindTold 65 = .ok (.goto 4, 3) := by decide +kernel
theorem dX2_kindTold_68 : decode cX2_kindTold 68 = .ok (.iconst (-1), 1) := by decide +kernel
theorem dX2_kindTold_69 : decode cX2_kindTold 69 = .ok (.ireturn, 1) := by decide +kernel
theorem dX2_isWord_0 : decode cX2_isWord 0 = .ok (.aload_n 0, 1) := by decide +kernel
theorem dX2_isWord_1 : decode cX2_isWord 1 = .ok (.getfield 18, 3) := by decide +kernel
theorem dX2_isWord_4 : decode cX2_isWord 4 = .ok (.iconst 1, 1) := by decide +kernel
theorem dX2_isWord_5 : decode cX2_isWord 5 = .ok (.if_icmp .ne 19, 3) := by decide +kernel
theorem dX2_isWord_8 : decode cX2_isWord 8 = .ok (.aload_n 1, 1) := by decide +kernel
theorem dX2_isWord_9 : decode cX2_isWord 9 = .ok (.invokevirtual 140, 3) := by decide +kernel
theorem dX2_isWord_12 : decode cX2_isWord 12 = .ok (.aload_n 0, 1) := by decide +kernel
theorem dX2_isWord_13 : decode cX2_isWord 13 = .ok (.getfield 25, 3) := by decide +kernel
theorem dX2_isWord_16 : decode cX2_isWord 16 = .ok (.aload_n 0, 1) := by decide +kernel
theorem dX2_isWord_17 : decode cX2_isWord 17 = .ok (.getfield 22, 3) := by decide +kernel
theorem dX2_isWord_20 : decode cX2_isWord 20 = .ok (.isub, 1) := by decide +kernel
theorem dX2_isWord_21 : decode cX2_isWord 21 = .ok (.if_icmp .eq 5, 3) := by decide +kernel
theorem dX2_isWord_24 : decode cX2_isWord 24 = .ok (.iconst 0, 1) := by decide +kernel
theorem dX2_isWord_25 : decode cX2_isWord 25 = .ok (.ireturn, 1) := by decide +kernel
theorem dX2_isWord_26 : decode cX2_isWord 26 = .ok (.iconst 0, 1) := by decide +kernel
theorem dX2_isWord_27 : decode cX2_isWord 27 = .ok (.istore_n 2, 1) := by decide +kernel
theorem dX2_isWord_28 : decode cX2_isWord 28 = .ok (.iload_n 2, 1) := by decide +kernel
theorem dX2_isWord_29 : decode cX2_isWord 29 = .ok (.aload_n 1, 1) := by decide +kernel
theorem dX2_isWord_30 : decode cX2_isWord 30 = .ok (.invokevirtual 140, 3) := by decide +kernel
theorem dX2_isWord_33 : decode cX2_isWord 33 = .ok (.if_icmp .ge 33, 3) := by decide +kernel
theorem dX2_isWord_36 : decode cX2_isWord 36 = .ok (.aload_n 0, 1) := by decide +kernel
theorem dX2_isWord_37 : decode cX2_isWord 37 = .ok (.getfield 12, 3) := by decide +kernel
theorem dX2_isWord_40 : decode cX2_isWord 40 = .ok (.getfield 145, 3) := by decide +kernel
theorem dX2_isWord_43 : decode cX2_isWord 43 = .ok (.aload_n 0, 1) := by decide +kernel
theorem dX2_isWord_44 : decode cX2_isWord 44 = .ok (.getfield 22, 3) := by decide +kernel
theorem dX2_isWord_47 : decode cX2_isWord 47 = .ok (.iload_n 2, 1) := by decide +kernel
theorem dX2_isWord_48 : decode cX2_isWord 48 = .ok (.iadd, 1) := by decide +kernel
theorem dX2_isWord_49 : decode cX2_isWord 49 = .ok (.iaload, 1) := by decide +kernel
theorem dX2_isWord_50 : decode cX2_isWord 50 = .ok (.aload_n 1, 1) := by decide +kernel
theorem dX2_isWord_51 : decode cX2_isWord 51 = .ok (.iload_n 2, 1) := by decide +kernel
theorem dX2_isWord_52 : decode cX2_isWord 52 = .ok (.invokevirtual 149, 3) := by decide +kernel
theorem dX2_isWord_55 : decode cX2_isWord 55 = .ok (.if_icmp .eq 5, 3) := by decide +kernel
theorem dX2_isWord_58 : decode cX2_isWord 58 = .ok (.iconst 0, 1) := by decide +kernel
theorem dX2_isWord_59 : decode cX2_isWord 59 = .ok (.ireturn, 1) := by decide +kernel
theorem dX2_isWord_60 : decode cX2_isWord 60 = .ok (.iinc 2 1, 3) := by decide +kernel
theorem dX2_isWord_63 : decode cX2_isWord 63 = .ok (.goto (-35), 3) := by decide +kernel
theorem dX2_isWord_66 : decode cX2_isWord 66 = .ok (.iconst 1, 1) := by decide +kernel
theorem dX2_isWord_67 : decode cX2_isWord 67 = .ok (.ireturn, 1) := by decide +kernel
theorem dX2_takeWord_0 : decode cX2_takeWord 0 = .ok (.aload_n 0, 1) := by decide +kernel
theorem dX2_takeWord_1 : decode cX2_takeWord 1 = .ok (.aload_n 1, 1) := by decide +kernel
theorem dX2_takeWord_2 : decode cX2_takeWord 2 = .ok (.invokevirtual 127, 3) := by decide +kernel
theorem dX2_takeWord_5 : decode cX2_takeWord 5 = .ok (.istore_n 2, 1) := by decide +kernel
theorem dX2_takeWord_6 : decode cX2_takeWord 6 = .ok (.iload_n 2, 1) := by decide +kernel
theorem dX2_takeWord_7 : decode cX2_takeWord 7 = .ok (.ifCond .eq 7, 3) := by decide +kernel
theorem dX2_takeWord_10 : decode cX2_takeWord 10 = .ok (.aload_n 0, 1) := by decide +kernel
theorem dX2_takeWord_11 : decode cX2_takeWord 11 = .ok (.invokevirtual 31, 3) := by decide +kernel
theorem dX2_takeWord_14 : decode cX2_takeWord 14 = .ok (.iload_n 2, 1) := by decide +kernel
theorem dX2_takeWord_15 : decode cX2_takeWord 15 = .ok (.ireturn, 1) := by decide +kernel
theorem dX2_isNumber_0 : decode cX2_isNumber 0 = .ok (.aload_n 0, 1) := by decide +kernel
theorem dX2_isNumber_1 : decode cX2_isNumber 1 = .ok (.getfield 18, 3) := by decide +kernel
theorem dX2_isNumber_4 : decode cX2_isNumber 4 = .ok (.iconst 2, 1) := by decide +kernel
theorem dX2_isNumber_5 : decode cX2_isNumber 5 = .ok (.if_icmp .ne 19, 3) := by decide +kernel
theorem dX2_isNumber_8 : decode cX2_isNumber 8 = .ok (.aload_n 0, 1) := by decide +kernel
theorem dX2_isNumber_9 : decode cX2_isNumber 9 = .ok (.getfield 28, 3) := by decide +kernel
theorem dX2_isNumber_12 : decode cX2_isNumber 12 = .ok (.iload_n 1, 1) := by decide +kernel
theorem dX2_isNumber_13 : decode cX2_isNumber 13 = .ok (.iload_n 2, 1) := by decide +kernel
theorem dX2_isNumber_14 : decode cX2_isNumber 14 = .ok (.invokestatic 153, 3) := by decide +kernel
theorem dX2_isNumber_17 : decode cX2_isNumber 17 = .ok (.ifCond .eq 7, 3) := by decide +kernel
theorem dX2_isNumber_20 : decode cX2_isNumber 20 = .ok (.iconst 1, 1) := by decide +kernel
theorem dX2_isNumber_21 : decode cX2_isNumber 21 = .ok (.goto 4, 3) := by decide +kernel
theorem dX2_isNumber_24 : decode cX2_isNumber 24 = .ok (.iconst 0, 1) := by decide +kernel
theorem dX2_isNumber_25 : decode cX2_isNumber 25 = .ok (.ireturn, 1) := by decide +kernel
theorem dX2_takeNumber_0 : decode cX2_takeNumber 0 = .ok (.aload_n 0, 1) := by decide +kernel
theorem dX2_takeNumber_1 : decode cX2_takeNumber 1 = .ok (.getfield 28, 3) := by decide +kernel
theorem dX2_takeNumber_4 : decode cX2_takeNumber 4 = .ok (.istore_n 1, 1) := by decide +kernel
theorem dX2_takeNumber_5 : decode cX2_takeNumber 5 = .ok (.aload_n 0, 1) := by decide +kernel
theorem dX2_takeNumber_6 : decode cX2_takeNumber 6 = .ok (.invokevirtual 31, 3) := by decide +kernel
theorem dX2_takeNumber_9 : decode cX2_takeNumber 9 = .ok (.iload_n 1, 1) := by decide +kernel
theorem dX2_takeNumber_10 : decode cX2_takeNumber 10 = .ok (.ireturn, 1) := by decide +kernel
theorem dX2_goToToken_0 : decode cX2_goToToken 0 = .ok (.aload_n 0, 1) := by decide +kernel
theorem dX2_goToToken_1 : decode cX2_goToToken 1 = .ok (.aload_n 0, 1) := by decide +kernel
theorem dX2_goToToken_2 : decode cX2_goToToken 2 = .ok (.getfield 25, 3) := by decide +kernel
theorem dX2_goToToken_5 : decode cX2_goToToken 5 = .ok (.putfield 22, 3) := by decide +kernel
theorem dX2_goToToken_8 : decode cX2_goToToken 8 = .ok (.aload_n 0, 1) := by decide +kernel
theorem dX2_goToToken_9 : decode cX2_goToToken 9 = .ok (.getfield 22, 3) := by decide +kernel
theorem dX2_goToToken_12 : decode cX2_goToToken 12 = .ok (.aload_n 0, 1) := by decide +kernel
theorem dX2_goToToken_13 : decode cX2_goToToken 13 = .ok (.getfield 12, 3) := by decide +kernel
theorem dX2_goToToken_16 : decode cX2_goToToken 16 = .ok (.getfield 157, 3) := by decide +kernel
theorem dX2_goToToken_19 : decode cX2_goToToken 19 = .ok (.if_icmp .ge 33, 3) := by decide +kernel
theorem dX2_goToToken_22 : decode cX2_goToToken 22 = .ok (.aload_n 0, 1) := by decide +kernel
theorem dX2_goToToken_23 : decode cX2_goToToken 23 = .ok (.getfield 12, 3) := by decide +kernel
theorem dX2_goToToken_26 : decode cX2_goToToken 26 = .ok (.getfield 145, 3) := by decide +kernel
theorem dX2_goToToken_29 : decode cX2_goToToken 29 = .ok (.aload_n 0, 1) := by decide +kernel
theorem dX2_goToToken_30 : decode cX2_goToToken 30 = .ok (.getfield 22, 3) := by decide +kernel
theorem dX2_goToToken_33 : decode cX2_goToToken 33 = .ok (.iaload, 1) := by decide +kernel
theorem dX2_goToToken_34 : decode cX2_goToToken 34 = .ok (.bipush 32, 2) := by decide +kernel
theorem dX2_goToToken_36 : decode cX2_goToToken 36 = .ok (.if_icmp .ne 16, 3) := by decide +kernel
theorem dX2_goToToken_39 : decode cX2_goToToken 39 = .ok (.aload_n 0, 1) := by decide +kernel
theorem dX2_goToToken_40 : decode cX2_goToToken 40 = .ok (.dup, 1) := by decide +kernel
theorem dX2_goToToken_41 : decode cX2_goToToken 41 = .ok (.getfield 22, 3) := by decide +kernel
theorem dX2_goToToken_44 : decode cX2_goToToken 44 = .ok (.iconst 1, 1) := by decide +kernel
theorem dX2_goToToken_45 : decode cX2_goToToken 45 = .ok (.iadd, 1) := by decide +kernel
theorem dX2_goToToken_46 : decode cX2_goToToken 46 = .ok (.putfield 22, 3) := by decide +kernel
theorem dX2_goToToken_49 : decode cX2_goToToken 49 = .ok (.goto (-41), 3) := by decide +kernel
theorem dX2_goToToken_52 : decode cX2_goToToken 52 = .ok (.aload_n 0, 1) := by decide +kernel
theorem dX2_goToToken_53 : decode cX2_goToToken 53 = .ok (.aload_n 0, 1) := by decide +kernel
theorem dX2_goToToken_54 : decode cX2_goToToken 54 = .ok (.getfield 22, 3) := by decide +kernel
theorem dX2_goToToken_57 : decode cX2_goToToken 57 = .ok (.putfield 25, 3) := by decide +kernel
theorem dX2_goToToken_60 : decode cX2_goToToken 60 = .ok (.aload_n 0, 1) := by decide +kernel
theorem dX2_goToToken_61 : decode cX2_goToToken 61 = .ok (.getfield 22, 3) := by decide +kernel
theorem dX2_goToToken_64 : decode cX2_goToToken 64 = .ok (.aload_n 0, 1) := by decide +kernel
theorem dX2_goToToken_65 : decode cX2_goToToken 65 = .ok (.getfield 12, 3) := by decide +kernel
theorem dX2_goToToken_68 : decode cX2_goToToken 68 = .ok (.getfield 157, 3) := by decide +kernel
theorem dX2_goToToken_71 : decode cX2_goToToken 71 = .ok (.if_icmp .lt 9, 3) := by decide +kernel
theorem dX2_goToToken_74 : decode cX2_goToToken 74 = .ok (.aload_n 0, 1) := by decide +kernel
theorem dX2_goToToken_75 : decode cX2_goToToken 75 = .ok (.iconst 0, 1) := by decide +kernel
theorem dX2_goToToken_76 : decode cX2_goToToken 76 = .ok (.putfield 18, 3) := by decide +kernel
theorem dX2_goToToken_79 : decode cX2_goToToken 79 = .ok (.return_, 1) := by decide +kernel
theorem dX2_goToToken_80 : decode cX2_goToToken 80 = .ok (.aload_n 0, 1) := by decide +kernel
theorem dX2_goToToken_81 : decode cX2_goToToken 81 = .ok (.aload_n 0, 1) := by decide +kernel
theorem dX2_goToToken_82 : decode cX2_goToToken 82 = .ok (.getfield 12, 3) := by decide +kernel
theorem dX2_goToToken_85 : decode cX2_goToToken 85 = .ok (.getfield 145, 3) := by decide +kernel
theorem dX2_goToToken_88 : decode cX2_goToToken 88 = .ok (.aload_n 0, 1) := by decide +kernel
theorem dX2_goToToken_89 : decode cX2_goToToken 89 = .ok (.getfield 22, 3) := by decide +kernel
theorem dX2_goToToken_92 : decode cX2_goToToken 92 = .ok (.iaload, 1) := by decide +kernel
theorem dX2_goToToken_93 : decode cX2_goToToken 93 = .ok (.invokestatic 160, 3) := by decide +kernel
theorem dX2_goToToken_96 : decode cX2_goToToken 96 = .ok (.putfield 18, 3) := by decide +kernel
theorem dX2_goToToken_99 : decode cX2_goToToken 99 = .ok (.aload_n 0, 1) := by decide +kernel
theorem dX2_goToToken_100 : decode cX2_goToToken 100 = .ok (.dup, 1) := by decide +kernel
theorem dX2_goToToken_101 : decode cX2_goToToken 101 = .ok (.getfield 25, 3) := by decide +kernel
theorem dX2_goToToken_104 : decode cX2_goToToken 104 = .ok (.iconst 1, 1) := by decide +kernel
theorem dX2_goToToken_105 : decode cX2_goToToken 105 = .ok (.iadd, 1) := by decide +kernel
theorem dX2_goToToken_106 : decode cX2_goToToken 106 = .ok (.putfield 25, 3) := by decide +kernel
theorem dX2_goToToken_109 : decode cX2_goToToken 109 = .ok (.aload_n 0, 1) := by decide +kernel
theorem dX2_goToToken_110 : decode cX2_goToToken 110 = .ok (.getfield 18, 3) := by decide +kernel
theorem dX2_goToToken_113 : decode cX2_goToToken 113 = .ok (.iconst 1, 1) := by decide +kernel
theorem dX2_goToToken_114 : decode cX2_goToToken 114 = .ok (.if_icmp .eq 11, 3) := by decide +kernel
theorem dX2_goToToken_117 : decode cX2_goToToken 117 = .ok (.aload_n 0, 1) := by decide +kernel
theorem dX2_goToToken_118 : decode cX2_goToToken 118 = .ok (.getfield 18, 3) := by decide +kernel
theorem dX2_goToToken_121 : decode cX2_goToToken 121 = .ok (.iconst 2, 1) := by decide +kernel
theorem dX2_goToToken_122 : decode cX2_goToToken 122 = .ok (.if_icmp .ne 7, 3) := by decide +kernel
theorem dX2_goToToken_125 : decode cX2_goToToken 125 = .ok (.iconst 1, 1) := by decide +kernel
theorem dX2_goToToken_126 : decode cX2_goToToken 126 = .ok (.goto 4, 3) := by decide +kernel
theorem dX2_goToToken_129 : decode cX2_goToToken 129 = .ok (.iconst 0, 1) := by decide +kernel
theorem dX2_goToToken_130 : decode cX2_goToToken 130 = .ok (.istore_n 1, 1) := by decide +kernel
theorem dX2_goToToken_131 : decode cX2_goToToken 131 = .ok (.iload_n 1, 1) := by decide +kernel
theorem dX2_goToToken_132 : decode cX2_goToToken 132 = .ok (.ifCond .eq 52, 3) := by decide +kernel
theorem dX2_goToToken_135 : decode cX2_goToToken 135 = .ok (.aload_n 0, 1) := by decide +kernel
theorem dX2_goToToken_136 : decode cX2_goToToken 136 = .ok (.getfield 25, 3) := by decide +kernel
theorem dX2_goToToken_139 : decode cX2_goToToken 139 = .ok (.aload_n 0, 1) := by decide +kernel
theorem dX2_goToToken_140 : decode cX2_goToToken 140 = .ok (.getfield 12, 3) := by decide +kernel
theorem dX2_goToToken_143 : decode cX2_goToToken 143 = .ok (.getfield 157, 3) := by decide +kernel
theorem dX2_goToToken_146 : decode cX2_goToToken 146 = .ok (.if_icmp .ge 38, 3) := by decide +kernel
theorem dX2_goToToken_149 : decode cX2_goToToken 149 = .ok (.aload_n 0, 1) := by decide +kernel
theorem dX2_goToToken_150 : decode cX2_goToToken 150 = .ok (.getfield 12, 3) := by decide +kernel
theorem dX2_goToToken_153 : decode cX2_goToToken 153 = .ok (.getfield 145, 3) := by decide +kernel
theorem dX2_goToToken_156 : decode cX2_goToToken 156 = .ok (.aload_n 0, 1) := by decide +kernel
theorem dX2_goToToken_157 : decode cX2_goToToken 157 = .ok (.getfield 25, 3) := by decide +kernel
theorem dX2_goToToken_160 : decode cX2_goToToken 160 = .ok (.iaload, 1) := by decide +kernel
theorem dX2_goToToken_161 : decode cX2_goToToken 161 = .ok (.invokestatic 160, 3) := by decide +kernel
theorem dX2_goToToken_164 : decode cX2_goToToken 164 = .ok (.aload_n 0, 1) := by decide +kernel
theorem dX2_goToToken_165 : decode cX2_goToToken 165 = .ok (.getfield 18, 3) := by decide +kernel
theorem dX2_goToToken_168 : decode cX2_goToToken 168 = .ok (.if_icmp .ne 16, 3) := by decide +kernel
theorem dX2_goToToken_171 : decode cX2_goToToken 171 = .ok (.aload_n 0, 1) := by decide +kernel
theorem dX2_goToToken_172 : decode cX2_goToToken 172 = .ok (.dup, 1) := by decide +kernel
theorem dX2_goToToken_173 : decode cX2_goToToken 173 = .ok (.getfield 25, 3) := by decide +kernel
theorem dX2_goToToken_176 : decode cX2_goToToken 176 = .ok (.iconst 1, 1) := by decide +kernel
theorem dX2_goToToken_177 : decode cX2_goToToken 177 = .ok (.iadd, 1) := by decide +kernel
theorem dX2_goToToken_178 : decode cX2_goToToken 178 = .ok (.putfield 25, 3) := by decide +kernel
theorem dX2_goToToken_181 : decode cX2_goToToken 181 = .ok (.goto (-50), 3) := by decide +kernel
theorem dX2_goToToken_184 : decode cX2_goToToken 184 = .ok (.aload_n 0, 1) := by decide +kernel
theorem dX2_goToToken_185 : decode cX2_goToToken 185 = .ok (.aload_n 0, 1) := by decide +kernel
theorem dX2_goToToken_186 : decode cX2_goToToken 186 = .ok (.getfield 18, 3) := by decide +kernel
theorem dX2_goToToken_189 : decode cX2_goToToken 189 = .ok (.iconst 2, 1) := by decide +kernel
theorem dX2_goToToken_190 : decode cX2_goToToken 190 = .ok (.if_icmp .ne 10, 3) := by decide +kernel
theorem dX2_goToToken_193 : decode cX2_goToToken 193 = .ok (.aload_n 0, 1) := by decide +kernel
theorem dX2_goToToken_194 : decode cX2_goToToken 194 = .ok (.invokevirtual 164, 3) := by decide +kernel
theorem dX2_goToToken_197 : decode cX2_goToToken 197 = .ok (.goto 4, 3) := by decide +kernel
theorem dX2_goToToken_200 : decode cX2_goToToken 200 = .ok (.iconst 0, 1) := by decide +kernel
theorem dX2_goToToken_201 : decode cX2_goToToken 201 = .ok (.putfield 28, 3) := by decide +kernel
theorem dX2_goToToken_204 : decode cX2_goToToken 204 = .ok (.return_, 1) := by decide +kernel
theorem dX2_sortOf_0 : decode cX2_sortOf 0 = .ok (.iload_n 0, 1) := by decide +kernel
theorem dX2_sortOf_1 : decode cX2_sortOf 1 = .ok (.bipush 97, 2) := by decide +kernel
theorem dX2_sortOf_3 : decode cX2_sortOf 3 = .ok (.if_icmp .lt 11, 3) := by decide +kernel
theorem dX2_sortOf_6 : decode cX2_sortOf 6 = .ok (.iload_n 0, 1) := by decide +kernel
theorem dX2_sortOf_7 : decode cX2_sortOf 7 = .ok (.bipush 122, 2) := by decide +kernel
theorem dX2_sortOf_9 : decode cX2_sortOf 9 = .ok (.if_icmp .gt 5, 3) := by decide +kernel
theorem dX2_sortOf_12 : decode cX2_sortOf 12 = .ok (.iconst 1, 1) := by decide +kernel
theorem dX2_sortOf_13 : decode cX2_sortOf 13 = .ok (.ireturn, 1) := by decide +kernel
theorem dX2_sortOf_14 : decode cX2_sortOf 14 = .ok (.iload_n 0, 1) := by decide +kernel
theorem dX2_sortOf_15 : decode cX2_sortOf 15 = .ok (.bipush 48, 2) := by decide +kernel
theorem dX2_sortOf_17 : decode cX2_sortOf 17 = .ok (.if_icmp .lt 11, 3) := by decide +kernel
theorem dX2_sortOf_20 : decode cX2_sortOf 20 = .ok (.iload_n 0, 1) := by decide +kernel
theorem dX2_sortOf_21 : decode cX2_sortOf 21 = .ok (.bipush 57, 2) := by decide +kernel
theorem dX2_sortOf_23 : decode cX2_sortOf 23 = .ok (.if_icmp .gt 5, 3) := by decide +kernel
theorem dX2_sortOf_26 : decode cX2_sortOf 26 = .ok (.iconst 2, 1) := by decide +kernel
theorem dX2_sortOf_27 : decode cX2_sortOf 27 = .ok (.ireturn, 1) := by decide +kernel
theorem dX2_sortOf_28 : decode cX2_sortOf 28 = .ok (.iload_n 0, 1) := by decide +kernel
theorem dX2_sortOf_29 : decode cX2_sortOf 29 = .ok (.bipush 59, 2) := by decide +kernel
theorem dX2_sortOf_31 : decode cX2_sortOf 31 = .ok (.if_icmp .ne 7, 3) := by decide +kernel
theorem dX2_sortOf_34 : decode cX2_sortOf 34 = .ok (.iconst 3, 1) := by decide +kernel
theorem dX2_sortOf_35 : decode cX2_sortOf 35 = .ok (.goto 4, 3) := by decide +kernel
theorem dX2_sortOf_38 : decode cX2_sortOf 38 = .ok (.iconst 4, 1) := by decide +kernel
theorem dX2_sortOf_39 : decode cX2_sortOf 39 = .ok (.ireturn, 1) := by decide +kernel
theorem dX2_numberTold_0 : decode cX2_numberTold 0 = .ok (.iconst 0, 1) := by decide +kernel
theorem dX2_numberTold_1 : decode cX2_numberTold 1 = .ok (.istore_n 1, 1) := by decide +kernel
theorem dX2_numberTold_2 : decode cX2_numberTold 2 = .ok (.aload_n 0, 1) := by decide +kernel
theorem dX2_numberTold_3 : decode cX2_numberTold 3 = .ok (.getfield 22, 3) := by decide +kernel
theorem dX2_numberTold_6 : decode cX2_numberTold 6 = .ok (.istore_n 2, 1) := by decide +kernel
theorem dX2_numberTold_7 : decode cX2_numberTold 7 = .ok (.iload_n 2, 1) := by decide +kernel
theorem dX2_numberTold_8 : decode cX2_numberTold 8 = .ok (.aload_n 0, 1) := by decide +kernel
theorem dX2_numberTold_9 : decode cX2_numberTold 9 = .ok (.getfield 25, 3) := by decide +kernel
theorem dX2_numberTold_12 : decode cX2_numberTold 12 = .ok (.if_icmp .ge 40, 3) := by decide +kernel
theorem dX2_numberTold_15 : decode cX2_numberTold 15 = .ok (.iload_n 1, 1) := by decide +kernel
theorem dX2_numberTold_16 : decode cX2_numberTold 16 = .ok (.sipush 1000, 3) := by decide +kernel
theorem dX2_numberTold_19 : decode cX2_numberTold 19 = .ok (.if_icmp .lt 9, 3) := by decide +kernel
theorem dX2_numberTold_22 : decode cX2_numberTold 22 = .ok (.sipush 1000, 3) := by decide +kernel
theorem dX2_numberTold_25 : decode cX2_numberTold 25 = .ok (.goto 20, 3) := by decide +kernel
theorem dX2_numberTold_28 : decode cX2_numberTold 28 = .ok (.iload_n 1, 1) := by decide +kernel
theorem dX2_numberTold_29 : decode cX2_numberTold 29 = .ok (.bipush 10, 2) := by decide +kernel
theorem dX2_numberTold_31 : decode cX2_numberTold 31 = .ok (.imul, 1) := by decide +kernel
theorem dX2_numberTold_32 : decode cX2_numberTold 32 = .ok (.aload_n 0, 1) := by decide +kernel
theorem dX2_numberTold_33 : decode cX2_numberTold 33 = .ok (.getfield 12, 3) := by decide +kernel
theorem dX2_numberTold_36 : decode cX2_numberTold 36 = .ok (.getfield 145, 3) := by decide +kernel
theorem dX2_numberTold_39 : decode cX2_numberTold 39 = .ok (.iload_n 2, 1) := by decide +kernel
theorem dX2_numberTold_40 : decode cX2_numberTold 40 = .ok (.iaload, 1) := by decide +kernel
theorem dX2_numberTold_41 : decode cX2_numberTold 41 = .ok (.iadd, 1) := by decide +kernel
theorem dX2_numberTold_42 : decode cX2_numberTold 42 = .ok (.bipush 48, 2) := by decide +kernel
theorem dX2_numberTold_44 : decode cX2_numberTold 44 = .ok (.isub, 1) := by decide +kernel
theorem dX2_numberTold_45 : decode cX2_numberTold 45 = .ok (.istore_n 1, 1) := by decide +kernel
theorem dX2_numberTold_46 : decode cX2_numberTold 46 = .ok (.iinc 2 1, 3) := by decide +kernel
theorem dX2_numberTold_49 : decode cX2_numberTold 49 = .ok (.goto (-42), 3) := by decide +kernel
theorem dX2_numberTold_52 : decode cX2_numberTold 52 = .ok (.iload_n 1, 1) := by decide +kernel
theorem dX2_numberTold_53 : decode cX2_numberTold 53 = .ok (.ireturn, 1) := by decide +kernel
theorem dX4_init_0 : decode cX4_init 0 = .ok (.aload_n 0, 1) := by decide +kernel
theorem dX4_init_1 : decode cX4_init 1 = .ok (.invokespecial 3, 3) := by decide +kernel
theorem dX4_init_4 : decode cX4_init 4 = .ok (.aload_n 0, 1) := by decide +kernel
theorem dX4_init_5 : decode cX4_init 5 = .ok (.bipush 40, 2) := by decide +kernel
theorem dX4_init_7 : decode cX4_init 7 = .ok (.newarray .long, 2) := by decide +kernel
theorem dX4_init_9 : decode cX4_init 9 = .ok (.putfield 9, 3) := by decide +kernel
theorem dX4_init_12 : decode cX4_init 12 = .ok (.aload_n 0, 1) := by decide +kernel
theorem dX4_init_13 : decode cX4_init 13 = .ok (.iconst 0, 1) := by decide +kernel
theorem dX4_init_14 : decode cX4_init 14 = .ok (.putfield 15, 3) := by decide +kernel
theorem dX4_init_17 : decode cX4_init 17 = .ok (.aload_n 0, 1) := by decide +kernel
theorem dX4_init_18 : decode cX4_init 18 = .ok (.iconst 0, 1) := by decide +kernel
theorem dX4_init_19 : decode cX4_init 19 = .ok (.putfield 19, 3) := by decide +kernel
theorem dX4_init_22 : decode cX4_init 22 = .ok (.return_, 1) := by decide +kernel
theorem dX4_mayHave_0 : decode cX4_mayHave 0 = .ok (.iload_n 0, 1) := by decide +kernel
theorem dX4_mayHave_1 : decode cX4_mayHave 1 = .ok (.ifCond .eq 21, 3) := by decide +kernel
theorem dX4_mayHave_4 : decode cX4_mayHave 4 = .ok (.iload_n 0, 1) := by decide +kernel
theorem dX4_mayHave_5 : decode cX4_mayHave 5 = .ok (.bipush 8, 2) := by decide +kernel
theorem dX4_mayHave_7 : decode cX4_mayHave 7 = .ok (.if_icmp .eq 15, 3) := by decide +kernel
theorem dX4_mayHave_10 : decode cX4_mayHave 10 = .ok (.iload_n 0, 1) := by decide +kernel
theorem dX4_mayHave_11 : decode cX4_mayHave 11 = .ok (.bipush 16, 2) := by decide +kernel
theorem dX4_mayHave_13 : decode cX4_mayHave 13 = .ok (.if_icmp .eq 9, 3) := by decide +kernel
theorem dX4_mayHave_16 : decode cX4_mayHave 16 = .ok (.iload_n 0, 1) := by decide +kernel
theorem dX4_mayHave_17 : decode cX4_mayHave 17 = .ok (.bipush 64, 2) := by decide +kernel
theorem dX4_mayHave_19 : decode cX4_mayHave 19 = .ok (.if_icmp .ne 7, 3) := by decide +kernel
theorem dX4_mayHave_22 : decode cX4_mayHave 22 = .ok (.iconst 1, 1) := by decide +kernel
theorem dX4_mayHave_23 : decode cX4_mayHave 23 = .ok (.goto 4, 3) := by decide +kernel
theorem dX4_mayHave_26 : decode cX4_mayHave 26 = .ok (.iconst 0, 1) := by decide +kernel
theorem dX4_mayHave_27 : decode cX4_mayHave 27 = .ok (.ireturn, 1) := by decide +kernel
theorem dX4_layNew_0 : decode cX4_layNew 0 = .ok (.aload_n 0, 1) := by decide +kernel
theorem dX4_layNew_1 : decode cX4_layNew 1 = .ok (.iload_n 1, 1) := by decide +kernel
theorem dX4_layNew_2 : decode cX4_layNew 2 = .ok (.putfield 15, 3) := by decide +kernel
theorem dX4_layNew_5 : decode cX4_layNew 5 = .ok (.aload_n 0, 1) := by decide +kernel
theorem dX4_layNew_6 : decode cX4_layNew 6 = .ok (.iload_n 1, 1) := by decide +kernel
theorem dX4_layNew_7 : decode cX4_layNew 7 = .ok (.ifCond .ne 7, 3) := by decide +kernel
theorem dX4_layNew_10 : decode cX4_layNew 10 = .ok (.iconst 0, 1) := by decide +kernel
theorem dX4_layNew_11 : decode cX4_layNew 11 = .ok (.goto 4, 3) := by decide +kernel
theorem dX4_layNew_14 : decode cX4_layNew 14 = .ok (.iload_n 2, 1) := by decide +kernel
theorem dX4_layNew_15 : decode cX4_layNew 15 = .ok (.putfield 19, 3) := by decide +kernel
theorem dX4_layNew_18 : decode cX4_layNew 18 = .ok (.iconst 0, 1) := by decide +kernel
theorem dX4_layNew_19 : decode cX4_layNew 19 = .ok (.istore_n 3, 1) := by decide +kernel
theorem dX4_layNew_20 : decode cX4_layNew 20 = .ok (.iload_n 3, 1) := by decide +kernel
theorem dX4_layNew_21 : decode cX4_layNew 21 = .ok (.aload_n 0, 1) := by decide +kernel
theorem dX4_layNew_22 : decode cX4_layNew 22 = .ok (.getfield 19, 3) := by decide +kernel
theorem dX4_layNew_25 : decode cX4_layNew 25 = .ok (.if_icmp .ge 16, 3) := by decide +kernel
theorem dX4_layNew_28 : decode cX4_layNew 28 = .ok (.aload_n 0, 1) := by decide +kernel
theorem dX4_layNew_29 : decode cX4_layNew 29 = .ok (.getfield 9, 3) := by decide +kernel
theorem dX4_layNew_32 : decode cX4_layNew 32 = .ok (.iload_n 3, 1) := by decide +kernel
theorem dX4_layNew_33 : decode cX4_layNew 33 = .ok (.lconst 0, 1) := by decide +kernel
theorem dX4_layNew_34 : decode cX4_layNew 34 = .ok (.lastore, 1) := by decide +kernel
theorem dX4_layNew_35 : decode cX4_layNew 35 = .ok (.iinc 3 1, 3) := by decide +kernel
theorem dX4_layNew_38 : decode cX4_layNew 38 = .ok (.goto (-18), 3) := by decide +kernel
theorem dX4_layNew_41 : decode cX4_layNew 41 = .ok (.return_, 1) := by decide +kernel
theorem dX4_isMissing_0 : decode cX4_isMissing 0 = .ok (.aload_n 0, 1) := by decide +kernel
theorem dX4_isMissing_1 : decode cX4_isMissing 1 = .ok (.getfield 15, 3) := by decide +kernel
theorem dX4_isMissing_4 : decode cX4_isMissing 4 = .ok (.ifCond .ne 7, 3) := by decide +kernel
theorem dX4_isMissing_7 : decode cX4_isMissing 7 = .ok (.iconst 1, 1) := by decide +kernel
theorem dX4_isMissing_8 : decode cX4_isMissing 8 = .ok (.goto 4, 3) := by decide +kernel
theorem dX4_isMissing_11 : decode cX4_isMissing 11 = .ok (.iconst 0, 1) := by decide +kernel
theorem dX4_isMissing_12 : decode cX4_isMissing 12 = .ok (.ireturn, 1) := by decide +kernel
theorem dX4_put_0 : decode cX4_put 0 = .ok (.aload_n 0, 1) := by decide +kernel
theorem dX4_put_1 : decode cX4_put 1 = .ok (.getfield 15, 3) := by decide +kernel
theorem dX4_put_4 : decode cX4_put 4 = .ok (.bipush 8, 2) := by decide +kernel
theorem dX4_put_6 : decode cX4_put 6 = .ok (.if_icmp .ne 16, 3) := by decide +kernel
theorem dX4_put_9 : decode cX4_put 9 = .ok (.aload_n 0, 1) := by decide +kernel
theorem dX4_put_10 : decode cX4_put 10 = .ok (.getfield 9, 3) := by decide +kernel
theorem dX4_put_13 : decode cX4_put 13 = .ok (.iload_n 1, 1) := by decide +kernel
theorem dX4_put_14 : decode cX4_put 14 = .ok (.lload_n 2, 1) := by decide +kernel
theorem dX4_put_15 : decode cX4_put 15 = .ok (.l2i, 1) := by decide +kernel
theorem dX4_put_16 : decode cX4_put 16 = .ok (.i2b, 1) := by decide +kernel
theorem dX4_put_17 : decode cX4_put 17 = .ok (.i2l, 1) := by decide +kernel
theorem dX4_put_18 : decode cX4_put 18 = .ok (.lastore, 1) := by decide +kernel
theorem dX4_put_19 : decode cX4_put 19 = .ok (.goto 32, 3) := by decide +kernel
theorem dX4_put_22 : decode cX4_put 22 = .ok (.aload_n 0, 1) := by decide +kernel
theorem dX4_put_23 : decode cX4_put 23 = .ok (.getfield 15, 3) := by decide +kernel
theorem dX4_put_26 : decode cX4_put 26 = .ok (.bipush 16, 2) := by decide +kernel
theorem dX4_put_28 : decode cX4_put 28 = .ok (.if_icmp .ne 16, 3) := by decide +kernel
theorem dX4_put_31 : decode cX4_put 31 = .ok (.aload_n 0, 1) := by decide +kernel
theorem dX4_put_32 : decode cX4_put 32 = .ok (.getfield 9, 3) := by decide +kernel
theorem dX4_put_35 : decode cX4_put 35 = .ok (.iload_n 1, 1) := by decide +kernel
theorem dX4_put_36 : decode cX4_put 36 = .ok (.lload_n 2, 1) := by decide +kernel
theorem dX4_put_37 : decode cX4_put 37 = .ok (.l2i, 1) := by decide +kernel
theorem dX4_put_38 : decode cX4_put 38 = .ok (.i2s, 1) := by decide +kernel
theorem dX4_put_39 : decode cX4_put 39 = .ok (.i2l, 1) := by decide +kernel
theorem dX4_put_40 : decode cX4_put 40 = .ok (.lastore, 1) := by decide +kernel
theorem dX4_put_41 : decode cX4_put 41 = .ok (.goto 10, 3) := by decide +kernel
theorem dX4_put_44 : decode cX4_put 44 = .ok (.aload_n 0, 1) := by decide +kernel
theorem dX4_put_45 : decode cX4_put 45 = .ok (.getfield 9, 3) := by decide +kernel
theorem dX4_put_48 : decode cX4_put 48 = .ok (.iload_n 1, 1) := by decide +kernel
theorem dX4_put_49 : decode cX4_put 49 = .ok (.lload_n 2, 1) := by decide +kernel
theorem dX4_put_50 : decode cX4_put 50 = .ok (.lastore, 1) := by decide +kernel
theorem dX4_put_51 : decode cX4_put 51 = .ok (.return_, 1) := by decide +kernel
theorem dX4_has_0 : decode cX4_has 0 = .ok (.iload_n 1, 1) := by decide +kernel
theorem dX4_has_1 : decode cX4_has 1 = .ok (.ifCond .lt 21, 3) := by decide +kernel
theorem dX4_has_4 : decode cX4_has 4 = .ok (.iload_n 2, 1) := by decide +kernel
theorem dX4_has_5 : decode cX4_has 5 = .ok (.ifCond .lt 17, 3) := by decide +kernel
theorem dX4_has_8 : decode cX4_has 8 = .ok (.iload_n 2, 1) := by decide +kernel
theorem dX4_has_9 : decode cX4_has 9 = .ok (.aload_n 0, 1) := by decide +kernel
theorem dX4_has_10 : decode cX4_has 10 = .ok (.getfield 19, 3) := by decide +kernel
theorem dX4_has_13 : decode cX4_has 13 = .ok (.iload_n 1, 1) := by decide +kernel
theorem dX4_has_14 : decode cX4_has 14 = .ok (.isub, 1) := by decide +kernel
theorem dX4_has_15 : decode cX4_has 15 = .ok (.if_icmp .gt 7, 3) := by decide +kernel
theorem dX4_has_18 : decode cX4_has 18 = .ok (.iconst 1, 1) := by decide +kernel
theorem dX4_has_19 : decode cX4_has 19 = .ok (.goto 4, 3) := by decide +kernel
theorem dX4_has_22 : decode cX4_has 22 = .ok (.iconst 0, 1) := by decide +kernel
theorem dX4_has_23 : decode cX4_has 23 = .ok (.ireturn, 1) := by decide +kernel
theorem dX5_init_0 : decode cX5_init 0 = .ok (.aload_n 0, 1) := by decide +kernel
theorem dX5_init_1 : decode cX5_init 1 = .ok (.invokespecial 3, 3) := by decide +kernel
theorem dX5_init_4 : decode cX5_init 4 = .ok (.aload_n 0, 1) := by decide +kernel
theorem dX5_init_5 : decode cX5_init 5 = .ok (.bipush 120, 2) := by decide +kernel
theorem dX5_init_7 : decode cX5_init 7 = .ok (.newarray .int, 2) := by decide +kernel
theorem dX5_init_9 : decode cX5_init 9 = .ok (.putfield 9, 3) := by decide +kernel
theorem dX5_init_12 : decode cX5_init 12 = .ok (.aload_n 0, 1) := by decide +kernel
theorem dX5_init_13 : decode cX5_init 13 = .ok (.iconst 0, 1) := by decide +kernel
theorem dX5_init_14 : decode cX5_init 14 = .ok (.putfield 15, 3) := by decide +kernel
theorem dX5_init_17 : decode cX5_init 17 = .ok (.return_, 1) := by decide +kernel
theorem dX5_add_0 : decode cX5_add 0 = .ok (.aload_n 0, 1) := by decide +kernel
theorem dX5_add_1 : decode cX5_add 1 = .ok (.getfield 15, 3) := by decide +kernel
theorem dX5_add_4 : decode cX5_add 4 = .ok (.bipush 120, 2) := by decide +kernel
theorem dX5_add_6 : decode cX5_add 6 = .ok (.if_icmp .ge 23, 3) := by decide +kernel
theorem dX5_add_9 : decode cX5_add 9 = .ok (.aload_n 0, 1) := by decide +kernel
theorem dX5_add_10 : decode cX5_add 10 = .ok (.getfield 9, 3) := by decide +kernel
theorem dX5_add_13 : decode cX5_add 13 = .ok (.aload_n 0, 1) := by decide +kernel
theorem dX5_add_14 : decode cX5_add 14 = .ok (.getfield 15, 3) := by decide +kernel
theorem dX5_add_17 : decode cX5_add 17 = .ok (.iload_n 1, 1) := by decide +kernel
theorem dX5_add_18 : decode cX5_add 18 = .ok (.iastore, 1) := by decide +kernel
theorem dX5_add_19 : decode cX5_add 19 = .ok (.aload_n 0, 1) := by decide +kernel
theorem dX5_add_20 : decode cX5_add 20 = .ok (.dup, 1) := by decide +kernel
theorem dX5_add_21 : decode cX5_add 21 = .ok (.getfield 15, 3) := by decide +kernel
theorem dX5_add_24 : decode cX5_add 24 = .ok (.iconst 1, 1) := by decide +kernel
theorem dX5_add_25 : decode cX5_add 25 = .ok (.iadd, 1) := by decide +kernel
theorem dX5_add_26 : decode cX5_add 26 = .ok (.putfield 15, 3) := by decide +kernel
theorem dX5_add_29 : decode cX5_add 29 = .ok (.return_, 1) := by decide +kernel
